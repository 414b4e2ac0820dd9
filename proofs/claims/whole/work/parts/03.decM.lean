theorem dX6_init_0 : decode cX6_init 0 = .ok (.aload_n 0, 1) := by decide +kernel
theorem dX6_init_1 : decode cX6_init 1 = .ok (.invokespecial 1, 3) := by decide +kernel
theorem dX6_init_4 : decode cX6_init 4 = .ok (.aload_n 0, 1) := by decide +kernel
theorem dX6_init_5 : decode cX6_init 5 = .ok (.bipush 24, 2) := by decide +kernel
theorem dX6_init_7 : decode cX6_init 7 = .ok (.putfield 7, 3) := by decide +kernel
theorem dX6_init_10 : decode cX6_init 10 = .ok (.aload_n 0, 1) := by decide +kernel
theorem dX6_init_11 : decode cX6_init 11 = .ok (.iconst 4, 1) := by decide +kernel
theorem dX6_init_12 : decode cX6_init 12 = .ok (.newarray .int, 2) := by decide +kernel
theorem dX6_init_14 : decode cX6_init 14 = .ok (.putfield 13, 3) := by decide +kernel
theorem dX6_init_17 : decode cX6_init 17 = .ok (.aload_n 0, 1) := by decide +kernel
theorem dX6_init_18 : decode cX6_init 18 = .ok (.iconst 4, 1) := by decide +kernel
theorem dX6_init_19 : decode cX6_init 19 = .ok (.newarray .int, 2) := by decide +kernel
theorem dX6_init_21 : decode cX6_init 21 = .ok (.putfield 17, 3) := by decide +kernel
theorem dX6_init_24 : decode cX6_init 24 = .ok (.aload_n 0, 1) := by decide +kernel
theorem dX6_init_25 : decode cX6_init 25 = .ok (.bipush 40, 2) := by decide +kernel
theorem dX6_init_27 : decode cX6_init 27 = .ok (.newarray .int, 2) := by decide +kernel
theorem dX6_init_29 : decode cX6_init 29 = .ok (.putfield 20, 3) := by decide +kernel
theorem dX6_init_32 : decode cX6_init 32 = .ok (.aload_n 0, 1) := by decide +kernel
theorem dX6_init_33 : decode cX6_init 33 = .ok (.bipush 40, 2) := by decide +kernel
theorem dX6_init_35 : decode cX6_init 35 = .ok (.newarray .int, 2) := by decide +kernel
theorem dX6_init_37 : decode cX6_init 37 = .ok (.putfield 23, 3) := by decide +kernel
theorem dX6_init_40 : decode cX6_init 40 = .ok (.aload_n 0, 1) := by decide +kernel
theorem dX6_init_41 : decode cX6_init 41 = .ok (.bipush 40, 2) := by decide +kernel
theorem dX6_init_43 : decode cX6_init 43 = .ok (.newarray .int, 2) := by decide +kernel
theorem dX6_init_45 : decode cX6_init 45 = .ok (.putfield 26, 3) := by decide +kernel
theorem dX6_init_48 : decode cX6_init 48 = .ok (.aload_n 0, 1) := by decide +kernel
theorem dX6_init_49 : decode cX6_init 49 = .ok (.bipush 40, 2) := by decide +kernel
theorem dX6_init_51 : decode cX6_init 51 = .ok (.newarray .int, 2) := by decide +kernel
theorem dX6_init_53 : decode cX6_init 53 = .ok (.putfield 29, 3) := by decide +kernel
theorem dX6_init_56 : decode cX6_init 56 = .ok (.aload_n 0, 1) := by decide +kernel
theorem dX6_init_57 : decode cX6_init 57 = .ok (.bipush 40, 2) := by decide +kernel
theorem dX6_init_59 : decode cX6_init 59 = .ok (.newarray .int, 2) := by decide +kernel
theorem dX6_init_61 : decode cX6_init 61 = .ok (.putfield 32, 3) := by decide +kernel
theorem dX6_init_64 : decode cX6_init 64 = .ok (.aload_n 0, 1) := by decide +kernel
theorem dX6_init_65 : decode cX6_init 65 = .ok (.sipush 160, 3) := by decide +kernel
theorem dX6_init_68 : decode cX6_init 68 = .ok (.newarray .int, 2) := by decide +kernel
theorem dX6_init_70 : decode cX6_init 70 = .ok (.putfield 35, 3) := by decide +kernel
theorem dX6_init_73 : decode cX6_init 73 = .ok (.aload_n 0, 1) := by decide +kernel
theorem dX6_init_74 : decode cX6_init 74 = .ok (.bipush 20, 2) := by decide +kernel
theorem dX6_init_76 : decode cX6_init 76 = .ok (.newarray .int, 2) := by decide +kernel
theorem dX6_init_78 : decode cX6_init 78 = .ok (.putfield 38, 3) := by decide +kernel
theorem dX6_init_81 : decode cX6_init 81 = .ok (.aload_n 0, 1) := by decide +kernel
theorem dX6_init_82 : decode cX6_init 82 = .ok (.bipush 120, 2) := by decide +kernel
theorem dX6_init_84 : decode cX6_init 84 = .ok (.newarray .long, 2) := by decide +kernel
theorem dX6_init_86 : decode cX6_init 86 = .ok (.putfield 41, 3) := by decide +kernel
theorem dX6_init_89 : decode cX6_init 89 = .ok (.aload_n 0, 1) := by decide +kernel
theorem dX6_init_90 : decode cX6_init 90 = .ok (.bipush 120, 2) := by decide +kernel
theorem dX6_init_92 : decode cX6_init 92 = .ok (.newarray .int, 2) := by decide +kernel
theorem dX6_init_94 : decode cX6_init 94 = .ok (.putfield 45, 3) := by decide +kernel
theorem dX6_init_97 : decode cX6_init 97 = .ok (.aload_n 0, 1) := by decide +kernel
theorem dX6_init_98 : decode cX6_init 98 = .ok (.bipush 20, 2) := by decide +kernel
theorem dX6_init_100 : decode cX6_init 100 = .ok (.newarray .int, 2) := by decide +kernel
theorem dX6_init_102 : decode cX6_init 102 = .ok (.putfield 48, 3) := by decide +kernel
theorem dX6_init_105 : decode cX6_init 105 = .ok (.aload_n 0, 1) := by decide +kernel
theorem dX6_init_106 : decode cX6_init 106 = .ok (.bipush 16, 2) := by decide +kernel
theorem dX6_init_108 : decode cX6_init 108 = .ok (.newarray .int, 2) := by decide +kernel
theorem dX6_init_110 : decode cX6_init 110 = .ok (.putfield 51, 3) := by decide +kernel
theorem dX6_init_113 : decode cX6_init 113 = .ok (.aload_n 0, 1) := by decide +kernel
theorem dX6_init_114 : decode cX6_init 114 = .ok (.bipush 16, 2) := by decide +kernel
theorem dX6_init_116 : decode cX6_init 116 = .ok (.newarray .int, 2) := by decide +kernel
theorem dX6_init_118 : decode cX6_init 118 = .ok (.putfield 54, 3) := by decide +kernel
theorem dX6_init_121 : decode cX6_init 121 = .ok (.aload_n 0, 1) := by decide +kernel
theorem dX6_init_122 : decode cX6_init 122 = .ok (.bipush 16, 2) := by decide +kernel
theorem dX6_init_124 : decode cX6_init 124 = .ok (.newarray .int, 2) := by decide +kernel
theorem dX6_init_126 : decode cX6_init 126 = .ok (.putfield 57, 3) := by decide +kernel
theorem dX6_init_129 : decode cX6_init 129 = .ok (.aload_n 0, 1) := by decide +kernel
theorem dX6_init_130 : decode cX6_init 130 = .ok (.bipush 16, 2) := by decide +kernel
theorem dX6_init_132 : decode cX6_init 132 = .ok (.newarray .int, 2) := by decide +kernel
theorem dX6_init_134 : decode cX6_init 134 = .ok (.putfield 60, 3) := by decide +kernel
theorem dX6_init_137 : decode cX6_init 137 = .ok (.aload_n 0, 1) := by decide +kernel
theorem dX6_init_138 : decode cX6_init 138 = .ok (.bipush 16, 2) := by decide +kernel
theorem dX6_init_140 : decode cX6_init 140 = .ok (.newarray .boolean, 2) := by decide +kernel
theorem dX6_init_142 : decode cX6_init 142 = .ok (.putfield 63, 3) := by decide +kernel
theorem dX6_init_145 : decode cX6_init 145 = .ok (.return_, 1) := by decide +kernel
theorem dX6_thrown_0 : decode cX6_thrown 0 = .ok (.aload_n 0, 1) := by decide +kernel
theorem dX6_thrown_1 : decode cX6_thrown 1 = .ok (.getfield 67, 3) := by decide +kernel
theorem dX6_thrown_4 : decode cX6_thrown 4 = .ok (.ireturn, 1) := by decide +kernel
theorem dX6_fails_0 : decode cX6_fails 0 = .ok (.aload_n 0, 1) := by decide +kernel
theorem dX6_fails_1 : decode cX6_fails 1 = .ok (.iload_n 1, 1) := by decide +kernel
theorem dX6_fails_2 : decode cX6_fails 2 = .ok (.putfield 67, 3) := by decide +kernel
theorem dX6_fails_5 : decode cX6_fails 5 = .ok (.iload_n 1, 1) := by decide +kernel
theorem dX6_fails_6 : decode cX6_fails 6 = .ok (.ifCond .le 7, 3) := by decide +kernel
theorem dX6_fails_9 : decode cX6_fails 9 = .ok (.iconst 1, 1) := by decide +kernel
theorem dX6_fails_10 : decode cX6_fails 10 = .ok (.goto 4, 3) := by decide +kernel
theorem dX6_fails_13 : decode cX6_fails 13 = .ok (.iconst 0, 1) := by decide +kernel
theorem dX6_fails_14 : decode cX6_fails 14 = .ok (.ireturn, 1) := by decide +kernel
theorem dX6_in_0 : decode cX6_in 0 = .ok (.iload_n 0, 1) := by decide +kernel
theorem dX6_in_1 : decode cX6_in 1 = .ok (.iload_n 1, 1) := by decide +kernel
theorem dX6_in_2 : decode cX6_in 2 = .ok (.if_icmp .lt 12, 3) := by decide +kernel
theorem dX6_in_5 : decode cX6_in 5 = .ok (.iload_n 0, 1) := by decide +kernel
theorem dX6_in_6 : decode cX6_in 6 = .ok (.iload_n 2, 1) := by decide +kernel
theorem dX6_in_7 : decode cX6_in 7 = .ok (.if_icmp .gt 7, 3) := by decide +kernel
theorem dX6_in_10 : decode cX6_in 10 = .ok (.iconst 1, 1) := by decide +kernel
theorem dX6_in_11 : decode cX6_in 11 = .ok (.goto 4, 3) := by decide +kernel
theorem dX6_in_14 : decode cX6_in 14 = .ok (.iconst 0, 1) := by decide +kernel
theorem dX6_in_15 : decode cX6_in 15 = .ok (.ireturn, 1) := by decide +kernel
theorem dX6_isRoom_0 : decode cX6_isRoom 0 = .ok (.iload_n 1, 1) := by decide +kernel
theorem dX6_isRoom_1 : decode cX6_isRoom 1 = .ok (.iconst 0, 1) := by decide +kernel
theorem dX6_isRoom_2 : decode cX6_isRoom 2 = .ok (.aload_n 0, 1) := by decide +kernel
theorem dX6_isRoom_3 : decode cX6_isRoom 3 = .ok (.getfield 70, 3) := by decide +kernel
theorem dX6_isRoom_6 : decode cX6_isRoom 6 = .ok (.iconst 1, 1) := by decide +kernel
theorem dX6_isRoom_7 : decode cX6_isRoom 7 = .ok (.isub, 1) := by decide +kernel
theorem dX6_isRoom_8 : decode cX6_isRoom 8 = .ok (.invokestatic 73, 3) := by decide +kernel
theorem dX6_isRoom_11 : decode cX6_isRoom 11 = .ok (.ireturn, 1) := by decide +kernel
theorem dX6_failsRoom_0 : decode cX6_failsRoom 0 = .ok (.aload_n 0, 1) := by decide +kernel
theorem dX6_failsRoom_1 : decode cX6_failsRoom 1 = .ok (.aload_n 0, 1) := by decide +kernel
theorem dX6_failsRoom_2 : decode cX6_failsRoom 2 = .ok (.iload_n 1, 1) := by decide +kernel
theorem dX6_failsRoom_3 : decode cX6_failsRoom 3 = .ok (.invokevirtual 77, 3) := by decide +kernel
theorem dX6_failsRoom_6 : decode cX6_failsRoom 6 = .ok (.ifCond .eq 7, 3) := by decide +kernel
theorem dX6_failsRoom_9 : decode cX6_failsRoom 9 = .ok (.iconst 0, 1) := by decide +kernel
theorem dX6_failsRoom_10 : decode cX6_failsRoom 10 = .ok (.goto 4, 3) := by decide +kernel
theorem dX6_failsRoom_13 : decode cX6_failsRoom 13 = .ok (.iconst 1, 1) := by decide +kernel
theorem dX6_failsRoom_14 : decode cX6_failsRoom 14 = .ok (.invokevirtual 81, 3) := by decide +kernel
theorem dX6_failsRoom_17 : decode cX6_failsRoom 17 = .ok (.ireturn, 1) := by decide +kernel
theorem dX6_failsAnswer_0 : decode cX6_failsAnswer 0 = .ok (.aload_n 0, 1) := by decide +kernel
theorem dX6_failsAnswer_1 : decode cX6_failsAnswer 1 = .ok (.iload_n 1, 1) := by decide +kernel
theorem dX6_failsAnswer_2 : decode cX6_failsAnswer 2 = .ok (.iconst 0, 1) := by decide +kernel
theorem dX6_failsAnswer_3 : decode cX6_failsAnswer 3 = .ok (.aload_n 0, 1) := by decide +kernel
theorem dX6_failsAnswer_4 : decode cX6_failsAnswer 4 = .ok (.getfield 84, 3) := by decide +kernel
theorem dX6_failsAnswer_7 : decode cX6_failsAnswer 7 = .ok (.iconst 1, 1) := by decide +kernel
theorem dX6_failsAnswer_8 : decode cX6_failsAnswer 8 = .ok (.isub, 1) := by decide +kernel
theorem dX6_failsAnswer_9 : decode cX6_failsAnswer 9 = .ok (.invokestatic 73, 3) := by decide +kernel
theorem dX6_failsAnswer_12 : decode cX6_failsAnswer 12 = .ok (.ifCond .eq 7, 3) := by decide +kernel
theorem dX6_failsAnswer_15 : decode cX6_failsAnswer 15 = .ok (.iconst 0, 1) := by decide +kernel
theorem dX6_failsAnswer_16 : decode cX6_failsAnswer 16 = .ok (.goto 4, 3) := by decide +kernel
theorem dX6_failsAnswer_19 : decode cX6_failsAnswer 19 = .ok (.iconst 1, 1) := by decide +kernel
theorem dX6_failsAnswer_20 : decode cX6_failsAnswer 20 = .ok (.invokevirtual 81, 3) := by decide +kernel
theorem dX6_failsAnswer_23 : decode cX6_failsAnswer 23 = .ok (.ireturn, 1) := by decide +kernel
theorem dX6_failsFilter_0 : decode cX6_failsFilter 0 = .ok (.aload_n 0, 1) := by decide +kernel
theorem dX6_failsFilter_1 : decode cX6_failsFilter 1 = .ok (.iload_n 1, 1) := by decide +kernel
theorem dX6_failsFilter_2 : decode cX6_failsFilter 2 = .ok (.iconst 0, 1) := by decide +kernel
theorem dX6_failsFilter_3 : decode cX6_failsFilter 3 = .ok (.aload_n 0, 1) := by decide +kernel
theorem dX6_failsFilter_4 : decode cX6_failsFilter 4 = .ok (.getfield 87, 3) := by decide +kernel
theorem dX6_failsFilter_7 : decode cX6_failsFilter 7 = .ok (.iconst 1, 1) := by decide +kernel
theorem dX6_failsFilter_8 : decode cX6_failsFilter 8 = .ok (.isub, 1) := by decide +kernel
theorem dX6_failsFilter_9 : decode cX6_failsFilter 9 = .ok (.invokestatic 73, 3) := by decide +kernel
theorem dX6_failsFilter_12 : decode cX6_failsFilter 12 = .ok (.ifCond .eq 7, 3) := by decide +kernel
theorem dX6_failsFilter_15 : decode cX6_failsFilter 15 = .ok (.iconst 0, 1) := by decide +kernel
theorem dX6_failsFilter_16 : decode cX6_failsFilter 16 = .ok (.goto 4, 3) := by decide +kernel
theorem dX6_failsFilter_19 : decode cX6_failsFilter 19 = .ok (.iconst 1, 1) := by decide +kernel
theorem dX6_failsFilter_20 : decode cX6_failsFilter 20 = .ok (.invokevirtual 81, 3) := by decide +kernel
theorem dX6_failsFilter_23 : decode cX6_failsFilter 23 = .ok (.ireturn, 1) := by decide +kernel
theorem dX6_isState_0 : decode cX6_isState 0 = .ok (.iload_n 0, 1) := by decide +kernel
theorem dX6_isState_1 : decode cX6_isState 1 = .ok (.iconst 0, 1) := by decide +kernel
theorem dX6_isState_2 : decode cX6_isState 2 = .ok (.iconst 3, 1) := by decide +kernel
theorem dX6_isState_3 : decode cX6_isState 3 = .ok (.invokestatic 73, 3) := by decide +kernel
theorem dX6_isState_6 : decode cX6_isState 6 = .ok (.ifCond .eq 17, 3) := by decide +kernel
theorem dX6_isState_9 : decode cX6_isState 9 = .ok (.iload_n 1, 1) := by decide +kernel
theorem dX6_isState_10 : decode cX6_isState 10 = .ok (.iconst 0, 1) := by decide +kernel
theorem dX6_isState_11 : decode cX6_isState 11 = .ok (.bipush 9, 2) := by decide +kernel
theorem dX6_isState_13 : decode cX6_isState 13 = .ok (.invokestatic 73, 3) := by decide +kernel
theorem dX6_isState_16 : decode cX6_isState 16 = .ok (.ifCond .eq 7, 3) := by decide +kernel
theorem dX6_isState_19 : decode cX6_isState 19 = .ok (.iconst 1, 1) := by decide +kernel
theorem dX6_isState_20 : decode cX6_isState 20 = .ok (.goto 4, 3) := by decide +kernel
theorem dX6_isState_23 : decode cX6_isState 23 = .ok (.iconst 0, 1) := by decide +kernel
theorem dX6_isState_24 : decode cX6_isState 24 = .ok (.ireturn, 1) := by decide +kernel
theorem dX6_state_0 : decode cX6_state 0 = .ok (.bipush 20, 2) := by decide +kernel
theorem dX6_state_2 : decode cX6_state 2 = .ok (.iload_n 0, 1) := by decide +kernel
theorem dX6_state_3 : decode cX6_state 3 = .ok (.imul, 1) := by decide +kernel
theorem dX6_state_4 : decode cX6_state 4 = .ok (.iconst 2, 1) := by decide +kernel
theorem dX6_state_5 : decode cX6_state 5 = .ok (.iload_n 1, 1) := by decide +kernel
theorem dX6_state_6 : decode cX6_state 6 = .ok (.imul, 1) := by decide +kernel
theorem dX6_state_7 : decode cX6_state 7 = .ok (.iadd, 1) := by decide +kernel
theorem dX6_state_8 : decode cX6_state 8 = .ok (.iload_n 2, 1) := by decide +kernel
theorem dX6_state_9 : decode cX6_state 9 = .ok (.ifCond .eq 7, 3) := by decide +kernel
theorem dX6_state_12 : decode cX6_state 12 = .ok (.iconst 1, 1) := by decide +kernel
theorem dX6_state_13 : decode cX6_state 13 = .ok (.goto 4, 3) := by decide +kernel
theorem dX6_state_16 : decode cX6_state 16 = .ok (.iconst 0, 1) := by decide +kernel
theorem dX6_state_17 : decode cX6_state 17 = .ok (.iadd, 1) := by decide +kernel
theorem dX6_state_18 : decode cX6_state 18 = .ok (.ireturn, 1) := by decide +kernel
theorem dX6_differ_0 : decode cX6_differ 0 = .ok (.iload_n 0, 1) := by decide +kernel
theorem dX6_differ_1 : decode cX6_differ 1 = .ok (.bipush 20, 2) := by decide +kernel
theorem dX6_differ_3 : decode cX6_differ 3 = .ok (.idiv, 1) := by decide +kernel
theorem dX6_differ_4 : decode cX6_differ 4 = .ok (.iload_n 1, 1) := by decide +kernel
theorem dX6_differ_5 : decode cX6_differ 5 = .ok (.bipush 20, 2) := by decide +kernel
theorem dX6_differ_7 : decode cX6_differ 7 = .ok (.idiv, 1) := by decide +kernel
theorem dX6_differ_8 : decode cX6_differ 8 = .ok (.if_icmp .ne 7, 3) := by decide +kernel
theorem dX6_differ_11 : decode cX6_differ 11 = .ok (.iconst 0, 1) := by decide +kernel
theorem dX6_differ_12 : decode cX6_differ 12 = .ok (.goto 4, 3) := by decide +kernel
theorem dX6_differ_15 : decode cX6_differ 15 = .ok (.iconst 1, 1) := by decide +kernel
theorem dX6_differ_16 : decode cX6_differ 16 = .ok (.istore_n 2, 1) := by decide +kernel
theorem dX6_differ_17 : decode cX6_differ 17 = .ok (.iload_n 2, 1) := by decide +kernel
theorem dX6_differ_18 : decode cX6_differ 18 = .ok (.iload_n 0, 1) := by decide +kernel
theorem dX6_differ_19 : decode cX6_differ 19 = .ok (.bipush 20, 2) := by decide +kernel
theorem dX6_differ_21 : decode cX6_differ 21 = .ok (.irem, 1) := by decide +kernel
theorem dX6_differ_22 : decode cX6_differ 22 = .ok (.iconst 2, 1) := by decide +kernel
theorem dX6_differ_23 : decode cX6_differ 23 = .ok (.idiv, 1) := by decide +kernel
theorem dX6_differ_24 : decode cX6_differ 24 = .ok (.iload_n 1, 1) := by decide +kernel
theorem dX6_differ_25 : decode cX6_differ 25 = .ok (.bipush 20, 2) := by decide +kernel
theorem dX6_differ_27 : decode cX6_differ 27 = .ok (.irem, 1) := by decide +kernel
theorem dX6_differ_28 : decode cX6_differ 28 = .ok (.iconst 2, 1) := by decide +kernel
theorem dX6_differ_29 : decode cX6_differ 29 = .ok (.idiv, 1) := by decide +kernel
theorem dX6_differ_30 : decode cX6_differ 30 = .ok (.if_icmp .ne 7, 3) := by decide +kernel
theorem dX6_differ_33 : decode cX6_differ 33 = .ok (.iconst 0, 1) := by decide +kernel
theorem dX6_differ_34 : decode cX6_differ 34 = .ok (.goto 4, 3) := by decide +kernel
theorem dX6_differ_37 : decode cX6_differ 37 = .ok (.iconst 1, 1) := by decide +kernel
theorem dX6_differ_38 : decode cX6_differ 38 = .ok (.iadd, 1) := by decide +kernel
theorem dX6_differ_39 : decode cX6_differ 39 = .ok (.istore_n 2, 1) := by decide +kernel
theorem dX6_differ_40 : decode cX6_differ 40 = .ok (.iload_n 2, 1) := by decide +kernel
theorem dX6_differ_41 : decode cX6_differ 41 = .ok (.iload_n 0, 1) := by decide +kernel
theorem dX6_differ_42 : decode cX6_differ 42 = .ok (.iconst 2, 1) := by decide +kernel
theorem dX6_differ_43 : decode cX6_differ 43 = .ok (.irem, 1) := by decide +kernel
theorem dX6_differ_44 : decode cX6_differ 44 = .ok (.iload_n 1, 1) := by decide +kernel
theorem dX6_differ_45 : decode cX6_differ 45 = .ok (.iconst 2, 1) := by decide +kernel
theorem dX6_differ_46 : decode cX6_differ 46 = .ok (.irem, 1) := by decide +kernel
theorem dX6_differ_47 : decode cX6_differ 47 = .ok (.if_icmp .ne 7, 3) := by decide +kernel
theorem dX6_differ_50 : decode cX6_differ 50 = .ok (.iconst 0, 1) := by decide +kernel
theorem dX6_differ_51 : decode cX6_differ 51 = .ok (.goto 4, 3) := by decide +kernel
theorem dX6_differ_54 : decode cX6_differ 54 = .ok (.iconst 1, 1) := by decide +kernel
theorem dX6_differ_55 : decode cX6_differ 55 = .ok (.iadd, 1) := by decide +kernel
theorem dX6_differ_56 : decode cX6_differ 56 = .ok (.ireturn, 1) := by decide +kernel
theorem dX6_addRoom_0 : decode cX6_addRoom 0 = .ok (.aload_n 0, 1) := by decide +kernel
theorem dX6_addRoom_1 : decode cX6_addRoom 1 = .ok (.aload_n 0, 1) := by decide +kernel
theorem dX6_addRoom_2 : decode cX6_addRoom 2 = .ok (.getfield 70, 3) := by decide +kernel
theorem dX6_addRoom_5 : decode cX6_addRoom 5 = .ok (.iconst 4, 1) := by decide +kernel
theorem dX6_addRoom_6 : decode cX6_addRoom 6 = .ok (.if_icmp .ne 7, 3) := by decide +kernel
theorem dX6_addRoom_9 : decode cX6_addRoom 9 = .ok (.iconst 1, 1) := by decide +kernel
theorem dX6_addRoom_10 : decode cX6_addRoom 10 = .ok (.goto 4, 3) := by decide +kernel
theorem dX6_addRoom_13 : decode cX6_addRoom 13 = .ok (.iconst 0, 1) := by decide +kernel
theorem dX6_addRoom_14 : decode cX6_addRoom 14 = .ok (.invokevirtual 81, 3) := by decide +kernel
theorem dX6_addRoom_17 : decode cX6_addRoom 17 = .ok (.ifCond .eq 5, 3) := by decide +kernel
theorem dX6_addRoom_20 : decode cX6_addRoom 20 = .ok (.iconst 0, 1) := by decide +kernel
theorem dX6_addRoom_21 : decode cX6_addRoom 21 = .ok (.ireturn, 1) := by decide +kernel
theorem dX6_addRoom_22 : decode cX6_addRoom 22 = .ok (.aload_n 0, 1) := by decide +kernel
theorem dX6_addRoom_23 : decode cX6_addRoom 23 = .ok (.dup, 1) := by decide +kernel
theorem dX6_addRoom_24 : decode cX6_addRoom 24 = .ok (.getfield 70, 3) := by decide +kernel
theorem dX6_addRoom_27 : decode cX6_addRoom 27 = .ok (.iconst 1, 1) := by decide +kernel
theorem dX6_addRoom_28 : decode cX6_addRoom 28 = .ok (.iadd, 1) := by decide +kernel
theorem dX6_addRoom_29 : decode cX6_addRoom 29 = .ok (.putfield 70, 3) := by decide +kernel
theorem dX6_addRoom_32 : decode cX6_addRoom 32 = .ok (.aload_n 0, 1) := by decide +kernel
theorem dX6_addRoom_33 : decode cX6_addRoom 33 = .ok (.getfield 70, 3) := by decide +kernel
theorem dX6_addRoom_36 : decode cX6_addRoom 36 = .ok (.iconst 1, 1) := by decide +kernel
theorem dX6_addRoom_37 : decode cX6_addRoom 37 = .ok (.isub, 1) := by decide +kernel
theorem dX6_addRoom_38 : decode cX6_addRoom 38 = .ok (.ireturn, 1) := by decide +kernel
theorem dX6_gives_0 : decode cX6_gives 0 = .ok (.aload_n 0, 1) := by decide +kernel
theorem dX6_gives_1 : decode cX6_gives 1 = .ok (.getfield 13, 3) := by decide +kernel
theorem dX6_gives_4 : decode cX6_gives 4 = .ok (.iload_n 1, 1) := by decide +kernel
theorem dX6_gives_5 : decode cX6_gives 5 = .ok (.iaload, 1) := by decide +kernel
theorem dX6_gives_6 : decode cX6_gives 6 = .ok (.iload_n 2, 1) := by decide +kernel
theorem dX6_gives_7 : decode cX6_gives 7 = .ok (.invokestatic 90, 3) := by decide +kernel
theorem dX6_gives_10 : decode cX6_gives 10 = .ok (.istore_n 3, 1) := by decide +kernel
theorem dX6_gives_11 : decode cX6_gives 11 = .ok (.aload_n 0, 1) := by decide +kernel
theorem dX6_gives_12 : decode cX6_gives 12 = .ok (.getfield 13, 3) := by decide +kernel
theorem dX6_gives_15 : decode cX6_gives 15 = .ok (.iload_n 1, 1) := by decide +kernel
theorem dX6_gives_16 : decode cX6_gives 16 = .ok (.iload_n 2, 1) := by decide +kernel
theorem dX6_gives_17 : decode cX6_gives 17 = .ok (.iastore, 1) := by decide +kernel
theorem dX6_gives_18 : decode cX6_gives 18 = .ok (.aload_n 0, 1) := by decide +kernel
theorem dX6_gives_19 : decode cX6_gives 19 = .ok (.getfield 17, 3) := by decide +kernel
theorem dX6_gives_22 : decode cX6_gives 22 = .ok (.iload_n 1, 1) := by decide +kernel
theorem dX6_gives_23 : decode cX6_gives 23 = .ok (.dup2, 1) := by decide +kernel
theorem dX6_gives_24 : decode cX6_gives 24 = .ok (.iaload, 1) := by decide +kernel
theorem dX6_gives_25 : decode cX6_gives 25 = .ok (.iload_n 3, 1) := by decide +kernel
theorem dX6_gives_26 : decode cX6_gives 26 = .ok (.iadd, 1) := by decide +kernel
theorem dX6_gives_27 : decode cX6_gives 27 = .ok (.iastore, 1) := by decide +kernel
theorem dX6_gives_28 : decode cX6_gives 28 = .ok (.iload_n 3, 1) := by decide +kernel
theorem dX6_gives_29 : decode cX6_gives 29 = .ok (.ireturn, 1) := by decide +kernel
theorem dX6_setState_0 : decode cX6_setState 0 = .ok (.aload_n 0, 1) := by decide +kernel
theorem dX6_setState_1 : decode cX6_setState 1 = .ok (.aload_n 0, 1) := by decide +kernel
theorem dX6_setState_2 : decode cX6_setState 2 = .ok (.iload_n 1, 1) := by decide +kernel
theorem dX6_setState_3 : decode cX6_setState 3 = .ok (.invokevirtual 77, 3) := by decide +kernel
theorem dX6_setState_6 : decode cX6_setState 6 = .ok (.ifCond .ne 7, 3) := by decide +kernel
theorem dX6_setState_9 : decode cX6_setState 9 = .ok (.iconst 1, 1) := by decide +kernel
theorem dX6_setState_10 : decode cX6_setState 10 = .ok (.goto 16, 3) := by decide +kernel
theorem dX6_setState_13 : decode cX6_setState 13 = .ok (.iload_n 2, 1) := by decide +kernel
theorem dX6_setState_14 : decode cX6_setState 14 = .ok (.iload_n 3, 1) := by decide +kernel
theorem dX6_setState_15 : decode cX6_setState 15 = .ok (.invokestatic 94, 3) := by decide +kernel
theorem dX6_setState_18 : decode cX6_setState 18 = .ok (.ifCond .eq 7, 3) := by decide +kernel
theorem dX6_setState_21 : decode cX6_setState 21 = .ok (.iconst 0, 1) := by decide +kernel
theorem dX6_setState_22 : decode cX6_setState 22 = .ok (.goto 4, 3) := by decide +kernel
theorem dX6_setState_25 : decode cX6_setState 25 = .ok (.iconst 2, 1) := by decide +kernel
theorem dX6_setState_26 : decode cX6_setState 26 = .ok (.invokevirtual 81, 3) := by decide +kernel
theorem dX6_setState_29 : decode cX6_setState 29 = .ok (.ifCond .eq 5, 3) := by decide +kernel
theorem dX6_setState_32 : decode cX6_setState 32 = .ok (.iconst 0, 1) := by decide +kernel
theorem dX6_setState_33 : decode cX6_setState 33 = .ok (.ireturn, 1) := by decide +kernel
theorem dX6_setState_34 : decode cX6_setState 34 = .ok (.aload_n 0, 1) := by decide +kernel
theorem dX6_setState_35 : decode cX6_setState 35 = .ok (.iload_n 1, 1) := by decide +kernel
theorem dX6_setState_36 : decode cX6_setState 36 = .ok (.iload_n 2, 1) := by decide +kernel
theorem dX6_setState_37 : decode cX6_setState 37 = .ok (.iload_n 3, 1) := by decide +kernel
theorem dX6_setState_38 : decode cX6_setState 38 = .ok (.iload 4, 2) := by decide +kernel
theorem dX6_setState_40 : decode cX6_setState 40 = .ok (.invokestatic 98, 3) := by decide +kernel
theorem dX6_setState_43 : decode cX6_setState 43 = .ok (.invokevirtual 102, 3) := by decide +kernel
theorem dX6_setState_46 : decode cX6_setState 46 = .ok (.ireturn, 1) := by decide +kernel
theorem dX6_curtains_0 : decode cX6_curtains 0 = .ok (.aload_n 0, 1) := by decide +kernel
theorem dX6_curtains_1 : decode cX6_curtains 1 = .ok (.iload_n 1, 1) := by decide +kernel
theorem dX6_curtains_2 : decode cX6_curtains 2 = .ok (.invokevirtual 105, 3) := by decide +kernel
theorem dX6_curtains_5 : decode cX6_curtains 5 = .ok (.ifCond .eq 7, 3) := by decide +kernel
theorem dX6_curtains_8 : decode cX6_curtains 8 = .ok (.iconst 0, 1) := by decide +kernel
theorem dX6_curtains_9 : decode cX6_curtains 9 = .ok (.goto 12, 3) := by decide +kernel
theorem dX6_curtains_12 : decode cX6_curtains 12 = .ok (.aload_n 0, 1) := by decide +kernel
theorem dX6_curtains_13 : decode cX6_curtains 13 = .ok (.getfield 13, 3) := by decide +kernel
theorem dX6_curtains_16 : decode cX6_curtains 16 = .ok (.iload_n 1, 1) := by decide +kernel
theorem dX6_curtains_17 : decode cX6_curtains 17 = .ok (.iaload, 1) := by decide +kernel
theorem dX6_curtains_18 : decode cX6_curtains 18 = .ok (.bipush 20, 2) := by decide +kernel
theorem dX6_curtains_20 : decode cX6_curtains 20 = .ok (.idiv, 1) := by decide +kernel
theorem dX6_curtains_21 : decode cX6_curtains 21 = .ok (.ireturn, 1) := by decide +kernel
theorem dX6_seats_0 : decode cX6_seats 0 = .ok (.aload_n 0, 1) := by decide +kernel
theorem dX6_seats_1 : decode cX6_seats 1 = .ok (.iload_n 1, 1) := by decide +kernel
theorem dX6_seats_2 : decode cX6_seats 2 = .ok (.invokevirtual 105, 3) := by decide +kernel
theorem dX6_seats_5 : decode cX6_seats 5 = .ok (.ifCond .eq 7, 3) := by decide +kernel
theorem dX6_seats_8 : decode cX6_seats 8 = .ok (.iconst 0, 1) := by decide +kernel
theorem dX6_seats_9 : decode cX6_seats 9 = .ok (.goto 14, 3) := by decide +kernel
theorem dX6_seats_12 : decode cX6_seats 12 = .ok (.aload_n 0, 1) := by decide +kernel
theorem dX6_seats_13 : decode cX6_seats 13 = .ok (.getfield 13, 3) := by decide +kernel
theorem dX6_seats_16 : decode cX6_seats 16 = .ok (.iload_n 1, 1) := by decide +kernel
theorem dX6_seats_17 : decode cX6_seats 17 = .ok (.iaload, 1) := by decide +kernel
theorem dX6_seats_18 : decode cX6_seats 18 = .ok (.bipush 20, 2) := by decide +kernel
theorem dX6_seats_20 : decode cX6_seats 20 = .ok (.irem, 1) := by decide +kernel
theorem dX6_seats_21 : decode cX6_seats 21 = .ok (.iconst 2, 1) := by decide +kernel
theorem dX6_seats_22 : decode cX6_seats 22 = .ok (.idiv, 1) := by decide +kernel
theorem dX6_seats_23 : decode cX6_seats 23 = .ok (.ireturn, 1) := by decide +kernel
theorem dX6_areOpen_0 : decode cX6_areOpen 0 = .ok (.aload_n 0, 1) := by decide +kernel
theorem dX6_areOpen_1 : decode cX6_areOpen 1 = .ok (.iload_n 1, 1) := by decide +kernel
theorem dX6_areOpen_2 : decode cX6_areOpen 2 = .ok (.invokevirtual 105, 3) := by decide +kernel
theorem dX6_areOpen_5 : decode cX6_areOpen 5 = .ok (.ifCond .ne 19, 3) := by decide +kernel
theorem dX6_areOpen_8 : decode cX6_areOpen 8 = .ok (.aload_n 0, 1) := by decide +kernel
theorem dX6_areOpen_9 : decode cX6_areOpen 9 = .ok (.getfield 13, 3) := by decide +kernel
theorem dX6_areOpen_12 : decode cX6_areOpen 12 = .ok (.iload_n 1, 1) := by decide +kernel
theorem dX6_areOpen_13 : decode cX6_areOpen 13 = .ok (.iaload, 1) := by decide +kernel
theorem dX6_areOpen_14 : decode cX6_areOpen 14 = .ok (.iconst 2, 1) := by decide +kernel
theorem dX6_areOpen_15 : decode cX6_areOpen 15 = .ok (.irem, 1) := by decide +kernel
theorem dX6_areOpen_16 : decode cX6_areOpen 16 = .ok (.iconst 1, 1) := by decide +kernel
theorem dX6_areOpen_17 : decode cX6_areOpen 17 = .ok (.if_icmp .ne 7, 3) := by decide +kernel
theorem dX6_areOpen_20 : decode cX6_areOpen 20 = .ok (.iconst 1, 1) := by decide +kernel
theorem dX6_areOpen_21 : decode cX6_areOpen 21 = .ok (.goto 4, 3) := by decide +kernel
theorem dX6_areOpen_24 : decode cX6_areOpen 24 = .ok (.iconst 0, 1) := by decide +kernel
theorem dX6_areOpen_25 : decode cX6_areOpen 25 = .ok (.ireturn, 1) := by decide +kernel
theorem dX6_changes_0 : decode cX6_changes 0 = .ok (.aload_n 0, 1) := by decide +kernel
theorem dX6_changes_1 : decode cX6_changes 1 = .ok (.iload_n 1, 1) := by decide +kernel
theorem dX6_changes_2 : decode cX6_changes 2 = .ok (.invokevirtual 105, 3) := by decide +kernel
theorem dX6_changes_5 : decode cX6_changes 5 = .ok (.ifCond .eq 7, 3) := by decide +kernel
theorem dX6_changes_8 : decode cX6_changes 8 = .ok (.iconst 0, 1) := by decide +kernel
theorem dX6_changes_9 : decode cX6_changes 9 = .ok (.goto 9, 3) := by decide +kernel
theorem dX6_changes_12 : decode cX6_changes 12 = .ok (.aload_n 0, 1) := by decide +kernel
theorem dX6_changes_13 : decode cX6_changes 13 = .ok (.getfield 17, 3) := by decide +kernel
theorem dX6_changes_16 : decode cX6_changes 16 = .ok (.iload_n 1, 1) := by decide +kernel
theorem dX6_changes_17 : decode cX6_changes 17 = .ok (.iaload, 1) := by decide +kernel
theorem dX6_changes_18 : decode cX6_changes 18 = .ok (.ireturn, 1) := by decide +kernel
theorem dX6_measure_0 : decode cX6_measure 0 = .ok (.iload_n 2, 1) := by decide +kernel
theorem dX6_measure_1 : decode cX6_measure 1 = .ok (.iconst 0, 1) := by decide +kernel
theorem dX6_measure_2 : decode cX6_measure 2 = .ok (.bipush 9, 2) := by decide +kernel
theorem dX6_measure_4 : decode cX6_measure 4 = .ok (.invokestatic 73, 3) := by decide +kernel
theorem dX6_measure_7 : decode cX6_measure 7 = .ok (.ifCond .eq 53, 3) := by decide +kernel
theorem dX6_measure_10 : decode cX6_measure 10 = .ok (.iload_n 3, 1) := by decide +kernel
theorem dX6_measure_11 : decode cX6_measure 11 = .ok (.iconst 1, 1) := by decide +kernel
theorem dX6_measure_12 : decode cX6_measure 12 = .ok (.if_icmp .eq 8, 3) := by decide +kernel
theorem dX6_measure_15 : decode cX6_measure 15 = .ok (.iload_n 3, 1) := by decide +kernel
theorem dX6_measure_16 : decode cX6_measure 16 = .ok (.iconst (-1), 1) := by decide +kernel
theorem dX6_measure_17 : decode cX6_measure 17 = .ok (.if_icmp .ne 43, 3) := by decide +kernel
theorem dX6_measure_20 : decode cX6_measure 20 = .ok (.iload 4, 2) := by decide +kernel
theorem dX6_measure_22 : decode cX6_measure 22 = .ok (.bipush (-9), 2) := by decide +kernel
theorem dX6_measure_24 : decode cX6_measure 24 = .ok (.bipush 9, 2) := by decide +kernel
theorem dX6_measure_26 : decode cX6_measure 26 = .ok (.invokestatic 73, 3) := by decide +kernel
theorem dX6_measure_29 : decode cX6_measure 29 = .ok (.ifCond .eq 31, 3) := by decide +kernel
theorem dX6_measure_32 : decode cX6_measure 32 = .ok (.iload 5, 2) := by decide +kernel
theorem dX6_measure_34 : decode cX6_measure 34 = .ok (.bipush (-9), 2) := by decide +kernel
theorem dX6_measure_36 : decode cX6_measure 36 = .ok (.bipush 9, 2) := by decide +kernel
theorem dX6_measure_38 : decode cX6_measure 38 = .ok (.invokestatic 73, 3) := by decide +kernel
theorem dX6_measure_41 : decode cX6_measure 41 = .ok (.ifCond .eq 19, 3) := by decide +kernel
theorem dX6_measure_44 : decode cX6_measure 44 = .ok (.iload 6, 2) := by decide +kernel
theorem dX6_measure_46 : decode cX6_measure 46 = .ok (.bipush (-9), 2) := by decide +kernel
theorem dX6_measure_48 : decode cX6_measure 48 = .ok (.bipush 9, 2) := by decide +kernel
theorem dX6_measure_50 : decode cX6_measure 50 = .ok (.invokestatic 73, 3) := by decide +kernel
theorem dX6_measure_53 : decode cX6_measure 53 = .ok (.ifCond .eq 7, 3) := by decide +kernel
theorem dX6_measure_56 : decode cX6_measure 56 = .ok (.iconst 1, 1) := by decide +kernel
theorem dX6_measure_57 : decode cX6_measure 57 = .ok (.goto 4, 3) := by decide +kernel
theorem dX6_measure_60 : decode cX6_measure 60 = .ok (.iconst 0, 1) := by decide +kernel
theorem dX6_measure_61 : decode cX6_measure 61 = .ok (.istore 7, 2) := by decide +kernel
theorem dX6_measure_63 : decode cX6_measure 63 = .ok (.aload_n 0, 1) := by decide +kernel
theorem dX6_measure_64 : decode cX6_measure 64 = .ok (.aload_n 0, 1) := by decide +kernel
theorem dX6_measure_65 : decode cX6_measure 65 = .ok (.iload_n 1, 1) := by decide +kernel
theorem dX6_measure_66 : decode cX6_measure 66 = .ok (.invokevirtual 77, 3) := by decide +kernel
theorem dX6_measure_69 : decode cX6_measure 69 = .ok (.ifCond .ne 7, 3) := by decide +kernel
theorem dX6_measure_72 : decode cX6_measure 72 = .ok (.iconst 1, 1) := by decide +kernel
theorem dX6_measure_73 : decode cX6_measure 73 = .ok (.goto 26, 3) := by decide +kernel
theorem dX6_measure_76 : decode cX6_measure 76 = .ok (.iload 7, 2) := by decide +kernel
theorem dX6_measure_78 : decode cX6_measure 78 = .ok (.ifCond .ne 7, 3) := by decide +kernel
theorem dX6_measure_81 : decode cX6_measure 81 = .ok (.iconst 2, 1) := by decide +kernel
theorem dX6_measure_82 : decode cX6_measure 82 = .ok (.goto 17, 3) := by decide +kernel
theorem dX6_measure_85 : decode cX6_measure 85 = .ok (.aload_n 0, 1) := by decide +kernel
theorem dX6_measure_86 : decode cX6_measure 86 = .ok (.getfield 84, 3) := by decide +kernel
theorem dX6_measure_89 : decode cX6_measure 89 = .ok (.bipush 40, 2) := by decide +kernel
theorem dX6_measure_91 : decode cX6_measure 91 = .ok (.if_icmp .ne 7, 3) := by decide +kernel
theorem dX6_measure_94 : decode cX6_measure 94 = .ok (.iconst 3, 1) := by decide +kernel
theorem dX6_measure_95 : decode cX6_measure 95 = .ok (.goto 4, 3) := by decide +kernel
theorem dX6_measure_98 : decode cX6_measure 98 = .ok (.iconst 0, 1) := by decide +kernel
theorem dX6_measure_99 : decode cX6_measure 99 = .ok (.invokevirtual 81, 3) := by decide +kernel
theorem dX6_measure_102 : decode cX6_measure 102 = .ok (.ifCond .eq 5, 3) := by decide +kernel
theorem dX6_measure_105 : decode cX6_measure 105 = .ok (.iconst 0, 1) := by decide +kernel
theorem dX6_measure_106 : decode cX6_measure 106 = .ok (.ireturn, 1) := by decide +kernel
theorem dX6_measure_107 : decode cX6_measure 107 = .ok (.aload_n 0, 1) := by decide +kernel
theorem dX6_measure_108 : decode cX6_measure 108 = .ok (.getfield 20, 3) := by decide +kernel
theorem dX6_measure_111 : decode cX6_measure 111 = .ok (.aload_n 0, 1) := by decide +kernel
theorem dX6_measure_112 : decode cX6_measure 112 = .ok (.getfield 84, 3) := by decide +kernel
theorem dX6_measure_115 : decode cX6_measure 115 = .ok (.iload_n 1, 1) := by decide +kernel
theorem dX6_measure_116 : decode cX6_measure 116 = .ok (.iastore, 1) := by decide +kernel
theorem dX6_measure_117 : decode cX6_measure 117 = .ok (.aload_n 0, 1) := by decide +kernel
theorem dX6_measure_118 : decode cX6_measure 118 = .ok (.getfield 23, 3) := by decide +kernel
theorem dX6_measure_121 : decode cX6_measure 121 = .ok (.aload_n 0, 1) := by decide +kernel
theorem dX6_measure_122 : decode cX6_measure 122 = .ok (.getfield 84, 3) := by decide +kernel
theorem dX6_measure_125 : decode cX6_measure 125 = .ok (.aload_n 0, 1) := by decide +kernel
theorem dX6_measure_126 : decode cX6_measure 126 = .ok (.getfield 13, 3) := by decide +kernel
theorem dX6_measure_129 : decode cX6_measure 129 = .ok (.iload_n 1, 1) := by decide +kernel
theorem dX6_measure_130 : decode cX6_measure 130 = .ok (.iaload, 1) := by decide +kernel
theorem dX6_measure_131 : decode cX6_measure 131 = .ok (.iastore, 1) := by decide +kernel
theorem dX6_measure_132 : decode cX6_measure 132 = .ok (.aload_n 0, 1) := by decide +kernel
theorem dX6_measure_133 : decode cX6_measure 133 = .ok (.getfield 26, 3) := by decide +kernel
theorem dX6_measure_136 : decode cX6_measure 136 = .ok (.aload_n 0, 1) := by decide +kernel
theorem dX6_measure_137 : decode cX6_measure 137 = .ok (.getfield 84, 3) := by decide +kernel
theorem dX6_measure_140 : decode cX6_measure 140 = .ok (.iload_n 2, 1) := by decide +kernel
theorem dX6_measure_141 : decode cX6_measure 141 = .ok (.iastore, 1) := by decide +kernel
theorem dX6_measure_142 : decode cX6_measure 142 = .ok (.aload_n 0, 1) := by decide +kernel
theorem dX6_measure_143 : decode cX6_measure 143 = .ok (.getfield 29, 3) := by decide +kernel
theorem dX6_measure_146 : decode cX6_measure 146 = .ok (.aload_n 0, 1) := by decide +kernel
theorem dX6_measure_147 : decode cX6_measure 147 = .ok (.getfield 84, 3) := by decide +kernel
theorem dX6_measure_150 : decode cX6_measure 150 = .ok (.aload_n 0, 1) := by decide +kernel
theorem dX6_measure_151 : decode cX6_measure 151 = .ok (.getfield 108, 3) := by decide +kernel
theorem dX6_measure_154 : decode cX6_measure 154 = .ok (.iastore, 1) := by decide +kernel
theorem dX6_measure_155 : decode cX6_measure 155 = .ok (.aload_n 0, 1) := by decide +kernel
theorem dX6_measure_156 : decode cX6_measure 156 = .ok (.getfield 32, 3) := by decide +kernel
theorem dX6_measure_159 : decode cX6_measure 159 = .ok (.aload_n 0, 1) := by decide +kernel
theorem dX6_measure_160 : decode cX6_measure 160 = .ok (.getfield 84, 3) := by decide +kernel
theorem dX6_measure_163 : decode cX6_measure 163 = .ok (.aload_n 0, 1) := by decide +kernel
theorem dX6_measure_164 : decode cX6_measure 164 = .ok (.getfield 17, 3) := by decide +kernel
theorem dX6_measure_167 : decode cX6_measure 167 = .ok (.iload_n 1, 1) := by decide +kernel
theorem dX6_measure_168 : decode cX6_measure 168 = .ok (.iaload, 1) := by decide +kernel
theorem dX6_measure_169 : decode cX6_measure 169 = .ok (.iastore, 1) := by decide +kernel
theorem dX6_measure_170 : decode cX6_measure 170 = .ok (.aload_n 0, 1) := by decide +kernel
theorem dX6_measure_171 : decode cX6_measure 171 = .ok (.getfield 35, 3) := by decide +kernel
theorem dX6_measure_174 : decode cX6_measure 174 = .ok (.iconst 4, 1) := by decide +kernel
theorem dX6_measure_175 : decode cX6_measure 175 = .ok (.aload_n 0, 1) := by decide +kernel
theorem dX6_measure_176 : decode cX6_measure 176 = .ok (.getfield 84, 3) := by decide +kernel
theorem dX6_measure_179 : decode cX6_measure 179 = .ok (.imul, 1) := by decide +kernel
theorem dX6_measure_180 : decode cX6_measure 180 = .ok (.iload_n 3, 1) := by decide +kernel
theorem dX6_measure_181 : decode cX6_measure 181 = .ok (.iastore, 1) := by decide +kernel
theorem dX6_measure_182 : decode cX6_measure 182 = .ok (.aload_n 0, 1) := by decide +kernel
theorem dX6_measure_183 : decode cX6_measure 183 = .ok (.getfield 35, 3) := by decide +kernel
theorem dX6_measure_186 : decode cX6_measure 186 = .ok (.iconst 4, 1) := by decide +kernel
theorem dX6_measure_187 : decode cX6_measure 187 = .ok (.aload_n 0, 1) := by decide +kernel
theorem dX6_measure_188 : decode cX6_measure 188 = .ok (.getfield 84, 3) := by decide +kernel
theorem dX6_measure_191 : decode cX6_measure 191 = .ok (.imul, 1) := by decide +kernel
theorem dX6_measure_192 : decode cX6_measure 192 = .ok (.iconst 1, 1) := by decide +kernel
theorem dX6_measure_193 : decode cX6_measure 193 = .ok (.iadd, 1) := by decide +kernel
theorem dX6_measure_194 : decode cX6_measure 194 = .ok (.iload 4, 2) := by decide +kernel
theorem dX6_measure_196 : decode cX6_measure 196 = .ok (.iastore, 1) := by decide +kernel
theorem dX6_measure_197 : decode cX6_measure 197 = .ok (.aload_n 0, 1) := by decide +kernel
theorem dX6_measure_198 : decode cX6_measure 198 = .ok (.getfield 35, 3) := by decide +kernel
theorem dX6_measure_201 : decode cX6_measure 201 = .ok (.iconst 4, 1) := by decide +kernel
theorem dX6_measure_202 : decode cX6_measure 202 = .ok (.aload_n 0, 1) := by decide +kernel
theorem dX6_measure_203 : decode cX6_measure 203 = .ok (.getfield 84, 3) := by decide +kernel
theorem dX6_measure_206 : decode cX6_measure 206 = .ok (.imul, 1) := by decide +kernel
theorem dX6_measure_207 : decode cX6_measure 207 = .ok (.iconst 2, 1) := by decide +kernel
theorem dX6_measure_208 : decode cX6_measure 208 = .ok (.iadd, 1) := by decide +kernel
theorem dX6_measure_209 : decode cX6_measure 209 = .ok (.iload 5, 2) := by decide +kernel
theorem dX6_measure_211 : decode cX6_measure 211 = .ok (.iastore, 1) := by decide +kernel
theorem dX6_measure_212 : decode cX6_measure 212 = .ok (.aload_n 0, 1) := by decide +kernel
theorem dX6_measure_213 : decode cX6_measure 213 = .ok (.getfield 35, 3) := by decide +kernel
theorem dX6_measure_216 : decode cX6_measure 216 = .ok (.iconst 4, 1) := by decide +kernel
theorem dX6_measure_217 : decode cX6_measure 217 = .ok (.aload_n 0, 1) := by decide +kernel
theorem dX6_measure_218 : decode cX6_measure 218 = .ok (.getfield 84, 3) := by decide +kernel
theorem dX6_measure_221 : decode cX6_measure 221 = .ok (.imul, 1) := by decide +kernel
theorem dX6_measure_222 : decode cX6_measure 222 = .ok (.iconst 3, 1) := by decide +kernel
theorem dX6_measure_223 : decode cX6_measure 223 = .ok (.iadd, 1) := by decide +kernel
theorem dX6_measure_224 : decode cX6_measure 224 = .ok (.iload 6, 2) := by decide +kernel
theorem dX6_measure_226 : decode cX6_measure 226 = .ok (.iastore, 1) := by decide +kernel
theorem dX6_measure_227 : decode cX6_measure 227 = .ok (.aload_n 0, 1) := by decide +kernel
theorem dX6_measure_228 : decode cX6_measure 228 = .ok (.dup, 1) := by decide +kernel
theorem dX6_measure_229 : decode cX6_measure 229 = .ok (.getfield 84, 3) := by decide +kernel
theorem dX6_measure_232 : decode cX6_measure 232 = .ok (.iconst 1, 1) := by decide +kernel
theorem dX6_measure_233 : decode cX6_measure 233 = .ok (.iadd, 1) := by decide +kernel
theorem dX6_measure_234 : decode cX6_measure 234 = .ok (.putfield 84, 3) := by decide +kernel
theorem dX6_measure_237 : decode cX6_measure 237 = .ok (.aload_n 0, 1) := by decide +kernel
theorem dX6_measure_238 : decode cX6_measure 238 = .ok (.getfield 84, 3) := by decide +kernel
theorem dX6_measure_241 : decode cX6_measure 241 = .ok (.iconst 1, 1) := by decide +kernel
theorem dX6_measure_242 : decode cX6_measure 242 = .ok (.isub, 1) := by decide +kernel
theorem dX6_measure_243 : decode cX6_measure 243 = .ok (.ireturn, 1) := by decide +kernel
theorem dX6_sample_0 : decode cX6_sample 0 = .ok (.aload_n 0, 1) := by decide +kernel
theorem dX6_sample_1 : decode cX6_sample 1 = .ok (.iload_n 1, 1) := by decide +kernel
theorem dX6_sample_2 : decode cX6_sample 2 = .ok (.invokevirtual 111, 3) := by decide +kernel
theorem dX6_sample_5 : decode cX6_sample 5 = .ok (.ifCond .eq 5, 3) := by decide +kernel
theorem dX6_sample_8 : decode cX6_sample 8 = .ok (.iconst 0, 1) := by decide +kernel
theorem dX6_sample_9 : decode cX6_sample 9 = .ok (.ireturn, 1) := by decide +kernel
theorem dX6_sample_10 : decode cX6_sample 10 = .ok (.aload_n 0, 1) := by decide +kernel
theorem dX6_sample_11 : decode cX6_sample 11 = .ok (.iload_n 2, 1) := by decide +kernel
theorem dX6_sample_12 : decode cX6_sample 12 = .ok (.iconst 0, 1) := by decide +kernel
theorem dX6_sample_13 : decode cX6_sample 13 = .ok (.iconst 3, 1) := by decide +kernel
theorem dX6_sample_14 : decode cX6_sample 14 = .ok (.invokestatic 73, 3) := by decide +kernel
theorem dX6_sample_17 : decode cX6_sample 17 = .ok (.ifCond .eq 7, 3) := by decide +kernel
theorem dX6_sample_20 : decode cX6_sample 20 = .ok (.iconst 0, 1) := by decide +kernel
theorem dX6_sample_21 : decode cX6_sample 21 = .ok (.goto 4, 3) := by decide +kernel
theorem dX6_sample_24 : decode cX6_sample 24 = .ok (.iconst 2, 1) := by decide +kernel
theorem dX6_sample_25 : decode cX6_sample 25 = .ok (.invokevirtual 81, 3) := by decide +kernel
theorem dX6_sample_28 : decode cX6_sample 28 = .ok (.ifCond .eq 7, 3) := by decide +kernel
theorem dX6_sample_31 : decode cX6_sample 31 = .ok (.iconst 0, 1) := by decide +kernel
theorem dX6_sample_32 : decode cX6_sample 32 = .ok (.goto 13, 3) := by decide +kernel
theorem dX6_sample_35 : decode cX6_sample 35 = .ok (.aload_n 0, 1) := by decide +kernel
theorem dX6_sample_36 : decode cX6_sample 36 = .ok (.getfield 35, 3) := by decide +kernel
theorem dX6_sample_39 : decode cX6_sample 39 = .ok (.iconst 4, 1) := by decide +kernel
theorem dX6_sample_40 : decode cX6_sample 40 = .ok (.iload_n 1, 1) := by decide +kernel
theorem dX6_sample_41 : decode cX6_sample 41 = .ok (.imul, 1) := by decide +kernel
theorem dX6_sample_42 : decode cX6_sample 42 = .ok (.iload_n 2, 1) := by decide +kernel
theorem dX6_sample_43 : decode cX6_sample 43 = .ok (.iadd, 1) := by decide +kernel
theorem dX6_sample_44 : decode cX6_sample 44 = .ok (.iaload, 1) := by decide +kernel
theorem dX6_sample_45 : decode cX6_sample 45 = .ok (.ireturn, 1) := by decide +kernel
theorem dX6_ageOf_0 : decode cX6_ageOf 0 = .ok (.aload_n 0, 1) := by decide +kernel
theorem dX6_ageOf_1 : decode cX6_ageOf 1 = .ok (.getfield 108, 3) := by decide +kernel
theorem dX6_ageOf_4 : decode cX6_ageOf 4 = .ok (.aload_n 0, 1) := by decide +kernel
theorem dX6_ageOf_5 : decode cX6_ageOf 5 = .ok (.getfield 29, 3) := by decide +kernel
theorem dX6_ageOf_8 : decode cX6_ageOf 8 = .ok (.iload_n 1, 1) := by decide +kernel
theorem dX6_ageOf_9 : decode cX6_ageOf 9 = .ok (.iaload, 1) := by decide +kernel
theorem dX6_ageOf_10 : decode cX6_ageOf 10 = .ok (.isub, 1) := by decide +kernel
theorem dX6_ageOf_11 : decode cX6_ageOf 11 = .ok (.iconst 2, 1) := by decide +kernel
theorem dX6_ageOf_12 : decode cX6_ageOf 12 = .ok (.aload_n 0, 1) := by decide +kernel
theorem dX6_ageOf_13 : decode cX6_ageOf 13 = .ok (.getfield 17, 3) := by decide +kernel
theorem dX6_ageOf_16 : decode cX6_ageOf 16 = .ok (.aload_n 0, 1) := by decide +kernel
theorem dX6_ageOf_17 : decode cX6_ageOf 17 = .ok (.getfield 20, 3) := by decide +kernel
theorem dX6_ageOf_20 : decode cX6_ageOf 20 = .ok (.iload_n 1, 1) := by decide +kernel
theorem dX6_ageOf_21 : decode cX6_ageOf 21 = .ok (.iaload, 1) := by decide +kernel
theorem dX6_ageOf_22 : decode cX6_ageOf 22 = .ok (.iaload, 1) := by decide +kernel
theorem dX6_ageOf_23 : decode cX6_ageOf 23 = .ok (.aload_n 0, 1) := by decide +kernel
theorem dX6_ageOf_24 : decode cX6_ageOf 24 = .ok (.getfield 32, 3) := by decide +kernel
theorem dX6_ageOf_27 : decode cX6_ageOf 27 = .ok (.iload_n 1, 1) := by decide +kernel
theorem dX6_ageOf_28 : decode cX6_ageOf 28 = .ok (.iaload, 1) := by decide +kernel
theorem dX6_ageOf_29 : decode cX6_ageOf 29 = .ok (.isub, 1) := by decide +kernel
theorem dX6_ageOf_30 : decode cX6_ageOf 30 = .ok (.imul, 1) := by decide +kernel
theorem dX6_ageOf_31 : decode cX6_ageOf 31 = .ok (.iadd, 1) := by decide +kernel
theorem dX6_ageOf_32 : decode cX6_ageOf 32 = .ok (.ireturn, 1) := by decide +kernel
theorem dX6_age_0 : decode cX6_age 0 = .ok (.aload_n 0, 1) := by decide +kernel
theorem dX6_age_1 : decode cX6_age 1 = .ok (.iload_n 1, 1) := by decide +kernel
theorem dX6_age_2 : decode cX6_age 2 = .ok (.invokevirtual 111, 3) := by decide +kernel
theorem dX6_age_5 : decode cX6_age 5 = .ok (.ifCond .eq 7, 3) := by decide +kernel
theorem dX6_age_8 : decode cX6_age 8 = .ok (.iconst 0, 1) := by decide +kernel
theorem dX6_age_9 : decode cX6_age 9 = .ok (.goto 8, 3) := by decide +kernel
theorem dX6_age_12 : decode cX6_age 12 = .ok (.aload_n 0, 1) := by decide +kernel
theorem dX6_age_13 : decode cX6_age 13 = .ok (.iload_n 1, 1) := by decide +kernel
theorem dX6_age_14 : decode cX6_age 14 = .ok (.invokevirtual 114, 3) := by decide +kernel
theorem dX6_age_17 : decode cX6_age 17 = .ok (.ireturn, 1) := by decide +kernel
theorem dX6_latestOf_0 : decode cX6_latestOf 0 = .ok (.iconst (-1), 1) := by decide +kernel
theorem dX6_latestOf_1 : decode cX6_latestOf 1 = .ok (.istore 4, 2) := by decide +kernel
theorem dX6_latestOf_3 : decode cX6_latestOf 3 = .ok (.iconst 0, 1) := by decide +kernel
theorem dX6_latestOf_4 : decode cX6_latestOf 4 = .ok (.istore 5, 2) := by decide +kernel
theorem dX6_latestOf_6 : decode cX6_latestOf 6 = .ok (.iload 5, 2) := by decide +kernel
theorem dX6_latestOf_8 : decode cX6_latestOf 8 = .ok (.aload_n 0, 1) := by decide +kernel
theorem dX6_latestOf_9 : decode cX6_latestOf 9 = .ok (.getfield 84, 3) := by decide +kernel
theorem dX6_latestOf_12 : decode cX6_latestOf 12 = .ok (.if_icmp .ge 51, 3) := by decide +kernel
theorem dX6_latestOf_15 : decode cX6_latestOf 15 = .ok (.aload_n 0, 1) := by decide +kernel
theorem dX6_latestOf_16 : decode cX6_latestOf 16 = .ok (.getfield 20, 3) := by decide +kernel
theorem dX6_latestOf_19 : decode cX6_latestOf 19 = .ok (.iload 5, 2) := by decide +kernel
theorem dX6_latestOf_21 : decode cX6_latestOf 21 = .ok (.iaload, 1) := by decide +kernel
theorem dX6_latestOf_22 : decode cX6_latestOf 22 = .ok (.iload_n 1, 1) := by decide +kernel
theorem dX6_latestOf_23 : decode cX6_latestOf 23 = .ok (.if_icmp .ne 30, 3) := by decide +kernel
theorem dX6_latestOf_26 : decode cX6_latestOf 26 = .ok (.aload_n 0, 1) := by decide +kernel
theorem dX6_latestOf_27 : decode cX6_latestOf 27 = .ok (.getfield 23, 3) := by decide +kernel
theorem dX6_latestOf_30 : decode cX6_latestOf 30 = .ok (.iload 5, 2) := by decide +kernel
theorem dX6_latestOf_32 : decode cX6_latestOf 32 = .ok (.iaload, 1) := by decide +kernel
theorem dX6_latestOf_33 : decode cX6_latestOf 33 = .ok (.iload_n 3, 1) := by decide +kernel
theorem dX6_latestOf_34 : decode cX6_latestOf 34 = .ok (.if_icmp .ne 19, 3) := by decide +kernel
theorem dX6_latestOf_37 : decode cX6_latestOf 37 = .ok (.aload_n 0, 1) := by decide +kernel
theorem dX6_latestOf_38 : decode cX6_latestOf 38 = .ok (.getfield 26, 3) := by decide +kernel
theorem dX6_latestOf_41 : decode cX6_latestOf 41 = .ok (.iload 5, 2) := by decide +kernel
theorem dX6_latestOf_43 : decode cX6_latestOf 43 = .ok (.iaload, 1) := by decide +kernel
theorem dX6_latestOf_44 : decode cX6_latestOf 44 = .ok (.iload_n 2, 1) := by decide +kernel
theorem dX6_latestOf_45 : decode cX6_latestOf 45 = .ok (.if_icmp .ne 8, 3) := by decide +kernel
theorem dX6_latestOf_48 : decode cX6_latestOf 48 = .ok (.iload 5, 2) := by decide +kernel
theorem dX6_latestOf_50 : decode cX6_latestOf 50 = .ok (.goto 5, 3) := by decide +kernel
theorem dX6_latestOf_53 : decode cX6_latestOf 53 = .ok (.iload 4, 2) := by decide +kernel
theorem dX6_latestOf_55 : decode cX6_latestOf 55 = .ok (.istore 4, 2) := by decide +kernel
theorem dX6_latestOf_57 : decode cX6_latestOf 57 = .ok (.iinc 5 1, 3) := by decide +kernel
theorem dX6_latestOf_60 : decode cX6_latestOf 60 = .ok (.goto (-54), 3) := by decide +kernel
theorem dX6_latestOf_63 : decode cX6_latestOf 63 = .ok (.iload 4, 2) := by decide +kernel
theorem dX6_latestOf_65 : decode cX6_latestOf 65 = .ok (.ireturn, 1) := by decide +kernel
theorem dX6_latest_0 : decode cX6_latest 0 = .ok (.aload_n 0, 1) := by decide +kernel
theorem dX6_latest_1 : decode cX6_latest 1 = .ok (.aload_n 0, 1) := by decide +kernel
theorem dX6_latest_2 : decode cX6_latest 2 = .ok (.iload_n 1, 1) := by decide +kernel
theorem dX6_latest_3 : decode cX6_latest 3 = .ok (.invokevirtual 77, 3) := by decide +kernel
theorem dX6_latest_6 : decode cX6_latest 6 = .ok (.ifCond .ne 7, 3) := by decide +kernel
theorem dX6_latest_9 : decode cX6_latest 9 = .ok (.iconst 1, 1) := by decide +kernel
theorem dX6_latest_10 : decode cX6_latest 10 = .ok (.goto 27, 3) := by decide +kernel
theorem dX6_latest_13 : decode cX6_latest 13 = .ok (.iload_n 2, 1) := by decide +kernel
theorem dX6_latest_14 : decode cX6_latest 14 = .ok (.iconst 0, 1) := by decide +kernel
theorem dX6_latest_15 : decode cX6_latest 15 = .ok (.bipush 9, 2) := by decide +kernel
theorem dX6_latest_17 : decode cX6_latest 17 = .ok (.invokestatic 73, 3) := by decide +kernel
theorem dX6_latest_20 : decode cX6_latest 20 = .ok (.ifCond .eq 16, 3) := by decide +kernel
theorem dX6_latest_23 : decode cX6_latest 23 = .ok (.iload_n 3, 1) := by decide +kernel
theorem dX6_latest_24 : decode cX6_latest 24 = .ok (.iload 4, 2) := by decide +kernel
theorem dX6_latest_26 : decode cX6_latest 26 = .ok (.invokestatic 94, 3) := by decide +kernel
theorem dX6_latest_29 : decode cX6_latest 29 = .ok (.ifCond .eq 7, 3) := by decide +kernel
theorem dX6_latest_32 : decode cX6_latest 32 = .ok (.iconst 0, 1) := by decide +kernel
theorem dX6_latest_33 : decode cX6_latest 33 = .ok (.goto 4, 3) := by decide +kernel
theorem dX6_latest_36 : decode cX6_latest 36 = .ok (.iconst 2, 1) := by decide +kernel
theorem dX6_latest_37 : decode cX6_latest 37 = .ok (.invokevirtual 81, 3) := by decide +kernel
theorem dX6_latest_40 : decode cX6_latest 40 = .ok (.ifCond .eq 5, 3) := by decide +kernel
theorem dX6_latest_43 : decode cX6_latest 43 = .ok (.iconst 0, 1) := by decide +kernel
theorem dX6_latest_44 : decode cX6_latest 44 = .ok (.ireturn, 1) := by decide +kernel
theorem dX6_latest_45 : decode cX6_latest 45 = .ok (.aload_n 0, 1) := by decide +kernel
theorem dX6_latest_46 : decode cX6_latest 46 = .ok (.iload_n 1, 1) := by decide +kernel
theorem dX6_latest_47 : decode cX6_latest 47 = .ok (.iload_n 2, 1) := by decide +kernel
theorem dX6_latest_48 : decode cX6_latest 48 = .ok (.iload_n 3, 1) := by decide +kernel
theorem dX6_latest_49 : decode cX6_latest 49 = .ok (.iload 4, 2) := by decide +kernel
theorem dX6_latest_51 : decode cX6_latest 51 = .ok (.iload 5, 2) := by decide +kernel
theorem dX6_latest_53 : decode cX6_latest 53 = .ok (.invokestatic 98, 3) := by decide +kernel
theorem dX6_latest_56 : decode cX6_latest 56 = .ok (.invokevirtual 118, 3) := by decide +kernel
theorem dX6_latest_59 : decode cX6_latest 59 = .ok (.istore 6, 2) := by decide +kernel
theorem dX6_latest_61 : decode cX6_latest 61 = .ok (.aload_n 0, 1) := by decide +kernel
theorem dX6_latest_62 : decode cX6_latest 62 = .ok (.iload 6, 2) := by decide +kernel
theorem dX6_latest_64 : decode cX6_latest 64 = .ok (.iconst (-1), 1) := by decide +kernel
theorem dX6_latest_65 : decode cX6_latest 65 = .ok (.if_icmp .ne 7, 3) := by decide +kernel
theorem dX6_latest_68 : decode cX6_latest 68 = .ok (.iconst 3, 1) := by decide +kernel
theorem dX6_latest_69 : decode cX6_latest 69 = .ok (.goto 4, 3) := by decide +kernel
theorem dX6_latest_72 : decode cX6_latest 72 = .ok (.iconst 0, 1) := by decide +kernel
theorem dX6_latest_73 : decode cX6_latest 73 = .ok (.invokevirtual 81, 3) := by decide +kernel
theorem dX6_latest_76 : decode cX6_latest 76 = .ok (.ifCond .eq 7, 3) := by decide +kernel
theorem dX6_latest_79 : decode cX6_latest 79 = .ok (.iconst 0, 1) := by decide +kernel
theorem dX6_latest_80 : decode cX6_latest 80 = .ok (.goto 5, 3) := by decide +kernel
theorem dX6_latest_83 : decode cX6_latest 83 = .ok (.iload 6, 2) := by decide +kernel
theorem dX6_latest_85 : decode cX6_latest 85 = .ok (.ireturn, 1) := by decide +kernel
theorem dX6_statesMeasured_0 : decode cX6_statesMeasured 0 = .ok (.aload_n 0, 1) := by decide +kernel
theorem dX6_statesMeasured_1 : decode cX6_statesMeasured 1 = .ok (.iload_n 1, 1) := by decide +kernel
theorem dX6_statesMeasured_2 : decode cX6_statesMeasured 2 = .ok (.invokevirtual 105, 3) := by decide +kernel
theorem dX6_statesMeasured_5 : decode cX6_statesMeasured 5 = .ok (.ifCond .eq 5, 3) := by decide +kernel
theorem dX6_statesMeasured_8 : decode cX6_statesMeasured 8 = .ok (.iconst 0, 1) := by decide +kernel
theorem dX6_statesMeasured_9 : decode cX6_statesMeasured 9 = .ok (.ireturn, 1) := by decide +kernel
theorem dX6_statesMeasured_10 : decode cX6_statesMeasured 10 = .ok (.iconst 0, 1) := by decide +kernel
theorem dX6_statesMeasured_11 : decode cX6_statesMeasured 11 = .ok (.istore_n 2, 1) := by decide +kernel
theorem dX6_statesMeasured_12 : decode cX6_statesMeasured 12 = .ok (.iconst 0, 1) := by decide +kernel
theorem dX6_statesMeasured_13 : decode cX6_statesMeasured 13 = .ok (.istore_n 3, 1) := by decide +kernel
theorem dX6_statesMeasured_14 : decode cX6_statesMeasured 14 = .ok (.iload_n 3, 1) := by decide +kernel
theorem dX6_statesMeasured_15 : decode cX6_statesMeasured 15 = .ok (.aload_n 0, 1) := by decide +kernel
theorem dX6_statesMeasured_16 : decode cX6_statesMeasured 16 = .ok (.getfield 84, 3) := by decide +kernel
theorem dX6_statesMeasured_19 : decode cX6_statesMeasured 19 = .ok (.if_icmp .ge 93, 3) := by decide +kernel
theorem dX6_statesMeasured_22 : decode cX6_statesMeasured 22 = .ok (.aload_n 0, 1) := by decide +kernel
theorem dX6_statesMeasured_23 : decode cX6_statesMeasured 23 = .ok (.getfield 20, 3) := by decide +kernel
theorem dX6_statesMeasured_26 : decode cX6_statesMeasured 26 = .ok (.iload_n 3, 1) := by decide +kernel
theorem dX6_statesMeasured_27 : decode cX6_statesMeasured 27 = .ok (.iaload, 1) := by decide +kernel
theorem dX6_statesMeasured_28 : decode cX6_statesMeasured 28 = .ok (.iload_n 1, 1) := by decide +kernel
theorem dX6_statesMeasured_29 : decode cX6_statesMeasured 29 = .ok (.if_icmp .ne 7, 3) := by decide +kernel
theorem dX6_statesMeasured_32 : decode cX6_statesMeasured 32 = .ok (.iconst 1, 1) := by decide +kernel
theorem dX6_statesMeasured_33 : decode cX6_statesMeasured 33 = .ok (.goto 4, 3) := by decide +kernel
theorem dX6_statesMeasured_36 : decode cX6_statesMeasured 36 = .ok (.iconst 0, 1) := by decide +kernel
theorem dX6_statesMeasured_37 : decode cX6_statesMeasured 37 = .ok (.istore 4, 2) := by decide +kernel
theorem dX6_statesMeasured_39 : decode cX6_statesMeasured 39 = .ok (.iconst 0, 1) := by decide +kernel
theorem dX6_statesMeasured_40 : decode cX6_statesMeasured 40 = .ok (.istore 5, 2) := by decide +kernel
theorem dX6_statesMeasured_42 : decode cX6_statesMeasured 42 = .ok (.iload 5, 2) := by decide +kernel
theorem dX6_statesMeasured_44 : decode cX6_statesMeasured 44 = .ok (.iload_n 3, 1) := by decide +kernel
theorem dX6_statesMeasured_45 : decode cX6_statesMeasured 45 = .ok (.if_icmp .ge 48, 3) := by decide +kernel
theorem dX6_statesMeasured_48 : decode cX6_statesMeasured 48 = .ok (.iload 4, 2) := by decide +kernel
theorem dX6_statesMeasured_50 : decode cX6_statesMeasured 50 = .ok (.ifCond .eq 34, 3) := by decide +kernel
theorem dX6_statesMeasured_53 : decode cX6_statesMeasured 53 = .ok (.aload_n 0, 1) := by decide +kernel
theorem dX6_statesMeasured_54 : decode cX6_statesMeasured 54 = .ok (.getfield 20, 3) := by decide +kernel
theorem dX6_statesMeasured_57 : decode cX6_statesMeasured 57 = .ok (.iload 5, 2) := by decide +kernel
theorem dX6_statesMeasured_59 : decode cX6_statesMeasured 59 = .ok (.iaload, 1) := by decide +kernel
theorem dX6_statesMeasured_60 : decode cX6_statesMeasured 60 = .ok (.iload_n 1, 1) := by decide +kernel
theorem dX6_statesMeasured_61 : decode cX6_statesMeasured 61 = .ok (.if_icmp .ne 19, 3) := by decide +kernel
theorem dX6_statesMeasured_64 : decode cX6_statesMeasured 64 = .ok (.aload_n 0, 1) := by decide +kernel
theorem dX6_statesMeasured_65 : decode cX6_statesMeasured 65 = .ok (.getfield 23, 3) := by decide +kernel
theorem dX6_statesMeasured_68 : decode cX6_statesMeasured 68 = .ok (.iload 5, 2) := by decide +kernel
theorem dX6_statesMeasured_70 : decode cX6_statesMeasured 70 = .ok (.iaload, 1) := by decide +kernel
theorem dX6_statesMeasured_71 : decode cX6_statesMeasured 71 = .ok (.aload_n 0, 1) := by decide +kernel
theorem dX6_statesMeasured_72 : decode cX6_statesMeasured 72 = .ok (.getfield 23, 3) := by decide +kernel
theorem dX6_statesMeasured_75 : decode cX6_statesMeasured 75 = .ok (.iload_n 3, 1) := by decide +kernel
theorem dX6_statesMeasured_76 : decode cX6_statesMeasured 76 = .ok (.iaload, 1) := by decide +kernel
theorem dX6_statesMeasured_77 : decode cX6_statesMeasured 77 = .ok (.if_icmp .eq 7, 3) := by decide +kernel
theorem dX6_statesMeasured_80 : decode cX6_statesMeasured 80 = .ok (.iconst 1, 1) := by decide +kernel
theorem dX6_statesMeasured_81 : decode cX6_statesMeasured 81 = .ok (.goto 4, 3) := by decide +kernel
theorem dX6_statesMeasured_84 : decode cX6_statesMeasured 84 = .ok (.iconst 0, 1) := by decide +kernel
theorem dX6_statesMeasured_85 : decode cX6_statesMeasured 85 = .ok (.istore 4, 2) := by decide +kernel
theorem dX6_statesMeasured_87 : decode cX6_statesMeasured 87 = .ok (.iinc 5 1, 3) := by decide +kernel
theorem dX6_statesMeasured_90 : decode cX6_statesMeasured 90 = .ok (.goto (-48), 3) := by decide +kernel
theorem dX6_statesMeasured_93 : decode cX6_statesMeasured 93 = .ok (.iload_n 2, 1) := by decide +kernel
theorem dX6_statesMeasured_94 : decode cX6_statesMeasured 94 = .ok (.iload 4, 2) := by decide +kernel
theorem dX6_statesMeasured_96 : decode cX6_statesMeasured 96 = .ok (.ifCond .eq 7, 3) := by decide +kernel
theorem dX6_statesMeasured_99 : decode cX6_statesMeasured 99 = .ok (.iconst 1, 1) := by decide +kernel
theorem dX6_statesMeasured_100 : decode cX6_statesMeasured 100 = .ok (.goto 4, 3) := by decide +kernel
theorem dX6_statesMeasured_103 : decode cX6_statesMeasured 103 = .ok (.iconst 0, 1) := by decide +kernel
theorem dX6_statesMeasured_104 : decode cX6_statesMeasured 104 = .ok (.iadd, 1) := by decide +kernel
theorem dX6_statesMeasured_105 : decode cX6_statesMeasured 105 = .ok (.istore_n 2, 1) := by decide +kernel
theorem dX6_statesMeasured_106 : decode cX6_statesMeasured 106 = .ok (.iinc 3 1, 3) := by decide +kernel
theorem dX6_statesMeasured_109 : decode cX6_statesMeasured 109 = .ok (.goto (-95), 3) := by decide +kernel
theorem dX6_statesMeasured_112 : decode cX6_statesMeasured 112 = .ok (.iload_n 2, 1) := by decide +kernel
theorem dX6_statesMeasured_113 : decode cX6_statesMeasured 113 = .ok (.ireturn, 1) := by decide +kernel
theorem dX6_answers_0 : decode cX6_answers 0 = .ok (.aload_n 0, 1) := by decide +kernel
theorem dX6_answers_1 : decode cX6_answers 1 = .ok (.iconst 0, 1) := by decide +kernel
theorem dX6_answers_2 : decode cX6_answers 2 = .ok (.putfield 67, 3) := by decide +kernel
theorem dX6_answers_5 : decode cX6_answers 5 = .ok (.aload_n 0, 1) := by decide +kernel
theorem dX6_answers_6 : decode cX6_answers 6 = .ok (.getfield 84, 3) := by decide +kernel
theorem dX6_answers_9 : decode cX6_answers 9 = .ok (.ireturn, 1) := by decide +kernel
theorem dX6_makeFilter_0 : decode cX6_makeFilter 0 = .ok (.aload_n 0, 1) := by decide +kernel
theorem dX6_makeFilter_1 : decode cX6_makeFilter 1 = .ok (.iload_n 1, 1) := by decide +kernel
theorem dX6_makeFilter_2 : decode cX6_makeFilter 2 = .ok (.iconst 0, 1) := by decide +kernel
theorem dX6_makeFilter_3 : decode cX6_makeFilter 3 = .ok (.aload_n 0, 1) := by decide +kernel
theorem dX6_makeFilter_4 : decode cX6_makeFilter 4 = .ok (.getfield 84, 3) := by decide +kernel
theorem dX6_makeFilter_7 : decode cX6_makeFilter 7 = .ok (.iconst 1, 1) := by decide +kernel
theorem dX6_makeFilter_8 : decode cX6_makeFilter 8 = .ok (.isub, 1) := by decide +kernel
theorem dX6_makeFilter_9 : decode cX6_makeFilter 9 = .ok (.invokestatic 73, 3) := by decide +kernel
theorem dX6_makeFilter_12 : decode cX6_makeFilter 12 = .ok (.ifCond .ne 7, 3) := by decide +kernel
theorem dX6_makeFilter_15 : decode cX6_makeFilter 15 = .ok (.iconst 1, 1) := by decide +kernel
theorem dX6_makeFilter_16 : decode cX6_makeFilter 16 = .ok (.goto 17, 3) := by decide +kernel
theorem dX6_makeFilter_19 : decode cX6_makeFilter 19 = .ok (.aload_n 0, 1) := by decide +kernel
theorem dX6_makeFilter_20 : decode cX6_makeFilter 20 = .ok (.getfield 87, 3) := by decide +kernel
theorem dX6_makeFilter_23 : decode cX6_makeFilter 23 = .ok (.bipush 20, 2) := by decide +kernel
theorem dX6_makeFilter_25 : decode cX6_makeFilter 25 = .ok (.if_icmp .ne 7, 3) := by decide +kernel
theorem dX6_makeFilter_28 : decode cX6_makeFilter 28 = .ok (.iconst 2, 1) := by decide +kernel
theorem dX6_makeFilter_29 : decode cX6_makeFilter 29 = .ok (.goto 4, 3) := by decide +kernel
theorem dX6_makeFilter_32 : decode cX6_makeFilter 32 = .ok (.iconst 0, 1) := by decide +kernel
theorem dX6_makeFilter_33 : decode cX6_makeFilter 33 = .ok (.invokevirtual 81, 3) := by decide +kernel
theorem dX6_makeFilter_36 : decode cX6_makeFilter 36 = .ok (.ifCond .eq 5, 3) := by decide +kernel
theorem dX6_makeFilter_39 : decode cX6_makeFilter 39 = .ok (.iconst 0, 1) := by decide +kernel
theorem dX6_makeFilter_40 : decode cX6_makeFilter 40 = .ok (.ireturn, 1) := by decide +kernel
theorem dX6_makeFilter_41 : decode cX6_makeFilter 41 = .ok (.aload_n 0, 1) := by decide +kernel
theorem dX6_makeFilter_42 : decode cX6_makeFilter 42 = .ok (.getfield 38, 3) := by decide +kernel
theorem dX6_makeFilter_45 : decode cX6_makeFilter 45 = .ok (.aload_n 0, 1) := by decide +kernel
theorem dX6_makeFilter_46 : decode cX6_makeFilter 46 = .ok (.getfield 87, 3) := by decide +kernel
theorem dX6_makeFilter_49 : decode cX6_makeFilter 49 = .ok (.iload_n 1, 1) := by decide +kernel
theorem dX6_makeFilter_50 : decode cX6_makeFilter 50 = .ok (.iastore, 1) := by decide +kernel
theorem dX6_makeFilter_51 : decode cX6_makeFilter 51 = .ok (.aload_n 0, 1) := by decide +kernel
theorem dX6_makeFilter_52 : decode cX6_makeFilter 52 = .ok (.getfield 35, 3) := by decide +kernel
theorem dX6_makeFilter_55 : decode cX6_makeFilter 55 = .ok (.iconst 4, 1) := by decide +kernel
theorem dX6_makeFilter_56 : decode cX6_makeFilter 56 = .ok (.iload_n 1, 1) := by decide +kernel
theorem dX6_makeFilter_57 : decode cX6_makeFilter 57 = .ok (.imul, 1) := by decide +kernel
theorem dX6_makeFilter_58 : decode cX6_makeFilter 58 = .ok (.iaload, 1) := by decide +kernel
theorem dX6_makeFilter_59 : decode cX6_makeFilter 59 = .ok (.istore_n 2, 1) := by decide +kernel
theorem dX6_makeFilter_60 : decode cX6_makeFilter 60 = .ok (.iconst 0, 1) := by decide +kernel
theorem dX6_makeFilter_61 : decode cX6_makeFilter 61 = .ok (.istore_n 3, 1) := by decide +kernel
theorem dX6_makeFilter_62 : decode cX6_makeFilter 62 = .ok (.iload_n 3, 1) := by decide +kernel
theorem dX6_makeFilter_63 : decode cX6_makeFilter 63 = .ok (.bipush 6, 2) := by decide +kernel
theorem dX6_makeFilter_65 : decode cX6_makeFilter 65 = .ok (.if_icmp .ge 97, 3) := by decide +kernel
theorem dX6_makeFilter_68 : decode cX6_makeFilter 68 = .ok (.lconst 0, 1) := by decide +kernel
theorem dX6_makeFilter_69 : decode cX6_makeFilter 69 = .ok (.lstore 4, 2) := by decide +kernel
theorem dX6_makeFilter_71 : decode cX6_makeFilter 71 = .ok (.iconst 1, 1) := by decide +kernel
theorem dX6_makeFilter_72 : decode cX6_makeFilter 72 = .ok (.istore 6, 2) := by decide +kernel
theorem dX6_makeFilter_74 : decode cX6_makeFilter 74 = .ok (.iload 6, 2) := by decide +kernel
theorem dX6_makeFilter_76 : decode cX6_makeFilter 76 = .ok (.iconst 4, 1) := by decide +kernel
theorem dX6_makeFilter_77 : decode cX6_makeFilter 77 = .ok (.if_icmp .ge 50, 3) := by decide +kernel
theorem dX6_makeFilter_80 : decode cX6_makeFilter 80 = .ok (.iload 6, 2) := by decide +kernel
theorem dX6_makeFilter_82 : decode cX6_makeFilter 82 = .ok (.iload_n 3, 1) := by decide +kernel
theorem dX6_makeFilter_83 : decode cX6_makeFilter 83 = .ok (.if_icmp .gt 44, 3) := by decide +kernel
theorem dX6_makeFilter_86 : decode cX6_makeFilter 86 = .ok (.lload 4, 2) := by decide +kernel
theorem dX6_makeFilter_88 : decode cX6_makeFilter 88 = .ok (.aload_n 0, 1) := by decide +kernel
theorem dX6_makeFilter_89 : decode cX6_makeFilter 89 = .ok (.getfield 35, 3) := by decide +kernel
theorem dX6_makeFilter_92 : decode cX6_makeFilter 92 = .ok (.iconst 4, 1) := by decide +kernel
theorem dX6_makeFilter_93 : decode cX6_makeFilter 93 = .ok (.iload_n 1, 1) := by decide +kernel
theorem dX6_makeFilter_94 : decode cX6_makeFilter 94 = .ok (.imul, 1) := by decide +kernel
theorem dX6_makeFilter_95 : decode cX6_makeFilter 95 = .ok (.iload 6, 2) := by decide +kernel
theorem dX6_makeFilter_97 : decode cX6_makeFilter 97 = .ok (.iadd, 1) := by decide +kernel
theorem dX6_makeFilter_98 : decode cX6_makeFilter 98 = .ok (.iaload, 1) := by decide +kernel
theorem dX6_makeFilter_99 : decode cX6_makeFilter 99 = .ok (.i2l, 1) := by decide +kernel
theorem dX6_makeFilter_100 : decode cX6_makeFilter 100 = .ok (.aload_n 0, 1) := by decide +kernel
theorem dX6_makeFilter_101 : decode cX6_makeFilter 101 = .ok (.getfield 41, 3) := by decide +kernel
theorem dX6_makeFilter_104 : decode cX6_makeFilter 104 = .ok (.bipush 6, 2) := by decide +kernel
theorem dX6_makeFilter_106 : decode cX6_makeFilter 106 = .ok (.aload_n 0, 1) := by decide +kernel
theorem dX6_makeFilter_107 : decode cX6_makeFilter 107 = .ok (.getfield 87, 3) := by decide +kernel
theorem dX6_makeFilter_110 : decode cX6_makeFilter 110 = .ok (.imul, 1) := by decide +kernel
theorem dX6_makeFilter_111 : decode cX6_makeFilter 111 = .ok (.iload_n 3, 1) := by decide +kernel
theorem dX6_makeFilter_112 : decode cX6_makeFilter 112 = .ok (.iadd, 1) := by decide +kernel
theorem dX6_makeFilter_113 : decode cX6_makeFilter 113 = .ok (.iload 6, 2) := by decide +kernel
theorem dX6_makeFilter_115 : decode cX6_makeFilter 115 = .ok (.isub, 1) := by decide +kernel
theorem dX6_makeFilter_116 : decode cX6_makeFilter 116 = .ok (.laload, 1) := by decide +kernel
theorem dX6_makeFilter_117 : decode cX6_makeFilter 117 = .ok (.lmul, 1) := by decide +kernel
theorem dX6_makeFilter_118 : decode cX6_makeFilter 118 = .ok (.ladd, 1) := by decide +kernel
theorem dX6_makeFilter_119 : decode cX6_makeFilter 119 = .ok (.lstore 4, 2) := by decide +kernel
theorem dX6_makeFilter_121 : decode cX6_makeFilter 121 = .ok (.iinc 6 1, 3) := by decide +kernel
theorem dX6_makeFilter_124 : decode cX6_makeFilter 124 = .ok (.goto (-50), 3) := by decide +kernel
theorem dX6_makeFilter_127 : decode cX6_makeFilter 127 = .ok (.aload_n 0, 1) := by decide +kernel
theorem dX6_makeFilter_128 : decode cX6_makeFilter 128 = .ok (.getfield 41, 3) := by decide +kernel
theorem dX6_makeFilter_131 : decode cX6_makeFilter 131 = .ok (.bipush 6, 2) := by decide +kernel
theorem dX6_makeFilter_133 : decode cX6_makeFilter 133 = .ok (.aload_n 0, 1) := by decide +kernel
theorem dX6_makeFilter_134 : decode cX6_makeFilter 134 = .ok (.getfield 87, 3) := by decide +kernel
theorem dX6_makeFilter_137 : decode cX6_makeFilter 137 = .ok (.imul, 1) := by decide +kernel
theorem dX6_makeFilter_138 : decode cX6_makeFilter 138 = .ok (.iload_n 3, 1) := by decide +kernel
theorem dX6_makeFilter_139 : decode cX6_makeFilter 139 = .ok (.iadd, 1) := by decide +kernel
theorem dX6_makeFilter_140 : decode cX6_makeFilter 140 = .ok (.iload_n 3, 1) := by decide +kernel
theorem dX6_makeFilter_141 : decode cX6_makeFilter 141 = .ok (.ifCond .ne 8, 3) := by decide +kernel
theorem dX6_makeFilter_144 : decode cX6_makeFilter 144 = .ok (.iload_n 2, 1) := by decide +kernel
theorem dX6_makeFilter_145 : decode cX6_makeFilter 145 = .ok (.i2l, 1) := by decide +kernel
theorem dX6_makeFilter_146 : decode cX6_makeFilter 146 = .ok (.goto 9, 3) := by decide +kernel
theorem dX6_makeFilter_149 : decode cX6_makeFilter 149 = .ok (.iload_n 2, 1) := by decide +kernel
theorem dX6_makeFilter_150 : decode cX6_makeFilter 150 = .ok (.ineg, 1) := by decide +kernel
theorem dX6_makeFilter_151 : decode cX6_makeFilter 151 = .ok (.i2l, 1) := by decide +kernel
theorem dX6_makeFilter_152 : decode cX6_makeFilter 152 = .ok (.lload 4, 2) := by decide +kernel
theorem dX6_makeFilter_154 : decode cX6_makeFilter 154 = .ok (.lmul, 1) := by decide +kernel
theorem dX6_makeFilter_155 : decode cX6_makeFilter 155 = .ok (.lastore, 1) := by decide +kernel
theorem dX6_makeFilter_156 : decode cX6_makeFilter 156 = .ok (.iinc 3 1, 3) := by decide +kernel
theorem dX6_makeFilter_159 : decode cX6_makeFilter 159 = .ok (.goto (-97), 3) := by decide +kernel
theorem dX6_makeFilter_162 : decode cX6_makeFilter 162 = .ok (.aload_n 0, 1) := by decide +kernel
theorem dX6_makeFilter_163 : decode cX6_makeFilter 163 = .ok (.dup, 1) := by decide +kernel
theorem dX6_makeFilter_164 : decode cX6_makeFilter 164 = .ok (.getfield 87, 3) := by decide +kernel
theorem dX6_makeFilter_167 : decode cX6_makeFilter 167 = .ok (.iconst 1, 1) := by decide +kernel
theorem dX6_makeFilter_168 : decode cX6_makeFilter 168 = .ok (.iadd, 1) := by decide +kernel
theorem dX6_makeFilter_169 : decode cX6_makeFilter 169 = .ok (.putfield 87, 3) := by decide +kernel
theorem dX6_makeFilter_172 : decode cX6_makeFilter 172 = .ok (.aload_n 0, 1) := by decide +kernel
theorem dX6_makeFilter_173 : decode cX6_makeFilter 173 = .ok (.getfield 87, 3) := by decide +kernel
theorem dX6_makeFilter_176 : decode cX6_makeFilter 176 = .ok (.iconst 1, 1) := by decide +kernel
theorem dX6_makeFilter_177 : decode cX6_makeFilter 177 = .ok (.isub, 1) := by decide +kernel
theorem dX6_makeFilter_178 : decode cX6_makeFilter 178 = .ok (.ireturn, 1) := by decide +kernel
theorem dX6_answerOf_0 : decode cX6_answerOf 0 = .ok (.aload_n 0, 1) := by decide +kernel
theorem dX6_answerOf_1 : decode cX6_answerOf 1 = .ok (.iload_n 1, 1) := by decide +kernel
theorem dX6_answerOf_2 : decode cX6_answerOf 2 = .ok (.invokevirtual 122, 3) := by decide +kernel
theorem dX6_answerOf_5 : decode cX6_answerOf 5 = .ok (.ifCond .eq 7, 3) := by decide +kernel
theorem dX6_answerOf_8 : decode cX6_answerOf 8 = .ok (.iconst 0, 1) := by decide +kernel
theorem dX6_answerOf_9 : decode cX6_answerOf 9 = .ok (.goto 9, 3) := by decide +kernel
theorem dX6_answerOf_12 : decode cX6_answerOf 12 = .ok (.aload_n 0, 1) := by decide +kernel
theorem dX6_answerOf_13 : decode cX6_answerOf 13 = .ok (.getfield 38, 3) := by decide +kernel
theorem dX6_answerOf_16 : decode cX6_answerOf 16 = .ok (.iload_n 1, 1) := by decide +kernel
theorem dX6_answerOf_17 : decode cX6_answerOf 17 = .ok (.iaload, 1) := by decide +kernel
theorem dX6_answerOf_18 : decode cX6_answerOf 18 = .ok (.ireturn, 1) := by decide +kernel
theorem dX6_tap_0 : decode cX6_tap 0 = .ok (.aload_n 0, 1) := by decide +kernel
theorem dX6_tap_1 : decode cX6_tap 1 = .ok (.iload_n 1, 1) := by decide +kernel
theorem dX6_tap_2 : decode cX6_tap 2 = .ok (.invokevirtual 122, 3) := by decide +kernel
theorem dX6_tap_5 : decode cX6_tap 5 = .ok (.ifCond .eq 5, 3) := by decide +kernel
theorem dX6_tap_8 : decode cX6_tap 8 = .ok (.lconst 0, 1) := by decide +kernel
theorem dX6_tap_9 : decode cX6_tap 9 = .ok (.lreturn, 1) := by decide +kernel
theorem dX6_tap_10 : decode cX6_tap 10 = .ok (.aload_n 0, 1) := by decide +kernel
theorem dX6_tap_11 : decode cX6_tap 11 = .ok (.iload_n 2, 1) := by decide +kernel
theorem dX6_tap_12 : decode cX6_tap 12 = .ok (.iconst 0, 1) := by decide +kernel
theorem dX6_tap_13 : decode cX6_tap 13 = .ok (.iconst 5, 1) := by decide +kernel
theorem dX6_tap_14 : decode cX6_tap 14 = .ok (.invokestatic 73, 3) := by decide +kernel
theorem dX6_tap_17 : decode cX6_tap 17 = .ok (.ifCond .eq 7, 3) := by decide +kernel
theorem dX6_tap_20 : decode cX6_tap 20 = .ok (.iconst 0, 1) := by decide +kernel
theorem dX6_tap_21 : decode cX6_tap 21 = .ok (.goto 4, 3) := by decide +kernel
theorem dX6_tap_24 : decode cX6_tap 24 = .ok (.iconst 2, 1) := by decide +kernel
theorem dX6_tap_25 : decode cX6_tap 25 = .ok (.invokevirtual 81, 3) := by decide +kernel
theorem dX6_tap_28 : decode cX6_tap 28 = .ok (.ifCond .eq 7, 3) := by decide +kernel
theorem dX6_tap_31 : decode cX6_tap 31 = .ok (.lconst 0, 1) := by decide +kernel
theorem dX6_tap_32 : decode cX6_tap 32 = .ok (.goto 14, 3) := by decide +kernel
theorem dX6_tap_35 : decode cX6_tap 35 = .ok (.aload_n 0, 1) := by decide +kernel
theorem dX6_tap_36 : decode cX6_tap 36 = .ok (.getfield 41, 3) := by decide +kernel
theorem dX6_tap_39 : decode cX6_tap 39 = .ok (.bipush 6, 2) := by decide +kernel
theorem dX6_tap_41 : decode cX6_tap 41 = .ok (.iload_n 1, 1) := by decide +kernel
theorem dX6_tap_42 : decode cX6_tap 42 = .ok (.imul, 1) := by decide +kernel
theorem dX6_tap_43 : decode cX6_tap 43 = .ok (.iload_n 2, 1) := by decide +kernel
theorem dX6_tap_44 : decode cX6_tap 44 = .ok (.iadd, 1) := by decide +kernel
theorem dX6_tap_45 : decode cX6_tap 45 = .ok (.laload, 1) := by decide +kernel
theorem dX6_tap_46 : decode cX6_tap 46 = .ok (.lreturn, 1) := by decide +kernel
theorem dX6_barOf_0 : decode cX6_barOf 0 = .ok (.aload_n 0, 1) := by decide +kernel
theorem dX6_barOf_1 : decode cX6_barOf 1 = .ok (.getfield 38, 3) := by decide +kernel
theorem dX6_barOf_4 : decode cX6_barOf 4 = .ok (.iload_n 1, 1) := by decide +kernel
theorem dX6_barOf_5 : decode cX6_barOf 5 = .ok (.iaload, 1) := by decide +kernel
theorem dX6_barOf_6 : decode cX6_barOf 6 = .ok (.istore_n 2, 1) := by decide +kernel
theorem dX6_barOf_7 : decode cX6_barOf 7 = .ok (.aload_n 0, 1) := by decide +kernel
theorem dX6_barOf_8 : decode cX6_barOf 8 = .ok (.getfield 20, 3) := by decide +kernel
theorem dX6_barOf_11 : decode cX6_barOf 11 = .ok (.iload_n 2, 1) := by decide +kernel
theorem dX6_barOf_12 : decode cX6_barOf 12 = .ok (.iaload, 1) := by decide +kernel
theorem dX6_barOf_13 : decode cX6_barOf 13 = .ok (.istore_n 3, 1) := by decide +kernel
theorem dX6_barOf_14 : decode cX6_barOf 14 = .ok (.aload_n 0, 1) := by decide +kernel
theorem dX6_barOf_15 : decode cX6_barOf 15 = .ok (.getfield 13, 3) := by decide +kernel
theorem dX6_barOf_18 : decode cX6_barOf 18 = .ok (.iload_n 3, 1) := by decide +kernel
theorem dX6_barOf_19 : decode cX6_barOf 19 = .ok (.iaload, 1) := by decide +kernel
theorem dX6_barOf_20 : decode cX6_barOf 20 = .ok (.aload_n 0, 1) := by decide +kernel
theorem dX6_barOf_21 : decode cX6_barOf 21 = .ok (.getfield 23, 3) := by decide +kernel
theorem dX6_barOf_24 : decode cX6_barOf 24 = .ok (.iload_n 2, 1) := by decide +kernel
theorem dX6_barOf_25 : decode cX6_barOf 25 = .ok (.iaload, 1) := by decide +kernel
theorem dX6_barOf_26 : decode cX6_barOf 26 = .ok (.if_icmp .eq 6, 3) := by decide +kernel
theorem dX6_barOf_29 : decode cX6_barOf 29 = .ok (.bipush 115, 2) := by decide +kernel
theorem dX6_barOf_31 : decode cX6_barOf 31 = .ok (.ireturn, 1) := by decide +kernel
theorem dX6_barOf_32 : decode cX6_barOf 32 = .ok (.aload_n 0, 1) := by decide +kernel
theorem dX6_barOf_33 : decode cX6_barOf 33 = .ok (.iload_n 3, 1) := by decide +kernel
theorem dX6_barOf_34 : decode cX6_barOf 34 = .ok (.aload_n 0, 1) := by decide +kernel
theorem dX6_barOf_35 : decode cX6_barOf 35 = .ok (.getfield 26, 3) := by decide +kernel
theorem dX6_barOf_38 : decode cX6_barOf 38 = .ok (.iload_n 2, 1) := by decide +kernel
theorem dX6_barOf_39 : decode cX6_barOf 39 = .ok (.iaload, 1) := by decide +kernel
theorem dX6_barOf_40 : decode cX6_barOf 40 = .ok (.aload_n 0, 1) := by decide +kernel
theorem dX6_barOf_41 : decode cX6_barOf 41 = .ok (.getfield 23, 3) := by decide +kernel
theorem dX6_barOf_44 : decode cX6_barOf 44 = .ok (.iload_n 2, 1) := by decide +kernel
theorem dX6_barOf_45 : decode cX6_barOf 45 = .ok (.iaload, 1) := by decide +kernel
theorem dX6_barOf_46 : decode cX6_barOf 46 = .ok (.invokevirtual 118, 3) := by decide +kernel
theorem dX6_barOf_49 : decode cX6_barOf 49 = .ok (.iload_n 2, 1) := by decide +kernel
theorem dX6_barOf_50 : decode cX6_barOf 50 = .ok (.if_icmp .eq 8, 3) := by decide +kernel
theorem dX6_barOf_53 : decode cX6_barOf 53 = .ok (.bipush 108, 2) := by decide +kernel
theorem dX6_barOf_55 : decode cX6_barOf 55 = .ok (.goto 22, 3) := by decide +kernel
theorem dX6_barOf_58 : decode cX6_barOf 58 = .ok (.aload_n 0, 1) := by decide +kernel
theorem dX6_barOf_59 : decode cX6_barOf 59 = .ok (.iload_n 2, 1) := by decide +kernel
theorem dX6_barOf_60 : decode cX6_barOf 60 = .ok (.invokevirtual 114, 3) := by decide +kernel
theorem dX6_barOf_63 : decode cX6_barOf 63 = .ok (.aload_n 0, 1) := by decide +kernel
theorem dX6_barOf_64 : decode cX6_barOf 64 = .ok (.getfield 7, 3) := by decide +kernel
theorem dX6_barOf_67 : decode cX6_barOf 67 = .ok (.if_icmp .le 8, 3) := by decide +kernel
theorem dX6_barOf_70 : decode cX6_barOf 70 = .ok (.bipush 111, 2) := by decide +kernel
theorem dX6_barOf_72 : decode cX6_barOf 72 = .ok (.goto 5, 3) := by decide +kernel
theorem dX6_barOf_75 : decode cX6_barOf 75 = .ok (.bipush 45, 2) := by decide +kernel
theorem dX6_barOf_77 : decode cX6_barOf 77 = .ok (.ireturn, 1) := by decide +kernel
theorem dX6_bar_0 : decode cX6_bar 0 = .ok (.aload_n 0, 1) := by decide +kernel
theorem dX6_bar_1 : decode cX6_bar 1 = .ok (.iload_n 1, 1) := by decide +kernel
theorem dX6_bar_2 : decode cX6_bar 2 = .ok (.invokevirtual 122, 3) := by decide +kernel
theorem dX6_bar_5 : decode cX6_bar 5 = .ok (.ifCond .eq 7, 3) := by decide +kernel
theorem dX6_bar_8 : decode cX6_bar 8 = .ok (.iconst 0, 1) := by decide +kernel
theorem dX6_bar_9 : decode cX6_bar 9 = .ok (.goto 8, 3) := by decide +kernel
theorem dX6_bar_12 : decode cX6_bar 12 = .ok (.aload_n 0, 1) := by decide +kernel
theorem dX6_bar_13 : decode cX6_bar 13 = .ok (.iload_n 1, 1) := by decide +kernel
theorem dX6_bar_14 : decode cX6_bar 14 = .ok (.invokevirtual 125, 3) := by decide +kernel
theorem dX6_bar_17 : decode cX6_bar 17 = .ok (.ireturn, 1) := by decide +kernel
theorem dX6_use_0 : decode cX6_use 0 = .ok (.aload_n 0, 1) := by decide +kernel
theorem dX6_use_1 : decode cX6_use 1 = .ok (.iload_n 1, 1) := by decide +kernel
theorem dX6_use_2 : decode cX6_use 2 = .ok (.iconst 0, 1) := by decide +kernel
theorem dX6_use_3 : decode cX6_use 3 = .ok (.aload_n 0, 1) := by decide +kernel
theorem dX6_use_4 : decode cX6_use 4 = .ok (.getfield 87, 3) := by decide +kernel
theorem dX6_use_7 : decode cX6_use 7 = .ok (.iconst 1, 1) := by decide +kernel
theorem dX6_use_8 : decode cX6_use 8 = .ok (.isub, 1) := by decide +kernel
theorem dX6_use_9 : decode cX6_use 9 = .ok (.invokestatic 73, 3) := by decide +kernel
theorem dX6_use_12 : decode cX6_use 12 = .ok (.ifCond .ne 7, 3) := by decide +kernel
theorem dX6_use_15 : decode cX6_use 15 = .ok (.iconst 1, 1) := by decide +kernel
theorem dX6_use_16 : decode cX6_use 16 = .ok (.goto 35, 3) := by decide +kernel
theorem dX6_use_19 : decode cX6_use 19 = .ok (.iload_n 2, 1) := by decide +kernel
theorem dX6_use_20 : decode cX6_use 20 = .ok (.sipush (-999), 3) := by decide +kernel
theorem dX6_use_23 : decode cX6_use 23 = .ok (.sipush 999, 3) := by decide +kernel
theorem dX6_use_26 : decode cX6_use 26 = .ok (.invokestatic 73, 3) := by decide +kernel
theorem dX6_use_29 : decode cX6_use 29 = .ok (.ifCond .ne 7, 3) := by decide +kernel
theorem dX6_use_32 : decode cX6_use 32 = .ok (.iconst 2, 1) := by decide +kernel
theorem dX6_use_33 : decode cX6_use 33 = .ok (.goto 18, 3) := by decide +kernel
theorem dX6_use_36 : decode cX6_use 36 = .ok (.aload_n 0, 1) := by decide +kernel
theorem dX6_use_37 : decode cX6_use 37 = .ok (.iload_n 1, 1) := by decide +kernel
theorem dX6_use_38 : decode cX6_use 38 = .ok (.invokevirtual 125, 3) := by decide +kernel
theorem dX6_use_41 : decode cX6_use 41 = .ok (.bipush 45, 2) := by decide +kernel
theorem dX6_use_43 : decode cX6_use 43 = .ok (.if_icmp .ne 7, 3) := by decide +kernel
theorem dX6_use_46 : decode cX6_use 46 = .ok (.iconst 0, 1) := by decide +kernel
theorem dX6_use_47 : decode cX6_use 47 = .ok (.goto 4, 3) := by decide +kernel
theorem dX6_use_50 : decode cX6_use 50 = .ok (.iconst 3, 1) := by decide +kernel
theorem dX6_use_51 : decode cX6_use 51 = .ok (.invokevirtual 81, 3) := by decide +kernel
theorem dX6_use_54 : decode cX6_use 54 = .ok (.ifCond .eq 5, 3) := by decide +kernel
theorem dX6_use_57 : decode cX6_use 57 = .ok (.lconst 0, 1) := by decide +kernel
theorem dX6_use_58 : decode cX6_use 58 = .ok (.lreturn, 1) := by decide +kernel
theorem dX6_use_59 : decode cX6_use 59 = .ok (.iconst 5, 1) := by decide +kernel
theorem dX6_use_60 : decode cX6_use 60 = .ok (.istore_n 3, 1) := by decide +kernel
theorem dX6_use_61 : decode cX6_use 61 = .ok (.iload_n 3, 1) := by decide +kernel
theorem dX6_use_62 : decode cX6_use 62 = .ok (.ifCond .le 33, 3) := by decide +kernel
theorem dX6_use_65 : decode cX6_use 65 = .ok (.aload_n 0, 1) := by decide +kernel
theorem dX6_use_66 : decode cX6_use 66 = .ok (.getfield 45, 3) := by decide +kernel
theorem dX6_use_69 : decode cX6_use 69 = .ok (.bipush 6, 2) := by decide +kernel
theorem dX6_use_71 : decode cX6_use 71 = .ok (.iload_n 1, 1) := by decide +kernel
theorem dX6_use_72 : decode cX6_use 72 = .ok (.imul, 1) := by decide +kernel
theorem dX6_use_73 : decode cX6_use 73 = .ok (.iload_n 3, 1) := by decide +kernel
theorem dX6_use_74 : decode cX6_use 74 = .ok (.iadd, 1) := by decide +kernel
theorem dX6_use_75 : decode cX6_use 75 = .ok (.aload_n 0, 1) := by decide +kernel
theorem dX6_use_76 : decode cX6_use 76 = .ok (.getfield 45, 3) := by decide +kernel
theorem dX6_use_79 : decode cX6_use 79 = .ok (.bipush 6, 2) := by decide +kernel
theorem dX6_use_81 : decode cX6_use 81 = .ok (.iload_n 1, 1) := by decide +kernel
theorem dX6_use_82 : decode cX6_use 82 = .ok (.imul, 1) := by decide +kernel
theorem dX6_use_83 : decode cX6_use 83 = .ok (.iload_n 3, 1) := by decide +kernel
theorem dX6_use_84 : decode cX6_use 84 = .ok (.iadd, 1) := by decide +kernel
theorem dX6_use_85 : decode cX6_use 85 = .ok (.iconst 1, 1) := by decide +kernel
theorem dX6_use_86 : decode cX6_use 86 = .ok (.isub, 1) := by decide +kernel
theorem dX6_use_87 : decode cX6_use 87 = .ok (.iaload, 1) := by decide +kernel
theorem dX6_use_88 : decode cX6_use 88 = .ok (.iastore, 1) := by decide +kernel
theorem dX6_use_89 : decode cX6_use 89 = .ok (.iinc 3 (-1), 3) := by decide +kernel
theorem dX6_use_92 : decode cX6_use 92 = .ok (.goto (-31), 3) := by decide +kernel
theorem dX6_use_95 : decode cX6_use 95 = .ok (.aload_n 0, 1) := by decide +kernel
theorem dX6_use_96 : decode cX6_use 96 = .ok (.getfield 45, 3) := by decide +kernel
theorem dX6_use_99 : decode cX6_use 99 = .ok (.bipush 6, 2) := by decide +kernel
theorem dX6_use_101 : decode cX6_use 101 = .ok (.iload_n 1, 1) := by decide +kernel
theorem dX6_use_102 : decode cX6_use 102 = .ok (.imul, 1) := by decide +kernel
theorem dX6_use_103 : decode cX6_use 103 = .ok (.iload_n 2, 1) := by decide +kernel
theorem dX6_use_104 : decode cX6_use 104 = .ok (.iastore, 1) := by decide +kernel
theorem dX6_use_105 : decode cX6_use 105 = .ok (.aload_n 0, 1) := by decide +kernel
theorem dX6_use_106 : decode cX6_use 106 = .ok (.getfield 48, 3) := by decide +kernel
theorem dX6_use_109 : decode cX6_use 109 = .ok (.iload_n 1, 1) := by decide +kernel
theorem dX6_use_110 : decode cX6_use 110 = .ok (.dup2, 1) := by decide +kernel
theorem dX6_use_111 : decode cX6_use 111 = .ok (.iaload, 1) := by decide +kernel
theorem dX6_use_112 : decode cX6_use 112 = .ok (.iconst 1, 1) := by decide +kernel
theorem dX6_use_113 : decode cX6_use 113 = .ok (.iadd, 1) := by decide +kernel
theorem dX6_use_114 : decode cX6_use 114 = .ok (.iastore, 1) := by decide +kernel
theorem dX6_use_115 : decode cX6_use 115 = .ok (.lconst 0, 1) := by decide +kernel
theorem dX6_use_116 : decode cX6_use 116 = .ok (.lstore_n 3, 1) := by decide +kernel
theorem dX6_use_117 : decode cX6_use 117 = .ok (.iconst 0, 1) := by decide +kernel
theorem dX6_use_118 : decode cX6_use 118 = .ok (.istore 5, 2) := by decide +kernel
theorem dX6_use_120 : decode cX6_use 120 = .ok (.iload 5, 2) := by decide +kernel
theorem dX6_use_122 : decode cX6_use 122 = .ok (.bipush 6, 2) := by decide +kernel
theorem dX6_use_124 : decode cX6_use 124 = .ok (.if_icmp .ge 38, 3) := by decide +kernel
theorem dX6_use_127 : decode cX6_use 127 = .ok (.lload_n 3, 1) := by decide +kernel
theorem dX6_use_128 : decode cX6_use 128 = .ok (.aload_n 0, 1) := by decide +kernel
theorem dX6_use_129 : decode cX6_use 129 = .ok (.getfield 41, 3) := by decide +kernel
theorem dX6_use_132 : decode cX6_use 132 = .ok (.bipush 6, 2) := by decide +kernel
theorem dX6_use_134 : decode cX6_use 134 = .ok (.iload_n 1, 1) := by decide +kernel
theorem dX6_use_135 : decode cX6_use 135 = .ok (.imul, 1) := by decide +kernel
theorem dX6_use_136 : decode cX6_use 136 = .ok (.iload 5, 2) := by decide +kernel
theorem dX6_use_138 : decode cX6_use 138 = .ok (.iadd, 1) := by decide +kernel
theorem dX6_use_139 : decode cX6_use 139 = .ok (.laload, 1) := by decide +kernel
theorem dX6_use_140 : decode cX6_use 140 = .ok (.aload_n 0, 1) := by decide +kernel
theorem dX6_use_141 : decode cX6_use 141 = .ok (.getfield 45, 3) := by decide +kernel
theorem dX6_use_144 : decode cX6_use 144 = .ok (.bipush 6, 2) := by decide +kernel
theorem dX6_use_146 : decode cX6_use 146 = .ok (.iload_n 1, 1) := by decide +kernel
theorem dX6_use_147 : decode cX6_use 147 = .ok (.imul, 1) := by decide +kernel
theorem dX6_use_148 : decode cX6_use 148 = .ok (.iload 5, 2) := by decide +kernel
theorem dX6_use_150 : decode cX6_use 150 = .ok (.iadd, 1) := by decide +kernel
theorem dX6_use_151 : decode cX6_use 151 = .ok (.iaload, 1) := by decide +kernel
theorem dX6_use_152 : decode cX6_use 152 = .ok (.i2l, 1) := by decide +kernel
theorem dX6_use_153 : decode cX6_use 153 = .ok (.lmul, 1) := by decide +kernel
theorem dX6_use_154 : decode cX6_use 154 = .ok (.ladd, 1) := by decide +kernel
theorem dX6_use_155 : decode cX6_use 155 = .ok (.lstore_n 3, 1) := by decide +kernel
theorem dX6_use_156 : decode cX6_use 156 = .ok (.iinc 5 1, 3) := by decide +kernel
theorem dX6_use_159 : decode cX6_use 159 = .ok (.goto (-39), 3) := by decide +kernel
theorem dX6_use_162 : decode cX6_use 162 = .ok (.lload_n 3, 1) := by decide +kernel
theorem dX6_use_163 : decode cX6_use 163 = .ok (.lreturn, 1) := by decide +kernel
theorem dX6_inputs_0 : decode cX6_inputs 0 = .ok (.aload_n 0, 1) := by decide +kernel
theorem dX6_inputs_1 : decode cX6_inputs 1 = .ok (.iload_n 1, 1) := by decide +kernel
theorem dX6_inputs_2 : decode cX6_inputs 2 = .ok (.invokevirtual 122, 3) := by decide +kernel
theorem dX6_inputs_5 : decode cX6_inputs 5 = .ok (.ifCond .eq 7, 3) := by decide +kernel
theorem dX6_inputs_8 : decode cX6_inputs 8 = .ok (.iconst 0, 1) := by decide +kernel
theorem dX6_inputs_9 : decode cX6_inputs 9 = .ok (.goto 9, 3) := by decide +kernel
theorem dX6_inputs_12 : decode cX6_inputs 12 = .ok (.aload_n 0, 1) := by decide +kernel
theorem dX6_inputs_13 : decode cX6_inputs 13 = .ok (.getfield 48, 3) := by decide +kernel
theorem dX6_inputs_16 : decode cX6_inputs 16 = .ok (.iload_n 1, 1) := by decide +kernel
theorem dX6_inputs_17 : decode cX6_inputs 17 = .ok (.iaload, 1) := by decide +kernel
theorem dX6_inputs_18 : decode cX6_inputs 18 = .ok (.ireturn, 1) := by decide +kernel
theorem dX6_productOf_0 : decode cX6_productOf 0 = .ok (.lconst 0, 1) := by decide +kernel
theorem dX6_productOf_1 : decode cX6_productOf 1 = .ok (.lstore 4, 2) := by decide +kernel
theorem dX6_productOf_3 : decode cX6_productOf 3 = .ok (.iconst 0, 1) := by decide +kernel
theorem dX6_productOf_4 : decode cX6_productOf 4 = .ok (.istore 6, 2) := by decide +kernel
theorem dX6_productOf_6 : decode cX6_productOf 6 = .ok (.iload 6, 2) := by decide +kernel
theorem dX6_productOf_8 : decode cX6_productOf 8 = .ok (.iconst 4, 1) := by decide +kernel
theorem dX6_productOf_9 : decode cX6_productOf 9 = .ok (.if_icmp .ge 47, 3) := by decide +kernel
theorem dX6_productOf_12 : decode cX6_productOf 12 = .ok (.iload 6, 2) := by decide +kernel
theorem dX6_productOf_14 : decode cX6_productOf 14 = .ok (.iload_n 3, 1) := by decide +kernel
theorem dX6_productOf_15 : decode cX6_productOf 15 = .ok (.if_icmp .gt 41, 3) := by decide +kernel
theorem dX6_productOf_18 : decode cX6_productOf 18 = .ok (.lload 4, 2) := by decide +kernel
theorem dX6_productOf_20 : decode cX6_productOf 20 = .ok (.aload_n 0, 1) := by decide +kernel
theorem dX6_productOf_21 : decode cX6_productOf 21 = .ok (.getfield 35, 3) := by decide +kernel
theorem dX6_productOf_24 : decode cX6_productOf 24 = .ok (.iconst 4, 1) := by decide +kernel
theorem dX6_productOf_25 : decode cX6_productOf 25 = .ok (.iload_n 2, 1) := by decide +kernel
theorem dX6_productOf_26 : decode cX6_productOf 26 = .ok (.imul, 1) := by decide +kernel
theorem dX6_productOf_27 : decode cX6_productOf 27 = .ok (.iload 6, 2) := by decide +kernel
theorem dX6_productOf_29 : decode cX6_productOf 29 = .ok (.iadd, 1) := by decide +kernel
theorem dX6_productOf_30 : decode cX6_productOf 30 = .ok (.iaload, 1) := by decide +kernel
theorem dX6_productOf_31 : decode cX6_productOf 31 = .ok (.i2l, 1) := by decide +kernel
theorem dX6_productOf_32 : decode cX6_productOf 32 = .ok (.aload_n 0, 1) := by decide +kernel
theorem dX6_productOf_33 : decode cX6_productOf 33 = .ok (.getfield 41, 3) := by decide +kernel
theorem dX6_productOf_36 : decode cX6_productOf 36 = .ok (.bipush 6, 2) := by decide +kernel
theorem dX6_productOf_38 : decode cX6_productOf 38 = .ok (.iload_n 1, 1) := by decide +kernel
theorem dX6_productOf_39 : decode cX6_productOf 39 = .ok (.imul, 1) := by decide +kernel
theorem dX6_productOf_40 : decode cX6_productOf 40 = .ok (.iload_n 3, 1) := by decide +kernel
theorem dX6_productOf_41 : decode cX6_productOf 41 = .ok (.iadd, 1) := by decide +kernel
theorem dX6_productOf_42 : decode cX6_productOf 42 = .ok (.iload 6, 2) := by decide +kernel
theorem dX6_productOf_44 : decode cX6_productOf 44 = .ok (.isub, 1) := by decide +kernel
theorem dX6_productOf_45 : decode cX6_productOf 45 = .ok (.laload, 1) := by decide +kernel
theorem dX6_productOf_46 : decode cX6_productOf 46 = .ok (.lmul, 1) := by decide +kernel
theorem dX6_productOf_47 : decode cX6_productOf 47 = .ok (.ladd, 1) := by decide +kernel
theorem dX6_productOf_48 : decode cX6_productOf 48 = .ok (.lstore 4, 2) := by decide +kernel
theorem dX6_productOf_50 : decode cX6_productOf 50 = .ok (.iinc 6 1, 3) := by decide +kernel
theorem dX6_productOf_53 : decode cX6_productOf 53 = .ok (.goto (-47), 3) := by decide +kernel
theorem dX6_productOf_56 : decode cX6_productOf 56 = .ok (.lload 4, 2) := by decide +kernel
theorem dX6_productOf_58 : decode cX6_productOf 58 = .ok (.lreturn, 1) := by decide +kernel
theorem dX6_failsPair_0 : decode cX6_failsPair 0 = .ok (.aload_n 0, 1) := by decide +kernel
theorem dX6_failsPair_1 : decode cX6_failsPair 1 = .ok (.iload_n 1, 1) := by decide +kernel
theorem dX6_failsPair_2 : decode cX6_failsPair 2 = .ok (.iconst 0, 1) := by decide +kernel
theorem dX6_failsPair_3 : decode cX6_failsPair 3 = .ok (.aload_n 0, 1) := by decide +kernel
theorem dX6_failsPair_4 : decode cX6_failsPair 4 = .ok (.getfield 87, 3) := by decide +kernel
theorem dX6_failsPair_7 : decode cX6_failsPair 7 = .ok (.iconst 1, 1) := by decide +kernel
theorem dX6_failsPair_8 : decode cX6_failsPair 8 = .ok (.isub, 1) := by decide +kernel
theorem dX6_failsPair_9 : decode cX6_failsPair 9 = .ok (.invokestatic 73, 3) := by decide +kernel
theorem dX6_failsPair_12 : decode cX6_failsPair 12 = .ok (.ifCond .eq 21, 3) := by decide +kernel
theorem dX6_failsPair_15 : decode cX6_failsPair 15 = .ok (.iload_n 2, 1) := by decide +kernel
theorem dX6_failsPair_16 : decode cX6_failsPair 16 = .ok (.iconst 0, 1) := by decide +kernel
theorem dX6_failsPair_17 : decode cX6_failsPair 17 = .ok (.aload_n 0, 1) := by decide +kernel
theorem dX6_failsPair_18 : decode cX6_failsPair 18 = .ok (.getfield 84, 3) := by decide +kernel
theorem dX6_failsPair_21 : decode cX6_failsPair 21 = .ok (.iconst 1, 1) := by decide +kernel
theorem dX6_failsPair_22 : decode cX6_failsPair 22 = .ok (.isub, 1) := by decide +kernel
theorem dX6_failsPair_23 : decode cX6_failsPair 23 = .ok (.invokestatic 73, 3) := by decide +kernel
theorem dX6_failsPair_26 : decode cX6_failsPair 26 = .ok (.ifCond .eq 7, 3) := by decide +kernel
theorem dX6_failsPair_29 : decode cX6_failsPair 29 = .ok (.iconst 0, 1) := by decide +kernel
theorem dX6_failsPair_30 : decode cX6_failsPair 30 = .ok (.goto 4, 3) := by decide +kernel
theorem dX6_failsPair_33 : decode cX6_failsPair 33 = .ok (.iconst 1, 1) := by decide +kernel
theorem dX6_failsPair_34 : decode cX6_failsPair 34 = .ok (.invokevirtual 81, 3) := by decide +kernel
theorem dX6_failsPair_37 : decode cX6_failsPair 37 = .ok (.ireturn, 1) := by decide +kernel
theorem dX6_product_0 : decode cX6_product 0 = .ok (.aload_n 0, 1) := by decide +kernel
theorem dX6_product_1 : decode cX6_product 1 = .ok (.iload_n 1, 1) := by decide +kernel
theorem dX6_product_2 : decode cX6_product 2 = .ok (.iload_n 2, 1) := by decide +kernel
theorem dX6_product_3 : decode cX6_product 3 = .ok (.invokevirtual 129, 3) := by decide +kernel
theorem dX6_product_6 : decode cX6_product 6 = .ok (.ifCond .eq 5, 3) := by decide +kernel
theorem dX6_product_9 : decode cX6_product 9 = .ok (.lconst 0, 1) := by decide +kernel
theorem dX6_product_10 : decode cX6_product 10 = .ok (.lreturn, 1) := by decide +kernel
theorem dX6_product_11 : decode cX6_product 11 = .ok (.aload_n 0, 1) := by decide +kernel
theorem dX6_product_12 : decode cX6_product 12 = .ok (.iload_n 3, 1) := by decide +kernel
theorem dX6_product_13 : decode cX6_product 13 = .ok (.iconst 0, 1) := by decide +kernel
theorem dX6_product_14 : decode cX6_product 14 = .ok (.iconst 5, 1) := by decide +kernel
theorem dX6_product_15 : decode cX6_product 15 = .ok (.invokestatic 73, 3) := by decide +kernel
theorem dX6_product_18 : decode cX6_product 18 = .ok (.ifCond .eq 7, 3) := by decide +kernel
theorem dX6_product_21 : decode cX6_product 21 = .ok (.iconst 0, 1) := by decide +kernel
theorem dX6_product_22 : decode cX6_product 22 = .ok (.goto 4, 3) := by decide +kernel
theorem dX6_product_25 : decode cX6_product 25 = .ok (.iconst 2, 1) := by decide +kernel
theorem dX6_product_26 : decode cX6_product 26 = .ok (.invokevirtual 81, 3) := by decide +kernel
theorem dX6_product_29 : decode cX6_product 29 = .ok (.ifCond .eq 7, 3) := by decide +kernel
theorem dX6_product_32 : decode cX6_product 32 = .ok (.lconst 0, 1) := by decide +kernel
theorem dX6_product_33 : decode cX6_product 33 = .ok (.goto 10, 3) := by decide +kernel
theorem dX6_product_36 : decode cX6_product 36 = .ok (.aload_n 0, 1) := by decide +kernel
theorem dX6_product_37 : decode cX6_product 37 = .ok (.iload_n 1, 1) := by decide +kernel
theorem dX6_product_38 : decode cX6_product 38 = .ok (.iload_n 2, 1) := by decide +kernel
theorem dX6_product_39 : decode cX6_product 39 = .ok (.iload_n 3, 1) := by decide +kernel
theorem dX6_product_40 : decode cX6_product 40 = .ok (.invokevirtual 132, 3) := by decide +kernel
theorem dX6_product_43 : decode cX6_product 43 = .ok (.lreturn, 1) := by decide +kernel
theorem dX6_rightOf_0 : decode cX6_rightOf 0 = .ok (.iconst 0, 1) := by decide +kernel
theorem dX6_rightOf_1 : decode cX6_rightOf 1 = .ok (.istore_n 3, 1) := by decide +kernel
theorem dX6_rightOf_2 : decode cX6_rightOf 2 = .ok (.iload_n 3, 1) := by decide +kernel
theorem dX6_rightOf_3 : decode cX6_rightOf 3 = .ok (.bipush 6, 2) := by decide +kernel
theorem dX6_rightOf_5 : decode cX6_rightOf 5 = .ok (.if_icmp .ge 29, 3) := by decide +kernel
theorem dX6_rightOf_8 : decode cX6_rightOf 8 = .ok (.aload_n 0, 1) := by decide +kernel
theorem dX6_rightOf_9 : decode cX6_rightOf 9 = .ok (.iload_n 1, 1) := by decide +kernel
theorem dX6_rightOf_10 : decode cX6_rightOf 10 = .ok (.iload_n 2, 1) := by decide +kernel
theorem dX6_rightOf_11 : decode cX6_rightOf 11 = .ok (.iload_n 3, 1) := by decide +kernel
theorem dX6_rightOf_12 : decode cX6_rightOf 12 = .ok (.invokevirtual 132, 3) := by decide +kernel
theorem dX6_rightOf_15 : decode cX6_rightOf 15 = .ok (.iload_n 3, 1) := by decide +kernel
theorem dX6_rightOf_16 : decode cX6_rightOf 16 = .ok (.ifCond .ne 7, 3) := by decide +kernel
theorem dX6_rightOf_19 : decode cX6_rightOf 19 = .ok (.lconst 1, 1) := by decide +kernel
theorem dX6_rightOf_20 : decode cX6_rightOf 20 = .ok (.goto 4, 3) := by decide +kernel
theorem dX6_rightOf_23 : decode cX6_rightOf 23 = .ok (.lconst 0, 1) := by decide +kernel
theorem dX6_rightOf_24 : decode cX6_rightOf 24 = .ok (.lcmp, 1) := by decide +kernel
theorem dX6_rightOf_25 : decode cX6_rightOf 25 = .ok (.ifCond .ne 9, 3) := by decide +kernel
theorem dX6_rightOf_28 : decode cX6_rightOf 28 = .ok (.iinc 3 1, 3) := by decide +kernel
theorem dX6_rightOf_31 : decode cX6_rightOf 31 = .ok (.goto (-29), 3) := by decide +kernel
theorem dX6_rightOf_34 : decode cX6_rightOf 34 = .ok (.iload_n 3, 1) := by decide +kernel
theorem dX6_rightOf_35 : decode cX6_rightOf 35 = .ok (.ireturn, 1) := by decide +kernel
theorem dX6_rightSamples_0 : decode cX6_rightSamples 0 = .ok (.aload_n 0, 1) := by decide +kernel
theorem dX6_rightSamples_1 : decode cX6_rightSamples 1 = .ok (.iload_n 1, 1) := by decide +kernel
theorem dX6_rightSamples_2 : decode cX6_rightSamples 2 = .ok (.iload_n 2, 1) := by decide +kernel
theorem dX6_rightSamples_3 : decode cX6_rightSamples 3 = .ok (.invokevirtual 129, 3) := by decide +kernel
theorem dX6_rightSamples_6 : decode cX6_rightSamples 6 = .ok (.ifCond .eq 7, 3) := by decide +kernel
theorem dX6_rightSamples_9 : decode cX6_rightSamples 9 = .ok (.iconst 0, 1) := by decide +kernel
theorem dX6_rightSamples_10 : decode cX6_rightSamples 10 = .ok (.goto 9, 3) := by decide +kernel
theorem dX6_rightSamples_13 : decode cX6_rightSamples 13 = .ok (.aload_n 0, 1) := by decide +kernel
theorem dX6_rightSamples_14 : decode cX6_rightSamples 14 = .ok (.iload_n 1, 1) := by decide +kernel
theorem dX6_rightSamples_15 : decode cX6_rightSamples 15 = .ok (.iload_n 2, 1) := by decide +kernel
theorem dX6_rightSamples_16 : decode cX6_rightSamples 16 = .ok (.invokevirtual 136, 3) := by decide +kernel
theorem dX6_rightSamples_19 : decode cX6_rightSamples 19 = .ok (.ireturn, 1) := by decide +kernel
theorem dX6_isChecked_0 : decode cX6_isChecked 0 = .ok (.aload_n 0, 1) := by decide +kernel
theorem dX6_isChecked_1 : decode cX6_isChecked 1 = .ok (.iload_n 1, 1) := by decide +kernel
theorem dX6_isChecked_2 : decode cX6_isChecked 2 = .ok (.invokevirtual 122, 3) := by decide +kernel
theorem dX6_isChecked_5 : decode cX6_isChecked 5 = .ok (.ifCond .ne 23, 3) := by decide +kernel
theorem dX6_isChecked_8 : decode cX6_isChecked 8 = .ok (.aload_n 0, 1) := by decide +kernel
theorem dX6_isChecked_9 : decode cX6_isChecked 9 = .ok (.iload_n 1, 1) := by decide +kernel
theorem dX6_isChecked_10 : decode cX6_isChecked 10 = .ok (.aload_n 0, 1) := by decide +kernel
theorem dX6_isChecked_11 : decode cX6_isChecked 11 = .ok (.getfield 38, 3) := by decide +kernel
theorem dX6_isChecked_14 : decode cX6_isChecked 14 = .ok (.iload_n 1, 1) := by decide +kernel
theorem dX6_isChecked_15 : decode cX6_isChecked 15 = .ok (.iaload, 1) := by decide +kernel
theorem dX6_isChecked_16 : decode cX6_isChecked 16 = .ok (.invokevirtual 136, 3) := by decide +kernel
theorem dX6_isChecked_19 : decode cX6_isChecked 19 = .ok (.bipush 6, 2) := by decide +kernel
theorem dX6_isChecked_21 : decode cX6_isChecked 21 = .ok (.if_icmp .ne 7, 3) := by decide +kernel
theorem dX6_isChecked_24 : decode cX6_isChecked 24 = .ok (.iconst 1, 1) := by decide +kernel
theorem dX6_isChecked_25 : decode cX6_isChecked 25 = .ok (.goto 4, 3) := by decide +kernel
theorem dX6_isChecked_28 : decode cX6_isChecked 28 = .ok (.iconst 0, 1) := by decide +kernel
theorem dX6_isChecked_29 : decode cX6_isChecked 29 = .ok (.ireturn, 1) := by decide +kernel
theorem dX6_setLimit_0 : decode cX6_setLimit 0 = .ok (.aload_n 0, 1) := by decide +kernel
theorem dX6_setLimit_1 : decode cX6_setLimit 1 = .ok (.iload_n 1, 1) := by decide +kernel
theorem dX6_setLimit_2 : decode cX6_setLimit 2 = .ok (.iconst 0, 1) := by decide +kernel
theorem dX6_setLimit_3 : decode cX6_setLimit 3 = .ok (.sipush 999, 3) := by decide +kernel
theorem dX6_setLimit_6 : decode cX6_setLimit 6 = .ok (.invokestatic 73, 3) := by decide +kernel
theorem dX6_setLimit_9 : decode cX6_setLimit 9 = .ok (.ifCond .eq 7, 3) := by decide +kernel
theorem dX6_setLimit_12 : decode cX6_setLimit 12 = .ok (.iconst 0, 1) := by decide +kernel
theorem dX6_setLimit_13 : decode cX6_setLimit 13 = .ok (.goto 4, 3) := by decide +kernel
theorem dX6_setLimit_16 : decode cX6_setLimit 16 = .ok (.iconst 1, 1) := by decide +kernel
theorem dX6_setLimit_17 : decode cX6_setLimit 17 = .ok (.invokevirtual 81, 3) := by decide +kernel
theorem dX6_setLimit_20 : decode cX6_setLimit 20 = .ok (.ifCond .eq 5, 3) := by decide +kernel
theorem dX6_setLimit_23 : decode cX6_setLimit 23 = .ok (.iconst 0, 1) := by decide +kernel
theorem dX6_setLimit_24 : decode cX6_setLimit 24 = .ok (.ireturn, 1) := by decide +kernel
theorem dX6_setLimit_25 : decode cX6_setLimit 25 = .ok (.aload_n 0, 1) := by decide +kernel
theorem dX6_setLimit_26 : decode cX6_setLimit 26 = .ok (.getfield 7, 3) := by decide +kernel
theorem dX6_setLimit_29 : decode cX6_setLimit 29 = .ok (.istore_n 2, 1) := by decide +kernel
theorem dX6_setLimit_30 : decode cX6_setLimit 30 = .ok (.aload_n 0, 1) := by decide +kernel
theorem dX6_setLimit_31 : decode cX6_setLimit 31 = .ok (.iload_n 1, 1) := by decide +kernel
theorem dX6_setLimit_32 : decode cX6_setLimit 32 = .ok (.putfield 7, 3) := by decide +kernel
theorem dX6_setLimit_35 : decode cX6_setLimit 35 = .ok (.iload_n 2, 1) := by decide +kernel
theorem dX6_setLimit_36 : decode cX6_setLimit 36 = .ok (.ireturn, 1) := by decide +kernel
theorem dX6_free_0 : decode cX6_free 0 = .ok (.iconst 0, 1) := by decide +kernel
theorem dX6_free_1 : decode cX6_free 1 = .ok (.istore_n 1, 1) := by decide +kernel
theorem dX6_free_2 : decode cX6_free 2 = .ok (.iconst 0, 1) := by decide +kernel
theorem dX6_free_3 : decode cX6_free 3 = .ok (.istore_n 2, 1) := by decide +kernel
theorem dX6_free_4 : decode cX6_free 4 = .ok (.iload_n 2, 1) := by decide +kernel
theorem dX6_free_5 : decode cX6_free 5 = .ok (.aload_n 0, 1) := by decide +kernel
theorem dX6_free_6 : decode cX6_free 6 = .ok (.getfield 87, 3) := by decide +kernel
theorem dX6_free_9 : decode cX6_free 9 = .ok (.if_icmp .ge 27, 3) := by decide +kernel
theorem dX6_free_12 : decode cX6_free 12 = .ok (.iload_n 1, 1) := by decide +kernel
theorem dX6_free_13 : decode cX6_free 13 = .ok (.aload_n 0, 1) := by decide +kernel
theorem dX6_free_14 : decode cX6_free 14 = .ok (.iload_n 2, 1) := by decide +kernel
theorem dX6_free_15 : decode cX6_free 15 = .ok (.invokevirtual 125, 3) := by decide +kernel
theorem dX6_free_18 : decode cX6_free 18 = .ok (.bipush 45, 2) := by decide +kernel
theorem dX6_free_20 : decode cX6_free 20 = .ok (.if_icmp .ne 7, 3) := by decide +kernel
theorem dX6_free_23 : decode cX6_free 23 = .ok (.iconst 1, 1) := by decide +kernel
theorem dX6_free_24 : decode cX6_free 24 = .ok (.goto 4, 3) := by decide +kernel
theorem dX6_free_27 : decode cX6_free 27 = .ok (.iconst 0, 1) := by decide +kernel
theorem dX6_free_28 : decode cX6_free 28 = .ok (.iadd, 1) := by decide +kernel
theorem dX6_free_29 : decode cX6_free 29 = .ok (.istore_n 1, 1) := by decide +kernel
theorem dX6_free_30 : decode cX6_free 30 = .ok (.iinc 2 1, 3) := by decide +kernel
theorem dX6_free_33 : decode cX6_free 33 = .ok (.goto (-29), 3) := by decide +kernel
theorem dX6_free_36 : decode cX6_free 36 = .ok (.iload_n 1, 1) := by decide +kernel
theorem dX6_free_37 : decode cX6_free 37 = .ok (.ireturn, 1) := by decide +kernel
theorem dX6_usable_0 : decode cX6_usable 0 = .ok (.aload_n 0, 1) := by decide +kernel
theorem dX6_usable_1 : decode cX6_usable 1 = .ok (.iconst 0, 1) := by decide +kernel
theorem dX6_usable_2 : decode cX6_usable 2 = .ok (.putfield 67, 3) := by decide +kernel
theorem dX6_usable_5 : decode cX6_usable 5 = .ok (.aload_n 0, 1) := by decide +kernel
theorem dX6_usable_6 : decode cX6_usable 6 = .ok (.invokevirtual 139, 3) := by decide +kernel
theorem dX6_usable_9 : decode cX6_usable 9 = .ok (.ireturn, 1) := by decide +kernel
theorem dX6_clashOf_0 : decode cX6_clashOf 0 = .ok (.iconst (-1), 1) := by decide +kernel
theorem dX6_clashOf_1 : decode cX6_clashOf 1 = .ok (.istore 5, 2) := by decide +kernel
theorem dX6_clashOf_3 : decode cX6_clashOf 3 = .ok (.aload_n 0, 1) := by decide +kernel
theorem dX6_clashOf_4 : decode cX6_clashOf 4 = .ok (.getfield 143, 3) := by decide +kernel
theorem dX6_clashOf_7 : decode cX6_clashOf 7 = .ok (.iconst 1, 1) := by decide +kernel
theorem dX6_clashOf_8 : decode cX6_clashOf 8 = .ok (.isub, 1) := by decide +kernel
theorem dX6_clashOf_9 : decode cX6_clashOf 9 = .ok (.istore 6, 2) := by decide +kernel
theorem dX6_clashOf_11 : decode cX6_clashOf 11 = .ok (.iload 6, 2) := by decide +kernel
theorem dX6_clashOf_13 : decode cX6_clashOf 13 = .ok (.ifCond .lt 144, 3) := by decide +kernel
theorem dX6_clashOf_16 : decode cX6_clashOf 16 = .ok (.aload_n 0, 1) := by decide +kernel
theorem dX6_clashOf_17 : decode cX6_clashOf 17 = .ok (.getfield 54, 3) := by decide +kernel
theorem dX6_clashOf_20 : decode cX6_clashOf 20 = .ok (.iload 6, 2) := by decide +kernel
theorem dX6_clashOf_22 : decode cX6_clashOf 22 = .ok (.iaload, 1) := by decide +kernel
theorem dX6_clashOf_23 : decode cX6_clashOf 23 = .ok (.iload_n 2, 1) := by decide +kernel
theorem dX6_clashOf_24 : decode cX6_clashOf 24 = .ok (.invokestatic 90, 3) := by decide +kernel
theorem dX6_clashOf_27 : decode cX6_clashOf 27 = .ok (.istore 7, 2) := by decide +kernel
theorem dX6_clashOf_29 : decode cX6_clashOf 29 = .ok (.aload_n 0, 1) := by decide +kernel
theorem dX6_clashOf_30 : decode cX6_clashOf 30 = .ok (.getfield 51, 3) := by decide +kernel
theorem dX6_clashOf_33 : decode cX6_clashOf 33 = .ok (.iload 6, 2) := by decide +kernel
theorem dX6_clashOf_35 : decode cX6_clashOf 35 = .ok (.iaload, 1) := by decide +kernel
theorem dX6_clashOf_36 : decode cX6_clashOf 36 = .ok (.iload_n 1, 1) := by decide +kernel
theorem dX6_clashOf_37 : decode cX6_clashOf 37 = .ok (.if_icmp .ne 17, 3) := by decide +kernel
theorem dX6_clashOf_40 : decode cX6_clashOf 40 = .ok (.aload_n 0, 1) := by decide +kernel
theorem dX6_clashOf_41 : decode cX6_clashOf 41 = .ok (.getfield 63, 3) := by decide +kernel
theorem dX6_clashOf_44 : decode cX6_clashOf 44 = .ok (.iload 6, 2) := by decide +kernel
theorem dX6_clashOf_46 : decode cX6_clashOf 46 = .ok (.baload, 1) := by decide +kernel
theorem dX6_clashOf_47 : decode cX6_clashOf 47 = .ok (.ifCond .ne 7, 3) := by decide +kernel
theorem dX6_clashOf_50 : decode cX6_clashOf 50 = .ok (.iconst 1, 1) := by decide +kernel
theorem dX6_clashOf_51 : decode cX6_clashOf 51 = .ok (.goto 4, 3) := by decide +kernel
theorem dX6_clashOf_54 : decode cX6_clashOf 54 = .ok (.iconst 0, 1) := by decide +kernel
theorem dX6_clashOf_55 : decode cX6_clashOf 55 = .ok (.istore 8, 2) := by decide +kernel
theorem dX6_clashOf_57 : decode cX6_clashOf 57 = .ok (.iload 4, 2) := by decide +kernel
theorem dX6_clashOf_59 : decode cX6_clashOf 59 = .ok (.aload_n 0, 1) := by decide +kernel
theorem dX6_clashOf_60 : decode cX6_clashOf 60 = .ok (.getfield 57, 3) := by decide +kernel
theorem dX6_clashOf_63 : decode cX6_clashOf 63 = .ok (.iload 6, 2) := by decide +kernel
theorem dX6_clashOf_65 : decode cX6_clashOf 65 = .ok (.iaload, 1) := by decide +kernel
theorem dX6_clashOf_66 : decode cX6_clashOf 66 = .ok (.if_icmp .ge 26, 3) := by decide +kernel
theorem dX6_clashOf_69 : decode cX6_clashOf 69 = .ok (.aload_n 0, 1) := by decide +kernel
theorem dX6_clashOf_70 : decode cX6_clashOf 70 = .ok (.getfield 57, 3) := by decide +kernel
theorem dX6_clashOf_73 : decode cX6_clashOf 73 = .ok (.iload 6, 2) := by decide +kernel
theorem dX6_clashOf_75 : decode cX6_clashOf 75 = .ok (.iaload, 1) := by decide +kernel
theorem dX6_clashOf_76 : decode cX6_clashOf 76 = .ok (.i2l, 1) := by decide +kernel
theorem dX6_clashOf_77 : decode cX6_clashOf 77 = .ok (.iload 4, 2) := by decide +kernel
theorem dX6_clashOf_79 : decode cX6_clashOf 79 = .ok (.i2l, 1) := by decide +kernel
theorem dX6_clashOf_80 : decode cX6_clashOf 80 = .ok (.lsub, 1) := by decide +kernel
theorem dX6_clashOf_81 : decode cX6_clashOf 81 = .ok (.iload 7, 2) := by decide +kernel
theorem dX6_clashOf_83 : decode cX6_clashOf 83 = .ok (.i2l, 1) := by decide +kernel
theorem dX6_clashOf_84 : decode cX6_clashOf 84 = .ok (.lcmp, 1) := by decide +kernel
theorem dX6_clashOf_85 : decode cX6_clashOf 85 = .ok (.ifCond .le 7, 3) := by decide +kernel
theorem dX6_clashOf_88 : decode cX6_clashOf 88 = .ok (.iconst 1, 1) := by decide +kernel
theorem dX6_clashOf_89 : decode cX6_clashOf 89 = .ok (.goto 4, 3) := by decide +kernel
theorem dX6_clashOf_92 : decode cX6_clashOf 92 = .ok (.iconst 0, 1) := by decide +kernel
theorem dX6_clashOf_93 : decode cX6_clashOf 93 = .ok (.istore 9, 2) := by decide +kernel
theorem dX6_clashOf_95 : decode cX6_clashOf 95 = .ok (.aload_n 0, 1) := by decide +kernel
theorem dX6_clashOf_96 : decode cX6_clashOf 96 = .ok (.getfield 60, 3) := by decide +kernel
theorem dX6_clashOf_99 : decode cX6_clashOf 99 = .ok (.iload 6, 2) := by decide +kernel
theorem dX6_clashOf_101 : decode cX6_clashOf 101 = .ok (.iaload, 1) := by decide +kernel
theorem dX6_clashOf_102 : decode cX6_clashOf 102 = .ok (.iload_n 3, 1) := by decide +kernel
theorem dX6_clashOf_103 : decode cX6_clashOf 103 = .ok (.if_icmp .ge 21, 3) := by decide +kernel
theorem dX6_clashOf_106 : decode cX6_clashOf 106 = .ok (.iload_n 3, 1) := by decide +kernel
theorem dX6_clashOf_107 : decode cX6_clashOf 107 = .ok (.aload_n 0, 1) := by decide +kernel
theorem dX6_clashOf_108 : decode cX6_clashOf 108 = .ok (.getfield 60, 3) := by decide +kernel
theorem dX6_clashOf_111 : decode cX6_clashOf 111 = .ok (.iload 6, 2) := by decide +kernel
theorem dX6_clashOf_113 : decode cX6_clashOf 113 = .ok (.iaload, 1) := by decide +kernel
theorem dX6_clashOf_114 : decode cX6_clashOf 114 = .ok (.isub, 1) := by decide +kernel
theorem dX6_clashOf_115 : decode cX6_clashOf 115 = .ok (.iload 7, 2) := by decide +kernel
theorem dX6_clashOf_117 : decode cX6_clashOf 117 = .ok (.if_icmp .le 7, 3) := by decide +kernel
theorem dX6_clashOf_120 : decode cX6_clashOf 120 = .ok (.iconst 1, 1) := by decide +kernel
theorem dX6_clashOf_121 : decode cX6_clashOf 121 = .ok (.goto 4, 3) := by decide +kernel
theorem dX6_clashOf_124 : decode cX6_clashOf 124 = .ok (.iconst 0, 1) := by decide +kernel
theorem dX6_clashOf_125 : decode cX6_clashOf 125 = .ok (.istore 10, 2) := by decide +kernel
theorem dX6_clashOf_127 : decode cX6_clashOf 127 = .ok (.iload 8, 2) := by decide +kernel
theorem dX6_clashOf_129 : decode cX6_clashOf 129 = .ok (.ifCond .eq 18, 3) := by decide +kernel
theorem dX6_clashOf_132 : decode cX6_clashOf 132 = .ok (.iload 9, 2) := by decide +kernel
theorem dX6_clashOf_134 : decode cX6_clashOf 134 = .ok (.ifCond .ne 13, 3) := by decide +kernel
theorem dX6_clashOf_137 : decode cX6_clashOf 137 = .ok (.iload 10, 2) := by decide +kernel
theorem dX6_clashOf_139 : decode cX6_clashOf 139 = .ok (.ifCond .ne 8, 3) := by decide +kernel
theorem dX6_clashOf_142 : decode cX6_clashOf 142 = .ok (.iload 6, 2) := by decide +kernel
theorem dX6_clashOf_144 : decode cX6_clashOf 144 = .ok (.goto 5, 3) := by decide +kernel
theorem dX6_clashOf_147 : decode cX6_clashOf 147 = .ok (.iload 5, 2) := by decide +kernel
theorem dX6_clashOf_149 : decode cX6_clashOf 149 = .ok (.istore 5, 2) := by decide +kernel
theorem dX6_clashOf_151 : decode cX6_clashOf 151 = .ok (.iinc 6 (-1), 3) := by decide +kernel
theorem dX6_clashOf_154 : decode cX6_clashOf 154 = .ok (.goto (-143), 3) := by decide +kernel
theorem dX6_clashOf_157 : decode cX6_clashOf 157 = .ok (.iload 5, 2) := by decide +kernel
theorem dX6_clashOf_159 : decode cX6_clashOf 159 = .ok (.ireturn, 1) := by decide +kernel
theorem dX6_book_0 : decode cX6_book 0 = .ok (.iload_n 2, 1) := by decide +kernel
theorem dX6_book_1 : decode cX6_book 1 = .ok (.iload_n 3, 1) := by decide +kernel
theorem dX6_book_2 : decode cX6_book 2 = .ok (.invokestatic 94, 3) := by decide +kernel
theorem dX6_book_5 : decode cX6_book 5 = .ok (.ifCond .eq 31, 3) := by decide +kernel
theorem dX6_book_8 : decode cX6_book 8 = .ok (.iload 5, 2) := by decide +kernel
theorem dX6_book_10 : decode cX6_book 10 = .ok (.aload_n 0, 1) := by decide +kernel
theorem dX6_book_11 : decode cX6_book 11 = .ok (.getfield 108, 3) := by decide +kernel
theorem dX6_book_14 : decode cX6_book 14 = .ok (.if_icmp .le 22, 3) := by decide +kernel
theorem dX6_book_17 : decode cX6_book 17 = .ok (.iload 6, 2) := by decide +kernel
theorem dX6_book_19 : decode cX6_book 19 = .ok (.iload 5, 2) := by decide +kernel
theorem dX6_book_21 : decode cX6_book 21 = .ok (.if_icmp .lt 15, 3) := by decide +kernel
theorem dX6_book_24 : decode cX6_book 24 = .ok (.iload 6, 2) := by decide +kernel
theorem dX6_book_26 : decode cX6_book 26 = .ok (.sipush 9999, 3) := by decide +kernel
theorem dX6_book_29 : decode cX6_book 29 = .ok (.if_icmp .gt 7, 3) := by decide +kernel
theorem dX6_book_32 : decode cX6_book 32 = .ok (.iconst 1, 1) := by decide +kernel
theorem dX6_book_33 : decode cX6_book 33 = .ok (.goto 4, 3) := by decide +kernel
theorem dX6_book_36 : decode cX6_book 36 = .ok (.iconst 0, 1) := by decide +kernel
theorem dX6_book_37 : decode cX6_book 37 = .ok (.istore 7, 2) := by decide +kernel
theorem dX6_book_39 : decode cX6_book 39 = .ok (.aload_n 0, 1) := by decide +kernel
theorem dX6_book_40 : decode cX6_book 40 = .ok (.aload_n 0, 1) := by decide +kernel
theorem dX6_book_41 : decode cX6_book 41 = .ok (.iload_n 1, 1) := by decide +kernel
theorem dX6_book_42 : decode cX6_book 42 = .ok (.invokevirtual 77, 3) := by decide +kernel
theorem dX6_book_45 : decode cX6_book 45 = .ok (.ifCond .ne 7, 3) := by decide +kernel
theorem dX6_book_48 : decode cX6_book 48 = .ok (.iconst 1, 1) := by decide +kernel
theorem dX6_book_49 : decode cX6_book 49 = .ok (.goto 13, 3) := by decide +kernel
theorem dX6_book_52 : decode cX6_book 52 = .ok (.iload 7, 2) := by decide +kernel
theorem dX6_book_54 : decode cX6_book 54 = .ok (.ifCond .eq 7, 3) := by decide +kernel
theorem dX6_book_57 : decode cX6_book 57 = .ok (.iconst 0, 1) := by decide +kernel
theorem dX6_book_58 : decode cX6_book 58 = .ok (.goto 4, 3) := by decide +kernel
theorem dX6_book_61 : decode cX6_book 61 = .ok (.iconst 2, 1) := by decide +kernel
theorem dX6_book_62 : decode cX6_book 62 = .ok (.invokevirtual 81, 3) := by decide +kernel
theorem dX6_book_65 : decode cX6_book 65 = .ok (.ifCond .eq 5, 3) := by decide +kernel
theorem dX6_book_68 : decode cX6_book 68 = .ok (.iconst 0, 1) := by decide +kernel
theorem dX6_book_69 : decode cX6_book 69 = .ok (.ireturn, 1) := by decide +kernel
theorem dX6_book_70 : decode cX6_book 70 = .ok (.iload_n 2, 1) := by decide +kernel
theorem dX6_book_71 : decode cX6_book 71 = .ok (.iload_n 3, 1) := by decide +kernel
theorem dX6_book_72 : decode cX6_book 72 = .ok (.iload 4, 2) := by decide +kernel
theorem dX6_book_74 : decode cX6_book 74 = .ok (.invokestatic 98, 3) := by decide +kernel
theorem dX6_book_77 : decode cX6_book 77 = .ok (.istore 8, 2) := by decide +kernel
theorem dX6_book_79 : decode cX6_book 79 = .ok (.aload_n 0, 1) := by decide +kernel
theorem dX6_book_80 : decode cX6_book 80 = .ok (.aload_n 0, 1) := by decide +kernel
theorem dX6_book_81 : decode cX6_book 81 = .ok (.iload_n 1, 1) := by decide +kernel
theorem dX6_book_82 : decode cX6_book 82 = .ok (.iload 8, 2) := by decide +kernel
theorem dX6_book_84 : decode cX6_book 84 = .ok (.iload 5, 2) := by decide +kernel
theorem dX6_book_86 : decode cX6_book 86 = .ok (.iload 6, 2) := by decide +kernel
theorem dX6_book_88 : decode cX6_book 88 = .ok (.invokevirtual 146, 3) := by decide +kernel
theorem dX6_book_91 : decode cX6_book 91 = .ok (.iconst (-1), 1) := by decide +kernel
theorem dX6_book_92 : decode cX6_book 92 = .ok (.if_icmp .eq 7, 3) := by decide +kernel
theorem dX6_book_95 : decode cX6_book 95 = .ok (.iconst 3, 1) := by decide +kernel
theorem dX6_book_96 : decode cX6_book 96 = .ok (.goto 17, 3) := by decide +kernel
theorem dX6_book_99 : decode cX6_book 99 = .ok (.aload_n 0, 1) := by decide +kernel
theorem dX6_book_100 : decode cX6_book 100 = .ok (.getfield 143, 3) := by decide +kernel
theorem dX6_book_103 : decode cX6_book 103 = .ok (.bipush 16, 2) := by decide +kernel
theorem dX6_book_105 : decode cX6_book 105 = .ok (.if_icmp .ne 7, 3) := by decide +kernel
theorem dX6_book_108 : decode cX6_book 108 = .ok (.iconst 4, 1) := by decide +kernel
theorem dX6_book_109 : decode cX6_book 109 = .ok (.goto 4, 3) := by decide +kernel
theorem dX6_book_112 : decode cX6_book 112 = .ok (.iconst 0, 1) := by decide +kernel
theorem dX6_book_113 : decode cX6_book 113 = .ok (.invokevirtual 81, 3) := by decide +kernel
theorem dX6_book_116 : decode cX6_book 116 = .ok (.ifCond .eq 5, 3) := by decide +kernel
theorem dX6_book_119 : decode cX6_book 119 = .ok (.iconst 0, 1) := by decide +kernel
theorem dX6_book_120 : decode cX6_book 120 = .ok (.ireturn, 1) := by decide +kernel
theorem dX6_book_121 : decode cX6_book 121 = .ok (.aload_n 0, 1) := by decide +kernel
theorem dX6_book_122 : decode cX6_book 122 = .ok (.getfield 51, 3) := by decide +kernel
theorem dX6_book_125 : decode cX6_book 125 = .ok (.aload_n 0, 1) := by decide +kernel
theorem dX6_book_126 : decode cX6_book 126 = .ok (.getfield 143, 3) := by decide +kernel
theorem dX6_book_129 : decode cX6_book 129 = .ok (.iload_n 1, 1) := by decide +kernel
theorem dX6_book_130 : decode cX6_book 130 = .ok (.iastore, 1) := by decide +kernel
theorem dX6_book_131 : decode cX6_book 131 = .ok (.aload_n 0, 1) := by decide +kernel
theorem dX6_book_132 : decode cX6_book 132 = .ok (.getfield 54, 3) := by decide +kernel
theorem dX6_book_135 : decode cX6_book 135 = .ok (.aload_n 0, 1) := by decide +kernel
theorem dX6_book_136 : decode cX6_book 136 = .ok (.getfield 143, 3) := by decide +kernel
theorem dX6_book_139 : decode cX6_book 139 = .ok (.iload 8, 2) := by decide +kernel
theorem dX6_book_141 : decode cX6_book 141 = .ok (.iastore, 1) := by decide +kernel
theorem dX6_book_142 : decode cX6_book 142 = .ok (.aload_n 0, 1) := by decide +kernel
theorem dX6_book_143 : decode cX6_book 143 = .ok (.getfield 57, 3) := by decide +kernel
theorem dX6_book_146 : decode cX6_book 146 = .ok (.aload_n 0, 1) := by decide +kernel
theorem dX6_book_147 : decode cX6_book 147 = .ok (.getfield 143, 3) := by decide +kernel
theorem dX6_book_150 : decode cX6_book 150 = .ok (.iload 5, 2) := by decide +kernel
theorem dX6_book_152 : decode cX6_book 152 = .ok (.iastore, 1) := by decide +kernel
theorem dX6_book_153 : decode cX6_book 153 = .ok (.aload_n 0, 1) := by decide +kernel
theorem dX6_book_154 : decode cX6_book 154 = .ok (.getfield 60, 3) := by decide +kernel
theorem dX6_book_157 : decode cX6_book 157 = .ok (.aload_n 0, 1) := by decide +kernel
theorem dX6_book_158 : decode cX6_book 158 = .ok (.getfield 143, 3) := by decide +kernel
theorem dX6_book_161 : decode cX6_book 161 = .ok (.iload 6, 2) := by decide +kernel
theorem dX6_book_163 : decode cX6_book 163 = .ok (.iastore, 1) := by decide +kernel
theorem dX6_book_164 : decode cX6_book 164 = .ok (.aload_n 0, 1) := by decide +kernel
theorem dX6_book_165 : decode cX6_book 165 = .ok (.dup, 1) := by decide +kernel
theorem dX6_book_166 : decode cX6_book 166 = .ok (.getfield 143, 3) := by decide +kernel
theorem dX6_book_169 : decode cX6_book 169 = .ok (.iconst 1, 1) := by decide +kernel
theorem dX6_book_170 : decode cX6_book 170 = .ok (.iadd, 1) := by decide +kernel
theorem dX6_book_171 : decode cX6_book 171 = .ok (.putfield 143, 3) := by decide +kernel
theorem dX6_book_174 : decode cX6_book 174 = .ok (.aload_n 0, 1) := by decide +kernel
theorem dX6_book_175 : decode cX6_book 175 = .ok (.getfield 143, 3) := by decide +kernel
theorem dX6_book_178 : decode cX6_book 178 = .ok (.iconst 1, 1) := by decide +kernel
theorem dX6_book_179 : decode cX6_book 179 = .ok (.isub, 1) := by decide +kernel
theorem dX6_book_180 : decode cX6_book 180 = .ok (.ireturn, 1) := by decide +kernel
theorem dX6_clash_0 : decode cX6_clash 0 = .ok (.aload_n 0, 1) := by decide +kernel
theorem dX6_clash_1 : decode cX6_clash 1 = .ok (.aload_n 0, 1) := by decide +kernel
theorem dX6_clash_2 : decode cX6_clash 2 = .ok (.iload_n 1, 1) := by decide +kernel
theorem dX6_clash_3 : decode cX6_clash 3 = .ok (.invokevirtual 77, 3) := by decide +kernel
theorem dX6_clash_6 : decode cX6_clash 6 = .ok (.ifCond .ne 7, 3) := by decide +kernel
theorem dX6_clash_9 : decode cX6_clash 9 = .ok (.iconst 1, 1) := by decide +kernel
theorem dX6_clash_10 : decode cX6_clash 10 = .ok (.goto 23, 3) := by decide +kernel
theorem dX6_clash_13 : decode cX6_clash 13 = .ok (.iload_n 2, 1) := by decide +kernel
theorem dX6_clash_14 : decode cX6_clash 14 = .ok (.iload_n 3, 1) := by decide +kernel
theorem dX6_clash_15 : decode cX6_clash 15 = .ok (.invokestatic 94, 3) := by decide +kernel
theorem dX6_clash_18 : decode cX6_clash 18 = .ok (.ifCond .eq 14, 3) := by decide +kernel
theorem dX6_clash_21 : decode cX6_clash 21 = .ok (.iload 6, 2) := by decide +kernel
theorem dX6_clash_23 : decode cX6_clash 23 = .ok (.iload 5, 2) := by decide +kernel
theorem dX6_clash_25 : decode cX6_clash 25 = .ok (.if_icmp .lt 7, 3) := by decide +kernel
theorem dX6_clash_28 : decode cX6_clash 28 = .ok (.iconst 0, 1) := by decide +kernel
theorem dX6_clash_29 : decode cX6_clash 29 = .ok (.goto 4, 3) := by decide +kernel
theorem dX6_clash_32 : decode cX6_clash 32 = .ok (.iconst 2, 1) := by decide +kernel
theorem dX6_clash_33 : decode cX6_clash 33 = .ok (.invokevirtual 81, 3) := by decide +kernel
theorem dX6_clash_36 : decode cX6_clash 36 = .ok (.ifCond .eq 5, 3) := by decide +kernel
theorem dX6_clash_39 : decode cX6_clash 39 = .ok (.iconst 0, 1) := by decide +kernel
theorem dX6_clash_40 : decode cX6_clash 40 = .ok (.ireturn, 1) := by decide +kernel
theorem dX6_clash_41 : decode cX6_clash 41 = .ok (.aload_n 0, 1) := by decide +kernel
theorem dX6_clash_42 : decode cX6_clash 42 = .ok (.iload_n 1, 1) := by decide +kernel
theorem dX6_clash_43 : decode cX6_clash 43 = .ok (.iload_n 2, 1) := by decide +kernel
theorem dX6_clash_44 : decode cX6_clash 44 = .ok (.iload_n 3, 1) := by decide +kernel
theorem dX6_clash_45 : decode cX6_clash 45 = .ok (.iload 4, 2) := by decide +kernel
theorem dX6_clash_47 : decode cX6_clash 47 = .ok (.invokestatic 98, 3) := by decide +kernel
theorem dX6_clash_50 : decode cX6_clash 50 = .ok (.iload 5, 2) := by decide +kernel
theorem dX6_clash_52 : decode cX6_clash 52 = .ok (.iload 6, 2) := by decide +kernel
theorem dX6_clash_54 : decode cX6_clash 54 = .ok (.invokevirtual 146, 3) := by decide +kernel
theorem dX6_clash_57 : decode cX6_clash 57 = .ok (.istore 7, 2) := by decide +kernel
theorem dX6_clash_59 : decode cX6_clash 59 = .ok (.aload_n 0, 1) := by decide +kernel
theorem dX6_clash_60 : decode cX6_clash 60 = .ok (.iload 7, 2) := by decide +kernel
theorem dX6_clash_62 : decode cX6_clash 62 = .ok (.iconst (-1), 1) := by decide +kernel
theorem dX6_clash_63 : decode cX6_clash 63 = .ok (.if_icmp .ne 7, 3) := by decide +kernel
theorem dX6_clash_66 : decode cX6_clash 66 = .ok (.iconst 3, 1) := by decide +kernel
theorem dX6_clash_67 : decode cX6_clash 67 = .ok (.goto 4, 3) := by decide +kernel
theorem dX6_clash_70 : decode cX6_clash 70 = .ok (.iconst 0, 1) := by decide +kernel
theorem dX6_clash_71 : decode cX6_clash 71 = .ok (.invokevirtual 81, 3) := by decide +kernel
theorem dX6_clash_74 : decode cX6_clash 74 = .ok (.ifCond .eq 7, 3) := by decide +kernel
theorem dX6_clash_77 : decode cX6_clash 77 = .ok (.iconst 0, 1) := by decide +kernel
theorem dX6_clash_78 : decode cX6_clash 78 = .ok (.goto 5, 3) := by decide +kernel
theorem dX6_clash_81 : decode cX6_clash 81 = .ok (.iload 7, 2) := by decide +kernel
theorem dX6_clash_83 : decode cX6_clash 83 = .ok (.ireturn, 1) := by decide +kernel
theorem dX6_cancel_0 : decode cX6_cancel 0 = .ok (.aload_n 0, 1) := by decide +kernel
theorem dX6_cancel_1 : decode cX6_cancel 1 = .ok (.iload_n 1, 1) := by decide +kernel
theorem dX6_cancel_2 : decode cX6_cancel 2 = .ok (.iconst 0, 1) := by decide +kernel
theorem dX6_cancel_3 : decode cX6_cancel 3 = .ok (.aload_n 0, 1) := by decide +kernel
theorem dX6_cancel_4 : decode cX6_cancel 4 = .ok (.getfield 143, 3) := by decide +kernel
theorem dX6_cancel_7 : decode cX6_cancel 7 = .ok (.iconst 1, 1) := by decide +kernel
theorem dX6_cancel_8 : decode cX6_cancel 8 = .ok (.isub, 1) := by decide +kernel
theorem dX6_cancel_9 : decode cX6_cancel 9 = .ok (.invokestatic 73, 3) := by decide +kernel
theorem dX6_cancel_12 : decode cX6_cancel 12 = .ok (.ifCond .ne 7, 3) := by decide +kernel
theorem dX6_cancel_15 : decode cX6_cancel 15 = .ok (.iconst 1, 1) := by decide +kernel
theorem dX6_cancel_16 : decode cX6_cancel 16 = .ok (.goto 30, 3) := by decide +kernel
theorem dX6_cancel_19 : decode cX6_cancel 19 = .ok (.aload_n 0, 1) := by decide +kernel
theorem dX6_cancel_20 : decode cX6_cancel 20 = .ok (.getfield 63, 3) := by decide +kernel
theorem dX6_cancel_23 : decode cX6_cancel 23 = .ok (.iload_n 1, 1) := by decide +kernel
theorem dX6_cancel_24 : decode cX6_cancel 24 = .ok (.baload, 1) := by decide +kernel
theorem dX6_cancel_25 : decode cX6_cancel 25 = .ok (.ifCond .ne 16, 3) := by decide +kernel
theorem dX6_cancel_28 : decode cX6_cancel 28 = .ok (.aload_n 0, 1) := by decide +kernel
theorem dX6_cancel_29 : decode cX6_cancel 29 = .ok (.getfield 57, 3) := by decide +kernel
theorem dX6_cancel_32 : decode cX6_cancel 32 = .ok (.iload_n 1, 1) := by decide +kernel
theorem dX6_cancel_33 : decode cX6_cancel 33 = .ok (.iaload, 1) := by decide +kernel
theorem dX6_cancel_34 : decode cX6_cancel 34 = .ok (.aload_n 0, 1) := by decide +kernel
theorem dX6_cancel_35 : decode cX6_cancel 35 = .ok (.getfield 108, 3) := by decide +kernel
theorem dX6_cancel_38 : decode cX6_cancel 38 = .ok (.if_icmp .gt 7, 3) := by decide +kernel
theorem dX6_cancel_41 : decode cX6_cancel 41 = .ok (.iconst 2, 1) := by decide +kernel
theorem dX6_cancel_42 : decode cX6_cancel 42 = .ok (.goto 4, 3) := by decide +kernel
theorem dX6_cancel_45 : decode cX6_cancel 45 = .ok (.iconst 0, 1) := by decide +kernel
theorem dX6_cancel_46 : decode cX6_cancel 46 = .ok (.invokevirtual 81, 3) := by decide +kernel
theorem dX6_cancel_49 : decode cX6_cancel 49 = .ok (.ifCond .eq 5, 3) := by decide +kernel
theorem dX6_cancel_52 : decode cX6_cancel 52 = .ok (.iconst 0, 1) := by decide +kernel
theorem dX6_cancel_53 : decode cX6_cancel 53 = .ok (.ireturn, 1) := by decide +kernel
theorem dX6_cancel_54 : decode cX6_cancel 54 = .ok (.aload_n 0, 1) := by decide +kernel
theorem dX6_cancel_55 : decode cX6_cancel 55 = .ok (.getfield 63, 3) := by decide +kernel
theorem dX6_cancel_58 : decode cX6_cancel 58 = .ok (.iload_n 1, 1) := by decide +kernel
theorem dX6_cancel_59 : decode cX6_cancel 59 = .ok (.iconst 1, 1) := by decide +kernel
theorem dX6_cancel_60 : decode cX6_cancel 60 = .ok (.bastore, 1) := by decide +kernel
theorem dX6_cancel_61 : decode cX6_cancel 61 = .ok (.iconst 0, 1) := by decide +kernel
theorem dX6_cancel_62 : decode cX6_cancel 62 = .ok (.istore_n 2, 1) := by decide +kernel
theorem dX6_cancel_63 : decode cX6_cancel 63 = .ok (.iconst 0, 1) := by decide +kernel
theorem dX6_cancel_64 : decode cX6_cancel 64 = .ok (.istore_n 3, 1) := by decide +kernel
theorem dX6_cancel_65 : decode cX6_cancel 65 = .ok (.iload_n 3, 1) := by decide +kernel
theorem dX6_cancel_66 : decode cX6_cancel 66 = .ok (.aload_n 0, 1) := by decide +kernel
theorem dX6_cancel_67 : decode cX6_cancel 67 = .ok (.getfield 143, 3) := by decide +kernel
theorem dX6_cancel_70 : decode cX6_cancel 70 = .ok (.if_icmp .ge 26, 3) := by decide +kernel
theorem dX6_cancel_73 : decode cX6_cancel 73 = .ok (.iload_n 2, 1) := by decide +kernel
theorem dX6_cancel_74 : decode cX6_cancel 74 = .ok (.aload_n 0, 1) := by decide +kernel
theorem dX6_cancel_75 : decode cX6_cancel 75 = .ok (.getfield 63, 3) := by decide +kernel
theorem dX6_cancel_78 : decode cX6_cancel 78 = .ok (.iload_n 3, 1) := by decide +kernel
theorem dX6_cancel_79 : decode cX6_cancel 79 = .ok (.baload, 1) := by decide +kernel
theorem dX6_cancel_80 : decode cX6_cancel 80 = .ok (.ifCond .eq 7, 3) := by decide +kernel
theorem dX6_cancel_83 : decode cX6_cancel 83 = .ok (.iconst 0, 1) := by decide +kernel
theorem dX6_cancel_84 : decode cX6_cancel 84 = .ok (.goto 4, 3) := by decide +kernel
theorem dX6_cancel_87 : decode cX6_cancel 87 = .ok (.iconst 1, 1) := by decide +kernel
theorem dX6_cancel_88 : decode cX6_cancel 88 = .ok (.iadd, 1) := by decide +kernel
theorem dX6_cancel_89 : decode cX6_cancel 89 = .ok (.istore_n 2, 1) := by decide +kernel
theorem dX6_cancel_90 : decode cX6_cancel 90 = .ok (.iinc 3 1, 3) := by decide +kernel
theorem dX6_cancel_93 : decode cX6_cancel 93 = .ok (.goto (-28), 3) := by decide +kernel
theorem dX6_cancel_96 : decode cX6_cancel 96 = .ok (.iload_n 2, 1) := by decide +kernel
theorem dX6_cancel_97 : decode cX6_cancel 97 = .ok (.ireturn, 1) := by decide +kernel
theorem dX6_pass_0 : decode cX6_pass 0 = .ok (.aload_n 0, 1) := by decide +kernel
theorem dX6_pass_1 : decode cX6_pass 1 = .ok (.iload_n 1, 1) := by decide +kernel
theorem dX6_pass_2 : decode cX6_pass 2 = .ok (.iconst 1, 1) := by decide +kernel
theorem dX6_pass_3 : decode cX6_pass 3 = .ok (.bipush 48, 2) := by decide +kernel
theorem dX6_pass_5 : decode cX6_pass 5 = .ok (.invokestatic 73, 3) := by decide +kernel
theorem dX6_pass_8 : decode cX6_pass 8 = .ok (.ifCond .eq 15, 3) := by decide +kernel
theorem dX6_pass_11 : decode cX6_pass 11 = .ok (.aload_n 0, 1) := by decide +kernel
theorem dX6_pass_12 : decode cX6_pass 12 = .ok (.getfield 108, 3) := by decide +kernel
theorem dX6_pass_15 : decode cX6_pass 15 = .ok (.iload_n 1, 1) := by decide +kernel
theorem dX6_pass_16 : decode cX6_pass 16 = .ok (.iadd, 1) := by decide +kernel
theorem dX6_pass_17 : decode cX6_pass 17 = .ok (.sipush 9999, 3) := by decide +kernel
theorem dX6_pass_20 : decode cX6_pass 20 = .ok (.if_icmp .le 7, 3) := by decide +kernel
theorem dX6_pass_23 : decode cX6_pass 23 = .ok (.iconst 1, 1) := by decide +kernel
theorem dX6_pass_24 : decode cX6_pass 24 = .ok (.goto 4, 3) := by decide +kernel
theorem dX6_pass_27 : decode cX6_pass 27 = .ok (.iconst 0, 1) := by decide +kernel
theorem dX6_pass_28 : decode cX6_pass 28 = .ok (.invokevirtual 81, 3) := by decide +kernel
theorem dX6_pass_31 : decode cX6_pass 31 = .ok (.ifCond .eq 5, 3) := by decide +kernel
theorem dX6_pass_34 : decode cX6_pass 34 = .ok (.iconst 0, 1) := by decide +kernel
theorem dX6_pass_35 : decode cX6_pass 35 = .ok (.ireturn, 1) := by decide +kernel
theorem dX6_pass_36 : decode cX6_pass 36 = .ok (.iconst 0, 1) := by decide +kernel
theorem dX6_pass_37 : decode cX6_pass 37 = .ok (.istore_n 2, 1) := by decide +kernel
theorem dX6_pass_38 : decode cX6_pass 38 = .ok (.iconst 0, 1) := by decide +kernel
theorem dX6_pass_39 : decode cX6_pass 39 = .ok (.istore_n 3, 1) := by decide +kernel
theorem dX6_pass_40 : decode cX6_pass 40 = .ok (.iload_n 3, 1) := by decide +kernel
theorem dX6_pass_41 : decode cX6_pass 41 = .ok (.iload_n 1, 1) := by decide +kernel
theorem dX6_pass_42 : decode cX6_pass 42 = .ok (.if_icmp .ge 84, 3) := by decide +kernel
theorem dX6_pass_45 : decode cX6_pass 45 = .ok (.aload_n 0, 1) := by decide +kernel
theorem dX6_pass_46 : decode cX6_pass 46 = .ok (.dup, 1) := by decide +kernel
theorem dX6_pass_47 : decode cX6_pass 47 = .ok (.getfield 108, 3) := by decide +kernel
theorem dX6_pass_50 : decode cX6_pass 50 = .ok (.iconst 1, 1) := by decide +kernel
theorem dX6_pass_51 : decode cX6_pass 51 = .ok (.iadd, 1) := by decide +kernel
theorem dX6_pass_52 : decode cX6_pass 52 = .ok (.putfield 108, 3) := by decide +kernel
theorem dX6_pass_55 : decode cX6_pass 55 = .ok (.iconst 0, 1) := by decide +kernel
theorem dX6_pass_56 : decode cX6_pass 56 = .ok (.istore 4, 2) := by decide +kernel
theorem dX6_pass_58 : decode cX6_pass 58 = .ok (.iload 4, 2) := by decide +kernel
theorem dX6_pass_60 : decode cX6_pass 60 = .ok (.aload_n 0, 1) := by decide +kernel
theorem dX6_pass_61 : decode cX6_pass 61 = .ok (.getfield 143, 3) := by decide +kernel
theorem dX6_pass_64 : decode cX6_pass 64 = .ok (.if_icmp .ge 56, 3) := by decide +kernel
theorem dX6_pass_67 : decode cX6_pass 67 = .ok (.aload_n 0, 1) := by decide +kernel
theorem dX6_pass_68 : decode cX6_pass 68 = .ok (.getfield 63, 3) := by decide +kernel
theorem dX6_pass_71 : decode cX6_pass 71 = .ok (.iload 4, 2) := by decide +kernel
theorem dX6_pass_73 : decode cX6_pass 73 = .ok (.baload, 1) := by decide +kernel
theorem dX6_pass_74 : decode cX6_pass 74 = .ok (.ifCond .ne 40, 3) := by decide +kernel
theorem dX6_pass_77 : decode cX6_pass 77 = .ok (.aload_n 0, 1) := by decide +kernel
theorem dX6_pass_78 : decode cX6_pass 78 = .ok (.getfield 57, 3) := by decide +kernel
theorem dX6_pass_81 : decode cX6_pass 81 = .ok (.iload 4, 2) := by decide +kernel
theorem dX6_pass_83 : decode cX6_pass 83 = .ok (.iaload, 1) := by decide +kernel
theorem dX6_pass_84 : decode cX6_pass 84 = .ok (.aload_n 0, 1) := by decide +kernel
theorem dX6_pass_85 : decode cX6_pass 85 = .ok (.getfield 108, 3) := by decide +kernel
theorem dX6_pass_88 : decode cX6_pass 88 = .ok (.if_icmp .ne 26, 3) := by decide +kernel
theorem dX6_pass_91 : decode cX6_pass 91 = .ok (.aload_n 0, 1) := by decide +kernel
theorem dX6_pass_92 : decode cX6_pass 92 = .ok (.aload_n 0, 1) := by decide +kernel
theorem dX6_pass_93 : decode cX6_pass 93 = .ok (.getfield 51, 3) := by decide +kernel
theorem dX6_pass_96 : decode cX6_pass 96 = .ok (.iload 4, 2) := by decide +kernel
theorem dX6_pass_98 : decode cX6_pass 98 = .ok (.iaload, 1) := by decide +kernel
theorem dX6_pass_99 : decode cX6_pass 99 = .ok (.aload_n 0, 1) := by decide +kernel
theorem dX6_pass_100 : decode cX6_pass 100 = .ok (.getfield 54, 3) := by decide +kernel
theorem dX6_pass_103 : decode cX6_pass 103 = .ok (.iload 4, 2) := by decide +kernel
theorem dX6_pass_105 : decode cX6_pass 105 = .ok (.iaload, 1) := by decide +kernel
theorem dX6_pass_106 : decode cX6_pass 106 = .ok (.invokevirtual 102, 3) := by decide +kernel
theorem dX6_pass_109 : decode cX6_pass 109 = .ok (.istore 5, 2) := by decide +kernel
theorem dX6_pass_111 : decode cX6_pass 111 = .ok (.iinc 2 1, 3) := by decide +kernel
theorem dX6_pass_114 : decode cX6_pass 114 = .ok (.iinc 4 1, 3) := by decide +kernel
theorem dX6_pass_117 : decode cX6_pass 117 = .ok (.goto (-59), 3) := by decide +kernel
theorem dX6_pass_120 : decode cX6_pass 120 = .ok (.iinc 3 1, 3) := by decide +kernel
theorem dX6_pass_123 : decode cX6_pass 123 = .ok (.goto (-83), 3) := by decide +kernel
theorem dX6_pass_126 : decode cX6_pass 126 = .ok (.iload_n 2, 1) := by decide +kernel
theorem dX6_pass_127 : decode cX6_pass 127 = .ok (.ireturn, 1) := by decide +kernel
theorem dX6_hour_0 : decode cX6_hour 0 = .ok (.aload_n 0, 1) := by decide +kernel
theorem dX6_hour_1 : decode cX6_hour 1 = .ok (.iconst 0, 1) := by decide +kernel
theorem dX6_hour_2 : decode cX6_hour 2 = .ok (.putfield 67, 3) := by decide +kernel
theorem dX6_hour_5 : decode cX6_hour 5 = .ok (.aload_n 0, 1) := by decide +kernel
theorem dX6_hour_6 : decode cX6_hour 6 = .ok (.getfield 108, 3) := by decide +kernel
theorem dX6_hour_9 : decode cX6_hour 9 = .ok (.ireturn, 1) := by decide +kernel
theorem dX6_nextBooking_0 : decode cX6_nextBooking 0 = .ok (.aload_n 0, 1) := by decide +kernel
theorem dX6_nextBooking_1 : decode cX6_nextBooking 1 = .ok (.iload_n 1, 1) := by decide +kernel
theorem dX6_nextBooking_2 : decode cX6_nextBooking 2 = .ok (.invokevirtual 105, 3) := by decide +kernel
theorem dX6_nextBooking_5 : decode cX6_nextBooking 5 = .ok (.ifCond .eq 5, 3) := by decide +kernel
theorem dX6_nextBooking_8 : decode cX6_nextBooking 8 = .ok (.iconst 0, 1) := by decide +kernel
theorem dX6_nextBooking_9 : decode cX6_nextBooking 9 = .ok (.ireturn, 1) := by decide +kernel
theorem dX6_nextBooking_10 : decode cX6_nextBooking 10 = .ok (.iconst (-1), 1) := by decide +kernel
theorem dX6_nextBooking_11 : decode cX6_nextBooking 11 = .ok (.istore_n 2, 1) := by decide +kernel
theorem dX6_nextBooking_12 : decode cX6_nextBooking 12 = .ok (.iconst 0, 1) := by decide +kernel
theorem dX6_nextBooking_13 : decode cX6_nextBooking 13 = .ok (.istore_n 3, 1) := by decide +kernel
theorem dX6_nextBooking_14 : decode cX6_nextBooking 14 = .ok (.iload_n 3, 1) := by decide +kernel
theorem dX6_nextBooking_15 : decode cX6_nextBooking 15 = .ok (.aload_n 0, 1) := by decide +kernel
theorem dX6_nextBooking_16 : decode cX6_nextBooking 16 = .ok (.getfield 143, 3) := by decide +kernel
theorem dX6_nextBooking_19 : decode cX6_nextBooking 19 = .ok (.if_icmp .ge 79, 3) := by decide +kernel
theorem dX6_nextBooking_22 : decode cX6_nextBooking 22 = .ok (.aload_n 0, 1) := by decide +kernel
theorem dX6_nextBooking_23 : decode cX6_nextBooking 23 = .ok (.getfield 51, 3) := by decide +kernel
theorem dX6_nextBooking_26 : decode cX6_nextBooking 26 = .ok (.iload_n 3, 1) := by decide +kernel
theorem dX6_nextBooking_27 : decode cX6_nextBooking 27 = .ok (.iaload, 1) := by decide +kernel
theorem dX6_nextBooking_28 : decode cX6_nextBooking 28 = .ok (.iload_n 1, 1) := by decide +kernel
theorem dX6_nextBooking_29 : decode cX6_nextBooking 29 = .ok (.if_icmp .ne 29, 3) := by decide +kernel
theorem dX6_nextBooking_32 : decode cX6_nextBooking 32 = .ok (.aload_n 0, 1) := by decide +kernel
theorem dX6_nextBooking_33 : decode cX6_nextBooking 33 = .ok (.getfield 63, 3) := by decide +kernel
theorem dX6_nextBooking_36 : decode cX6_nextBooking 36 = .ok (.iload_n 3, 1) := by decide +kernel
theorem dX6_nextBooking_37 : decode cX6_nextBooking 37 = .ok (.baload, 1) := by decide +kernel
theorem dX6_nextBooking_38 : decode cX6_nextBooking 38 = .ok (.ifCond .ne 20, 3) := by decide +kernel
theorem dX6_nextBooking_41 : decode cX6_nextBooking 41 = .ok (.aload_n 0, 1) := by decide +kernel
theorem dX6_nextBooking_42 : decode cX6_nextBooking 42 = .ok (.getfield 57, 3) := by decide +kernel
theorem dX6_nextBooking_45 : decode cX6_nextBooking 45 = .ok (.iload_n 3, 1) := by decide +kernel
theorem dX6_nextBooking_46 : decode cX6_nextBooking 46 = .ok (.iaload, 1) := by decide +kernel
theorem dX6_nextBooking_47 : decode cX6_nextBooking 47 = .ok (.aload_n 0, 1) := by decide +kernel
theorem dX6_nextBooking_48 : decode cX6_nextBooking 48 = .ok (.getfield 108, 3) := by decide +kernel
theorem dX6_nextBooking_51 : decode cX6_nextBooking 51 = .ok (.if_icmp .le 7, 3) := by decide +kernel
theorem dX6_nextBooking_54 : decode cX6_nextBooking 54 = .ok (.iconst 1, 1) := by decide +kernel
theorem dX6_nextBooking_55 : decode cX6_nextBooking 55 = .ok (.goto 4, 3) := by decide +kernel
theorem dX6_nextBooking_58 : decode cX6_nextBooking 58 = .ok (.iconst 0, 1) := by decide +kernel
theorem dX6_nextBooking_59 : decode cX6_nextBooking 59 = .ok (.istore 4, 2) := by decide +kernel
theorem dX6_nextBooking_61 : decode cX6_nextBooking 61 = .ok (.iload 4, 2) := by decide +kernel
theorem dX6_nextBooking_63 : decode cX6_nextBooking 63 = .ok (.ifCond .eq 27, 3) := by decide +kernel
theorem dX6_nextBooking_66 : decode cX6_nextBooking 66 = .ok (.iload_n 2, 1) := by decide +kernel
theorem dX6_nextBooking_67 : decode cX6_nextBooking 67 = .ok (.iconst (-1), 1) := by decide +kernel
theorem dX6_nextBooking_68 : decode cX6_nextBooking 68 = .ok (.if_icmp .eq 18, 3) := by decide +kernel
theorem dX6_nextBooking_71 : decode cX6_nextBooking 71 = .ok (.aload_n 0, 1) := by decide +kernel
theorem dX6_nextBooking_72 : decode cX6_nextBooking 72 = .ok (.getfield 57, 3) := by decide +kernel
theorem dX6_nextBooking_75 : decode cX6_nextBooking 75 = .ok (.iload_n 3, 1) := by decide +kernel
theorem dX6_nextBooking_76 : decode cX6_nextBooking 76 = .ok (.iaload, 1) := by decide +kernel
theorem dX6_nextBooking_77 : decode cX6_nextBooking 77 = .ok (.aload_n 0, 1) := by decide +kernel
theorem dX6_nextBooking_78 : decode cX6_nextBooking 78 = .ok (.getfield 57, 3) := by decide +kernel
theorem dX6_nextBooking_81 : decode cX6_nextBooking 81 = .ok (.iload_n 2, 1) := by decide +kernel
theorem dX6_nextBooking_82 : decode cX6_nextBooking 82 = .ok (.iaload, 1) := by decide +kernel
theorem dX6_nextBooking_83 : decode cX6_nextBooking 83 = .ok (.if_icmp .ge 7, 3) := by decide +kernel
theorem dX6_nextBooking_86 : decode cX6_nextBooking 86 = .ok (.iload_n 3, 1) := by decide +kernel
theorem dX6_nextBooking_87 : decode cX6_nextBooking 87 = .ok (.goto 4, 3) := by decide +kernel
theorem dX6_nextBooking_90 : decode cX6_nextBooking 90 = .ok (.iload_n 2, 1) := by decide +kernel
theorem dX6_nextBooking_91 : decode cX6_nextBooking 91 = .ok (.istore_n 2, 1) := by decide +kernel
theorem dX6_nextBooking_92 : decode cX6_nextBooking 92 = .ok (.iinc 3 1, 3) := by decide +kernel
theorem dX6_nextBooking_95 : decode cX6_nextBooking 95 = .ok (.goto (-81), 3) := by decide +kernel
theorem dX6_nextBooking_98 : decode cX6_nextBooking 98 = .ok (.aload_n 0, 1) := by decide +kernel
theorem dX6_nextBooking_99 : decode cX6_nextBooking 99 = .ok (.iload_n 2, 1) := by decide +kernel
theorem dX6_nextBooking_100 : decode cX6_nextBooking 100 = .ok (.iconst (-1), 1) := by decide +kernel
theorem dX6_nextBooking_101 : decode cX6_nextBooking 101 = .ok (.if_icmp .ne 7, 3) := by decide +kernel
theorem dX6_nextBooking_104 : decode cX6_nextBooking 104 = .ok (.iconst 2, 1) := by decide +kernel
theorem dX6_nextBooking_105 : decode cX6_nextBooking 105 = .ok (.goto 4, 3) := by decide +kernel
theorem dX6_nextBooking_108 : decode cX6_nextBooking 108 = .ok (.iconst 0, 1) := by decide +kernel
theorem dX6_nextBooking_109 : decode cX6_nextBooking 109 = .ok (.invokevirtual 81, 3) := by decide +kernel
theorem dX6_nextBooking_112 : decode cX6_nextBooking 112 = .ok (.ifCond .eq 7, 3) := by decide +kernel
theorem dX6_nextBooking_115 : decode cX6_nextBooking 115 = .ok (.iconst 0, 1) := by decide +kernel
theorem dX6_nextBooking_116 : decode cX6_nextBooking 116 = .ok (.goto 4, 3) := by decide +kernel
theorem dX6_nextBooking_119 : decode cX6_nextBooking 119 = .ok (.iload_n 2, 1) := by decide +kernel
theorem dX6_nextBooking_120 : decode cX6_nextBooking 120 = .ok (.ireturn, 1) := by decide +kernel
theorem dX6_usableShare_0 : decode cX6_usableShare 0 = .ok (.aload_n 0, 1) := by decide +kernel
theorem dX6_usableShare_1 : decode cX6_usableShare 1 = .ok (.aload_n 0, 1) := by decide +kernel
theorem dX6_usableShare_2 : decode cX6_usableShare 2 = .ok (.getfield 87, 3) := by decide +kernel
theorem dX6_usableShare_5 : decode cX6_usableShare 5 = .ok (.ifCond .ne 7, 3) := by decide +kernel
theorem dX6_usableShare_8 : decode cX6_usableShare 8 = .ok (.iconst 1, 1) := by decide +kernel
theorem dX6_usableShare_9 : decode cX6_usableShare 9 = .ok (.goto 4, 3) := by decide +kernel
theorem dX6_usableShare_12 : decode cX6_usableShare 12 = .ok (.iconst 0, 1) := by decide +kernel
theorem dX6_usableShare_13 : decode cX6_usableShare 13 = .ok (.invokevirtual 81, 3) := by decide +kernel
theorem dX6_usableShare_16 : decode cX6_usableShare 16 = .ok (.ifCond .eq 7, 3) := by decide +kernel
theorem dX6_usableShare_19 : decode cX6_usableShare 19 = .ok (.fconst 0, 1) := by decide +kernel
theorem dX6_usableShare_20 : decode cX6_usableShare 20 = .ok (.goto 14, 3) := by decide +kernel
theorem dX6_usableShare_23 : decode cX6_usableShare 23 = .ok (.aload_n 0, 1) := by decide +kernel
theorem dX6_usableShare_24 : decode cX6_usableShare 24 = .ok (.invokevirtual 139, 3) := by decide +kernel
theorem dX6_usableShare_27 : decode cX6_usableShare 27 = .ok (.i2f, 1) := by decide +kernel
theorem dX6_usableShare_28 : decode cX6_usableShare 28 = .ok (.aload_n 0, 1) := by decide +kernel
theorem dX6_usableShare_29 : decode cX6_usableShare 29 = .ok (.getfield 87, 3) := by decide +kernel
theorem dX6_usableShare_32 : decode cX6_usableShare 32 = .ok (.i2f, 1) := by decide +kernel
theorem dX6_usableShare_33 : decode cX6_usableShare 33 = .ok (.fdiv, 1) := by decide +kernel
theorem dX6_usableShare_34 : decode cX6_usableShare 34 = .ok (.freturn, 1) := by decide +kernel
