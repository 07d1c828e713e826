theorem dX8_may_53 : decode cX8_may 53 = .ok (.ireturn, 1) := by decide +kernel
theorem dX8_worth_0 : decode cX8_worth 0 = .ok (.aload_n 0, 1) := by decide +kernel
theorem dX8_worth_1 : decode cX8_worth 1 = .ok (.getfield 16, 3) := by decide +kernel
theorem dX8_worth_4 : decode cX8_worth 4 = .ok (.iload_n 1, 1) := by decide +kernel
theorem dX8_worth_5 : decode cX8_worth 5 = .ok (.invokevirtual 81, 3) := by decide +kernel
theorem dX8_worth_8 : decode cX8_worth 8 = .ok (.ifCond .eq 10, 3) := by decide +kernel
theorem dX8_worth_11 : decode cX8_worth 11 = .ok (.iload_n 2, 1) := by decide +kernel
theorem dX8_worth_12 : decode cX8_worth 12 = .ok (.invokestatic 97, 3) := by decide +kernel
theorem dX8_worth_15 : decode cX8_worth 15 = .ok (.ifCond .ne 10, 3) := by decide +kernel
theorem dX8_worth_18 : decode cX8_worth 18 = .ok (.aload_n 0, 1) := by decide +kernel
theorem dX8_worth_19 : decode cX8_worth 19 = .ok (.ldc 67, 2) := by decide +kernel
theorem dX8_worth_21 : decode cX8_worth 21 = .ok (.invokevirtual 68, 3) := by decide +kernel
theorem dX8_worth_24 : decode cX8_worth 24 = .ok (.ireturn, 1) := by decide +kernel
theorem dX8_worth_25 : decode cX8_worth 25 = .ok (.aload_n 0, 1) := by decide +kernel
theorem dX8_worth_26 : decode cX8_worth 26 = .ok (.getfield 16, 3) := by decide +kernel
theorem dX8_worth_29 : decode cX8_worth 29 = .ok (.iload_n 1, 1) := by decide +kernel
theorem dX8_worth_30 : decode cX8_worth 30 = .ok (.iload_n 2, 1) := by decide +kernel
theorem dX8_worth_31 : decode cX8_worth 31 = .ok (.invokevirtual 143, 3) := by decide +kernel
theorem dX8_worth_34 : decode cX8_worth 34 = .ok (.ireturn, 1) := by decide +kernel
theorem dX8_plan_0 : decode cX8_plan 0 = .ok (.aload_n 0, 1) := by decide +kernel
theorem dX8_plan_1 : decode cX8_plan 1 = .ok (.iload_n 1, 1) := by decide +kernel
theorem dX8_plan_2 : decode cX8_plan 2 = .ok (.iload_n 2, 1) := by decide +kernel
theorem dX8_plan_3 : decode cX8_plan 3 = .ok (.iload_n 3, 1) := by decide +kernel
theorem dX8_plan_4 : decode cX8_plan 4 = .ok (.invokevirtual 146, 3) := by decide +kernel
theorem dX8_plan_7 : decode cX8_plan 7 = .ok (.istore 4, 2) := by decide +kernel
theorem dX8_plan_9 : decode cX8_plan 9 = .ok (.iload 4, 2) := by decide +kernel
theorem dX8_plan_11 : decode cX8_plan 11 = .ok (.ifCond .eq 10, 3) := by decide +kernel
theorem dX8_plan_14 : decode cX8_plan 14 = .ok (.aload_n 0, 1) := by decide +kernel
theorem dX8_plan_15 : decode cX8_plan 15 = .ok (.iload 4, 2) := by decide +kernel
theorem dX8_plan_17 : decode cX8_plan 17 = .ok (.invokevirtual 68, 3) := by decide +kernel
theorem dX8_plan_20 : decode cX8_plan 20 = .ok (.ireturn, 1) := by decide +kernel
theorem dX8_plan_21 : decode cX8_plan 21 = .ok (.aload_n 0, 1) := by decide +kernel
theorem dX8_plan_22 : decode cX8_plan 22 = .ok (.getfield 44, 3) := by decide +kernel
theorem dX8_plan_25 : decode cX8_plan 25 = .ok (.getfield 150, 3) := by decide +kernel
theorem dX8_plan_28 : decode cX8_plan 28 = .ok (.ireturn, 1) := by decide +kernel
theorem dX8_stop_0 : decode cX8_stop 0 = .ok (.aload_n 0, 1) := by decide +kernel
theorem dX8_stop_1 : decode cX8_stop 1 = .ok (.iload_n 1, 1) := by decide +kernel
theorem dX8_stop_2 : decode cX8_stop 2 = .ok (.iload_n 2, 1) := by decide +kernel
theorem dX8_stop_3 : decode cX8_stop 3 = .ok (.iload_n 3, 1) := by decide +kernel
theorem dX8_stop_4 : decode cX8_stop 4 = .ok (.invokevirtual 146, 3) := by decide +kernel
theorem dX8_stop_7 : decode cX8_stop 7 = .ok (.istore 5, 2) := by decide +kernel
theorem dX8_stop_9 : decode cX8_stop 9 = .ok (.iload 5, 2) := by decide +kernel
theorem dX8_stop_11 : decode cX8_stop 11 = .ok (.ifCond .eq 10, 3) := by decide +kernel
theorem dX8_stop_14 : decode cX8_stop 14 = .ok (.aload_n 0, 1) := by decide +kernel
theorem dX8_stop_15 : decode cX8_stop 15 = .ok (.iload 5, 2) := by decide +kernel
theorem dX8_stop_17 : decode cX8_stop 17 = .ok (.invokevirtual 68, 3) := by decide +kernel
theorem dX8_stop_20 : decode cX8_stop 20 = .ok (.ireturn, 1) := by decide +kernel
theorem dX8_stop_21 : decode cX8_stop 21 = .ok (.aload_n 0, 1) := by decide +kernel
theorem dX8_stop_22 : decode cX8_stop 22 = .ok (.getfield 44, 3) := by decide +kernel
theorem dX8_stop_25 : decode cX8_stop 25 = .ok (.iload 4, 2) := by decide +kernel
theorem dX8_stop_27 : decode cX8_stop 27 = .ok (.invokevirtual 153, 3) := by decide +kernel
theorem dX8_stop_30 : decode cX8_stop 30 = .ok (.ifCond .ne 10, 3) := by decide +kernel
theorem dX8_stop_33 : decode cX8_stop 33 = .ok (.aload_n 0, 1) := by decide +kernel
theorem dX8_stop_34 : decode cX8_stop 34 = .ok (.ldc 154, 2) := by decide +kernel
theorem dX8_stop_36 : decode cX8_stop 36 = .ok (.invokevirtual 68, 3) := by decide +kernel
theorem dX8_stop_39 : decode cX8_stop 39 = .ok (.ireturn, 1) := by decide +kernel
theorem dX8_stop_40 : decode cX8_stop 40 = .ok (.bipush 100, 2) := by decide +kernel
theorem dX8_stop_42 : decode cX8_stop 42 = .ok (.aload_n 0, 1) := by decide +kernel
theorem dX8_stop_43 : decode cX8_stop 43 = .ok (.getfield 44, 3) := by decide +kernel
theorem dX8_stop_46 : decode cX8_stop 46 = .ok (.getfield 155, 3) := by decide +kernel
theorem dX8_stop_49 : decode cX8_stop 49 = .ok (.iload 4, 2) := by decide +kernel
theorem dX8_stop_51 : decode cX8_stop 51 = .ok (.iaload, 1) := by decide +kernel
theorem dX8_stop_52 : decode cX8_stop 52 = .ok (.imul, 1) := by decide +kernel
theorem dX8_stop_53 : decode cX8_stop 53 = .ok (.aload_n 0, 1) := by decide +kernel
theorem dX8_stop_54 : decode cX8_stop 54 = .ok (.getfield 44, 3) := by decide +kernel
theorem dX8_stop_57 : decode cX8_stop 57 = .ok (.getfield 158, 3) := by decide +kernel
theorem dX8_stop_60 : decode cX8_stop 60 = .ok (.iload 4, 2) := by decide +kernel
theorem dX8_stop_62 : decode cX8_stop 62 = .ok (.iaload, 1) := by decide +kernel
theorem dX8_stop_63 : decode cX8_stop 63 = .ok (.iadd, 1) := by decide +kernel
theorem dX8_stop_64 : decode cX8_stop 64 = .ok (.ireturn, 1) := by decide +kernel
theorem dX8_left_0 : decode cX8_left 0 = .ok (.aload_n 0, 1) := by decide +kernel
theorem dX8_left_1 : decode cX8_left 1 = .ok (.iload_n 1, 1) := by decide +kernel
theorem dX8_left_2 : decode cX8_left 2 = .ok (.iload_n 2, 1) := by decide +kernel
theorem dX8_left_3 : decode cX8_left 3 = .ok (.iload_n 3, 1) := by decide +kernel
theorem dX8_left_4 : decode cX8_left 4 = .ok (.invokevirtual 146, 3) := by decide +kernel
theorem dX8_left_7 : decode cX8_left 7 = .ok (.istore 4, 2) := by decide +kernel
theorem dX8_left_9 : decode cX8_left 9 = .ok (.iload 4, 2) := by decide +kernel
theorem dX8_left_11 : decode cX8_left 11 = .ok (.ifCond .eq 10, 3) := by decide +kernel
theorem dX8_left_14 : decode cX8_left 14 = .ok (.aload_n 0, 1) := by decide +kernel
theorem dX8_left_15 : decode cX8_left 15 = .ok (.iload 4, 2) := by decide +kernel
theorem dX8_left_17 : decode cX8_left 17 = .ok (.invokevirtual 68, 3) := by decide +kernel
theorem dX8_left_20 : decode cX8_left 20 = .ok (.ireturn, 1) := by decide +kernel
theorem dX8_left_21 : decode cX8_left 21 = .ok (.aload_n 0, 1) := by decide +kernel
theorem dX8_left_22 : decode cX8_left 22 = .ok (.getfield 44, 3) := by decide +kernel
theorem dX8_left_25 : decode cX8_left 25 = .ok (.getfield 161, 3) := by decide +kernel
theorem dX8_left_28 : decode cX8_left 28 = .ok (.ireturn, 1) := by decide +kernel
theorem dX8_stand_0 : decode cX8_stand 0 = .ok (.aload_n 0, 1) := by decide +kernel
theorem dX8_stand_1 : decode cX8_stand 1 = .ok (.iload_n 1, 1) := by decide +kernel
theorem dX8_stand_2 : decode cX8_stand 2 = .ok (.invokevirtual 116, 3) := by decide +kernel
theorem dX8_stand_5 : decode cX8_stand 5 = .ok (.ifnull 20, 3) := by decide +kernel
theorem dX8_stand_8 : decode cX8_stand 8 = .ok (.aload_n 0, 1) := by decide +kernel
theorem dX8_stand_9 : decode cX8_stand 9 = .ok (.iload_n 2, 1) := by decide +kernel
theorem dX8_stand_10 : decode cX8_stand 10 = .ok (.invokevirtual 162, 3) := by decide +kernel
theorem dX8_stand_13 : decode cX8_stand 13 = .ok (.ifCond .eq 12, 3) := by decide +kernel
theorem dX8_stand_16 : decode cX8_stand 16 = .ok (.iload_n 3, 1) := by decide +kernel
theorem dX8_stand_17 : decode cX8_stand 17 = .ok (.bipush 99, 2) := by decide +kernel
theorem dX8_stand_19 : decode cX8_stand 19 = .ok (.invokestatic 85, 3) := by decide +kernel
theorem dX8_stand_22 : decode cX8_stand 22 = .ok (.ifCond .ne 10, 3) := by decide +kernel
theorem dX8_stand_25 : decode cX8_stand 25 = .ok (.aload_n 0, 1) := by decide +kernel
theorem dX8_stand_26 : decode cX8_stand 26 = .ok (.ldc 67, 2) := by decide +kernel
theorem dX8_stand_28 : decode cX8_stand 28 = .ok (.invokevirtual 68, 3) := by decide +kernel
theorem dX8_stand_31 : decode cX8_stand 31 = .ok (.ireturn, 1) := by decide +kernel
theorem dX8_stand_32 : decode cX8_stand 32 = .ok (.iload_n 2, 1) := by decide +kernel
theorem dX8_stand_33 : decode cX8_stand 33 = .ok (.invokestatic 165, 3) := by decide +kernel
theorem dX8_stand_36 : decode cX8_stand 36 = .ok (.istore 4, 2) := by decide +kernel
theorem dX8_stand_38 : decode cX8_stand 38 = .ok (.aload_n 0, 1) := by decide +kernel
theorem dX8_stand_39 : decode cX8_stand 39 = .ok (.getfield 50, 3) := by decide +kernel
theorem dX8_stand_42 : decode cX8_stand 42 = .ok (.iload_n 1, 1) := by decide +kernel
theorem dX8_stand_43 : decode cX8_stand 43 = .ok (.aload_n 0, 1) := by decide +kernel
theorem dX8_stand_44 : decode cX8_stand 44 = .ok (.getfield 50, 3) := by decide +kernel
theorem dX8_stand_47 : decode cX8_stand 47 = .ok (.getfield 168, 3) := by decide +kernel
theorem dX8_stand_50 : decode cX8_stand 50 = .ok (.invokevirtual 171, 3) := by decide +kernel
theorem dX8_stand_53 : decode cX8_stand 53 = .ok (.istore 5, 2) := by decide +kernel
theorem dX8_stand_55 : decode cX8_stand 55 = .ok (.aload_n 0, 1) := by decide +kernel
theorem dX8_stand_56 : decode cX8_stand 56 = .ok (.getfield 50, 3) := by decide +kernel
theorem dX8_stand_59 : decode cX8_stand 59 = .ok (.iload 5, 2) := by decide +kernel
theorem dX8_stand_61 : decode cX8_stand 61 = .ok (.invokevirtual 174, 3) := by decide +kernel
theorem dX8_stand_64 : decode cX8_stand 64 = .ok (.ifCond .eq 25, 3) := by decide +kernel
theorem dX8_stand_67 : decode cX8_stand 67 = .ok (.iload 4, 2) := by decide +kernel
theorem dX8_stand_69 : decode cX8_stand 69 = .ok (.aload_n 0, 1) := by decide +kernel
theorem dX8_stand_70 : decode cX8_stand 70 = .ok (.getfield 50, 3) := by decide +kernel
theorem dX8_stand_73 : decode cX8_stand 73 = .ok (.getfield 175, 3) := by decide +kernel
theorem dX8_stand_76 : decode cX8_stand 76 = .ok (.iload 5, 2) := by decide +kernel
theorem dX8_stand_78 : decode cX8_stand 78 = .ok (.iaload, 1) := by decide +kernel
theorem dX8_stand_79 : decode cX8_stand 79 = .ok (.if_icmp .gt 10, 3) := by decide +kernel
theorem dX8_stand_82 : decode cX8_stand 82 = .ok (.aload_n 0, 1) := by decide +kernel
theorem dX8_stand_83 : decode cX8_stand 83 = .ok (.ldc 176, 2) := by decide +kernel
theorem dX8_stand_85 : decode cX8_stand 85 = .ok (.invokevirtual 68, 3) := by decide +kernel
theorem dX8_stand_88 : decode cX8_stand 88 = .ok (.ireturn, 1) := by decide +kernel
theorem dX8_stand_89 : decode cX8_stand 89 = .ok (.aload_n 0, 1) := by decide +kernel
theorem dX8_stand_90 : decode cX8_stand 90 = .ok (.getfield 50, 3) := by decide +kernel
theorem dX8_stand_93 : decode cX8_stand 93 = .ok (.invokevirtual 177, 3) := by decide +kernel
theorem dX8_stand_96 : decode cX8_stand 96 = .ok (.ifCond .eq 10, 3) := by decide +kernel
theorem dX8_stand_99 : decode cX8_stand 99 = .ok (.aload_n 0, 1) := by decide +kernel
theorem dX8_stand_100 : decode cX8_stand 100 = .ok (.ldc 76, 2) := by decide +kernel
theorem dX8_stand_102 : decode cX8_stand 102 = .ok (.invokevirtual 68, 3) := by decide +kernel
theorem dX8_stand_105 : decode cX8_stand 105 = .ok (.ireturn, 1) := by decide +kernel
theorem dX8_stand_106 : decode cX8_stand 106 = .ok (.aload_n 0, 1) := by decide +kernel
theorem dX8_stand_107 : decode cX8_stand 107 = .ok (.getfield 50, 3) := by decide +kernel
theorem dX8_stand_110 : decode cX8_stand 110 = .ok (.iload_n 1, 1) := by decide +kernel
theorem dX8_stand_111 : decode cX8_stand 111 = .ok (.iload_n 2, 1) := by decide +kernel
theorem dX8_stand_112 : decode cX8_stand 112 = .ok (.invokestatic 178, 3) := by decide +kernel
theorem dX8_stand_115 : decode cX8_stand 115 = .ok (.iload 4, 2) := by decide +kernel
theorem dX8_stand_117 : decode cX8_stand 117 = .ok (.iload_n 3, 1) := by decide +kernel
theorem dX8_stand_118 : decode cX8_stand 118 = .ok (.invokevirtual 181, 3) := by decide +kernel
theorem dX8_stand_121 : decode cX8_stand 121 = .ok (.ireturn, 1) := by decide +kernel
theorem dX8_wrong_0 : decode cX8_wrong 0 = .ok (.aload_n 0, 1) := by decide +kernel
theorem dX8_wrong_1 : decode cX8_wrong 1 = .ok (.getfield 50, 3) := by decide +kernel
theorem dX8_wrong_4 : decode cX8_wrong 4 = .ok (.iload_n 1, 1) := by decide +kernel
theorem dX8_wrong_5 : decode cX8_wrong 5 = .ok (.invokevirtual 174, 3) := by decide +kernel
theorem dX8_wrong_8 : decode cX8_wrong 8 = .ok (.ifCond .ne 10, 3) := by decide +kernel
theorem dX8_wrong_11 : decode cX8_wrong 11 = .ok (.aload_n 0, 1) := by decide +kernel
theorem dX8_wrong_12 : decode cX8_wrong 12 = .ok (.ldc 67, 2) := by decide +kernel
theorem dX8_wrong_14 : decode cX8_wrong 14 = .ok (.invokevirtual 68, 3) := by decide +kernel
theorem dX8_wrong_17 : decode cX8_wrong 17 = .ok (.ireturn, 1) := by decide +kernel
theorem dX8_wrong_18 : decode cX8_wrong 18 = .ok (.aload_n 0, 1) := by decide +kernel
theorem dX8_wrong_19 : decode cX8_wrong 19 = .ok (.iload_n 1, 1) := by decide +kernel
theorem dX8_wrong_20 : decode cX8_wrong 20 = .ok (.invokevirtual 184, 3) := by decide +kernel
theorem dX8_wrong_23 : decode cX8_wrong 23 = .ok (.ireturn, 1) := by decide +kernel
theorem dX8_clear_0 : decode cX8_clear 0 = .ok (.iconst 0, 1) := by decide +kernel
theorem dX8_clear_1 : decode cX8_clear 1 = .ok (.istore_n 1, 1) := by decide +kernel
theorem dX8_clear_2 : decode cX8_clear 2 = .ok (.iconst 0, 1) := by decide +kernel
theorem dX8_clear_3 : decode cX8_clear 3 = .ok (.istore_n 2, 1) := by decide +kernel
theorem dX8_clear_4 : decode cX8_clear 4 = .ok (.iload_n 2, 1) := by decide +kernel
theorem dX8_clear_5 : decode cX8_clear 5 = .ok (.aload_n 0, 1) := by decide +kernel
theorem dX8_clear_6 : decode cX8_clear 6 = .ok (.getfield 50, 3) := by decide +kernel
theorem dX8_clear_9 : decode cX8_clear 9 = .ok (.getfield 168, 3) := by decide +kernel
theorem dX8_clear_12 : decode cX8_clear 12 = .ok (.if_icmp .ge 20, 3) := by decide +kernel
theorem dX8_clear_15 : decode cX8_clear 15 = .ok (.aload_n 0, 1) := by decide +kernel
theorem dX8_clear_16 : decode cX8_clear 16 = .ok (.iload_n 2, 1) := by decide +kernel
theorem dX8_clear_17 : decode cX8_clear 17 = .ok (.invokevirtual 184, 3) := by decide +kernel
theorem dX8_clear_20 : decode cX8_clear 20 = .ok (.ifCond .eq 6, 3) := by decide +kernel
theorem dX8_clear_23 : decode cX8_clear 23 = .ok (.iinc 1 1, 3) := by decide +kernel
theorem dX8_clear_26 : decode cX8_clear 26 = .ok (.iinc 2 1, 3) := by decide +kernel
theorem dX8_clear_29 : decode cX8_clear 29 = .ok (.goto (-25), 3) := by decide +kernel
theorem dX8_clear_32 : decode cX8_clear 32 = .ok (.aload_n 0, 1) := by decide +kernel
theorem dX8_clear_33 : decode cX8_clear 33 = .ok (.getfield 50, 3) := by decide +kernel
theorem dX8_clear_36 : decode cX8_clear 36 = .ok (.iconst 0, 1) := by decide +kernel
theorem dX8_clear_37 : decode cX8_clear 37 = .ok (.putfield 168, 3) := by decide +kernel
theorem dX8_clear_40 : decode cX8_clear 40 = .ok (.iload_n 1, 1) := by decide +kernel
theorem dX8_clear_41 : decode cX8_clear 41 = .ok (.ireturn, 1) := by decide +kernel
theorem dX8_holder_0 : decode cX8_holder 0 = .ok (.aload_n 0, 1) := by decide +kernel
theorem dX8_holder_1 : decode cX8_holder 1 = .ok (.getfield 16, 3) := by decide +kernel
theorem dX8_holder_4 : decode cX8_holder 4 = .ok (.iload_n 1, 1) := by decide +kernel
theorem dX8_holder_5 : decode cX8_holder 5 = .ok (.invokevirtual 81, 3) := by decide +kernel
theorem dX8_holder_8 : decode cX8_holder 8 = .ok (.ifCond .ne 10, 3) := by decide +kernel
theorem dX8_holder_11 : decode cX8_holder 11 = .ok (.aload_n 0, 1) := by decide +kernel
theorem dX8_holder_12 : decode cX8_holder 12 = .ok (.ldc 67, 2) := by decide +kernel
theorem dX8_holder_14 : decode cX8_holder 14 = .ok (.invokevirtual 68, 3) := by decide +kernel
theorem dX8_holder_17 : decode cX8_holder 17 = .ok (.ireturn, 1) := by decide +kernel
theorem dX8_holder_18 : decode cX8_holder 18 = .ok (.aload_n 0, 1) := by decide +kernel
theorem dX8_holder_19 : decode cX8_holder 19 = .ok (.iload_n 1, 1) := by decide +kernel
theorem dX8_holder_20 : decode cX8_holder 20 = .ok (.invokevirtual 187, 3) := by decide +kernel
theorem dX8_holder_23 : decode cX8_holder 23 = .ok (.istore_n 2, 1) := by decide +kernel
theorem dX8_holder_24 : decode cX8_holder 24 = .ok (.iload_n 2, 1) := by decide +kernel
theorem dX8_holder_25 : decode cX8_holder 25 = .ok (.iconst (-1), 1) := by decide +kernel
theorem dX8_holder_26 : decode cX8_holder 26 = .ok (.if_icmp .ne 12, 3) := by decide +kernel
theorem dX8_holder_29 : decode cX8_holder 29 = .ok (.aload_n 0, 1) := by decide +kernel
theorem dX8_holder_30 : decode cX8_holder 30 = .ok (.ldc 154, 2) := by decide +kernel
theorem dX8_holder_32 : decode cX8_holder 32 = .ok (.invokevirtual 68, 3) := by decide +kernel
theorem dX8_holder_35 : decode cX8_holder 35 = .ok (.goto 4, 3) := by decide +kernel
theorem dX8_holder_38 : decode cX8_holder 38 = .ok (.iload_n 2, 1) := by decide +kernel
theorem dX8_holder_39 : decode cX8_holder 39 = .ok (.ireturn, 1) := by decide +kernel
theorem dX8_gets_0 : decode cX8_gets 0 = .ok (.aload_n 0, 1) := by decide +kernel
theorem dX8_gets_1 : decode cX8_gets 1 = .ok (.iload_n 1, 1) := by decide +kernel
theorem dX8_gets_2 : decode cX8_gets 2 = .ok (.invokevirtual 116, 3) := by decide +kernel
theorem dX8_gets_5 : decode cX8_gets 5 = .ok (.astore 5, 2) := by decide +kernel
theorem dX8_gets_7 : decode cX8_gets 7 = .ok (.aload_n 0, 1) := by decide +kernel
theorem dX8_gets_8 : decode cX8_gets 8 = .ok (.iload_n 2, 1) := by decide +kernel
theorem dX8_gets_9 : decode cX8_gets 9 = .ok (.invokevirtual 116, 3) := by decide +kernel
theorem dX8_gets_12 : decode cX8_gets 12 = .ok (.astore 6, 2) := by decide +kernel
theorem dX8_gets_14 : decode cX8_gets 14 = .ok (.aload 5, 2) := by decide +kernel
theorem dX8_gets_16 : decode cX8_gets 16 = .ok (.ifnull 29, 3) := by decide +kernel
theorem dX8_gets_19 : decode cX8_gets 19 = .ok (.aload 6, 2) := by decide +kernel
theorem dX8_gets_21 : decode cX8_gets 21 = .ok (.ifnull 24, 3) := by decide +kernel
theorem dX8_gets_24 : decode cX8_gets 24 = .ok (.iload_n 1, 1) := by decide +kernel
theorem dX8_gets_25 : decode cX8_gets 25 = .ok (.iload_n 2, 1) := by decide +kernel
theorem dX8_gets_26 : decode cX8_gets 26 = .ok (.if_icmp .eq 19, 3) := by decide +kernel
theorem dX8_gets_29 : decode cX8_gets 29 = .ok (.aload_n 0, 1) := by decide +kernel
theorem dX8_gets_30 : decode cX8_gets 30 = .ok (.iload_n 3, 1) := by decide +kernel
theorem dX8_gets_31 : decode cX8_gets 31 = .ok (.invokevirtual 190, 3) := by decide +kernel
theorem dX8_gets_34 : decode cX8_gets 34 = .ok (.ifCond .eq 11, 3) := by decide +kernel
theorem dX8_gets_37 : decode cX8_gets 37 = .ok (.iload 4, 2) := by decide +kernel
theorem dX8_gets_39 : decode cX8_gets 39 = .ok (.invokestatic 97, 3) := by decide +kernel
theorem dX8_gets_42 : decode cX8_gets 42 = .ok (.ifCond .ne 10, 3) := by decide +kernel
theorem dX8_gets_45 : decode cX8_gets 45 = .ok (.aload_n 0, 1) := by decide +kernel
theorem dX8_gets_46 : decode cX8_gets 46 = .ok (.ldc 67, 2) := by decide +kernel
theorem dX8_gets_48 : decode cX8_gets 48 = .ok (.invokevirtual 68, 3) := by decide +kernel
theorem dX8_gets_51 : decode cX8_gets 51 = .ok (.ireturn, 1) := by decide +kernel
theorem dX8_gets_52 : decode cX8_gets 52 = .ok (.iload_n 3, 1) := by decide +kernel
theorem dX8_gets_53 : decode cX8_gets 53 = .ok (.bipush 10, 2) := by decide +kernel
theorem dX8_gets_55 : decode cX8_gets 55 = .ok (.idiv, 1) := by decide +kernel
theorem dX8_gets_56 : decode cX8_gets 56 = .ok (.istore 7, 2) := by decide +kernel
theorem dX8_gets_58 : decode cX8_gets 58 = .ok (.iload_n 3, 1) := by decide +kernel
theorem dX8_gets_59 : decode cX8_gets 59 = .ok (.bipush 10, 2) := by decide +kernel
theorem dX8_gets_61 : decode cX8_gets 61 = .ok (.irem, 1) := by decide +kernel
theorem dX8_gets_62 : decode cX8_gets 62 = .ok (.istore 8, 2) := by decide +kernel
theorem dX8_gets_64 : decode cX8_gets 64 = .ok (.aload_n 0, 1) := by decide +kernel
theorem dX8_gets_65 : decode cX8_gets 65 = .ok (.aload 5, 2) := by decide +kernel
theorem dX8_gets_67 : decode cX8_gets 67 = .ok (.iload 7, 2) := by decide +kernel
theorem dX8_gets_69 : decode cX8_gets 69 = .ok (.iload 4, 2) := by decide +kernel
theorem dX8_gets_71 : decode cX8_gets 71 = .ok (.invokevirtual 139, 3) := by decide +kernel
theorem dX8_gets_74 : decode cX8_gets 74 = .ok (.ifCond .eq 16, 3) := by decide +kernel
theorem dX8_gets_77 : decode cX8_gets 77 = .ok (.aload_n 0, 1) := by decide +kernel
theorem dX8_gets_78 : decode cX8_gets 78 = .ok (.aload 6, 2) := by decide +kernel
theorem dX8_gets_80 : decode cX8_gets 80 = .ok (.iload 8, 2) := by decide +kernel
theorem dX8_gets_82 : decode cX8_gets 82 = .ok (.iload 4, 2) := by decide +kernel
theorem dX8_gets_84 : decode cX8_gets 84 = .ok (.invokevirtual 139, 3) := by decide +kernel
theorem dX8_gets_87 : decode cX8_gets 87 = .ok (.ifCond .ne 10, 3) := by decide +kernel
theorem dX8_gets_90 : decode cX8_gets 90 = .ok (.aload_n 0, 1) := by decide +kernel
theorem dX8_gets_91 : decode cX8_gets 91 = .ok (.ldc 176, 2) := by decide +kernel
theorem dX8_gets_93 : decode cX8_gets 93 = .ok (.invokevirtual 68, 3) := by decide +kernel
theorem dX8_gets_96 : decode cX8_gets 96 = .ok (.ireturn, 1) := by decide +kernel
theorem dX8_gets_97 : decode cX8_gets 97 = .ok (.aload_n 0, 1) := by decide +kernel
theorem dX8_gets_98 : decode cX8_gets 98 = .ok (.iload_n 1, 1) := by decide +kernel
theorem dX8_gets_99 : decode cX8_gets 99 = .ok (.iload 7, 2) := by decide +kernel
theorem dX8_gets_101 : decode cX8_gets 101 = .ok (.iload_n 2, 1) := by decide +kernel
theorem dX8_gets_102 : decode cX8_gets 102 = .ok (.iload 8, 2) := by decide +kernel
theorem dX8_gets_104 : decode cX8_gets 104 = .ok (.iload 4, 2) := by decide +kernel
theorem dX8_gets_106 : decode cX8_gets 106 = .ok (.invokevirtual 193, 3) := by decide +kernel
theorem dX8_gets_109 : decode cX8_gets 109 = .ok (.ireturn, 1) := by decide +kernel
theorem dX8_balance_0 : decode cX8_balance 0 = .ok (.aload_n 0, 1) := by decide +kernel
theorem dX8_balance_1 : decode cX8_balance 1 = .ok (.iload_n 1, 1) := by decide +kernel
theorem dX8_balance_2 : decode cX8_balance 2 = .ok (.iload_n 2, 1) := by decide +kernel
theorem dX8_balance_3 : decode cX8_balance 3 = .ok (.invokevirtual 197, 3) := by decide +kernel
theorem dX8_balance_6 : decode cX8_balance 6 = .ok (.ifCond .eq 15, 3) := by decide +kernel
theorem dX8_balance_9 : decode cX8_balance 9 = .ok (.iload_n 3, 1) := by decide +kernel
theorem dX8_balance_10 : decode cX8_balance 10 = .ok (.invokestatic 97, 3) := by decide +kernel
theorem dX8_balance_13 : decode cX8_balance 13 = .ok (.ifCond .eq 8, 3) := by decide +kernel
theorem dX8_balance_16 : decode cX8_balance 16 = .ok (.iload 4, 2) := by decide +kernel
theorem dX8_balance_18 : decode cX8_balance 18 = .ok (.ifCond .ge 10, 3) := by decide +kernel
theorem dX8_balance_21 : decode cX8_balance 21 = .ok (.aload_n 0, 1) := by decide +kernel
theorem dX8_balance_22 : decode cX8_balance 22 = .ok (.ldc 67, 2) := by decide +kernel
theorem dX8_balance_24 : decode cX8_balance 24 = .ok (.invokevirtual 68, 3) := by decide +kernel
theorem dX8_balance_27 : decode cX8_balance 27 = .ok (.ireturn, 1) := by decide +kernel
theorem dX8_balance_28 : decode cX8_balance 28 = .ok (.iconst 0, 1) := by decide +kernel
theorem dX8_balance_29 : decode cX8_balance 29 = .ok (.istore 5, 2) := by decide +kernel
theorem dX8_balance_31 : decode cX8_balance 31 = .ok (.iconst 0, 1) := by decide +kernel
theorem dX8_balance_32 : decode cX8_balance 32 = .ok (.istore 6, 2) := by decide +kernel
theorem dX8_balance_34 : decode cX8_balance 34 = .ok (.iload 6, 2) := by decide +kernel
theorem dX8_balance_36 : decode cX8_balance 36 = .ok (.aload_n 0, 1) := by decide +kernel
theorem dX8_balance_37 : decode cX8_balance 37 = .ok (.getfield 16, 3) := by decide +kernel
theorem dX8_balance_40 : decode cX8_balance 40 = .ok (.getfield 200, 3) := by decide +kernel
theorem dX8_balance_43 : decode cX8_balance 43 = .ok (.if_icmp .ge 63, 3) := by decide +kernel
theorem dX8_balance_46 : decode cX8_balance 46 = .ok (.iconst 0, 1) := by decide +kernel
theorem dX8_balance_47 : decode cX8_balance 47 = .ok (.istore 7, 2) := by decide +kernel
theorem dX8_balance_49 : decode cX8_balance 49 = .ok (.iload 7, 2) := by decide +kernel
theorem dX8_balance_51 : decode cX8_balance 51 = .ok (.aload_n 0, 1) := by decide +kernel
theorem dX8_balance_52 : decode cX8_balance 52 = .ok (.getfield 16, 3) := by decide +kernel
theorem dX8_balance_55 : decode cX8_balance 55 = .ok (.getfield 200, 3) := by decide +kernel
theorem dX8_balance_58 : decode cX8_balance 58 = .ok (.if_icmp .ge 42, 3) := by decide +kernel
theorem dX8_balance_61 : decode cX8_balance 61 = .ok (.aload_n 0, 1) := by decide +kernel
theorem dX8_balance_62 : decode cX8_balance 62 = .ok (.iload_n 1, 1) := by decide +kernel
theorem dX8_balance_63 : decode cX8_balance 63 = .ok (.iload 6, 2) := by decide +kernel
theorem dX8_balance_65 : decode cX8_balance 65 = .ok (.iload_n 2, 1) := by decide +kernel
theorem dX8_balance_66 : decode cX8_balance 66 = .ok (.iload 7, 2) := by decide +kernel
theorem dX8_balance_68 : decode cX8_balance 68 = .ok (.iload_n 3, 1) := by decide +kernel
theorem dX8_balance_69 : decode cX8_balance 69 = .ok (.invokevirtual 201, 3) := by decide +kernel
theorem dX8_balance_72 : decode cX8_balance 72 = .ok (.ifCond .eq 22, 3) := by decide +kernel
theorem dX8_balance_75 : decode cX8_balance 75 = .ok (.iload 5, 2) := by decide +kernel
theorem dX8_balance_77 : decode cX8_balance 77 = .ok (.iload 4, 2) := by decide +kernel
theorem dX8_balance_79 : decode cX8_balance 79 = .ok (.if_icmp .ne 12, 3) := by decide +kernel
theorem dX8_balance_82 : decode cX8_balance 82 = .ok (.bipush 10, 2) := by decide +kernel
theorem dX8_balance_84 : decode cX8_balance 84 = .ok (.iload 6, 2) := by decide +kernel
theorem dX8_balance_86 : decode cX8_balance 86 = .ok (.imul, 1) := by decide +kernel
theorem dX8_balance_87 : decode cX8_balance 87 = .ok (.iload 7, 2) := by decide +kernel
theorem dX8_balance_89 : decode cX8_balance 89 = .ok (.iadd, 1) := by decide +kernel
theorem dX8_balance_90 : decode cX8_balance 90 = .ok (.ireturn, 1) := by decide +kernel
theorem dX8_balance_91 : decode cX8_balance 91 = .ok (.iinc 5 1, 3) := by decide +kernel
theorem dX8_balance_94 : decode cX8_balance 94 = .ok (.iinc 7 1, 3) := by decide +kernel
theorem dX8_balance_97 : decode cX8_balance 97 = .ok (.goto (-48), 3) := by decide +kernel
theorem dX8_balance_100 : decode cX8_balance 100 = .ok (.iinc 6 1, 3) := by decide +kernel
theorem dX8_balance_103 : decode cX8_balance 103 = .ok (.goto (-69), 3) := by decide +kernel
theorem dX8_balance_106 : decode cX8_balance 106 = .ok (.aload_n 0, 1) := by decide +kernel
theorem dX8_balance_107 : decode cX8_balance 107 = .ok (.ldc 154, 2) := by decide +kernel
theorem dX8_balance_109 : decode cX8_balance 109 = .ok (.invokevirtual 68, 3) := by decide +kernel
theorem dX8_balance_112 : decode cX8_balance 112 = .ok (.ireturn, 1) := by decide +kernel
theorem dX8_together_0 : decode cX8_together 0 = .ok (.aload_n 0, 1) := by decide +kernel
theorem dX8_together_1 : decode cX8_together 1 = .ok (.iload_n 1, 1) := by decide +kernel
theorem dX8_together_2 : decode cX8_together 2 = .ok (.invokevirtual 116, 3) := by decide +kernel
theorem dX8_together_5 : decode cX8_together 5 = .ok (.astore 4, 2) := by decide +kernel
theorem dX8_together_7 : decode cX8_together 7 = .ok (.aload_n 0, 1) := by decide +kernel
theorem dX8_together_8 : decode cX8_together 8 = .ok (.iload_n 2, 1) := by decide +kernel
theorem dX8_together_9 : decode cX8_together 9 = .ok (.invokevirtual 116, 3) := by decide +kernel
theorem dX8_together_12 : decode cX8_together 12 = .ok (.astore 5, 2) := by decide +kernel
theorem dX8_together_14 : decode cX8_together 14 = .ok (.aload 4, 2) := by decide +kernel
theorem dX8_together_16 : decode cX8_together 16 = .ok (.ifnull 20, 3) := by decide +kernel
theorem dX8_together_19 : decode cX8_together 19 = .ok (.aload 5, 2) := by decide +kernel
theorem dX8_together_21 : decode cX8_together 21 = .ok (.ifnull 15, 3) := by decide +kernel
theorem dX8_together_24 : decode cX8_together 24 = .ok (.iload_n 1, 1) := by decide +kernel
theorem dX8_together_25 : decode cX8_together 25 = .ok (.iload_n 2, 1) := by decide +kernel
theorem dX8_together_26 : decode cX8_together 26 = .ok (.if_icmp .eq 10, 3) := by decide +kernel
theorem dX8_together_29 : decode cX8_together 29 = .ok (.iload_n 3, 1) := by decide +kernel
theorem dX8_together_30 : decode cX8_together 30 = .ok (.invokestatic 97, 3) := by decide +kernel
theorem dX8_together_33 : decode cX8_together 33 = .ok (.ifCond .ne 10, 3) := by decide +kernel
theorem dX8_together_36 : decode cX8_together 36 = .ok (.aload_n 0, 1) := by decide +kernel
theorem dX8_together_37 : decode cX8_together 37 = .ok (.ldc 67, 2) := by decide +kernel
theorem dX8_together_39 : decode cX8_together 39 = .ok (.invokevirtual 68, 3) := by decide +kernel
theorem dX8_together_42 : decode cX8_together 42 = .ok (.ireturn, 1) := by decide +kernel
theorem dX8_together_43 : decode cX8_together 43 = .ok (.iconst (-1), 1) := by decide +kernel
theorem dX8_together_44 : decode cX8_together 44 = .ok (.istore 6, 2) := by decide +kernel
theorem dX8_together_46 : decode cX8_together 46 = .ok (.ldc 154, 2) := by decide +kernel
theorem dX8_together_48 : decode cX8_together 48 = .ok (.istore 7, 2) := by decide +kernel
theorem dX8_together_50 : decode cX8_together 50 = .ok (.iconst 0, 1) := by decide +kernel
theorem dX8_together_51 : decode cX8_together 51 = .ok (.istore 8, 2) := by decide +kernel
theorem dX8_together_53 : decode cX8_together 53 = .ok (.iload 8, 2) := by decide +kernel
theorem dX8_together_55 : decode cX8_together 55 = .ok (.aload_n 0, 1) := by decide +kernel
theorem dX8_together_56 : decode cX8_together 56 = .ok (.getfield 16, 3) := by decide +kernel
theorem dX8_together_59 : decode cX8_together 59 = .ok (.getfield 200, 3) := by decide +kernel
theorem dX8_together_62 : decode cX8_together 62 = .ok (.if_icmp .ge 100, 3) := by decide +kernel
theorem dX8_together_65 : decode cX8_together 65 = .ok (.iconst 0, 1) := by decide +kernel
theorem dX8_together_66 : decode cX8_together 66 = .ok (.istore 9, 2) := by decide +kernel
theorem dX8_together_68 : decode cX8_together 68 = .ok (.iload 9, 2) := by decide +kernel
theorem dX8_together_70 : decode cX8_together 70 = .ok (.aload_n 0, 1) := by decide +kernel
theorem dX8_together_71 : decode cX8_together 71 = .ok (.getfield 16, 3) := by decide +kernel
theorem dX8_together_74 : decode cX8_together 74 = .ok (.getfield 200, 3) := by decide +kernel
theorem dX8_together_77 : decode cX8_together 77 = .ok (.if_icmp .ge 79, 3) := by decide +kernel
theorem dX8_together_80 : decode cX8_together 80 = .ok (.aload_n 0, 1) := by decide +kernel
theorem dX8_together_81 : decode cX8_together 81 = .ok (.aload 4, 2) := by decide +kernel
theorem dX8_together_83 : decode cX8_together 83 = .ok (.iload 8, 2) := by decide +kernel
theorem dX8_together_85 : decode cX8_together 85 = .ok (.iload_n 3, 1) := by decide +kernel
theorem dX8_together_86 : decode cX8_together 86 = .ok (.invokevirtual 139, 3) := by decide +kernel
theorem dX8_together_89 : decode cX8_together 89 = .ok (.ifCond .eq 61, 3) := by decide +kernel
theorem dX8_together_92 : decode cX8_together 92 = .ok (.aload_n 0, 1) := by decide +kernel
theorem dX8_together_93 : decode cX8_together 93 = .ok (.aload 5, 2) := by decide +kernel
theorem dX8_together_95 : decode cX8_together 95 = .ok (.iload 9, 2) := by decide +kernel
theorem dX8_together_97 : decode cX8_together 97 = .ok (.iload_n 3, 1) := by decide +kernel
theorem dX8_together_98 : decode cX8_together 98 = .ok (.invokevirtual 139, 3) := by decide +kernel
theorem dX8_together_101 : decode cX8_together 101 = .ok (.ifCond .eq 49, 3) := by decide +kernel
theorem dX8_together_104 : decode cX8_together 104 = .ok (.aload_n 0, 1) := by decide +kernel
theorem dX8_together_105 : decode cX8_together 105 = .ok (.iload_n 1, 1) := by decide +kernel
theorem dX8_together_106 : decode cX8_together 106 = .ok (.iload 8, 2) := by decide +kernel
theorem dX8_together_108 : decode cX8_together 108 = .ok (.iload_n 2, 1) := by decide +kernel
theorem dX8_together_109 : decode cX8_together 109 = .ok (.iload 9, 2) := by decide +kernel
theorem dX8_together_111 : decode cX8_together 111 = .ok (.iload_n 3, 1) := by decide +kernel
theorem dX8_together_112 : decode cX8_together 112 = .ok (.invokevirtual 193, 3) := by decide +kernel
theorem dX8_together_115 : decode cX8_together 115 = .ok (.aload_n 0, 1) := by decide +kernel
theorem dX8_together_116 : decode cX8_together 116 = .ok (.iload_n 2, 1) := by decide +kernel
theorem dX8_together_117 : decode cX8_together 117 = .ok (.iload 9, 2) := by decide +kernel
theorem dX8_together_119 : decode cX8_together 119 = .ok (.iload_n 1, 1) := by decide +kernel
theorem dX8_together_120 : decode cX8_together 120 = .ok (.iload 8, 2) := by decide +kernel
theorem dX8_together_122 : decode cX8_together 122 = .ok (.iload_n 3, 1) := by decide +kernel
theorem dX8_together_123 : decode cX8_together 123 = .ok (.invokevirtual 193, 3) := by decide +kernel
theorem dX8_together_126 : decode cX8_together 126 = .ok (.iadd, 1) := by decide +kernel
theorem dX8_together_127 : decode cX8_together 127 = .ok (.istore 10, 2) := by decide +kernel
theorem dX8_together_129 : decode cX8_together 129 = .ok (.iload 10, 2) := by decide +kernel
theorem dX8_together_131 : decode cX8_together 131 = .ok (.iload 6, 2) := by decide +kernel
theorem dX8_together_133 : decode cX8_together 133 = .ok (.if_icmp .le 17, 3) := by decide +kernel
theorem dX8_together_136 : decode cX8_together 136 = .ok (.iload 10, 2) := by decide +kernel
theorem dX8_together_138 : decode cX8_together 138 = .ok (.istore 6, 2) := by decide +kernel
theorem dX8_together_140 : decode cX8_together 140 = .ok (.bipush 10, 2) := by decide +kernel
theorem dX8_together_142 : decode cX8_together 142 = .ok (.iload 8, 2) := by decide +kernel
theorem dX8_together_144 : decode cX8_together 144 = .ok (.imul, 1) := by decide +kernel
theorem dX8_together_145 : decode cX8_together 145 = .ok (.iload 9, 2) := by decide +kernel
theorem dX8_together_147 : decode cX8_together 147 = .ok (.iadd, 1) := by decide +kernel
theorem dX8_together_148 : decode cX8_together 148 = .ok (.istore 7, 2) := by decide +kernel
theorem dX8_together_150 : decode cX8_together 150 = .ok (.iinc 9 1, 3) := by decide +kernel
theorem dX8_together_153 : decode cX8_together 153 = .ok (.goto (-85), 3) := by decide +kernel
theorem dX8_together_156 : decode cX8_together 156 = .ok (.iinc 8 1, 3) := by decide +kernel
theorem dX8_together_159 : decode cX8_together 159 = .ok (.goto (-106), 3) := by decide +kernel
theorem dX8_together_162 : decode cX8_together 162 = .ok (.iload 7, 2) := by decide +kernel
theorem dX8_together_164 : decode cX8_together 164 = .ok (.ldc 154, 2) := by decide +kernel
theorem dX8_together_166 : decode cX8_together 166 = .ok (.if_icmp .ne 12, 3) := by decide +kernel
theorem dX8_together_169 : decode cX8_together 169 = .ok (.aload_n 0, 1) := by decide +kernel
theorem dX8_together_170 : decode cX8_together 170 = .ok (.ldc 154, 2) := by decide +kernel
theorem dX8_together_172 : decode cX8_together 172 = .ok (.invokevirtual 68, 3) := by decide +kernel
theorem dX8_together_175 : decode cX8_together 175 = .ok (.goto 5, 3) := by decide +kernel
theorem dX8_together_178 : decode cX8_together 178 = .ok (.iload 7, 2) := by decide +kernel
theorem dX8_together_180 : decode cX8_together 180 = .ok (.ireturn, 1) := by decide +kernel
theorem dX8_credit_0 : decode cX8_credit 0 = .ok (.iload_n 1, 1) := by decide +kernel
theorem dX8_credit_1 : decode cX8_credit 1 = .ok (.bipush 60, 2) := by decide +kernel
theorem dX8_credit_3 : decode cX8_credit 3 = .ok (.invokestatic 85, 3) := by decide +kernel
theorem dX8_credit_6 : decode cX8_credit 6 = .ok (.ifCond .ne 10, 3) := by decide +kernel
theorem dX8_credit_9 : decode cX8_credit 9 = .ok (.aload_n 0, 1) := by decide +kernel
theorem dX8_credit_10 : decode cX8_credit 10 = .ok (.ldc 67, 2) := by decide +kernel
theorem dX8_credit_12 : decode cX8_credit 12 = .ok (.invokevirtual 68, 3) := by decide +kernel
theorem dX8_credit_15 : decode cX8_credit 15 = .ok (.ireturn, 1) := by decide +kernel
theorem dX8_credit_16 : decode cX8_credit 16 = .ok (.aload_n 0, 1) := by decide +kernel
theorem dX8_credit_17 : decode cX8_credit 17 = .ok (.getfield 57, 3) := by decide +kernel
theorem dX8_credit_20 : decode cX8_credit 20 = .ok (.getfield 205, 3) := by decide +kernel
theorem dX8_credit_23 : decode cX8_credit 23 = .ok (.istore_n 2, 1) := by decide +kernel
theorem dX8_credit_24 : decode cX8_credit 24 = .ok (.aload_n 0, 1) := by decide +kernel
theorem dX8_credit_25 : decode cX8_credit 25 = .ok (.getfield 57, 3) := by decide +kernel
theorem dX8_credit_28 : decode cX8_credit 28 = .ok (.iload_n 1, 1) := by decide +kernel
theorem dX8_credit_29 : decode cX8_credit 29 = .ok (.putfield 205, 3) := by decide +kernel
theorem dX8_credit_32 : decode cX8_credit 32 = .ok (.iload_n 2, 1) := by decide +kernel
theorem dX8_credit_33 : decode cX8_credit 33 = .ok (.ireturn, 1) := by decide +kernel
theorem dX8_bill_0 : decode cX8_bill 0 = .ok (.iload_n 1, 1) := by decide +kernel
theorem dX8_bill_1 : decode cX8_bill 1 = .ok (.iconst 1, 1) := by decide +kernel
theorem dX8_bill_2 : decode cX8_bill 2 = .ok (.if_icmp .lt 20, 3) := by decide +kernel
theorem dX8_bill_5 : decode cX8_bill 5 = .ok (.iload_n 1, 1) := by decide +kernel
theorem dX8_bill_6 : decode cX8_bill 6 = .ok (.sipush 10000, 3) := by decide +kernel
theorem dX8_bill_9 : decode cX8_bill 9 = .ok (.if_icmp .gt 13, 3) := by decide +kernel
theorem dX8_bill_12 : decode cX8_bill 12 = .ok (.iload_n 2, 1) := by decide +kernel
theorem dX8_bill_13 : decode cX8_bill 13 = .ok (.sipush 1000, 3) := by decide +kernel
theorem dX8_bill_16 : decode cX8_bill 16 = .ok (.invokestatic 85, 3) := by decide +kernel
theorem dX8_bill_19 : decode cX8_bill 19 = .ok (.ifCond .ne 10, 3) := by decide +kernel
theorem dX8_bill_22 : decode cX8_bill 22 = .ok (.aload_n 0, 1) := by decide +kernel
theorem dX8_bill_23 : decode cX8_bill 23 = .ok (.ldc 67, 2) := by decide +kernel
theorem dX8_bill_25 : decode cX8_bill 25 = .ok (.invokevirtual 68, 3) := by decide +kernel
theorem dX8_bill_28 : decode cX8_bill 28 = .ok (.ireturn, 1) := by decide +kernel
theorem dX8_bill_29 : decode cX8_bill 29 = .ok (.aload_n 0, 1) := by decide +kernel
theorem dX8_bill_30 : decode cX8_bill 30 = .ok (.getfield 57, 3) := by decide +kernel
theorem dX8_bill_33 : decode cX8_bill 33 = .ok (.invokevirtual 208, 3) := by decide +kernel
theorem dX8_bill_36 : decode cX8_bill 36 = .ok (.ifCond .eq 10, 3) := by decide +kernel
theorem dX8_bill_39 : decode cX8_bill 39 = .ok (.aload_n 0, 1) := by decide +kernel
theorem dX8_bill_40 : decode cX8_bill 40 = .ok (.ldc 76, 2) := by decide +kernel
theorem dX8_bill_42 : decode cX8_bill 42 = .ok (.invokevirtual 68, 3) := by decide +kernel
theorem dX8_bill_45 : decode cX8_bill 45 = .ok (.ireturn, 1) := by decide +kernel
theorem dX8_bill_46 : decode cX8_bill 46 = .ok (.aload_n 0, 1) := by decide +kernel
theorem dX8_bill_47 : decode cX8_bill 47 = .ok (.getfield 57, 3) := by decide +kernel
theorem dX8_bill_50 : decode cX8_bill 50 = .ok (.iload_n 1, 1) := by decide +kernel
theorem dX8_bill_51 : decode cX8_bill 51 = .ok (.iload_n 2, 1) := by decide +kernel
theorem dX8_bill_52 : decode cX8_bill 52 = .ok (.invokevirtual 209, 3) := by decide +kernel
theorem dX8_bill_55 : decode cX8_bill 55 = .ok (.ireturn, 1) := by decide +kernel
theorem dX8_pay_0 : decode cX8_pay 0 = .ok (.aload_n 0, 1) := by decide +kernel
theorem dX8_pay_1 : decode cX8_pay 1 = .ok (.getfield 57, 3) := by decide +kernel
theorem dX8_pay_4 : decode cX8_pay 4 = .ok (.iload_n 1, 1) := by decide +kernel
theorem dX8_pay_5 : decode cX8_pay 5 = .ok (.invokevirtual 211, 3) := by decide +kernel
theorem dX8_pay_8 : decode cX8_pay 8 = .ok (.ifCond .eq 8, 3) := by decide +kernel
theorem dX8_pay_11 : decode cX8_pay 11 = .ok (.iload_n 2, 1) := by decide +kernel
theorem dX8_pay_12 : decode cX8_pay 12 = .ok (.iconst 1, 1) := by decide +kernel
theorem dX8_pay_13 : decode cX8_pay 13 = .ok (.if_icmp .ge 10, 3) := by decide +kernel
theorem dX8_pay_16 : decode cX8_pay 16 = .ok (.aload_n 0, 1) := by decide +kernel
theorem dX8_pay_17 : decode cX8_pay 17 = .ok (.ldc 67, 2) := by decide +kernel
theorem dX8_pay_19 : decode cX8_pay 19 = .ok (.invokevirtual 68, 3) := by decide +kernel
theorem dX8_pay_22 : decode cX8_pay 22 = .ok (.ireturn, 1) := by decide +kernel
theorem dX8_pay_23 : decode cX8_pay 23 = .ok (.aload_n 0, 1) := by decide +kernel
theorem dX8_pay_24 : decode cX8_pay 24 = .ok (.getfield 57, 3) := by decide +kernel
theorem dX8_pay_27 : decode cX8_pay 27 = .ok (.getfield 212, 3) := by decide +kernel
theorem dX8_pay_30 : decode cX8_pay 30 = .ok (.iload_n 1, 1) := by decide +kernel
theorem dX8_pay_31 : decode cX8_pay 31 = .ok (.iaload, 1) := by decide +kernel
theorem dX8_pay_32 : decode cX8_pay 32 = .ok (.iload_n 2, 1) := by decide +kernel
theorem dX8_pay_33 : decode cX8_pay 33 = .ok (.if_icmp .ge 10, 3) := by decide +kernel
theorem dX8_pay_36 : decode cX8_pay 36 = .ok (.aload_n 0, 1) := by decide +kernel
theorem dX8_pay_37 : decode cX8_pay 37 = .ok (.ldc 176, 2) := by decide +kernel
theorem dX8_pay_39 : decode cX8_pay 39 = .ok (.invokevirtual 68, 3) := by decide +kernel
theorem dX8_pay_42 : decode cX8_pay 42 = .ok (.ireturn, 1) := by decide +kernel
theorem dX8_pay_43 : decode cX8_pay 43 = .ok (.aload_n 0, 1) := by decide +kernel
theorem dX8_pay_44 : decode cX8_pay 44 = .ok (.getfield 57, 3) := by decide +kernel
