theorem dX6_standIn_2 : decode cX6_standIn 2 = .ok (.iload_n 3, 1) := by decide +kernel
theorem dX6_standIn_3 : decode cX6_standIn 3 = .ok (.invokevirtual 28, 3) := by decide +kernel
theorem dX6_standIn_6 : decode cX6_standIn 6 = .ok (.ifCond .eq 10, 3) := by decide +kernel
theorem dX6_standIn_9 : decode cX6_standIn 9 = .ok (.iload 4, 2) := by decide +kernel
theorem dX6_standIn_11 : decode cX6_standIn 11 = .ok (.iconst 2, 1) := by decide +kernel
theorem dX6_standIn_12 : decode cX6_standIn 12 = .ok (.idiv, 1) := by decide +kernel
theorem dX6_standIn_13 : decode cX6_standIn 13 = .ok (.goto 5, 3) := by decide +kernel
theorem dX6_standIn_16 : decode cX6_standIn 16 = .ok (.iload 4, 2) := by decide +kernel
theorem dX6_standIn_18 : decode cX6_standIn 18 = .ok (.istore 5, 2) := by decide +kernel
theorem dX6_standIn_20 : decode cX6_standIn 20 = .ok (.aload_n 0, 1) := by decide +kernel
theorem dX6_standIn_21 : decode cX6_standIn 21 = .ok (.getfield 22, 3) := by decide +kernel
theorem dX6_standIn_24 : decode cX6_standIn 24 = .ok (.aload_n 1, 1) := by decide +kernel
theorem dX6_standIn_25 : decode cX6_standIn 25 = .ok (.iload 5, 2) := by decide +kernel
theorem dX6_standIn_27 : decode cX6_standIn 27 = .ok (.invokevirtual 32, 3) := by decide +kernel
theorem dX6_standIn_30 : decode cX6_standIn 30 = .ok (.invokestatic 38, 3) := by decide +kernel
theorem dX6_standIn_33 : decode cX6_standIn 33 = .ok (.istore 6, 2) := by decide +kernel
theorem dX6_standIn_35 : decode cX6_standIn 35 = .ok (.aload_n 0, 1) := by decide +kernel
theorem dX6_standIn_36 : decode cX6_standIn 36 = .ok (.dup, 1) := by decide +kernel
theorem dX6_standIn_37 : decode cX6_standIn 37 = .ok (.getfield 25, 3) := by decide +kernel
theorem dX6_standIn_40 : decode cX6_standIn 40 = .ok (.iload 6, 2) := by decide +kernel
theorem dX6_standIn_42 : decode cX6_standIn 42 = .ok (.iadd, 1) := by decide +kernel
theorem dX6_standIn_43 : decode cX6_standIn 43 = .ok (.putfield 25, 3) := by decide +kernel
theorem dX6_standIn_46 : decode cX6_standIn 46 = .ok (.aload_n 0, 1) := by decide +kernel
theorem dX6_standIn_47 : decode cX6_standIn 47 = .ok (.dup, 1) := by decide +kernel
theorem dX6_standIn_48 : decode cX6_standIn 48 = .ok (.getfield 22, 3) := by decide +kernel
theorem dX6_standIn_51 : decode cX6_standIn 51 = .ok (.iload 6, 2) := by decide +kernel
theorem dX6_standIn_53 : decode cX6_standIn 53 = .ok (.isub, 1) := by decide +kernel
theorem dX6_standIn_54 : decode cX6_standIn 54 = .ok (.putfield 22, 3) := by decide +kernel
theorem dX6_standIn_57 : decode cX6_standIn 57 = .ok (.aload_n 0, 1) := by decide +kernel
theorem dX6_standIn_58 : decode cX6_standIn 58 = .ok (.dup, 1) := by decide +kernel
theorem dX6_standIn_59 : decode cX6_standIn 59 = .ok (.getfield 22, 3) := by decide +kernel
theorem dX6_standIn_62 : decode cX6_standIn 62 = .ok (.aload_n 1, 1) := by decide +kernel
theorem dX6_standIn_63 : decode cX6_standIn 63 = .ok (.aload_n 0, 1) := by decide +kernel
theorem dX6_standIn_64 : decode cX6_standIn 64 = .ok (.getfield 22, 3) := by decide +kernel
theorem dX6_standIn_67 : decode cX6_standIn 67 = .ok (.invokevirtual 44, 3) := by decide +kernel
theorem dX6_standIn_70 : decode cX6_standIn 70 = .ok (.isub, 1) := by decide +kernel
theorem dX6_standIn_71 : decode cX6_standIn 71 = .ok (.putfield 22, 3) := by decide +kernel
theorem dX6_standIn_74 : decode cX6_standIn 74 = .ok (.aload_n 0, 1) := by decide +kernel
theorem dX6_standIn_75 : decode cX6_standIn 75 = .ok (.getfield 9, 3) := by decide +kernel
theorem dX6_standIn_78 : decode cX6_standIn 78 = .ok (.aload_n 0, 1) := by decide +kernel
theorem dX6_standIn_79 : decode cX6_standIn 79 = .ok (.getfield 18, 3) := by decide +kernel
theorem dX6_standIn_82 : decode cX6_standIn 82 = .ok (.iload_n 2, 1) := by decide +kernel
theorem dX6_standIn_83 : decode cX6_standIn 83 = .ok (.iastore, 1) := by decide +kernel
theorem dX6_standIn_84 : decode cX6_standIn 84 = .ok (.aload_n 0, 1) := by decide +kernel
theorem dX6_standIn_85 : decode cX6_standIn 85 = .ok (.getfield 15, 3) := by decide +kernel
theorem dX6_standIn_88 : decode cX6_standIn 88 = .ok (.aload_n 0, 1) := by decide +kernel
theorem dX6_standIn_89 : decode cX6_standIn 89 = .ok (.getfield 18, 3) := by decide +kernel
theorem dX6_standIn_92 : decode cX6_standIn 92 = .ok (.iload_n 3, 1) := by decide +kernel
theorem dX6_standIn_93 : decode cX6_standIn 93 = .ok (.iastore, 1) := by decide +kernel
theorem dX6_standIn_94 : decode cX6_standIn 94 = .ok (.aload_n 0, 1) := by decide +kernel
theorem dX6_standIn_95 : decode cX6_standIn 95 = .ok (.dup, 1) := by decide +kernel
theorem dX6_standIn_96 : decode cX6_standIn 96 = .ok (.getfield 18, 3) := by decide +kernel
theorem dX6_standIn_99 : decode cX6_standIn 99 = .ok (.iconst 1, 1) := by decide +kernel
theorem dX6_standIn_100 : decode cX6_standIn 100 = .ok (.iadd, 1) := by decide +kernel
theorem dX6_standIn_101 : decode cX6_standIn 101 = .ok (.putfield 18, 3) := by decide +kernel
theorem dX6_standIn_104 : decode cX6_standIn 104 = .ok (.return_, 1) := by decide +kernel
theorem dX6_stepBack_0 : decode cX6_stepBack 0 = .ok (.aload_n 0, 1) := by decide +kernel
theorem dX6_stepBack_1 : decode cX6_stepBack 1 = .ok (.dup, 1) := by decide +kernel
theorem dX6_stepBack_2 : decode cX6_stepBack 2 = .ok (.getfield 18, 3) := by decide +kernel
theorem dX6_stepBack_5 : decode cX6_stepBack 5 = .ok (.iconst 1, 1) := by decide +kernel
theorem dX6_stepBack_6 : decode cX6_stepBack 6 = .ok (.isub, 1) := by decide +kernel
theorem dX6_stepBack_7 : decode cX6_stepBack 7 = .ok (.putfield 18, 3) := by decide +kernel
theorem dX6_stepBack_10 : decode cX6_stepBack 10 = .ok (.aload_n 0, 1) := by decide +kernel
theorem dX6_stepBack_11 : decode cX6_stepBack 11 = .ok (.iload_n 1, 1) := by decide +kernel
theorem dX6_stepBack_12 : decode cX6_stepBack 12 = .ok (.putfield 22, 3) := by decide +kernel
theorem dX6_stepBack_15 : decode cX6_stepBack 15 = .ok (.aload_n 0, 1) := by decide +kernel
theorem dX6_stepBack_16 : decode cX6_stepBack 16 = .ok (.iload_n 2, 1) := by decide +kernel
theorem dX6_stepBack_17 : decode cX6_stepBack 17 = .ok (.putfield 25, 3) := by decide +kernel
theorem dX6_stepBack_20 : decode cX6_stepBack 20 = .ok (.return_, 1) := by decide +kernel
theorem dX6_copyFrom_0 : decode cX6_copyFrom 0 = .ok (.iconst 0, 1) := by decide +kernel
theorem dX6_copyFrom_1 : decode cX6_copyFrom 1 = .ok (.istore_n 2, 1) := by decide +kernel
theorem dX6_copyFrom_2 : decode cX6_copyFrom 2 = .ok (.iload_n 2, 1) := by decide +kernel
theorem dX6_copyFrom_3 : decode cX6_copyFrom 3 = .ok (.aload_n 1, 1) := by decide +kernel
theorem dX6_copyFrom_4 : decode cX6_copyFrom 4 = .ok (.getfield 18, 3) := by decide +kernel
theorem dX6_copyFrom_7 : decode cX6_copyFrom 7 = .ok (.if_icmp .ge 33, 3) := by decide +kernel
theorem dX6_copyFrom_10 : decode cX6_copyFrom 10 = .ok (.aload_n 0, 1) := by decide +kernel
theorem dX6_copyFrom_11 : decode cX6_copyFrom 11 = .ok (.getfield 9, 3) := by decide +kernel
theorem dX6_copyFrom_14 : decode cX6_copyFrom 14 = .ok (.iload_n 2, 1) := by decide +kernel
theorem dX6_copyFrom_15 : decode cX6_copyFrom 15 = .ok (.aload_n 1, 1) := by decide +kernel
theorem dX6_copyFrom_16 : decode cX6_copyFrom 16 = .ok (.getfield 9, 3) := by decide +kernel
theorem dX6_copyFrom_19 : decode cX6_copyFrom 19 = .ok (.iload_n 2, 1) := by decide +kernel
theorem dX6_copyFrom_20 : decode cX6_copyFrom 20 = .ok (.iaload, 1) := by decide +kernel
theorem dX6_copyFrom_21 : decode cX6_copyFrom 21 = .ok (.iastore, 1) := by decide +kernel
theorem dX6_copyFrom_22 : decode cX6_copyFrom 22 = .ok (.aload_n 0, 1) := by decide +kernel
theorem dX6_copyFrom_23 : decode cX6_copyFrom 23 = .ok (.getfield 15, 3) := by decide +kernel
theorem dX6_copyFrom_26 : decode cX6_copyFrom 26 = .ok (.iload_n 2, 1) := by decide +kernel
theorem dX6_copyFrom_27 : decode cX6_copyFrom 27 = .ok (.aload_n 1, 1) := by decide +kernel
theorem dX6_copyFrom_28 : decode cX6_copyFrom 28 = .ok (.getfield 15, 3) := by decide +kernel
theorem dX6_copyFrom_31 : decode cX6_copyFrom 31 = .ok (.iload_n 2, 1) := by decide +kernel
theorem dX6_copyFrom_32 : decode cX6_copyFrom 32 = .ok (.iaload, 1) := by decide +kernel
theorem dX6_copyFrom_33 : decode cX6_copyFrom 33 = .ok (.iastore, 1) := by decide +kernel
theorem dX6_copyFrom_34 : decode cX6_copyFrom 34 = .ok (.iinc 2 1, 3) := by decide +kernel
theorem dX6_copyFrom_37 : decode cX6_copyFrom 37 = .ok (.goto (-35), 3) := by decide +kernel
theorem dX6_copyFrom_40 : decode cX6_copyFrom 40 = .ok (.aload_n 0, 1) := by decide +kernel
theorem dX6_copyFrom_41 : decode cX6_copyFrom 41 = .ok (.aload_n 1, 1) := by decide +kernel
theorem dX6_copyFrom_42 : decode cX6_copyFrom 42 = .ok (.getfield 18, 3) := by decide +kernel
theorem dX6_copyFrom_45 : decode cX6_copyFrom 45 = .ok (.putfield 18, 3) := by decide +kernel
theorem dX6_copyFrom_48 : decode cX6_copyFrom 48 = .ok (.aload_n 0, 1) := by decide +kernel
theorem dX6_copyFrom_49 : decode cX6_copyFrom 49 = .ok (.aload_n 1, 1) := by decide +kernel
theorem dX6_copyFrom_50 : decode cX6_copyFrom 50 = .ok (.getfield 22, 3) := by decide +kernel
theorem dX6_copyFrom_53 : decode cX6_copyFrom 53 = .ok (.putfield 22, 3) := by decide +kernel
theorem dX6_copyFrom_56 : decode cX6_copyFrom 56 = .ok (.aload_n 0, 1) := by decide +kernel
theorem dX6_copyFrom_57 : decode cX6_copyFrom 57 = .ok (.aload_n 1, 1) := by decide +kernel
theorem dX6_copyFrom_58 : decode cX6_copyFrom 58 = .ok (.getfield 25, 3) := by decide +kernel
theorem dX6_copyFrom_61 : decode cX6_copyFrom 61 = .ok (.putfield 25, 3) := by decide +kernel
theorem dX6_copyFrom_64 : decode cX6_copyFrom 64 = .ok (.return_, 1) := by decide +kernel
theorem dX6_wasLatelyIn_0 : decode cX6_wasLatelyIn 0 = .ok (.iconst 0, 1) := by decide +kernel
theorem dX6_wasLatelyIn_1 : decode cX6_wasLatelyIn 1 = .ok (.istore_n 3, 1) := by decide +kernel
theorem dX6_wasLatelyIn_2 : decode cX6_wasLatelyIn 2 = .ok (.iload_n 3, 1) := by decide +kernel
theorem dX6_wasLatelyIn_3 : decode cX6_wasLatelyIn 3 = .ok (.aload_n 0, 1) := by decide +kernel
theorem dX6_wasLatelyIn_4 : decode cX6_wasLatelyIn 4 = .ok (.getfield 18, 3) := by decide +kernel
theorem dX6_wasLatelyIn_7 : decode cX6_wasLatelyIn 7 = .ok (.if_icmp .ge 33, 3) := by decide +kernel
theorem dX6_wasLatelyIn_10 : decode cX6_wasLatelyIn 10 = .ok (.aload_n 0, 1) := by decide +kernel
theorem dX6_wasLatelyIn_11 : decode cX6_wasLatelyIn 11 = .ok (.getfield 9, 3) := by decide +kernel
theorem dX6_wasLatelyIn_14 : decode cX6_wasLatelyIn 14 = .ok (.iload_n 3, 1) := by decide +kernel
theorem dX6_wasLatelyIn_15 : decode cX6_wasLatelyIn 15 = .ok (.iaload, 1) := by decide +kernel
theorem dX6_wasLatelyIn_16 : decode cX6_wasLatelyIn 16 = .ok (.iload_n 1, 1) := by decide +kernel
theorem dX6_wasLatelyIn_17 : decode cX6_wasLatelyIn 17 = .ok (.if_icmp .ne 17, 3) := by decide +kernel
theorem dX6_wasLatelyIn_20 : decode cX6_wasLatelyIn 20 = .ok (.iload_n 2, 1) := by decide +kernel
theorem dX6_wasLatelyIn_21 : decode cX6_wasLatelyIn 21 = .ok (.aload_n 0, 1) := by decide +kernel
theorem dX6_wasLatelyIn_22 : decode cX6_wasLatelyIn 22 = .ok (.getfield 15, 3) := by decide +kernel
theorem dX6_wasLatelyIn_25 : decode cX6_wasLatelyIn 25 = .ok (.iload_n 3, 1) := by decide +kernel
theorem dX6_wasLatelyIn_26 : decode cX6_wasLatelyIn 26 = .ok (.iaload, 1) := by decide +kernel
theorem dX6_wasLatelyIn_27 : decode cX6_wasLatelyIn 27 = .ok (.isub, 1) := by decide +kernel
theorem dX6_wasLatelyIn_28 : decode cX6_wasLatelyIn 28 = .ok (.iconst 2, 1) := by decide +kernel
theorem dX6_wasLatelyIn_29 : decode cX6_wasLatelyIn 29 = .ok (.if_icmp .gt 5, 3) := by decide +kernel
theorem dX6_wasLatelyIn_32 : decode cX6_wasLatelyIn 32 = .ok (.iconst 1, 1) := by decide +kernel
theorem dX6_wasLatelyIn_33 : decode cX6_wasLatelyIn 33 = .ok (.ireturn, 1) := by decide +kernel
theorem dX6_wasLatelyIn_34 : decode cX6_wasLatelyIn 34 = .ok (.iinc 3 1, 3) := by decide +kernel
theorem dX6_wasLatelyIn_37 : decode cX6_wasLatelyIn 37 = .ok (.goto (-35), 3) := by decide +kernel
theorem dX6_wasLatelyIn_40 : decode cX6_wasLatelyIn 40 = .ok (.iconst 0, 1) := by decide +kernel
theorem dX6_wasLatelyIn_41 : decode cX6_wasLatelyIn 41 = .ok (.ireturn, 1) := by decide +kernel
theorem dX7_init_0 : decode cX7_init 0 = .ok (.aload_n 0, 1) := by decide +kernel
theorem dX7_init_1 : decode cX7_init 1 = .ok (.invokespecial 3, 3) := by decide +kernel
theorem dX7_init_4 : decode cX7_init 4 = .ok (.aload_n 0, 1) := by decide +kernel
theorem dX7_init_5 : decode cX7_init 5 = .ok (.iconst 0, 1) := by decide +kernel
theorem dX7_init_6 : decode cX7_init 6 = .ok (.putfield 9, 3) := by decide +kernel
theorem dX7_init_9 : decode cX7_init 9 = .ok (.aload_n 0, 1) := by decide +kernel
theorem dX7_init_10 : decode cX7_init 10 = .ok (.bipush 63, 2) := by decide +kernel
theorem dX7_init_12 : decode cX7_init 12 = .ok (.putfield 15, 3) := by decide +kernel
theorem dX7_init_15 : decode cX7_init 15 = .ok (.return_, 1) := by decide +kernel
theorem dX7_isLicensed_0 : decode cX7_isLicensed 0 = .ok (.aload_n 0, 1) := by decide +kernel
theorem dX7_isLicensed_1 : decode cX7_isLicensed 1 = .ok (.getfield 15, 3) := by decide +kernel
theorem dX7_isLicensed_4 : decode cX7_isLicensed 4 = .ok (.iload_n 1, 1) := by decide +kernel
theorem dX7_isLicensed_5 : decode cX7_isLicensed 5 = .ok (.ishr, 1) := by decide +kernel
theorem dX7_isLicensed_6 : decode cX7_isLicensed 6 = .ok (.iconst 1, 1) := by decide +kernel
theorem dX7_isLicensed_7 : decode cX7_isLicensed 7 = .ok (.iand, 1) := by decide +kernel
theorem dX7_isLicensed_8 : decode cX7_isLicensed 8 = .ok (.iconst 1, 1) := by decide +kernel
theorem dX7_isLicensed_9 : decode cX7_isLicensed 9 = .ok (.if_icmp .ne 7, 3) := by decide +kernel
theorem dX7_isLicensed_12 : decode cX7_isLicensed 12 = .ok (.iconst 1, 1) := by decide +kernel
theorem dX7_isLicensed_13 : decode cX7_isLicensed 13 = .ok (.goto 4, 3) := by decide +kernel
theorem dX7_isLicensed_16 : decode cX7_isLicensed 16 = .ok (.iconst 0, 1) := by decide +kernel
theorem dX7_isLicensed_17 : decode cX7_isLicensed 17 = .ok (.ireturn, 1) := by decide +kernel
theorem dX7_mostSoldOf_0 : decode cX7_mostSoldOf 0 = .ok (.iload_n 1, 1) := by decide +kernel
theorem dX7_mostSoldOf_1 : decode cX7_mostSoldOf 1 = .ok (.ireturn, 1) := by decide +kernel
theorem dX7_meltingOf_0 : decode cX7_meltingOf 0 = .ok (.iload_n 1, 1) := by decide +kernel
theorem dX7_meltingOf_1 : decode cX7_meltingOf 1 = .ok (.bipush 10, 2) := by decide +kernel
theorem dX7_meltingOf_3 : decode cX7_meltingOf 3 = .ok (.idiv, 1) := by decide +kernel
theorem dX7_meltingOf_4 : decode cX7_meltingOf 4 = .ok (.ireturn, 1) := by decide +kernel
theorem dX7_hoursAcross_0 : decode cX7_hoursAcross 0 = .ok (.iconst 1, 1) := by decide +kernel
theorem dX7_hoursAcross_1 : decode cX7_hoursAcross 1 = .ok (.iload_n 1, 1) := by decide +kernel
theorem dX7_hoursAcross_2 : decode cX7_hoursAcross 2 = .ok (.iadd, 1) := by decide +kernel
theorem dX7_hoursAcross_3 : decode cX7_hoursAcross 3 = .ok (.ireturn, 1) := by decide +kernel
theorem dX8_init_0 : decode cX8_init 0 = .ok (.aload_n 0, 1) := by decide +kernel
theorem dX8_init_1 : decode cX8_init 1 = .ok (.invokespecial 3, 3) := by decide +kernel
theorem dX8_init_4 : decode cX8_init 4 = .ok (.aload_n 0, 1) := by decide +kernel
theorem dX8_init_5 : decode cX8_init 5 = .ok (.bipush 6, 2) := by decide +kernel
theorem dX8_init_7 : decode cX8_init 7 = .ok (.newarray .int, 2) := by decide +kernel
theorem dX8_init_9 : decode cX8_init 9 = .ok (.putfield 9, 3) := by decide +kernel
theorem dX8_init_12 : decode cX8_init 12 = .ok (.aload_n 0, 1) := by decide +kernel
theorem dX8_init_13 : decode cX8_init 13 = .ok (.new 13, 3) := by decide +kernel
theorem dX8_init_16 : decode cX8_init 16 = .ok (.dup, 1) := by decide +kernel
theorem dX8_init_17 : decode cX8_init 17 = .ok (.invokespecial 15, 3) := by decide +kernel
theorem dX8_init_20 : decode cX8_init 20 = .ok (.putfield 16, 3) := by decide +kernel
theorem dX8_init_23 : decode cX8_init 23 = .ok (.aload_n 0, 1) := by decide +kernel
theorem dX8_init_24 : decode cX8_init 24 = .ok (.new 20, 3) := by decide +kernel
theorem dX8_init_27 : decode cX8_init 27 = .ok (.dup, 1) := by decide +kernel
theorem dX8_init_28 : decode cX8_init 28 = .ok (.invokespecial 22, 3) := by decide +kernel
theorem dX8_init_31 : decode cX8_init 31 = .ok (.putfield 23, 3) := by decide +kernel
theorem dX8_init_34 : decode cX8_init 34 = .ok (.aload_n 0, 1) := by decide +kernel
theorem dX8_init_35 : decode cX8_init 35 = .ok (.iconst 4, 1) := by decide +kernel
theorem dX8_init_36 : decode cX8_init 36 = .ok (.anewarray 27, 3) := by decide +kernel
theorem dX8_init_39 : decode cX8_init 39 = .ok (.putfield 29, 3) := by decide +kernel
theorem dX8_init_42 : decode cX8_init 42 = .ok (.aload_n 0, 1) := by decide +kernel
theorem dX8_init_43 : decode cX8_init 43 = .ok (.iconst 0, 1) := by decide +kernel
theorem dX8_init_44 : decode cX8_init 44 = .ok (.putfield 33, 3) := by decide +kernel
theorem dX8_init_47 : decode cX8_init 47 = .ok (.aload_n 0, 1) := by decide +kernel
theorem dX8_init_48 : decode cX8_init 48 = .ok (.new 37, 3) := by decide +kernel
theorem dX8_init_51 : decode cX8_init 51 = .ok (.dup, 1) := by decide +kernel
theorem dX8_init_52 : decode cX8_init 52 = .ok (.invokespecial 39, 3) := by decide +kernel
theorem dX8_init_55 : decode cX8_init 55 = .ok (.putfield 40, 3) := by decide +kernel
theorem dX8_init_58 : decode cX8_init 58 = .ok (.aload_n 0, 1) := by decide +kernel
theorem dX8_init_59 : decode cX8_init 59 = .ok (.new 37, 3) := by decide +kernel
theorem dX8_init_62 : decode cX8_init 62 = .ok (.dup, 1) := by decide +kernel
theorem dX8_init_63 : decode cX8_init 63 = .ok (.invokespecial 39, 3) := by decide +kernel
theorem dX8_init_66 : decode cX8_init 66 = .ok (.putfield 44, 3) := by decide +kernel
theorem dX8_init_69 : decode cX8_init 69 = .ok (.aload_n 0, 1) := by decide +kernel
theorem dX8_init_70 : decode cX8_init 70 = .ok (.new 47, 3) := by decide +kernel
theorem dX8_init_73 : decode cX8_init 73 = .ok (.dup, 1) := by decide +kernel
theorem dX8_init_74 : decode cX8_init 74 = .ok (.invokespecial 49, 3) := by decide +kernel
theorem dX8_init_77 : decode cX8_init 77 = .ok (.putfield 50, 3) := by decide +kernel
theorem dX8_init_80 : decode cX8_init 80 = .ok (.aload_n 0, 1) := by decide +kernel
theorem dX8_init_81 : decode cX8_init 81 = .ok (.new 54, 3) := by decide +kernel
theorem dX8_init_84 : decode cX8_init 84 = .ok (.dup, 1) := by decide +kernel
theorem dX8_init_85 : decode cX8_init 85 = .ok (.invokespecial 56, 3) := by decide +kernel
theorem dX8_init_88 : decode cX8_init 88 = .ok (.putfield 57, 3) := by decide +kernel
theorem dX8_init_91 : decode cX8_init 91 = .ok (.aload_n 0, 1) := by decide +kernel
theorem dX8_init_92 : decode cX8_init 92 = .ok (.bipush 12, 2) := by decide +kernel
theorem dX8_init_94 : decode cX8_init 94 = .ok (.newarray .int, 2) := by decide +kernel
theorem dX8_init_96 : decode cX8_init 96 = .ok (.putfield 61, 3) := by decide +kernel
theorem dX8_init_99 : decode cX8_init 99 = .ok (.aload_n 0, 1) := by decide +kernel
theorem dX8_init_100 : decode cX8_init 100 = .ok (.iconst 0, 1) := by decide +kernel
theorem dX8_init_101 : decode cX8_init 101 = .ok (.putfield 64, 3) := by decide +kernel
theorem dX8_init_104 : decode cX8_init 104 = .ok (.return_, 1) := by decide +kernel
theorem dX8_street_0 : decode cX8_street 0 = .ok (.iload_n 1, 1) := by decide +kernel
theorem dX8_street_1 : decode cX8_street 1 = .ok (.ifCond .eq 15, 3) := by decide +kernel
theorem dX8_street_4 : decode cX8_street 4 = .ok (.iload_n 1, 1) := by decide +kernel
theorem dX8_street_5 : decode cX8_street 5 = .ok (.iconst 1, 1) := by decide +kernel
theorem dX8_street_6 : decode cX8_street 6 = .ok (.if_icmp .eq 10, 3) := by decide +kernel
theorem dX8_street_9 : decode cX8_street 9 = .ok (.aload_n 0, 1) := by decide +kernel
theorem dX8_street_10 : decode cX8_street 10 = .ok (.ldc 67, 2) := by decide +kernel
theorem dX8_street_12 : decode cX8_street 12 = .ok (.invokevirtual 68, 3) := by decide +kernel
theorem dX8_street_15 : decode cX8_street 15 = .ok (.ireturn, 1) := by decide +kernel
theorem dX8_street_16 : decode cX8_street 16 = .ok (.aload_n 0, 1) := by decide +kernel
theorem dX8_street_17 : decode cX8_street 17 = .ok (.getfield 16, 3) := by decide +kernel
theorem dX8_street_20 : decode cX8_street 20 = .ok (.invokevirtual 72, 3) := by decide +kernel
theorem dX8_street_23 : decode cX8_street 23 = .ok (.ifCond .eq 10, 3) := by decide +kernel
theorem dX8_street_26 : decode cX8_street 26 = .ok (.aload_n 0, 1) := by decide +kernel
theorem dX8_street_27 : decode cX8_street 27 = .ok (.ldc 76, 2) := by decide +kernel
theorem dX8_street_29 : decode cX8_street 29 = .ok (.invokevirtual 68, 3) := by decide +kernel
theorem dX8_street_32 : decode cX8_street 32 = .ok (.ireturn, 1) := by decide +kernel
theorem dX8_street_33 : decode cX8_street 33 = .ok (.aload_n 0, 1) := by decide +kernel
theorem dX8_street_34 : decode cX8_street 34 = .ok (.getfield 16, 3) := by decide +kernel
theorem dX8_street_37 : decode cX8_street 37 = .ok (.iload_n 1, 1) := by decide +kernel
theorem dX8_street_38 : decode cX8_street 38 = .ok (.iconst 1, 1) := by decide +kernel
theorem dX8_street_39 : decode cX8_street 39 = .ok (.if_icmp .ne 7, 3) := by decide +kernel
theorem dX8_street_42 : decode cX8_street 42 = .ok (.iconst 1, 1) := by decide +kernel
theorem dX8_street_43 : decode cX8_street 43 = .ok (.goto 4, 3) := by decide +kernel
theorem dX8_street_46 : decode cX8_street 46 = .ok (.iconst 0, 1) := by decide +kernel
theorem dX8_street_47 : decode cX8_street 47 = .ok (.invokevirtual 77, 3) := by decide +kernel
theorem dX8_street_50 : decode cX8_street 50 = .ok (.ireturn, 1) := by decide +kernel
theorem dX8_way_0 : decode cX8_way 0 = .ok (.aload_n 0, 1) := by decide +kernel
theorem dX8_way_1 : decode cX8_way 1 = .ok (.getfield 16, 3) := by decide +kernel
theorem dX8_way_4 : decode cX8_way 4 = .ok (.iload_n 1, 1) := by decide +kernel
theorem dX8_way_5 : decode cX8_way 5 = .ok (.invokevirtual 81, 3) := by decide +kernel
theorem dX8_way_8 : decode cX8_way 8 = .ok (.ifCond .eq 27, 3) := by decide +kernel
theorem dX8_way_11 : decode cX8_way 11 = .ok (.aload_n 0, 1) := by decide +kernel
theorem dX8_way_12 : decode cX8_way 12 = .ok (.getfield 16, 3) := by decide +kernel
theorem dX8_way_15 : decode cX8_way 15 = .ok (.iload_n 2, 1) := by decide +kernel
theorem dX8_way_16 : decode cX8_way 16 = .ok (.invokevirtual 81, 3) := by decide +kernel
theorem dX8_way_19 : decode cX8_way 19 = .ok (.ifCond .eq 16, 3) := by decide +kernel
theorem dX8_way_22 : decode cX8_way 22 = .ok (.iload_n 1, 1) := by decide +kernel
theorem dX8_way_23 : decode cX8_way 23 = .ok (.iload_n 2, 1) := by decide +kernel
theorem dX8_way_24 : decode cX8_way 24 = .ok (.if_icmp .eq 11, 3) := by decide +kernel
theorem dX8_way_27 : decode cX8_way 27 = .ok (.iload_n 3, 1) := by decide +kernel
theorem dX8_way_28 : decode cX8_way 28 = .ok (.iconst 3, 1) := by decide +kernel
theorem dX8_way_29 : decode cX8_way 29 = .ok (.invokestatic 85, 3) := by decide +kernel
theorem dX8_way_32 : decode cX8_way 32 = .ok (.ifCond .ne 10, 3) := by decide +kernel
theorem dX8_way_35 : decode cX8_way 35 = .ok (.aload_n 0, 1) := by decide +kernel
theorem dX8_way_36 : decode cX8_way 36 = .ok (.ldc 67, 2) := by decide +kernel
theorem dX8_way_38 : decode cX8_way 38 = .ok (.invokevirtual 68, 3) := by decide +kernel
theorem dX8_way_41 : decode cX8_way 41 = .ok (.ireturn, 1) := by decide +kernel
theorem dX8_way_42 : decode cX8_way 42 = .ok (.aload_n 0, 1) := by decide +kernel
theorem dX8_way_43 : decode cX8_way 43 = .ok (.getfield 16, 3) := by decide +kernel
theorem dX8_way_46 : decode cX8_way 46 = .ok (.iload_n 1, 1) := by decide +kernel
theorem dX8_way_47 : decode cX8_way 47 = .ok (.iload_n 2, 1) := by decide +kernel
theorem dX8_way_48 : decode cX8_way 48 = .ok (.invokevirtual 89, 3) := by decide +kernel
theorem dX8_way_51 : decode cX8_way 51 = .ok (.istore 4, 2) := by decide +kernel
theorem dX8_way_53 : decode cX8_way 53 = .ok (.aload_n 0, 1) := by decide +kernel
theorem dX8_way_54 : decode cX8_way 54 = .ok (.getfield 16, 3) := by decide +kernel
theorem dX8_way_57 : decode cX8_way 57 = .ok (.iload_n 1, 1) := by decide +kernel
theorem dX8_way_58 : decode cX8_way 58 = .ok (.iload_n 2, 1) := by decide +kernel
theorem dX8_way_59 : decode cX8_way 59 = .ok (.iload_n 3, 1) := by decide +kernel
theorem dX8_way_60 : decode cX8_way 60 = .ok (.invokevirtual 93, 3) := by decide +kernel
theorem dX8_way_63 : decode cX8_way 63 = .ok (.iload 4, 2) := by decide +kernel
theorem dX8_way_65 : decode cX8_way 65 = .ok (.ireturn, 1) := by decide +kernel
theorem dX8_wish_0 : decode cX8_wish 0 = .ok (.aload_n 0, 1) := by decide +kernel
theorem dX8_wish_1 : decode cX8_wish 1 = .ok (.getfield 16, 3) := by decide +kernel
theorem dX8_wish_4 : decode cX8_wish 4 = .ok (.iload_n 1, 1) := by decide +kernel
theorem dX8_wish_5 : decode cX8_wish 5 = .ok (.invokevirtual 81, 3) := by decide +kernel
theorem dX8_wish_8 : decode cX8_wish 8 = .ok (.ifCond .eq 20, 3) := by decide +kernel
theorem dX8_wish_11 : decode cX8_wish 11 = .ok (.iload_n 2, 1) := by decide +kernel
theorem dX8_wish_12 : decode cX8_wish 12 = .ok (.invokestatic 97, 3) := by decide +kernel
theorem dX8_wish_15 : decode cX8_wish 15 = .ok (.ifCond .eq 13, 3) := by decide +kernel
theorem dX8_wish_18 : decode cX8_wish 18 = .ok (.iload_n 3, 1) := by decide +kernel
theorem dX8_wish_19 : decode cX8_wish 19 = .ok (.sipush 200, 3) := by decide +kernel
theorem dX8_wish_22 : decode cX8_wish 22 = .ok (.invokestatic 85, 3) := by decide +kernel
theorem dX8_wish_25 : decode cX8_wish 25 = .ok (.ifCond .ne 10, 3) := by decide +kernel
theorem dX8_wish_28 : decode cX8_wish 28 = .ok (.aload_n 0, 1) := by decide +kernel
theorem dX8_wish_29 : decode cX8_wish 29 = .ok (.ldc 67, 2) := by decide +kernel
theorem dX8_wish_31 : decode cX8_wish 31 = .ok (.invokevirtual 68, 3) := by decide +kernel
theorem dX8_wish_34 : decode cX8_wish 34 = .ok (.ireturn, 1) := by decide +kernel
theorem dX8_wish_35 : decode cX8_wish 35 = .ok (.aload_n 0, 1) := by decide +kernel
theorem dX8_wish_36 : decode cX8_wish 36 = .ok (.getfield 16, 3) := by decide +kernel
theorem dX8_wish_39 : decode cX8_wish 39 = .ok (.iload_n 1, 1) := by decide +kernel
theorem dX8_wish_40 : decode cX8_wish 40 = .ok (.iload_n 2, 1) := by decide +kernel
theorem dX8_wish_41 : decode cX8_wish 41 = .ok (.invokevirtual 100, 3) := by decide +kernel
theorem dX8_wish_44 : decode cX8_wish 44 = .ok (.istore 4, 2) := by decide +kernel
theorem dX8_wish_46 : decode cX8_wish 46 = .ok (.aload_n 0, 1) := by decide +kernel
theorem dX8_wish_47 : decode cX8_wish 47 = .ok (.getfield 16, 3) := by decide +kernel
theorem dX8_wish_50 : decode cX8_wish 50 = .ok (.iload_n 1, 1) := by decide +kernel
theorem dX8_wish_51 : decode cX8_wish 51 = .ok (.iload_n 2, 1) := by decide +kernel
theorem dX8_wish_52 : decode cX8_wish 52 = .ok (.iload_n 3, 1) := by decide +kernel
theorem dX8_wish_53 : decode cX8_wish 53 = .ok (.invokevirtual 103, 3) := by decide +kernel
theorem dX8_wish_56 : decode cX8_wish 56 = .ok (.iload 4, 2) := by decide +kernel
theorem dX8_wish_58 : decode cX8_wish 58 = .ok (.ireturn, 1) := by decide +kernel
theorem dX8_heat_0 : decode cX8_heat 0 = .ok (.iload_n 1, 1) := by decide +kernel
theorem dX8_heat_1 : decode cX8_heat 1 = .ok (.iconst 4, 1) := by decide +kernel
theorem dX8_heat_2 : decode cX8_heat 2 = .ok (.invokestatic 85, 3) := by decide +kernel
theorem dX8_heat_5 : decode cX8_heat 5 = .ok (.ifCond .ne 10, 3) := by decide +kernel
theorem dX8_heat_8 : decode cX8_heat 8 = .ok (.aload_n 0, 1) := by decide +kernel
theorem dX8_heat_9 : decode cX8_heat 9 = .ok (.ldc 67, 2) := by decide +kernel
theorem dX8_heat_11 : decode cX8_heat 11 = .ok (.invokevirtual 68, 3) := by decide +kernel
theorem dX8_heat_14 : decode cX8_heat 14 = .ok (.ireturn, 1) := by decide +kernel
theorem dX8_heat_15 : decode cX8_heat 15 = .ok (.aload_n 0, 1) := by decide +kernel
theorem dX8_heat_16 : decode cX8_heat 16 = .ok (.getfield 16, 3) := by decide +kernel
theorem dX8_heat_19 : decode cX8_heat 19 = .ok (.getfield 106, 3) := by decide +kernel
theorem dX8_heat_22 : decode cX8_heat 22 = .ok (.istore_n 2, 1) := by decide +kernel
theorem dX8_heat_23 : decode cX8_heat 23 = .ok (.aload_n 0, 1) := by decide +kernel
theorem dX8_heat_24 : decode cX8_heat 24 = .ok (.getfield 16, 3) := by decide +kernel
theorem dX8_heat_27 : decode cX8_heat 27 = .ok (.iload_n 1, 1) := by decide +kernel
theorem dX8_heat_28 : decode cX8_heat 28 = .ok (.putfield 106, 3) := by decide +kernel
theorem dX8_heat_31 : decode cX8_heat 31 = .ok (.iload_n 2, 1) := by decide +kernel
theorem dX8_heat_32 : decode cX8_heat 32 = .ok (.ireturn, 1) := by decide +kernel
theorem dX8_van_0 : decode cX8_van 0 = .ok (.iload_n 1, 1) := by decide +kernel
theorem dX8_van_1 : decode cX8_van 1 = .ok (.invokestatic 109, 3) := by decide +kernel
theorem dX8_van_4 : decode cX8_van 4 = .ok (.ifCond .ne 10, 3) := by decide +kernel
theorem dX8_van_7 : decode cX8_van 7 = .ok (.aload_n 0, 1) := by decide +kernel
theorem dX8_van_8 : decode cX8_van 8 = .ok (.ldc 67, 2) := by decide +kernel
theorem dX8_van_10 : decode cX8_van 10 = .ok (.invokevirtual 68, 3) := by decide +kernel
theorem dX8_van_13 : decode cX8_van 13 = .ok (.ireturn, 1) := by decide +kernel
theorem dX8_van_14 : decode cX8_van 14 = .ok (.aload_n 0, 1) := by decide +kernel
theorem dX8_van_15 : decode cX8_van 15 = .ok (.getfield 33, 3) := by decide +kernel
theorem dX8_van_18 : decode cX8_van 18 = .ok (.iconst 4, 1) := by decide +kernel
theorem dX8_van_19 : decode cX8_van 19 = .ok (.if_icmp .lt 10, 3) := by decide +kernel
theorem dX8_van_22 : decode cX8_van 22 = .ok (.aload_n 0, 1) := by decide +kernel
theorem dX8_van_23 : decode cX8_van 23 = .ok (.ldc 76, 2) := by decide +kernel
theorem dX8_van_25 : decode cX8_van 25 = .ok (.invokevirtual 68, 3) := by decide +kernel
theorem dX8_van_28 : decode cX8_van 28 = .ok (.ireturn, 1) := by decide +kernel
theorem dX8_van_29 : decode cX8_van 29 = .ok (.aload_n 0, 1) := by decide +kernel
theorem dX8_van_30 : decode cX8_van 30 = .ok (.getfield 29, 3) := by decide +kernel
theorem dX8_van_33 : decode cX8_van 33 = .ok (.aload_n 0, 1) := by decide +kernel
theorem dX8_van_34 : decode cX8_van 34 = .ok (.getfield 33, 3) := by decide +kernel
theorem dX8_van_37 : decode cX8_van 37 = .ok (.iload_n 1, 1) := by decide +kernel
theorem dX8_van_38 : decode cX8_van 38 = .ok (.invokestatic 112, 3) := by decide +kernel
theorem dX8_van_41 : decode cX8_van 41 = .ok (.aastore, 1) := by decide +kernel
theorem dX8_van_42 : decode cX8_van 42 = .ok (.aload_n 0, 1) := by decide +kernel
theorem dX8_van_43 : decode cX8_van 43 = .ok (.dup, 1) := by decide +kernel
theorem dX8_van_44 : decode cX8_van 44 = .ok (.getfield 33, 3) := by decide +kernel
theorem dX8_van_47 : decode cX8_van 47 = .ok (.iconst 1, 1) := by decide +kernel
theorem dX8_van_48 : decode cX8_van 48 = .ok (.iadd, 1) := by decide +kernel
theorem dX8_van_49 : decode cX8_van 49 = .ok (.putfield 33, 3) := by decide +kernel
theorem dX8_van_52 : decode cX8_van 52 = .ok (.aload_n 0, 1) := by decide +kernel
theorem dX8_van_53 : decode cX8_van 53 = .ok (.getfield 33, 3) := by decide +kernel
theorem dX8_van_56 : decode cX8_van 56 = .ok (.iconst 1, 1) := by decide +kernel
theorem dX8_van_57 : decode cX8_van 57 = .ok (.isub, 1) := by decide +kernel
theorem dX8_van_58 : decode cX8_van 58 = .ok (.ireturn, 1) := by decide +kernel
theorem dX8_as_0 : decode cX8_as 0 = .ok (.aload_n 0, 1) := by decide +kernel
theorem dX8_as_1 : decode cX8_as 1 = .ok (.iload_n 1, 1) := by decide +kernel
theorem dX8_as_2 : decode cX8_as 2 = .ok (.invokevirtual 116, 3) := by decide +kernel
theorem dX8_as_5 : decode cX8_as 5 = .ok (.astore_n 3, 1) := by decide +kernel
theorem dX8_as_6 : decode cX8_as 6 = .ok (.aload_n 3, 1) := by decide +kernel
theorem dX8_as_7 : decode cX8_as 7 = .ok (.ifnull 10, 3) := by decide +kernel
theorem dX8_as_10 : decode cX8_as 10 = .ok (.iload_n 2, 1) := by decide +kernel
theorem dX8_as_11 : decode cX8_as 11 = .ok (.invokestatic 109, 3) := by decide +kernel
theorem dX8_as_14 : decode cX8_as 14 = .ok (.ifCond .ne 10, 3) := by decide +kernel
theorem dX8_as_17 : decode cX8_as 17 = .ok (.aload_n 0, 1) := by decide +kernel
theorem dX8_as_18 : decode cX8_as 18 = .ok (.ldc 67, 2) := by decide +kernel
theorem dX8_as_20 : decode cX8_as 20 = .ok (.invokevirtual 68, 3) := by decide +kernel
theorem dX8_as_23 : decode cX8_as 23 = .ok (.ireturn, 1) := by decide +kernel
theorem dX8_as_24 : decode cX8_as 24 = .ok (.aload_n 3, 1) := by decide +kernel
theorem dX8_as_25 : decode cX8_as 25 = .ok (.iload_n 2, 1) := by decide +kernel
theorem dX8_as_26 : decode cX8_as 26 = .ok (.invokestatic 119, 3) := by decide +kernel
theorem dX8_as_29 : decode cX8_as 29 = .ok (.ifCond .ne 10, 3) := by decide +kernel
theorem dX8_as_32 : decode cX8_as 32 = .ok (.aload_n 0, 1) := by decide +kernel
theorem dX8_as_33 : decode cX8_as 33 = .ok (.ldc 123, 2) := by decide +kernel
theorem dX8_as_35 : decode cX8_as 35 = .ok (.invokevirtual 68, 3) := by decide +kernel
theorem dX8_as_38 : decode cX8_as 38 = .ok (.ireturn, 1) := by decide +kernel
theorem dX8_as_39 : decode cX8_as 39 = .ok (.aload_n 3, 1) := by decide +kernel
theorem dX8_as_40 : decode cX8_as 40 = .ok (.getfield 124, 3) := by decide +kernel
theorem dX8_as_43 : decode cX8_as 43 = .ok (.ireturn, 1) := by decide +kernel
theorem dX8_stock_0 : decode cX8_stock 0 = .ok (.aload_n 0, 1) := by decide +kernel
theorem dX8_stock_1 : decode cX8_stock 1 = .ok (.iload_n 1, 1) := by decide +kernel
theorem dX8_stock_2 : decode cX8_stock 2 = .ok (.invokevirtual 116, 3) := by decide +kernel
theorem dX8_stock_5 : decode cX8_stock 5 = .ok (.astore_n 3, 1) := by decide +kernel
theorem dX8_stock_6 : decode cX8_stock 6 = .ok (.aload_n 3, 1) := by decide +kernel
theorem dX8_stock_7 : decode cX8_stock 7 = .ok (.ifnull 13, 3) := by decide +kernel
theorem dX8_stock_10 : decode cX8_stock 10 = .ok (.iload_n 2, 1) := by decide +kernel
theorem dX8_stock_11 : decode cX8_stock 11 = .ok (.sipush 2000, 3) := by decide +kernel
theorem dX8_stock_14 : decode cX8_stock 14 = .ok (.invokestatic 85, 3) := by decide +kernel
theorem dX8_stock_17 : decode cX8_stock 17 = .ok (.ifCond .ne 10, 3) := by decide +kernel
theorem dX8_stock_20 : decode cX8_stock 20 = .ok (.aload_n 0, 1) := by decide +kernel
theorem dX8_stock_21 : decode cX8_stock 21 = .ok (.ldc 67, 2) := by decide +kernel
theorem dX8_stock_23 : decode cX8_stock 23 = .ok (.invokevirtual 68, 3) := by decide +kernel
theorem dX8_stock_26 : decode cX8_stock 26 = .ok (.ireturn, 1) := by decide +kernel
theorem dX8_stock_27 : decode cX8_stock 27 = .ok (.aload_n 3, 1) := by decide +kernel
theorem dX8_stock_28 : decode cX8_stock 28 = .ok (.getfield 124, 3) := by decide +kernel
theorem dX8_stock_31 : decode cX8_stock 31 = .ok (.istore 4, 2) := by decide +kernel
theorem dX8_stock_33 : decode cX8_stock 33 = .ok (.aload_n 3, 1) := by decide +kernel
theorem dX8_stock_34 : decode cX8_stock 34 = .ok (.iload_n 2, 1) := by decide +kernel
theorem dX8_stock_35 : decode cX8_stock 35 = .ok (.putfield 124, 3) := by decide +kernel
theorem dX8_stock_38 : decode cX8_stock 38 = .ok (.iload 4, 2) := by decide +kernel
theorem dX8_stock_40 : decode cX8_stock 40 = .ok (.ireturn, 1) := by decide +kernel
theorem dX8_licence_0 : decode cX8_licence 0 = .ok (.aload_n 0, 1) := by decide +kernel
theorem dX8_licence_1 : decode cX8_licence 1 = .ok (.iload_n 1, 1) := by decide +kernel
theorem dX8_licence_2 : decode cX8_licence 2 = .ok (.invokevirtual 116, 3) := by decide +kernel
theorem dX8_licence_5 : decode cX8_licence 5 = .ok (.astore_n 3, 1) := by decide +kernel
theorem dX8_licence_6 : decode cX8_licence 6 = .ok (.aload_n 3, 1) := by decide +kernel
theorem dX8_licence_7 : decode cX8_licence 7 = .ok (.ifnull 12, 3) := by decide +kernel
theorem dX8_licence_10 : decode cX8_licence 10 = .ok (.iload_n 2, 1) := by decide +kernel
theorem dX8_licence_11 : decode cX8_licence 11 = .ok (.bipush 63, 2) := by decide +kernel
theorem dX8_licence_13 : decode cX8_licence 13 = .ok (.invokestatic 85, 3) := by decide +kernel
theorem dX8_licence_16 : decode cX8_licence 16 = .ok (.ifCond .ne 10, 3) := by decide +kernel
theorem dX8_licence_19 : decode cX8_licence 19 = .ok (.aload_n 0, 1) := by decide +kernel
theorem dX8_licence_20 : decode cX8_licence 20 = .ok (.ldc 67, 2) := by decide +kernel
theorem dX8_licence_22 : decode cX8_licence 22 = .ok (.invokevirtual 68, 3) := by decide +kernel
theorem dX8_licence_25 : decode cX8_licence 25 = .ok (.ireturn, 1) := by decide +kernel
theorem dX8_licence_26 : decode cX8_licence 26 = .ok (.aload_n 3, 1) := by decide +kernel
theorem dX8_licence_27 : decode cX8_licence 27 = .ok (.getfield 127, 3) := by decide +kernel
theorem dX8_licence_30 : decode cX8_licence 30 = .ok (.istore 4, 2) := by decide +kernel
theorem dX8_licence_32 : decode cX8_licence 32 = .ok (.aload_n 3, 1) := by decide +kernel
theorem dX8_licence_33 : decode cX8_licence 33 = .ok (.iload_n 2, 1) := by decide +kernel
theorem dX8_licence_34 : decode cX8_licence 34 = .ok (.putfield 127, 3) := by decide +kernel
theorem dX8_licence_37 : decode cX8_licence 37 = .ok (.iload 4, 2) := by decide +kernel
theorem dX8_licence_39 : decode cX8_licence 39 = .ok (.ireturn, 1) := by decide +kernel
theorem dX8_law_0 : decode cX8_law 0 = .ok (.iload_n 1, 1) := by decide +kernel
theorem dX8_law_1 : decode cX8_law 1 = .ok (.invokestatic 97, 3) := by decide +kernel
theorem dX8_law_4 : decode cX8_law 4 = .ok (.ifCond .eq 19, 3) := by decide +kernel
theorem dX8_law_7 : decode cX8_law 7 = .ok (.iload_n 2, 1) := by decide +kernel
theorem dX8_law_8 : decode cX8_law 8 = .ok (.invokestatic 97, 3) := by decide +kernel
theorem dX8_law_11 : decode cX8_law 11 = .ok (.ifCond .eq 12, 3) := by decide +kernel
theorem dX8_law_14 : decode cX8_law 14 = .ok (.iload_n 3, 1) := by decide +kernel
theorem dX8_law_15 : decode cX8_law 15 = .ok (.bipush 60, 2) := by decide +kernel
theorem dX8_law_17 : decode cX8_law 17 = .ok (.invokestatic 85, 3) := by decide +kernel
theorem dX8_law_20 : decode cX8_law 20 = .ok (.ifCond .ne 10, 3) := by decide +kernel
theorem dX8_law_23 : decode cX8_law 23 = .ok (.aload_n 0, 1) := by decide +kernel
theorem dX8_law_24 : decode cX8_law 24 = .ok (.ldc 67, 2) := by decide +kernel
theorem dX8_law_26 : decode cX8_law 26 = .ok (.invokevirtual 68, 3) := by decide +kernel
theorem dX8_law_29 : decode cX8_law 29 = .ok (.ireturn, 1) := by decide +kernel
theorem dX8_law_30 : decode cX8_law 30 = .ok (.aload_n 0, 1) := by decide +kernel
theorem dX8_law_31 : decode cX8_law 31 = .ok (.getfield 23, 3) := by decide +kernel
theorem dX8_law_34 : decode cX8_law 34 = .ok (.iload_n 1, 1) := by decide +kernel
theorem dX8_law_35 : decode cX8_law 35 = .ok (.putfield 130, 3) := by decide +kernel
theorem dX8_law_38 : decode cX8_law 38 = .ok (.aload_n 0, 1) := by decide +kernel
theorem dX8_law_39 : decode cX8_law 39 = .ok (.getfield 23, 3) := by decide +kernel
theorem dX8_law_42 : decode cX8_law 42 = .ok (.iload_n 2, 1) := by decide +kernel
theorem dX8_law_43 : decode cX8_law 43 = .ok (.putfield 133, 3) := by decide +kernel
theorem dX8_law_46 : decode cX8_law 46 = .ok (.aload_n 0, 1) := by decide +kernel
theorem dX8_law_47 : decode cX8_law 47 = .ok (.getfield 23, 3) := by decide +kernel
theorem dX8_law_50 : decode cX8_law 50 = .ok (.iload_n 3, 1) := by decide +kernel
theorem dX8_law_51 : decode cX8_law 51 = .ok (.putfield 136, 3) := by decide +kernel
theorem dX8_law_54 : decode cX8_law 54 = .ok (.iconst 1, 1) := by decide +kernel
theorem dX8_law_55 : decode cX8_law 55 = .ok (.ireturn, 1) := by decide +kernel
theorem dX8_may_0 : decode cX8_may 0 = .ok (.aload_n 0, 1) := by decide +kernel
theorem dX8_may_1 : decode cX8_may 1 = .ok (.iload_n 1, 1) := by decide +kernel
theorem dX8_may_2 : decode cX8_may 2 = .ok (.invokevirtual 116, 3) := by decide +kernel
theorem dX8_may_5 : decode cX8_may 5 = .ok (.astore 4, 2) := by decide +kernel
theorem dX8_may_7 : decode cX8_may 7 = .ok (.aload 4, 2) := by decide +kernel
theorem dX8_may_9 : decode cX8_may 9 = .ok (.ifnull 21, 3) := by decide +kernel
theorem dX8_may_12 : decode cX8_may 12 = .ok (.aload_n 0, 1) := by decide +kernel
theorem dX8_may_13 : decode cX8_may 13 = .ok (.getfield 16, 3) := by decide +kernel
theorem dX8_may_16 : decode cX8_may 16 = .ok (.iload_n 2, 1) := by decide +kernel
theorem dX8_may_17 : decode cX8_may 17 = .ok (.invokevirtual 81, 3) := by decide +kernel
theorem dX8_may_20 : decode cX8_may 20 = .ok (.ifCond .eq 10, 3) := by decide +kernel
theorem dX8_may_23 : decode cX8_may 23 = .ok (.iload_n 3, 1) := by decide +kernel
theorem dX8_may_24 : decode cX8_may 24 = .ok (.invokestatic 97, 3) := by decide +kernel
theorem dX8_may_27 : decode cX8_may 27 = .ok (.ifCond .ne 10, 3) := by decide +kernel
theorem dX8_may_30 : decode cX8_may 30 = .ok (.aload_n 0, 1) := by decide +kernel
theorem dX8_may_31 : decode cX8_may 31 = .ok (.ldc 67, 2) := by decide +kernel
theorem dX8_may_33 : decode cX8_may 33 = .ok (.invokevirtual 68, 3) := by decide +kernel
theorem dX8_may_36 : decode cX8_may 36 = .ok (.ireturn, 1) := by decide +kernel
theorem dX8_may_37 : decode cX8_may 37 = .ok (.aload_n 0, 1) := by decide +kernel
theorem dX8_may_38 : decode cX8_may 38 = .ok (.aload 4, 2) := by decide +kernel
theorem dX8_may_40 : decode cX8_may 40 = .ok (.iload_n 2, 1) := by decide +kernel
theorem dX8_may_41 : decode cX8_may 41 = .ok (.iload_n 3, 1) := by decide +kernel
theorem dX8_may_42 : decode cX8_may 42 = .ok (.invokevirtual 139, 3) := by decide +kernel
theorem dX8_may_45 : decode cX8_may 45 = .ok (.ifCond .eq 7, 3) := by decide +kernel
theorem dX8_may_48 : decode cX8_may 48 = .ok (.iconst 1, 1) := by decide +kernel
theorem dX8_may_49 : decode cX8_may 49 = .ok (.goto 4, 3) := by decide +kernel
theorem dX8_may_52 : decode cX8_may 52 = .ok (.iconst 0, 1) := by decide +kernel
