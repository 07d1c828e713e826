theorem dX8_pay_47 : decode cX8_pay 47 = .ok (.getfield 212, 3) := by decide +kernel
theorem dX8_pay_50 : decode cX8_pay 50 = .ok (.iload_n 1, 1) := by decide +kernel
theorem dX8_pay_51 : decode cX8_pay 51 = .ok (.dup2, 1) := by decide +kernel
theorem dX8_pay_52 : decode cX8_pay 52 = .ok (.iaload, 1) := by decide +kernel
theorem dX8_pay_53 : decode cX8_pay 53 = .ok (.iload_n 2, 1) := by decide +kernel
theorem dX8_pay_54 : decode cX8_pay 54 = .ok (.isub, 1) := by decide +kernel
theorem dX8_pay_55 : decode cX8_pay 55 = .ok (.iastore, 1) := by decide +kernel
theorem dX8_pay_56 : decode cX8_pay 56 = .ok (.aload_n 0, 1) := by decide +kernel
theorem dX8_pay_57 : decode cX8_pay 57 = .ok (.getfield 57, 3) := by decide +kernel
theorem dX8_pay_60 : decode cX8_pay 60 = .ok (.getfield 212, 3) := by decide +kernel
theorem dX8_pay_63 : decode cX8_pay 63 = .ok (.iload_n 1, 1) := by decide +kernel
theorem dX8_pay_64 : decode cX8_pay 64 = .ok (.iaload, 1) := by decide +kernel
theorem dX8_pay_65 : decode cX8_pay 65 = .ok (.ireturn, 1) := by decide +kernel
theorem dX8_owed_0 : decode cX8_owed 0 = .ok (.iload_n 1, 1) := by decide +kernel
theorem dX8_owed_1 : decode cX8_owed 1 = .ok (.iconst (-1), 1) := by decide +kernel
theorem dX8_owed_2 : decode cX8_owed 2 = .ok (.if_icmp .eq 14, 3) := by decide +kernel
theorem dX8_owed_5 : decode cX8_owed 5 = .ok (.aload_n 0, 1) := by decide +kernel
theorem dX8_owed_6 : decode cX8_owed 6 = .ok (.getfield 57, 3) := by decide +kernel
theorem dX8_owed_9 : decode cX8_owed 9 = .ok (.iload_n 1, 1) := by decide +kernel
theorem dX8_owed_10 : decode cX8_owed 10 = .ok (.invokevirtual 211, 3) := by decide +kernel
theorem dX8_owed_13 : decode cX8_owed 13 = .ok (.ifCond .eq 13, 3) := by decide +kernel
theorem dX8_owed_16 : decode cX8_owed 16 = .ok (.iload_n 2, 1) := by decide +kernel
theorem dX8_owed_17 : decode cX8_owed 17 = .ok (.sipush 2000, 3) := by decide +kernel
theorem dX8_owed_20 : decode cX8_owed 20 = .ok (.invokestatic 85, 3) := by decide +kernel
theorem dX8_owed_23 : decode cX8_owed 23 = .ok (.ifCond .ne 10, 3) := by decide +kernel
theorem dX8_owed_26 : decode cX8_owed 26 = .ok (.aload_n 0, 1) := by decide +kernel
theorem dX8_owed_27 : decode cX8_owed 27 = .ok (.ldc 67, 2) := by decide +kernel
theorem dX8_owed_29 : decode cX8_owed 29 = .ok (.invokevirtual 68, 3) := by decide +kernel
theorem dX8_owed_32 : decode cX8_owed 32 = .ok (.ireturn, 1) := by decide +kernel
theorem dX8_owed_33 : decode cX8_owed 33 = .ok (.iload_n 1, 1) := by decide +kernel
theorem dX8_owed_34 : decode cX8_owed 34 = .ok (.iconst (-1), 1) := by decide +kernel
theorem dX8_owed_35 : decode cX8_owed 35 = .ok (.if_icmp .ne 14, 3) := by decide +kernel
theorem dX8_owed_38 : decode cX8_owed 38 = .ok (.aload_n 0, 1) := by decide +kernel
theorem dX8_owed_39 : decode cX8_owed 39 = .ok (.getfield 57, 3) := by decide +kernel
theorem dX8_owed_42 : decode cX8_owed 42 = .ok (.iload_n 2, 1) := by decide +kernel
theorem dX8_owed_43 : decode cX8_owed 43 = .ok (.invokevirtual 215, 3) := by decide +kernel
theorem dX8_owed_46 : decode cX8_owed 46 = .ok (.goto 12, 3) := by decide +kernel
theorem dX8_owed_49 : decode cX8_owed 49 = .ok (.aload_n 0, 1) := by decide +kernel
theorem dX8_owed_50 : decode cX8_owed 50 = .ok (.getfield 57, 3) := by decide +kernel
theorem dX8_owed_53 : decode cX8_owed 53 = .ok (.iload_n 1, 1) := by decide +kernel
theorem dX8_owed_54 : decode cX8_owed 54 = .ok (.iload_n 2, 1) := by decide +kernel
theorem dX8_owed_55 : decode cX8_owed 55 = .ok (.invokevirtual 218, 3) := by decide +kernel
theorem dX8_owed_58 : decode cX8_owed 58 = .ok (.ireturn, 1) := by decide +kernel
theorem dX8_tell_0 : decode cX8_tell 0 = .ok (.aload_n 0, 1) := by decide +kernel
theorem dX8_tell_1 : decode cX8_tell 1 = .ok (.getfield 64, 3) := by decide +kernel
theorem dX8_tell_4 : decode cX8_tell 4 = .ok (.bipush 12, 2) := by decide +kernel
theorem dX8_tell_6 : decode cX8_tell 6 = .ok (.if_icmp .lt 10, 3) := by decide +kernel
theorem dX8_tell_9 : decode cX8_tell 9 = .ok (.aload_n 0, 1) := by decide +kernel
theorem dX8_tell_10 : decode cX8_tell 10 = .ok (.ldc 76, 2) := by decide +kernel
theorem dX8_tell_12 : decode cX8_tell 12 = .ok (.invokevirtual 68, 3) := by decide +kernel
theorem dX8_tell_15 : decode cX8_tell 15 = .ok (.ireturn, 1) := by decide +kernel
theorem dX8_tell_16 : decode cX8_tell 16 = .ok (.aload_n 0, 1) := by decide +kernel
theorem dX8_tell_17 : decode cX8_tell 17 = .ok (.getfield 61, 3) := by decide +kernel
theorem dX8_tell_20 : decode cX8_tell 20 = .ok (.aload_n 0, 1) := by decide +kernel
theorem dX8_tell_21 : decode cX8_tell 21 = .ok (.getfield 64, 3) := by decide +kernel
theorem dX8_tell_24 : decode cX8_tell 24 = .ok (.iload_n 1, 1) := by decide +kernel
theorem dX8_tell_25 : decode cX8_tell 25 = .ok (.iastore, 1) := by decide +kernel
theorem dX8_tell_26 : decode cX8_tell 26 = .ok (.aload_n 0, 1) := by decide +kernel
theorem dX8_tell_27 : decode cX8_tell 27 = .ok (.dup, 1) := by decide +kernel
theorem dX8_tell_28 : decode cX8_tell 28 = .ok (.getfield 64, 3) := by decide +kernel
theorem dX8_tell_31 : decode cX8_tell 31 = .ok (.iconst 1, 1) := by decide +kernel
theorem dX8_tell_32 : decode cX8_tell 32 = .ok (.iadd, 1) := by decide +kernel
theorem dX8_tell_33 : decode cX8_tell 33 = .ok (.putfield 64, 3) := by decide +kernel
theorem dX8_tell_36 : decode cX8_tell 36 = .ok (.aload_n 0, 1) := by decide +kernel
theorem dX8_tell_37 : decode cX8_tell 37 = .ok (.getfield 64, 3) := by decide +kernel
theorem dX8_tell_40 : decode cX8_tell 40 = .ok (.ireturn, 1) := by decide +kernel
theorem dX8_check_0 : decode cX8_check 0 = .ok (.aload_n 0, 1) := by decide +kernel
theorem dX8_check_1 : decode cX8_check 1 = .ok (.getfield 64, 3) := by decide +kernel
theorem dX8_check_4 : decode cX8_check 4 = .ok (.istore_n 2, 1) := by decide +kernel
theorem dX8_check_5 : decode cX8_check 5 = .ok (.iload_n 2, 1) := by decide +kernel
theorem dX8_check_6 : decode cX8_check 6 = .ok (.ifCond .ne 10, 3) := by decide +kernel
theorem dX8_check_9 : decode cX8_check 9 = .ok (.aload_n 0, 1) := by decide +kernel
theorem dX8_check_10 : decode cX8_check 10 = .ok (.ldc 154, 2) := by decide +kernel
theorem dX8_check_12 : decode cX8_check 12 = .ok (.invokevirtual 68, 3) := by decide +kernel
theorem dX8_check_15 : decode cX8_check 15 = .ok (.ireturn, 1) := by decide +kernel
theorem dX8_check_16 : decode cX8_check 16 = .ok (.aload_n 0, 1) := by decide +kernel
theorem dX8_check_17 : decode cX8_check 17 = .ok (.iconst 0, 1) := by decide +kernel
theorem dX8_check_18 : decode cX8_check 18 = .ok (.putfield 64, 3) := by decide +kernel
theorem dX8_check_21 : decode cX8_check 21 = .ok (.aload_n 0, 1) := by decide +kernel
theorem dX8_check_22 : decode cX8_check 22 = .ok (.iload_n 1, 1) := by decide +kernel
theorem dX8_check_23 : decode cX8_check 23 = .ok (.invokevirtual 116, 3) := by decide +kernel
theorem dX8_check_26 : decode cX8_check 26 = .ok (.astore_n 3, 1) := by decide +kernel
theorem dX8_check_27 : decode cX8_check 27 = .ok (.aload_n 3, 1) := by decide +kernel
theorem dX8_check_28 : decode cX8_check 28 = .ok (.ifnonnull 10, 3) := by decide +kernel
theorem dX8_check_31 : decode cX8_check 31 = .ok (.aload_n 0, 1) := by decide +kernel
theorem dX8_check_32 : decode cX8_check 32 = .ok (.ldc 67, 2) := by decide +kernel
theorem dX8_check_34 : decode cX8_check 34 = .ok (.invokevirtual 68, 3) := by decide +kernel
theorem dX8_check_37 : decode cX8_check 37 = .ok (.ireturn, 1) := by decide +kernel
theorem dX8_check_38 : decode cX8_check 38 = .ok (.aload_n 0, 1) := by decide +kernel
theorem dX8_check_39 : decode cX8_check 39 = .ok (.aload_n 3, 1) := by decide +kernel
theorem dX8_check_40 : decode cX8_check 40 = .ok (.iload_n 2, 1) := by decide +kernel
theorem dX8_check_41 : decode cX8_check 41 = .ok (.invokevirtual 221, 3) := by decide +kernel
theorem dX8_check_44 : decode cX8_check 44 = .ok (.ifCond .eq 13, 3) := by decide +kernel
theorem dX8_check_47 : decode cX8_check 47 = .ok (.aload_n 0, 1) := by decide +kernel
theorem dX8_check_48 : decode cX8_check 48 = .ok (.getfield 40, 3) := by decide +kernel
theorem dX8_check_51 : decode cX8_check 51 = .ok (.getfield 150, 3) := by decide +kernel
theorem dX8_check_54 : decode cX8_check 54 = .ok (.goto 9, 3) := by decide +kernel
theorem dX8_check_57 : decode cX8_check 57 = .ok (.aload_n 0, 1) := by decide +kernel
theorem dX8_check_58 : decode cX8_check 58 = .ok (.ldc 176, 2) := by decide +kernel
theorem dX8_check_60 : decode cX8_check 60 = .ok (.invokevirtual 68, 3) := by decide +kernel
theorem dX8_check_63 : decode cX8_check 63 = .ok (.ireturn, 1) := by decide +kernel
theorem dX8_count_0 : decode cX8_count 0 = .ok (.iload_n 1, 1) := by decide +kernel
theorem dX8_count_1 : decode cX8_count 1 = .ok (.tableswitch 90 0 6 #[43, 51, 56, 64, 72, 77, 82], 43) := by decide +kernel
theorem dX8_count_44 : decode cX8_count 44 = .ok (.aload_n 0, 1) := by decide +kernel
theorem dX8_count_45 : decode cX8_count 45 = .ok (.getfield 16, 3) := by decide +kernel
theorem dX8_count_48 : decode cX8_count 48 = .ok (.getfield 200, 3) := by decide +kernel
theorem dX8_count_51 : decode cX8_count 51 = .ok (.ireturn, 1) := by decide +kernel
theorem dX8_count_52 : decode cX8_count 52 = .ok (.aload_n 0, 1) := by decide +kernel
theorem dX8_count_53 : decode cX8_count 53 = .ok (.getfield 33, 3) := by decide +kernel
theorem dX8_count_56 : decode cX8_count 56 = .ok (.ireturn, 1) := by decide +kernel
theorem dX8_count_57 : decode cX8_count 57 = .ok (.aload_n 0, 1) := by decide +kernel
theorem dX8_count_58 : decode cX8_count 58 = .ok (.getfield 50, 3) := by decide +kernel
theorem dX8_count_61 : decode cX8_count 61 = .ok (.getfield 168, 3) := by decide +kernel
theorem dX8_count_64 : decode cX8_count 64 = .ok (.ireturn, 1) := by decide +kernel
theorem dX8_count_65 : decode cX8_count 65 = .ok (.aload_n 0, 1) := by decide +kernel
theorem dX8_count_66 : decode cX8_count 66 = .ok (.getfield 57, 3) := by decide +kernel
theorem dX8_count_69 : decode cX8_count 69 = .ok (.getfield 224, 3) := by decide +kernel
theorem dX8_count_72 : decode cX8_count 72 = .ok (.ireturn, 1) := by decide +kernel
theorem dX8_count_73 : decode cX8_count 73 = .ok (.aload_n 0, 1) := by decide +kernel
theorem dX8_count_74 : decode cX8_count 74 = .ok (.getfield 64, 3) := by decide +kernel
theorem dX8_count_77 : decode cX8_count 77 = .ok (.ireturn, 1) := by decide +kernel
theorem dX8_count_78 : decode cX8_count 78 = .ok (.aload_n 0, 1) := by decide +kernel
theorem dX8_count_79 : decode cX8_count 79 = .ok (.invokevirtual 225, 3) := by decide +kernel
theorem dX8_count_82 : decode cX8_count 82 = .ok (.ireturn, 1) := by decide +kernel
theorem dX8_count_83 : decode cX8_count 83 = .ok (.aload_n 0, 1) := by decide +kernel
theorem dX8_count_84 : decode cX8_count 84 = .ok (.getfield 16, 3) := by decide +kernel
theorem dX8_count_87 : decode cX8_count 87 = .ok (.getfield 106, 3) := by decide +kernel
theorem dX8_count_90 : decode cX8_count 90 = .ok (.ireturn, 1) := by decide +kernel
theorem dX8_count_91 : decode cX8_count 91 = .ok (.aload_n 0, 1) := by decide +kernel
theorem dX8_count_92 : decode cX8_count 92 = .ok (.ldc 67, 2) := by decide +kernel
theorem dX8_count_94 : decode cX8_count 94 = .ok (.invokevirtual 68, 3) := by decide +kernel
theorem dX8_count_97 : decode cX8_count 97 = .ok (.ireturn, 1) := by decide +kernel
theorem dX8_found_0 : decode cX8_found 0 = .ok (.iload_n 1, 1) := by decide +kernel
theorem dX8_found_1 : decode cX8_found 1 = .ok (.iconst 1, 1) := by decide +kernel
theorem dX8_found_2 : decode cX8_found 2 = .ok (.if_icmp .lt 8, 3) := by decide +kernel
theorem dX8_found_5 : decode cX8_found 5 = .ok (.iload_n 1, 1) := by decide +kernel
theorem dX8_found_6 : decode cX8_found 6 = .ok (.iconst 5, 1) := by decide +kernel
theorem dX8_found_7 : decode cX8_found 7 = .ok (.if_icmp .le 10, 3) := by decide +kernel
theorem dX8_found_10 : decode cX8_found 10 = .ok (.aload_n 0, 1) := by decide +kernel
theorem dX8_found_11 : decode cX8_found 11 = .ok (.ldc 67, 2) := by decide +kernel
theorem dX8_found_13 : decode cX8_found 13 = .ok (.invokevirtual 68, 3) := by decide +kernel
theorem dX8_found_16 : decode cX8_found 16 = .ok (.ireturn, 1) := by decide +kernel
theorem dX8_found_17 : decode cX8_found 17 = .ok (.aload_n 0, 1) := by decide +kernel
theorem dX8_found_18 : decode cX8_found 18 = .ok (.getfield 9, 3) := by decide +kernel
theorem dX8_found_21 : decode cX8_found 21 = .ok (.iload_n 1, 1) := by decide +kernel
theorem dX8_found_22 : decode cX8_found 22 = .ok (.iaload, 1) := by decide +kernel
theorem dX8_found_23 : decode cX8_found 23 = .ok (.ireturn, 1) := by decide +kernel
theorem dX8_finding_0 : decode cX8_finding 0 = .ok (.ldc 229, 2) := by decide +kernel
theorem dX8_finding_2 : decode cX8_finding 2 = .ok (.iload_n 1, 1) := by decide +kernel
theorem dX8_finding_3 : decode cX8_finding 3 = .ok (.isub, 1) := by decide +kernel
theorem dX8_finding_4 : decode cX8_finding 4 = .ok (.istore_n 2, 1) := by decide +kernel
theorem dX8_finding_5 : decode cX8_finding 5 = .ok (.iload_n 2, 1) := by decide +kernel
theorem dX8_finding_6 : decode cX8_finding 6 = .ok (.iconst 1, 1) := by decide +kernel
theorem dX8_finding_7 : decode cX8_finding 7 = .ok (.if_icmp .lt 18, 3) := by decide +kernel
theorem dX8_finding_10 : decode cX8_finding 10 = .ok (.iload_n 2, 1) := by decide +kernel
theorem dX8_finding_11 : decode cX8_finding 11 = .ok (.iconst 5, 1) := by decide +kernel
theorem dX8_finding_12 : decode cX8_finding 12 = .ok (.if_icmp .gt 13, 3) := by decide +kernel
theorem dX8_finding_15 : decode cX8_finding 15 = .ok (.aload_n 0, 1) := by decide +kernel
theorem dX8_finding_16 : decode cX8_finding 16 = .ok (.getfield 9, 3) := by decide +kernel
theorem dX8_finding_19 : decode cX8_finding 19 = .ok (.iload_n 2, 1) := by decide +kernel
theorem dX8_finding_20 : decode cX8_finding 20 = .ok (.dup2, 1) := by decide +kernel
theorem dX8_finding_21 : decode cX8_finding 21 = .ok (.iaload, 1) := by decide +kernel
theorem dX8_finding_22 : decode cX8_finding 22 = .ok (.iconst 1, 1) := by decide +kernel
theorem dX8_finding_23 : decode cX8_finding 23 = .ok (.iadd, 1) := by decide +kernel
theorem dX8_finding_24 : decode cX8_finding 24 = .ok (.iastore, 1) := by decide +kernel
theorem dX8_finding_25 : decode cX8_finding 25 = .ok (.iload_n 1, 1) := by decide +kernel
theorem dX8_finding_26 : decode cX8_finding 26 = .ok (.ireturn, 1) := by decide +kernel
theorem dX8_isWithin_0 : decode cX8_isWithin 0 = .ok (.iload_n 0, 1) := by decide +kernel
theorem dX8_isWithin_1 : decode cX8_isWithin 1 = .ok (.ifCond .lt 12, 3) := by decide +kernel
theorem dX8_isWithin_4 : decode cX8_isWithin 4 = .ok (.iload_n 0, 1) := by decide +kernel
theorem dX8_isWithin_5 : decode cX8_isWithin 5 = .ok (.iload_n 1, 1) := by decide +kernel
theorem dX8_isWithin_6 : decode cX8_isWithin 6 = .ok (.if_icmp .gt 7, 3) := by decide +kernel
theorem dX8_isWithin_9 : decode cX8_isWithin 9 = .ok (.iconst 1, 1) := by decide +kernel
theorem dX8_isWithin_10 : decode cX8_isWithin 10 = .ok (.goto 4, 3) := by decide +kernel
theorem dX8_isWithin_13 : decode cX8_isWithin 13 = .ok (.iconst 0, 1) := by decide +kernel
theorem dX8_isWithin_14 : decode cX8_isWithin 14 = .ok (.ireturn, 1) := by decide +kernel
theorem dX8_isHour_0 : decode cX8_isHour 0 = .ok (.iload_n 0, 1) := by decide +kernel
theorem dX8_isHour_1 : decode cX8_isHour 1 = .ok (.ifCond .lt 13, 3) := by decide +kernel
theorem dX8_isHour_4 : decode cX8_isHour 4 = .ok (.iload_n 0, 1) := by decide +kernel
theorem dX8_isHour_5 : decode cX8_isHour 5 = .ok (.bipush 12, 2) := by decide +kernel
theorem dX8_isHour_7 : decode cX8_isHour 7 = .ok (.if_icmp .ge 7, 3) := by decide +kernel
theorem dX8_isHour_10 : decode cX8_isHour 10 = .ok (.iconst 1, 1) := by decide +kernel
theorem dX8_isHour_11 : decode cX8_isHour 11 = .ok (.goto 4, 3) := by decide +kernel
theorem dX8_isHour_14 : decode cX8_isHour 14 = .ok (.iconst 0, 1) := by decide +kernel
theorem dX8_isHour_15 : decode cX8_isHour 15 = .ok (.ireturn, 1) := by decide +kernel
theorem dX8_isPlace_0 : decode cX8_isPlace 0 = .ok (.iload_n 1, 1) := by decide +kernel
theorem dX8_isPlace_1 : decode cX8_isPlace 1 = .ok (.ifCond .lt 31, 3) := by decide +kernel
theorem dX8_isPlace_4 : decode cX8_isPlace 4 = .ok (.aload_n 0, 1) := by decide +kernel
theorem dX8_isPlace_5 : decode cX8_isPlace 5 = .ok (.getfield 16, 3) := by decide +kernel
theorem dX8_isPlace_8 : decode cX8_isPlace 8 = .ok (.iload_n 1, 1) := by decide +kernel
theorem dX8_isPlace_9 : decode cX8_isPlace 9 = .ok (.invokestatic 178, 3) := by decide +kernel
theorem dX8_isPlace_12 : decode cX8_isPlace 12 = .ok (.invokevirtual 81, 3) := by decide +kernel
theorem dX8_isPlace_15 : decode cX8_isPlace 15 = .ok (.ifCond .eq 17, 3) := by decide +kernel
theorem dX8_isPlace_18 : decode cX8_isPlace 18 = .ok (.iload_n 1, 1) := by decide +kernel
theorem dX8_isPlace_19 : decode cX8_isPlace 19 = .ok (.invokestatic 165, 3) := by decide +kernel
theorem dX8_isPlace_22 : decode cX8_isPlace 22 = .ok (.invokestatic 97, 3) := by decide +kernel
theorem dX8_isPlace_25 : decode cX8_isPlace 25 = .ok (.ifCond .eq 7, 3) := by decide +kernel
theorem dX8_isPlace_28 : decode cX8_isPlace 28 = .ok (.iconst 1, 1) := by decide +kernel
theorem dX8_isPlace_29 : decode cX8_isPlace 29 = .ok (.goto 4, 3) := by decide +kernel
theorem dX8_isPlace_32 : decode cX8_isPlace 32 = .ok (.iconst 0, 1) := by decide +kernel
theorem dX8_isPlace_33 : decode cX8_isPlace 33 = .ok (.ireturn, 1) := by decide +kernel
theorem dX8_streetOf_0 : decode cX8_streetOf 0 = .ok (.iload_n 0, 1) := by decide +kernel
theorem dX8_streetOf_1 : decode cX8_streetOf 1 = .ok (.bipush 100, 2) := by decide +kernel
theorem dX8_streetOf_3 : decode cX8_streetOf 3 = .ok (.idiv, 1) := by decide +kernel
theorem dX8_streetOf_4 : decode cX8_streetOf 4 = .ok (.ireturn, 1) := by decide +kernel
theorem dX8_hourOf_0 : decode cX8_hourOf 0 = .ok (.iload_n 0, 1) := by decide +kernel
theorem dX8_hourOf_1 : decode cX8_hourOf 1 = .ok (.bipush 100, 2) := by decide +kernel
theorem dX8_hourOf_3 : decode cX8_hourOf 3 = .ok (.irem, 1) := by decide +kernel
theorem dX8_hourOf_4 : decode cX8_hourOf 4 = .ok (.ireturn, 1) := by decide +kernel
theorem dX8_isPair_0 : decode cX8_isPair 0 = .ok (.iload_n 1, 1) := by decide +kernel
theorem dX8_isPair_1 : decode cX8_isPair 1 = .ok (.ifCond .lt 35, 3) := by decide +kernel
theorem dX8_isPair_4 : decode cX8_isPair 4 = .ok (.aload_n 0, 1) := by decide +kernel
theorem dX8_isPair_5 : decode cX8_isPair 5 = .ok (.getfield 16, 3) := by decide +kernel
theorem dX8_isPair_8 : decode cX8_isPair 8 = .ok (.iload_n 1, 1) := by decide +kernel
theorem dX8_isPair_9 : decode cX8_isPair 9 = .ok (.bipush 10, 2) := by decide +kernel
theorem dX8_isPair_11 : decode cX8_isPair 11 = .ok (.idiv, 1) := by decide +kernel
theorem dX8_isPair_12 : decode cX8_isPair 12 = .ok (.invokevirtual 81, 3) := by decide +kernel
theorem dX8_isPair_15 : decode cX8_isPair 15 = .ok (.ifCond .eq 21, 3) := by decide +kernel
theorem dX8_isPair_18 : decode cX8_isPair 18 = .ok (.aload_n 0, 1) := by decide +kernel
theorem dX8_isPair_19 : decode cX8_isPair 19 = .ok (.getfield 16, 3) := by decide +kernel
theorem dX8_isPair_22 : decode cX8_isPair 22 = .ok (.iload_n 1, 1) := by decide +kernel
theorem dX8_isPair_23 : decode cX8_isPair 23 = .ok (.bipush 10, 2) := by decide +kernel
theorem dX8_isPair_25 : decode cX8_isPair 25 = .ok (.irem, 1) := by decide +kernel
theorem dX8_isPair_26 : decode cX8_isPair 26 = .ok (.invokevirtual 81, 3) := by decide +kernel
theorem dX8_isPair_29 : decode cX8_isPair 29 = .ok (.ifCond .eq 7, 3) := by decide +kernel
theorem dX8_isPair_32 : decode cX8_isPair 32 = .ok (.iconst 1, 1) := by decide +kernel
theorem dX8_isPair_33 : decode cX8_isPair 33 = .ok (.goto 4, 3) := by decide +kernel
theorem dX8_isPair_36 : decode cX8_isPair 36 = .ok (.iconst 0, 1) := by decide +kernel
theorem dX8_isPair_37 : decode cX8_isPair 37 = .ok (.ireturn, 1) := by decide +kernel
theorem dX8_isKind_0 : decode cX8_isKind 0 = .ok (.iload_n 0, 1) := by decide +kernel
theorem dX8_isKind_1 : decode cX8_isKind 1 = .ok (.ifCond .eq 13, 3) := by decide +kernel
theorem dX8_isKind_4 : decode cX8_isKind 4 = .ok (.iload_n 0, 1) := by decide +kernel
theorem dX8_isKind_5 : decode cX8_isKind 5 = .ok (.iconst 1, 1) := by decide +kernel
theorem dX8_isKind_6 : decode cX8_isKind 6 = .ok (.if_icmp .eq 8, 3) := by decide +kernel
theorem dX8_isKind_9 : decode cX8_isKind 9 = .ok (.iload_n 0, 1) := by decide +kernel
theorem dX8_isKind_10 : decode cX8_isKind 10 = .ok (.iconst 2, 1) := by decide +kernel
theorem dX8_isKind_11 : decode cX8_isKind 11 = .ok (.if_icmp .ne 7, 3) := by decide +kernel
theorem dX8_isKind_14 : decode cX8_isKind 14 = .ok (.iconst 1, 1) := by decide +kernel
theorem dX8_isKind_15 : decode cX8_isKind 15 = .ok (.goto 4, 3) := by decide +kernel
theorem dX8_isKind_18 : decode cX8_isKind 18 = .ok (.iconst 0, 1) := by decide +kernel
theorem dX8_isKind_19 : decode cX8_isKind 19 = .ok (.ireturn, 1) := by decide +kernel
theorem dX8_newVan_0 : decode cX8_newVan 0 = .ok (.iload_n 0, 1) := by decide +kernel
theorem dX8_newVan_1 : decode cX8_newVan 1 = .ok (.iconst 1, 1) := by decide +kernel
theorem dX8_newVan_2 : decode cX8_newVan 2 = .ok (.if_icmp .ne 11, 3) := by decide +kernel
theorem dX8_newVan_5 : decode cX8_newVan 5 = .ok (.new 230, 3) := by decide +kernel
theorem dX8_newVan_8 : decode cX8_newVan 8 = .ok (.dup, 1) := by decide +kernel
theorem dX8_newVan_9 : decode cX8_newVan 9 = .ok (.invokespecial 232, 3) := by decide +kernel
theorem dX8_newVan_12 : decode cX8_newVan 12 = .ok (.areturn, 1) := by decide +kernel
theorem dX8_newVan_13 : decode cX8_newVan 13 = .ok (.iload_n 0, 1) := by decide +kernel
theorem dX8_newVan_14 : decode cX8_newVan 14 = .ok (.iconst 2, 1) := by decide +kernel
theorem dX8_newVan_15 : decode cX8_newVan 15 = .ok (.if_icmp .ne 11, 3) := by decide +kernel
theorem dX8_newVan_18 : decode cX8_newVan 18 = .ok (.new 233, 3) := by decide +kernel
theorem dX8_newVan_21 : decode cX8_newVan 21 = .ok (.dup, 1) := by decide +kernel
theorem dX8_newVan_22 : decode cX8_newVan 22 = .ok (.invokespecial 235, 3) := by decide +kernel
theorem dX8_newVan_25 : decode cX8_newVan 25 = .ok (.areturn, 1) := by decide +kernel
theorem dX8_newVan_26 : decode cX8_newVan 26 = .ok (.new 27, 3) := by decide +kernel
theorem dX8_newVan_29 : decode cX8_newVan 29 = .ok (.dup, 1) := by decide +kernel
theorem dX8_newVan_30 : decode cX8_newVan 30 = .ok (.invokespecial 236, 3) := by decide +kernel
theorem dX8_newVan_33 : decode cX8_newVan 33 = .ok (.areturn, 1) := by decide +kernel
theorem dX8_isOfKind_0 : decode cX8_isOfKind 0 = .ok (.iload_n 1, 1) := by decide +kernel
theorem dX8_isOfKind_1 : decode cX8_isOfKind 1 = .ok (.iconst 1, 1) := by decide +kernel
theorem dX8_isOfKind_2 : decode cX8_isOfKind 2 = .ok (.if_icmp .ne 8, 3) := by decide +kernel
theorem dX8_isOfKind_5 : decode cX8_isOfKind 5 = .ok (.aload_n 0, 1) := by decide +kernel
theorem dX8_isOfKind_6 : decode cX8_isOfKind 6 = .ok (.instanceof 230, 3) := by decide +kernel
theorem dX8_isOfKind_9 : decode cX8_isOfKind 9 = .ok (.ireturn, 1) := by decide +kernel
theorem dX8_isOfKind_10 : decode cX8_isOfKind 10 = .ok (.iload_n 1, 1) := by decide +kernel
theorem dX8_isOfKind_11 : decode cX8_isOfKind 11 = .ok (.iconst 2, 1) := by decide +kernel
theorem dX8_isOfKind_12 : decode cX8_isOfKind 12 = .ok (.if_icmp .ne 8, 3) := by decide +kernel
theorem dX8_isOfKind_15 : decode cX8_isOfKind 15 = .ok (.aload_n 0, 1) := by decide +kernel
theorem dX8_isOfKind_16 : decode cX8_isOfKind 16 = .ok (.instanceof 233, 3) := by decide +kernel
theorem dX8_isOfKind_19 : decode cX8_isOfKind 19 = .ok (.ireturn, 1) := by decide +kernel
theorem dX8_isOfKind_20 : decode cX8_isOfKind 20 = .ok (.iconst 1, 1) := by decide +kernel
theorem dX8_isOfKind_21 : decode cX8_isOfKind 21 = .ok (.ireturn, 1) := by decide +kernel
theorem dX8_vanNumber_0 : decode cX8_vanNumber 0 = .ok (.iload_n 1, 1) := by decide +kernel
theorem dX8_vanNumber_1 : decode cX8_vanNumber 1 = .ok (.ifCond .lt 20, 3) := by decide +kernel
theorem dX8_vanNumber_4 : decode cX8_vanNumber 4 = .ok (.iload_n 1, 1) := by decide +kernel
theorem dX8_vanNumber_5 : decode cX8_vanNumber 5 = .ok (.aload_n 0, 1) := by decide +kernel
theorem dX8_vanNumber_6 : decode cX8_vanNumber 6 = .ok (.getfield 33, 3) := by decide +kernel
theorem dX8_vanNumber_9 : decode cX8_vanNumber 9 = .ok (.if_icmp .ge 12, 3) := by decide +kernel
theorem dX8_vanNumber_12 : decode cX8_vanNumber 12 = .ok (.aload_n 0, 1) := by decide +kernel
theorem dX8_vanNumber_13 : decode cX8_vanNumber 13 = .ok (.getfield 29, 3) := by decide +kernel
theorem dX8_vanNumber_16 : decode cX8_vanNumber 16 = .ok (.iload_n 1, 1) := by decide +kernel
theorem dX8_vanNumber_17 : decode cX8_vanNumber 17 = .ok (.aaload, 1) := by decide +kernel
theorem dX8_vanNumber_18 : decode cX8_vanNumber 18 = .ok (.goto 4, 3) := by decide +kernel
theorem dX8_vanNumber_21 : decode cX8_vanNumber 21 = .ok (.aconst_null, 1) := by decide +kernel
theorem dX8_vanNumber_22 : decode cX8_vanNumber 22 = .ok (.areturn, 1) := by decide +kernel
theorem dX8_areTwoVans_0 : decode cX8_areTwoVans 0 = .ok (.aload_n 0, 1) := by decide +kernel
theorem dX8_areTwoVans_1 : decode cX8_areTwoVans 1 = .ok (.iload_n 1, 1) := by decide +kernel
theorem dX8_areTwoVans_2 : decode cX8_areTwoVans 2 = .ok (.invokevirtual 116, 3) := by decide +kernel
theorem dX8_areTwoVans_5 : decode cX8_areTwoVans 5 = .ok (.ifnull 20, 3) := by decide +kernel
theorem dX8_areTwoVans_8 : decode cX8_areTwoVans 8 = .ok (.aload_n 0, 1) := by decide +kernel
theorem dX8_areTwoVans_9 : decode cX8_areTwoVans 9 = .ok (.iload_n 2, 1) := by decide +kernel
theorem dX8_areTwoVans_10 : decode cX8_areTwoVans 10 = .ok (.invokevirtual 116, 3) := by decide +kernel
theorem dX8_areTwoVans_13 : decode cX8_areTwoVans 13 = .ok (.ifnull 12, 3) := by decide +kernel
theorem dX8_areTwoVans_16 : decode cX8_areTwoVans 16 = .ok (.iload_n 1, 1) := by decide +kernel
theorem dX8_areTwoVans_17 : decode cX8_areTwoVans 17 = .ok (.iload_n 2, 1) := by decide +kernel
theorem dX8_areTwoVans_18 : decode cX8_areTwoVans 18 = .ok (.if_icmp .eq 7, 3) := by decide +kernel
theorem dX8_areTwoVans_21 : decode cX8_areTwoVans 21 = .ok (.iconst 1, 1) := by decide +kernel
theorem dX8_areTwoVans_22 : decode cX8_areTwoVans 22 = .ok (.goto 4, 3) := by decide +kernel
theorem dX8_areTwoVans_25 : decode cX8_areTwoVans 25 = .ok (.iconst 0, 1) := by decide +kernel
theorem dX8_areTwoVans_26 : decode cX8_areTwoVans 26 = .ok (.ireturn, 1) := by decide +kernel
theorem dX8_stockOfAll_0 : decode cX8_stockOfAll 0 = .ok (.iconst 0, 1) := by decide +kernel
theorem dX8_stockOfAll_1 : decode cX8_stockOfAll 1 = .ok (.istore_n 1, 1) := by decide +kernel
theorem dX8_stockOfAll_2 : decode cX8_stockOfAll 2 = .ok (.iconst 0, 1) := by decide +kernel
theorem dX8_stockOfAll_3 : decode cX8_stockOfAll 3 = .ok (.istore_n 2, 1) := by decide +kernel
theorem dX8_stockOfAll_4 : decode cX8_stockOfAll 4 = .ok (.iload_n 2, 1) := by decide +kernel
theorem dX8_stockOfAll_5 : decode cX8_stockOfAll 5 = .ok (.aload_n 0, 1) := by decide +kernel
theorem dX8_stockOfAll_6 : decode cX8_stockOfAll 6 = .ok (.getfield 33, 3) := by decide +kernel
theorem dX8_stockOfAll_9 : decode cX8_stockOfAll 9 = .ok (.if_icmp .ge 27, 3) := by decide +kernel
theorem dX8_stockOfAll_12 : decode cX8_stockOfAll 12 = .ok (.aload_n 0, 1) := by decide +kernel
theorem dX8_stockOfAll_13 : decode cX8_stockOfAll 13 = .ok (.getfield 29, 3) := by decide +kernel
theorem dX8_stockOfAll_16 : decode cX8_stockOfAll 16 = .ok (.iload_n 2, 1) := by decide +kernel
theorem dX8_stockOfAll_17 : decode cX8_stockOfAll 17 = .ok (.aaload, 1) := by decide +kernel
theorem dX8_stockOfAll_18 : decode cX8_stockOfAll 18 = .ok (.astore_n 3, 1) := by decide +kernel
theorem dX8_stockOfAll_19 : decode cX8_stockOfAll 19 = .ok (.aload_n 3, 1) := by decide +kernel
theorem dX8_stockOfAll_20 : decode cX8_stockOfAll 20 = .ok (.ifnull 10, 3) := by decide +kernel
theorem dX8_stockOfAll_23 : decode cX8_stockOfAll 23 = .ok (.iload_n 1, 1) := by decide +kernel
theorem dX8_stockOfAll_24 : decode cX8_stockOfAll 24 = .ok (.aload_n 3, 1) := by decide +kernel
theorem dX8_stockOfAll_25 : decode cX8_stockOfAll 25 = .ok (.getfield 124, 3) := by decide +kernel
theorem dX8_stockOfAll_28 : decode cX8_stockOfAll 28 = .ok (.iadd, 1) := by decide +kernel
theorem dX8_stockOfAll_29 : decode cX8_stockOfAll 29 = .ok (.istore_n 1, 1) := by decide +kernel
theorem dX8_stockOfAll_30 : decode cX8_stockOfAll 30 = .ok (.iinc 2 1, 3) := by decide +kernel
theorem dX8_stockOfAll_33 : decode cX8_stockOfAll 33 = .ok (.goto (-29), 3) := by decide +kernel
theorem dX8_stockOfAll_36 : decode cX8_stockOfAll 36 = .ok (.iload_n 1, 1) := by decide +kernel
theorem dX8_stockOfAll_37 : decode cX8_stockOfAll 37 = .ok (.ireturn, 1) := by decide +kernel
theorem dX8_mayStand_0 : decode cX8_mayStand 0 = .ok (.aload_n 1, 1) := by decide +kernel
theorem dX8_mayStand_1 : decode cX8_mayStand 1 = .ok (.iload_n 2, 1) := by decide +kernel
theorem dX8_mayStand_2 : decode cX8_mayStand 2 = .ok (.invokevirtual 237, 3) := by decide +kernel
theorem dX8_mayStand_5 : decode cX8_mayStand 5 = .ok (.ifCond .eq 16, 3) := by decide +kernel
theorem dX8_mayStand_8 : decode cX8_mayStand 8 = .ok (.aload_n 0, 1) := by decide +kernel
theorem dX8_mayStand_9 : decode cX8_mayStand 9 = .ok (.iload_n 2, 1) := by decide +kernel
theorem dX8_mayStand_10 : decode cX8_mayStand 10 = .ok (.iload_n 3, 1) := by decide +kernel
theorem dX8_mayStand_11 : decode cX8_mayStand 11 = .ok (.invokevirtual 240, 3) := by decide +kernel
theorem dX8_mayStand_14 : decode cX8_mayStand 14 = .ok (.ifCond .ne 7, 3) := by decide +kernel
theorem dX8_mayStand_17 : decode cX8_mayStand 17 = .ok (.iconst 1, 1) := by decide +kernel
theorem dX8_mayStand_18 : decode cX8_mayStand 18 = .ok (.goto 4, 3) := by decide +kernel
theorem dX8_mayStand_21 : decode cX8_mayStand 21 = .ok (.iconst 0, 1) := by decide +kernel
theorem dX8_mayStand_22 : decode cX8_mayStand 22 = .ok (.ireturn, 1) := by decide +kernel
theorem dX8_isBarred_0 : decode cX8_isBarred 0 = .ok (.aload_n 0, 1) := by decide +kernel
theorem dX8_isBarred_1 : decode cX8_isBarred 1 = .ok (.getfield 16, 3) := by decide +kernel
theorem dX8_isBarred_4 : decode cX8_isBarred 4 = .ok (.getfield 243, 3) := by decide +kernel
theorem dX8_isBarred_7 : decode cX8_isBarred 7 = .ok (.iload_n 1, 1) := by decide +kernel
theorem dX8_isBarred_8 : decode cX8_isBarred 8 = .ok (.baload, 1) := by decide +kernel
theorem dX8_isBarred_9 : decode cX8_isBarred 9 = .ok (.ifCond .eq 18, 3) := by decide +kernel
theorem dX8_isBarred_12 : decode cX8_isBarred 12 = .ok (.aload_n 0, 1) := by decide +kernel
theorem dX8_isBarred_13 : decode cX8_isBarred 13 = .ok (.getfield 23, 3) := by decide +kernel
theorem dX8_isBarred_16 : decode cX8_isBarred 16 = .ok (.iload_n 2, 1) := by decide +kernel
theorem dX8_isBarred_17 : decode cX8_isBarred 17 = .ok (.invokevirtual 247, 3) := by decide +kernel
theorem dX8_isBarred_20 : decode cX8_isBarred 20 = .ok (.ifCond .eq 7, 3) := by decide +kernel
theorem dX8_isBarred_23 : decode cX8_isBarred 23 = .ok (.iconst 1, 1) := by decide +kernel
theorem dX8_isBarred_24 : decode cX8_isBarred 24 = .ok (.goto 4, 3) := by decide +kernel
theorem dX8_isBarred_27 : decode cX8_isBarred 27 = .ok (.iconst 0, 1) := by decide +kernel
theorem dX8_isBarred_28 : decode cX8_isBarred 28 = .ok (.ireturn, 1) := by decide +kernel
theorem dX8_hoursBetween_0 : decode cX8_hoursBetween 0 = .ok (.iload_n 2, 1) := by decide +kernel
theorem dX8_hoursBetween_1 : decode cX8_hoursBetween 1 = .ok (.iload_n 3, 1) := by decide +kernel
theorem dX8_hoursBetween_2 : decode cX8_hoursBetween 2 = .ok (.if_icmp .ne 7, 3) := by decide +kernel
theorem dX8_hoursBetween_5 : decode cX8_hoursBetween 5 = .ok (.iconst 1, 1) := by decide +kernel
theorem dX8_hoursBetween_6 : decode cX8_hoursBetween 6 = .ok (.goto 16, 3) := by decide +kernel
theorem dX8_hoursBetween_9 : decode cX8_hoursBetween 9 = .ok (.aload_n 1, 1) := by decide +kernel
theorem dX8_hoursBetween_10 : decode cX8_hoursBetween 10 = .ok (.aload_n 0, 1) := by decide +kernel
theorem dX8_hoursBetween_11 : decode cX8_hoursBetween 11 = .ok (.getfield 16, 3) := by decide +kernel
theorem dX8_hoursBetween_14 : decode cX8_hoursBetween 14 = .ok (.iload_n 2, 1) := by decide +kernel
theorem dX8_hoursBetween_15 : decode cX8_hoursBetween 15 = .ok (.iload_n 3, 1) := by decide +kernel
theorem dX8_hoursBetween_16 : decode cX8_hoursBetween 16 = .ok (.invokevirtual 89, 3) := by decide +kernel
theorem dX8_hoursBetween_19 : decode cX8_hoursBetween 19 = .ok (.invokevirtual 250, 3) := by decide +kernel
theorem dX8_hoursBetween_22 : decode cX8_hoursBetween 22 = .ok (.ireturn, 1) := by decide +kernel
theorem dX8_makePlan_0 : decode cX8_makePlan 0 = .ok (.aload_n 0, 1) := by decide +kernel
theorem dX8_makePlan_1 : decode cX8_makePlan 1 = .ok (.iload_n 1, 1) := by decide +kernel
theorem dX8_makePlan_2 : decode cX8_makePlan 2 = .ok (.invokevirtual 116, 3) := by decide +kernel
theorem dX8_makePlan_5 : decode cX8_makePlan 5 = .ok (.astore 4, 2) := by decide +kernel
theorem dX8_makePlan_7 : decode cX8_makePlan 7 = .ok (.aload 4, 2) := by decide +kernel
theorem dX8_makePlan_9 : decode cX8_makePlan 9 = .ok (.ifnull 22, 3) := by decide +kernel
theorem dX8_makePlan_12 : decode cX8_makePlan 12 = .ok (.aload_n 0, 1) := by decide +kernel
theorem dX8_makePlan_13 : decode cX8_makePlan 13 = .ok (.iload_n 2, 1) := by decide +kernel
theorem dX8_makePlan_14 : decode cX8_makePlan 14 = .ok (.invokevirtual 162, 3) := by decide +kernel
theorem dX8_makePlan_17 : decode cX8_makePlan 17 = .ok (.ifCond .eq 14, 3) := by decide +kernel
theorem dX8_makePlan_20 : decode cX8_makePlan 20 = .ok (.iload_n 3, 1) := by decide +kernel
theorem dX8_makePlan_21 : decode cX8_makePlan 21 = .ok (.iconst 1, 1) := by decide +kernel
theorem dX8_makePlan_22 : decode cX8_makePlan 22 = .ok (.if_icmp .lt 9, 3) := by decide +kernel
theorem dX8_makePlan_25 : decode cX8_makePlan 25 = .ok (.iload_n 3, 1) := by decide +kernel
theorem dX8_makePlan_26 : decode cX8_makePlan 26 = .ok (.bipush 6, 2) := by decide +kernel
theorem dX8_makePlan_28 : decode cX8_makePlan 28 = .ok (.if_icmp .le 6, 3) := by decide +kernel
theorem dX8_makePlan_31 : decode cX8_makePlan 31 = .ok (.ldc 67, 2) := by decide +kernel
theorem dX8_makePlan_33 : decode cX8_makePlan 33 = .ok (.ireturn, 1) := by decide +kernel
theorem dX8_makePlan_34 : decode cX8_makePlan 34 = .ok (.iload_n 2, 1) := by decide +kernel
theorem dX8_makePlan_35 : decode cX8_makePlan 35 = .ok (.invokestatic 178, 3) := by decide +kernel
theorem dX8_makePlan_38 : decode cX8_makePlan 38 = .ok (.istore 5, 2) := by decide +kernel
theorem dX8_makePlan_40 : decode cX8_makePlan 40 = .ok (.iload_n 2, 1) := by decide +kernel
theorem dX8_makePlan_41 : decode cX8_makePlan 41 = .ok (.invokestatic 165, 3) := by decide +kernel
theorem dX8_makePlan_44 : decode cX8_makePlan 44 = .ok (.istore 6, 2) := by decide +kernel
theorem dX8_makePlan_46 : decode cX8_makePlan 46 = .ok (.aload_n 0, 1) := by decide +kernel
theorem dX8_makePlan_47 : decode cX8_makePlan 47 = .ok (.aload 4, 2) := by decide +kernel
theorem dX8_makePlan_49 : decode cX8_makePlan 49 = .ok (.iload 5, 2) := by decide +kernel
theorem dX8_makePlan_51 : decode cX8_makePlan 51 = .ok (.iload 6, 2) := by decide +kernel
theorem dX8_makePlan_53 : decode cX8_makePlan 53 = .ok (.invokevirtual 139, 3) := by decide +kernel
theorem dX8_makePlan_56 : decode cX8_makePlan 56 = .ok (.ifCond .ne 6, 3) := by decide +kernel
theorem dX8_makePlan_59 : decode cX8_makePlan 59 = .ok (.ldc 176, 2) := by decide +kernel
theorem dX8_makePlan_61 : decode cX8_makePlan 61 = .ok (.ireturn, 1) := by decide +kernel
theorem dX8_makePlan_62 : decode cX8_makePlan 62 = .ok (.aload_n 0, 1) := by decide +kernel
theorem dX8_makePlan_63 : decode cX8_makePlan 63 = .ok (.getfield 44, 3) := by decide +kernel
theorem dX8_makePlan_66 : decode cX8_makePlan 66 = .ok (.iconst 0, 1) := by decide +kernel
theorem dX8_makePlan_67 : decode cX8_makePlan 67 = .ok (.invokevirtual 253, 3) := by decide +kernel
theorem dX8_makePlan_70 : decode cX8_makePlan 70 = .ok (.aload_n 0, 1) := by decide +kernel
theorem dX8_makePlan_71 : decode cX8_makePlan 71 = .ok (.getfield 40, 3) := by decide +kernel
theorem dX8_makePlan_74 : decode cX8_makePlan 74 = .ok (.aload 4, 2) := by decide +kernel
theorem dX8_makePlan_76 : decode cX8_makePlan 76 = .ok (.getfield 124, 3) := by decide +kernel
theorem dX8_makePlan_79 : decode cX8_makePlan 79 = .ok (.invokevirtual 253, 3) := by decide +kernel
theorem dX8_makePlan_82 : decode cX8_makePlan 82 = .ok (.aload_n 0, 1) := by decide +kernel
theorem dX8_makePlan_83 : decode cX8_makePlan 83 = .ok (.aload 4, 2) := by decide +kernel
theorem dX8_makePlan_85 : decode cX8_makePlan 85 = .ok (.iload 5, 2) := by decide +kernel
theorem dX8_makePlan_87 : decode cX8_makePlan 87 = .ok (.iload 6, 2) := by decide +kernel
theorem dX8_makePlan_89 : decode cX8_makePlan 89 = .ok (.iload 6, 2) := by decide +kernel
theorem dX8_makePlan_91 : decode cX8_makePlan 91 = .ok (.iload_n 3, 1) := by decide +kernel
theorem dX8_makePlan_92 : decode cX8_makePlan 92 = .ok (.iadd, 1) := by decide +kernel
theorem dX8_makePlan_93 : decode cX8_makePlan 93 = .ok (.bipush 12, 2) := by decide +kernel
theorem dX8_makePlan_95 : decode cX8_makePlan 95 = .ok (.invokestatic 257, 3) := by decide +kernel
theorem dX8_makePlan_98 : decode cX8_makePlan 98 = .ok (.iconst 1, 1) := by decide +kernel
theorem dX8_makePlan_99 : decode cX8_makePlan 99 = .ok (.isub, 1) := by decide +kernel
theorem dX8_makePlan_100 : decode cX8_makePlan 100 = .ok (.invokevirtual 262, 3) := by decide +kernel
theorem dX8_makePlan_103 : decode cX8_makePlan 103 = .ok (.iconst 0, 1) := by decide +kernel
theorem dX8_makePlan_104 : decode cX8_makePlan 104 = .ok (.ireturn, 1) := by decide +kernel
theorem dX8_explore_0 : decode cX8_explore 0 = .ok (.aload_n 0, 1) := by decide +kernel
theorem dX8_explore_1 : decode cX8_explore 1 = .ok (.getfield 40, 3) := by decide +kernel
theorem dX8_explore_4 : decode cX8_explore 4 = .ok (.invokevirtual 266, 3) := by decide +kernel
theorem dX8_explore_7 : decode cX8_explore 7 = .ok (.ifCond .eq 4, 3) := by decide +kernel
theorem dX8_explore_10 : decode cX8_explore 10 = .ok (.return_, 1) := by decide +kernel
theorem dX8_explore_11 : decode cX8_explore 11 = .ok (.aload_n 0, 1) := by decide +kernel
theorem dX8_explore_12 : decode cX8_explore 12 = .ok (.getfield 40, 3) := by decide +kernel
theorem dX8_explore_15 : decode cX8_explore 15 = .ok (.getfield 161, 3) := by decide +kernel
theorem dX8_explore_18 : decode cX8_explore 18 = .ok (.istore 5, 2) := by decide +kernel
theorem dX8_explore_20 : decode cX8_explore 20 = .ok (.aload_n 0, 1) := by decide +kernel
theorem dX8_explore_21 : decode cX8_explore 21 = .ok (.getfield 40, 3) := by decide +kernel
theorem dX8_explore_24 : decode cX8_explore 24 = .ok (.getfield 150, 3) := by decide +kernel
theorem dX8_explore_27 : decode cX8_explore 27 = .ok (.istore 6, 2) := by decide +kernel
theorem dX8_explore_29 : decode cX8_explore 29 = .ok (.aload_n 0, 1) := by decide +kernel
theorem dX8_explore_30 : decode cX8_explore 30 = .ok (.getfield 40, 3) := by decide +kernel
theorem dX8_explore_33 : decode cX8_explore 33 = .ok (.aload_n 1, 1) := by decide +kernel
theorem dX8_explore_34 : decode cX8_explore 34 = .ok (.iload_n 2, 1) := by decide +kernel
theorem dX8_explore_35 : decode cX8_explore 35 = .ok (.iload_n 3, 1) := by decide +kernel
theorem dX8_explore_36 : decode cX8_explore 36 = .ok (.aload_n 0, 1) := by decide +kernel
theorem dX8_explore_37 : decode cX8_explore 37 = .ok (.getfield 16, 3) := by decide +kernel
theorem dX8_explore_40 : decode cX8_explore 40 = .ok (.iload_n 2, 1) := by decide +kernel
theorem dX8_explore_41 : decode cX8_explore 41 = .ok (.iload_n 3, 1) := by decide +kernel
theorem dX8_explore_42 : decode cX8_explore 42 = .ok (.invokevirtual 143, 3) := by decide +kernel
theorem dX8_explore_45 : decode cX8_explore 45 = .ok (.invokevirtual 267, 3) := by decide +kernel
theorem dX8_explore_48 : decode cX8_explore 48 = .ok (.aload_n 0, 1) := by decide +kernel
theorem dX8_explore_49 : decode cX8_explore 49 = .ok (.getfield 44, 3) := by decide +kernel
theorem dX8_explore_52 : decode cX8_explore 52 = .ok (.getfield 270, 3) := by decide +kernel
theorem dX8_explore_55 : decode cX8_explore 55 = .ok (.ifCond .eq 20, 3) := by decide +kernel
theorem dX8_explore_58 : decode cX8_explore 58 = .ok (.aload_n 0, 1) := by decide +kernel
theorem dX8_explore_59 : decode cX8_explore 59 = .ok (.getfield 40, 3) := by decide +kernel
theorem dX8_explore_62 : decode cX8_explore 62 = .ok (.getfield 150, 3) := by decide +kernel
theorem dX8_explore_65 : decode cX8_explore 65 = .ok (.aload_n 0, 1) := by decide +kernel
theorem dX8_explore_66 : decode cX8_explore 66 = .ok (.getfield 44, 3) := by decide +kernel
theorem dX8_explore_69 : decode cX8_explore 69 = .ok (.getfield 150, 3) := by decide +kernel
theorem dX8_explore_72 : decode cX8_explore 72 = .ok (.if_icmp .le 14, 3) := by decide +kernel
theorem dX8_explore_75 : decode cX8_explore 75 = .ok (.aload_n 0, 1) := by decide +kernel
theorem dX8_explore_76 : decode cX8_explore 76 = .ok (.getfield 44, 3) := by decide +kernel
theorem dX8_explore_79 : decode cX8_explore 79 = .ok (.aload_n 0, 1) := by decide +kernel
theorem dX8_explore_80 : decode cX8_explore 80 = .ok (.getfield 40, 3) := by decide +kernel
theorem dX8_explore_83 : decode cX8_explore 83 = .ok (.invokevirtual 271, 3) := by decide +kernel
theorem dX8_explore_86 : decode cX8_explore 86 = .ok (.iconst 0, 1) := by decide +kernel
theorem dX8_explore_87 : decode cX8_explore 87 = .ok (.istore 7, 2) := by decide +kernel
theorem dX8_explore_89 : decode cX8_explore 89 = .ok (.iload 7, 2) := by decide +kernel
theorem dX8_explore_91 : decode cX8_explore 91 = .ok (.aload_n 0, 1) := by decide +kernel
theorem dX8_explore_92 : decode cX8_explore 92 = .ok (.getfield 16, 3) := by decide +kernel
theorem dX8_explore_95 : decode cX8_explore 95 = .ok (.getfield 200, 3) := by decide +kernel
theorem dX8_explore_98 : decode cX8_explore 98 = .ok (.if_icmp .ge 51, 3) := by decide +kernel
theorem dX8_explore_101 : decode cX8_explore 101 = .ok (.iload_n 3, 1) := by decide +kernel
theorem dX8_explore_102 : decode cX8_explore 102 = .ok (.aload_n 0, 1) := by decide +kernel
theorem dX8_explore_103 : decode cX8_explore 103 = .ok (.aload_n 1, 1) := by decide +kernel
theorem dX8_explore_104 : decode cX8_explore 104 = .ok (.iload_n 2, 1) := by decide +kernel
theorem dX8_explore_105 : decode cX8_explore 105 = .ok (.iload 7, 2) := by decide +kernel
theorem dX8_explore_107 : decode cX8_explore 107 = .ok (.invokevirtual 275, 3) := by decide +kernel
theorem dX8_explore_110 : decode cX8_explore 110 = .ok (.iadd, 1) := by decide +kernel
theorem dX8_explore_111 : decode cX8_explore 111 = .ok (.istore 8, 2) := by decide +kernel
theorem dX8_explore_113 : decode cX8_explore 113 = .ok (.iload 8, 2) := by decide +kernel
theorem dX8_explore_115 : decode cX8_explore 115 = .ok (.iload 4, 2) := by decide +kernel
theorem dX8_explore_117 : decode cX8_explore 117 = .ok (.if_icmp .gt 26, 3) := by decide +kernel
theorem dX8_explore_120 : decode cX8_explore 120 = .ok (.aload_n 0, 1) := by decide +kernel
