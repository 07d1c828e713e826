theorem dX9_together_31 : decode cX9_together 31 = .ok (.if_icmp .ge 101, 3) := by decide +kernel
theorem dX9_together_34 : decode cX9_together 34 = .ok (.iconst 0, 1) := by decide +kernel
theorem dX9_together_35 : decode cX9_together 35 = .ok (.istore 7, 2) := by decide +kernel
theorem dX9_together_37 : decode cX9_together 37 = .ok (.iload 7, 2) := by decide +kernel
theorem dX9_together_39 : decode cX9_together 39 = .ok (.aload_n 0, 1) := by decide +kernel
theorem dX9_together_40 : decode cX9_together 40 = .ok (.getfield 90, 3) := by decide +kernel
theorem dX9_together_43 : decode cX9_together 43 = .ok (.if_icmp .ge 83, 3) := by decide +kernel
theorem dX9_together_46 : decode cX9_together 46 = .ok (.aload_n 0, 1) := by decide +kernel
theorem dX9_together_47 : decode cX9_together 47 = .ok (.iload_n 1, 1) := by decide +kernel
theorem dX9_together_48 : decode cX9_together 48 = .ok (.iload 6, 2) := by decide +kernel
theorem dX9_together_50 : decode cX9_together 50 = .ok (.iload_n 3, 1) := by decide +kernel
theorem dX9_together_51 : decode cX9_together 51 = .ok (.invokevirtual 124, 3) := by decide +kernel
theorem dX9_together_54 : decode cX9_together 54 = .ok (.ifCond .eq 66, 3) := by decide +kernel
theorem dX9_together_57 : decode cX9_together 57 = .ok (.aload_n 0, 1) := by decide +kernel
theorem dX9_together_58 : decode cX9_together 58 = .ok (.iload_n 2, 1) := by decide +kernel
theorem dX9_together_59 : decode cX9_together 59 = .ok (.iload 7, 2) := by decide +kernel
theorem dX9_together_61 : decode cX9_together 61 = .ok (.iload_n 3, 1) := by decide +kernel
theorem dX9_together_62 : decode cX9_together 62 = .ok (.invokevirtual 124, 3) := by decide +kernel
theorem dX9_together_65 : decode cX9_together 65 = .ok (.ifCond .ne 6, 3) := by decide +kernel
theorem dX9_together_68 : decode cX9_together 68 = .ok (.goto 52, 3) := by decide +kernel
theorem dX9_together_71 : decode cX9_together 71 = .ok (.aload_n 0, 1) := by decide +kernel
theorem dX9_together_72 : decode cX9_together 72 = .ok (.iload_n 1, 1) := by decide +kernel
theorem dX9_together_73 : decode cX9_together 73 = .ok (.iload_n 2, 1) := by decide +kernel
theorem dX9_together_74 : decode cX9_together 74 = .ok (.iload 6, 2) := by decide +kernel
theorem dX9_together_76 : decode cX9_together 76 = .ok (.iload 7, 2) := by decide +kernel
theorem dX9_together_78 : decode cX9_together 78 = .ok (.iload_n 3, 1) := by decide +kernel
theorem dX9_together_79 : decode cX9_together 79 = .ok (.invokevirtual 174, 3) := by decide +kernel
theorem dX9_together_82 : decode cX9_together 82 = .ok (.aload_n 0, 1) := by decide +kernel
theorem dX9_together_83 : decode cX9_together 83 = .ok (.iload_n 2, 1) := by decide +kernel
theorem dX9_together_84 : decode cX9_together 84 = .ok (.iload_n 1, 1) := by decide +kernel
theorem dX9_together_85 : decode cX9_together 85 = .ok (.iload 7, 2) := by decide +kernel
theorem dX9_together_87 : decode cX9_together 87 = .ok (.iload 6, 2) := by decide +kernel
theorem dX9_together_89 : decode cX9_together 89 = .ok (.iload_n 3, 1) := by decide +kernel
theorem dX9_together_90 : decode cX9_together 90 = .ok (.invokevirtual 174, 3) := by decide +kernel
theorem dX9_together_93 : decode cX9_together 93 = .ok (.iadd, 1) := by decide +kernel
theorem dX9_together_94 : decode cX9_together 94 = .ok (.istore 8, 2) := by decide +kernel
theorem dX9_together_96 : decode cX9_together 96 = .ok (.iload 8, 2) := by decide +kernel
theorem dX9_together_98 : decode cX9_together 98 = .ok (.iload 5, 2) := by decide +kernel
theorem dX9_together_100 : decode cX9_together 100 = .ok (.if_icmp .gt 6, 3) := by decide +kernel
theorem dX9_together_103 : decode cX9_together 103 = .ok (.goto 17, 3) := by decide +kernel
theorem dX9_together_106 : decode cX9_together 106 = .ok (.bipush 10, 2) := by decide +kernel
theorem dX9_together_108 : decode cX9_together 108 = .ok (.iload 6, 2) := by decide +kernel
theorem dX9_together_110 : decode cX9_together 110 = .ok (.imul, 1) := by decide +kernel
theorem dX9_together_111 : decode cX9_together 111 = .ok (.iload 7, 2) := by decide +kernel
theorem dX9_together_113 : decode cX9_together 113 = .ok (.iadd, 1) := by decide +kernel
theorem dX9_together_114 : decode cX9_together 114 = .ok (.istore 4, 2) := by decide +kernel
theorem dX9_together_116 : decode cX9_together 116 = .ok (.iload 8, 2) := by decide +kernel
theorem dX9_together_118 : decode cX9_together 118 = .ok (.istore 5, 2) := by decide +kernel
theorem dX9_together_120 : decode cX9_together 120 = .ok (.iinc 7 1, 3) := by decide +kernel
theorem dX9_together_123 : decode cX9_together 123 = .ok (.goto (-86), 3) := by decide +kernel
theorem dX9_together_126 : decode cX9_together 126 = .ok (.iinc 6 1, 3) := by decide +kernel
theorem dX9_together_129 : decode cX9_together 129 = .ok (.goto (-104), 3) := by decide +kernel
theorem dX9_together_132 : decode cX9_together 132 = .ok (.iload 4, 2) := by decide +kernel
theorem dX9_together_134 : decode cX9_together 134 = .ok (.ifCond .ge 11, 3) := by decide +kernel
theorem dX9_together_137 : decode cX9_together 137 = .ok (.aload_n 0, 1) := by decide +kernel
theorem dX9_together_138 : decode cX9_together 138 = .ok (.iconst 2, 1) := by decide +kernel
theorem dX9_together_139 : decode cX9_together 139 = .ok (.invokevirtual 107, 3) := by decide +kernel
theorem dX9_together_142 : decode cX9_together 142 = .ok (.goto 5, 3) := by decide +kernel
theorem dX9_together_145 : decode cX9_together 145 = .ok (.iload 4, 2) := by decide +kernel
theorem dX9_together_147 : decode cX9_together 147 = .ok (.ireturn, 1) := by decide +kernel
theorem dX9_credit_0 : decode cX9_credit 0 = .ok (.iload_n 1, 1) := by decide +kernel
theorem dX9_credit_1 : decode cX9_credit 1 = .ok (.iconst 0, 1) := by decide +kernel
theorem dX9_credit_2 : decode cX9_credit 2 = .ok (.bipush 60, 2) := by decide +kernel
theorem dX9_credit_4 : decode cX9_credit 4 = .ok (.invokestatic 93, 3) := by decide +kernel
theorem dX9_credit_7 : decode cX9_credit 7 = .ok (.ifCond .ne 9, 3) := by decide +kernel
theorem dX9_credit_10 : decode cX9_credit 10 = .ok (.aload_n 0, 1) := by decide +kernel
theorem dX9_credit_11 : decode cX9_credit 11 = .ok (.iconst 1, 1) := by decide +kernel
theorem dX9_credit_12 : decode cX9_credit 12 = .ok (.invokevirtual 107, 3) := by decide +kernel
theorem dX9_credit_15 : decode cX9_credit 15 = .ok (.ireturn, 1) := by decide +kernel
theorem dX9_credit_16 : decode cX9_credit 16 = .ok (.aload_n 0, 1) := by decide +kernel
theorem dX9_credit_17 : decode cX9_credit 17 = .ok (.getfield 19, 3) := by decide +kernel
theorem dX9_credit_20 : decode cX9_credit 20 = .ok (.istore_n 2, 1) := by decide +kernel
theorem dX9_credit_21 : decode cX9_credit 21 = .ok (.aload_n 0, 1) := by decide +kernel
theorem dX9_credit_22 : decode cX9_credit 22 = .ok (.iload_n 1, 1) := by decide +kernel
theorem dX9_credit_23 : decode cX9_credit 23 = .ok (.putfield 19, 3) := by decide +kernel
theorem dX9_credit_26 : decode cX9_credit 26 = .ok (.iload_n 2, 1) := by decide +kernel
theorem dX9_credit_27 : decode cX9_credit 27 = .ok (.ireturn, 1) := by decide +kernel
theorem dX9_bill_0 : decode cX9_bill 0 = .ok (.iload_n 1, 1) := by decide +kernel
theorem dX9_bill_1 : decode cX9_bill 1 = .ok (.iconst 1, 1) := by decide +kernel
theorem dX9_bill_2 : decode cX9_bill 2 = .ok (.sipush 10000, 3) := by decide +kernel
theorem dX9_bill_5 : decode cX9_bill 5 = .ok (.invokestatic 93, 3) := by decide +kernel
theorem dX9_bill_8 : decode cX9_bill 8 = .ok (.ifCond .eq 14, 3) := by decide +kernel
theorem dX9_bill_11 : decode cX9_bill 11 = .ok (.iload_n 2, 1) := by decide +kernel
theorem dX9_bill_12 : decode cX9_bill 12 = .ok (.iconst 0, 1) := by decide +kernel
theorem dX9_bill_13 : decode cX9_bill 13 = .ok (.sipush 1000, 3) := by decide +kernel
theorem dX9_bill_16 : decode cX9_bill 16 = .ok (.invokestatic 93, 3) := by decide +kernel
theorem dX9_bill_19 : decode cX9_bill 19 = .ok (.ifCond .ne 9, 3) := by decide +kernel
theorem dX9_bill_22 : decode cX9_bill 22 = .ok (.aload_n 0, 1) := by decide +kernel
theorem dX9_bill_23 : decode cX9_bill 23 = .ok (.iconst 1, 1) := by decide +kernel
theorem dX9_bill_24 : decode cX9_bill 24 = .ok (.invokevirtual 107, 3) := by decide +kernel
theorem dX9_bill_27 : decode cX9_bill 27 = .ok (.ireturn, 1) := by decide +kernel
theorem dX9_bill_28 : decode cX9_bill 28 = .ok (.aload_n 0, 1) := by decide +kernel
theorem dX9_bill_29 : decode cX9_bill 29 = .ok (.getfield 185, 3) := by decide +kernel
theorem dX9_bill_32 : decode cX9_bill 32 = .ok (.bipush 12, 2) := by decide +kernel
theorem dX9_bill_34 : decode cX9_bill 34 = .ok (.if_icmp .ne 9, 3) := by decide +kernel
theorem dX9_bill_37 : decode cX9_bill 37 = .ok (.aload_n 0, 1) := by decide +kernel
theorem dX9_bill_38 : decode cX9_bill 38 = .ok (.iconst 4, 1) := by decide +kernel
theorem dX9_bill_39 : decode cX9_bill 39 = .ok (.invokevirtual 107, 3) := by decide +kernel
theorem dX9_bill_42 : decode cX9_bill 42 = .ok (.ireturn, 1) := by decide +kernel
theorem dX9_bill_43 : decode cX9_bill 43 = .ok (.aload_n 0, 1) := by decide +kernel
theorem dX9_bill_44 : decode cX9_bill 44 = .ok (.getfield 53, 3) := by decide +kernel
theorem dX9_bill_47 : decode cX9_bill 47 = .ok (.aload_n 0, 1) := by decide +kernel
theorem dX9_bill_48 : decode cX9_bill 48 = .ok (.getfield 185, 3) := by decide +kernel
theorem dX9_bill_51 : decode cX9_bill 51 = .ok (.iload_n 1, 1) := by decide +kernel
theorem dX9_bill_52 : decode cX9_bill 52 = .ok (.iastore, 1) := by decide +kernel
theorem dX9_bill_53 : decode cX9_bill 53 = .ok (.aload_n 0, 1) := by decide +kernel
theorem dX9_bill_54 : decode cX9_bill 54 = .ok (.getfield 56, 3) := by decide +kernel
theorem dX9_bill_57 : decode cX9_bill 57 = .ok (.aload_n 0, 1) := by decide +kernel
theorem dX9_bill_58 : decode cX9_bill 58 = .ok (.getfield 185, 3) := by decide +kernel
theorem dX9_bill_61 : decode cX9_bill 61 = .ok (.iload_n 2, 1) := by decide +kernel
theorem dX9_bill_62 : decode cX9_bill 62 = .ok (.iastore, 1) := by decide +kernel
theorem dX9_bill_63 : decode cX9_bill 63 = .ok (.aload_n 0, 1) := by decide +kernel
theorem dX9_bill_64 : decode cX9_bill 64 = .ok (.getfield 59, 3) := by decide +kernel
theorem dX9_bill_67 : decode cX9_bill 67 = .ok (.aload_n 0, 1) := by decide +kernel
theorem dX9_bill_68 : decode cX9_bill 68 = .ok (.getfield 185, 3) := by decide +kernel
theorem dX9_bill_71 : decode cX9_bill 71 = .ok (.iload_n 2, 1) := by decide +kernel
theorem dX9_bill_72 : decode cX9_bill 72 = .ok (.aload_n 0, 1) := by decide +kernel
theorem dX9_bill_73 : decode cX9_bill 73 = .ok (.getfield 19, 3) := by decide +kernel
theorem dX9_bill_76 : decode cX9_bill 76 = .ok (.iadd, 1) := by decide +kernel
theorem dX9_bill_77 : decode cX9_bill 77 = .ok (.iastore, 1) := by decide +kernel
theorem dX9_bill_78 : decode cX9_bill 78 = .ok (.aload_n 0, 1) := by decide +kernel
theorem dX9_bill_79 : decode cX9_bill 79 = .ok (.dup, 1) := by decide +kernel
theorem dX9_bill_80 : decode cX9_bill 80 = .ok (.getfield 185, 3) := by decide +kernel
theorem dX9_bill_83 : decode cX9_bill 83 = .ok (.iconst 1, 1) := by decide +kernel
theorem dX9_bill_84 : decode cX9_bill 84 = .ok (.iadd, 1) := by decide +kernel
theorem dX9_bill_85 : decode cX9_bill 85 = .ok (.putfield 185, 3) := by decide +kernel
theorem dX9_bill_88 : decode cX9_bill 88 = .ok (.aload_n 0, 1) := by decide +kernel
theorem dX9_bill_89 : decode cX9_bill 89 = .ok (.getfield 185, 3) := by decide +kernel
theorem dX9_bill_92 : decode cX9_bill 92 = .ok (.iconst 1, 1) := by decide +kernel
theorem dX9_bill_93 : decode cX9_bill 93 = .ok (.isub, 1) := by decide +kernel
theorem dX9_bill_94 : decode cX9_bill 94 = .ok (.ireturn, 1) := by decide +kernel
theorem dX9_isBill_0 : decode cX9_isBill 0 = .ok (.iload_n 1, 1) := by decide +kernel
theorem dX9_isBill_1 : decode cX9_isBill 1 = .ok (.iconst 0, 1) := by decide +kernel
theorem dX9_isBill_2 : decode cX9_isBill 2 = .ok (.aload_n 0, 1) := by decide +kernel
theorem dX9_isBill_3 : decode cX9_isBill 3 = .ok (.getfield 185, 3) := by decide +kernel
theorem dX9_isBill_6 : decode cX9_isBill 6 = .ok (.iconst 1, 1) := by decide +kernel
theorem dX9_isBill_7 : decode cX9_isBill 7 = .ok (.isub, 1) := by decide +kernel
theorem dX9_isBill_8 : decode cX9_isBill 8 = .ok (.invokestatic 93, 3) := by decide +kernel
theorem dX9_isBill_11 : decode cX9_isBill 11 = .ok (.ireturn, 1) := by decide +kernel
theorem dX9_pay_0 : decode cX9_pay 0 = .ok (.aload_n 0, 1) := by decide +kernel
theorem dX9_pay_1 : decode cX9_pay 1 = .ok (.iload_n 1, 1) := by decide +kernel
theorem dX9_pay_2 : decode cX9_pay 2 = .ok (.invokevirtual 188, 3) := by decide +kernel
theorem dX9_pay_5 : decode cX9_pay 5 = .ok (.ifCond .eq 8, 3) := by decide +kernel
theorem dX9_pay_8 : decode cX9_pay 8 = .ok (.iload_n 2, 1) := by decide +kernel
theorem dX9_pay_9 : decode cX9_pay 9 = .ok (.iconst 1, 1) := by decide +kernel
theorem dX9_pay_10 : decode cX9_pay 10 = .ok (.if_icmp .ge 9, 3) := by decide +kernel
theorem dX9_pay_13 : decode cX9_pay 13 = .ok (.aload_n 0, 1) := by decide +kernel
theorem dX9_pay_14 : decode cX9_pay 14 = .ok (.iconst 1, 1) := by decide +kernel
theorem dX9_pay_15 : decode cX9_pay 15 = .ok (.invokevirtual 107, 3) := by decide +kernel
theorem dX9_pay_18 : decode cX9_pay 18 = .ok (.ireturn, 1) := by decide +kernel
theorem dX9_pay_19 : decode cX9_pay 19 = .ok (.aload_n 0, 1) := by decide +kernel
theorem dX9_pay_20 : decode cX9_pay 20 = .ok (.getfield 53, 3) := by decide +kernel
theorem dX9_pay_23 : decode cX9_pay 23 = .ok (.iload_n 1, 1) := by decide +kernel
theorem dX9_pay_24 : decode cX9_pay 24 = .ok (.iaload, 1) := by decide +kernel
theorem dX9_pay_25 : decode cX9_pay 25 = .ok (.iload_n 2, 1) := by decide +kernel
theorem dX9_pay_26 : decode cX9_pay 26 = .ok (.if_icmp .ge 9, 3) := by decide +kernel
theorem dX9_pay_29 : decode cX9_pay 29 = .ok (.aload_n 0, 1) := by decide +kernel
theorem dX9_pay_30 : decode cX9_pay 30 = .ok (.iconst 3, 1) := by decide +kernel
theorem dX9_pay_31 : decode cX9_pay 31 = .ok (.invokevirtual 107, 3) := by decide +kernel
theorem dX9_pay_34 : decode cX9_pay 34 = .ok (.ireturn, 1) := by decide +kernel
theorem dX9_pay_35 : decode cX9_pay 35 = .ok (.aload_n 0, 1) := by decide +kernel
theorem dX9_pay_36 : decode cX9_pay 36 = .ok (.getfield 53, 3) := by decide +kernel
theorem dX9_pay_39 : decode cX9_pay 39 = .ok (.iload_n 1, 1) := by decide +kernel
theorem dX9_pay_40 : decode cX9_pay 40 = .ok (.dup2, 1) := by decide +kernel
theorem dX9_pay_41 : decode cX9_pay 41 = .ok (.iaload, 1) := by decide +kernel
theorem dX9_pay_42 : decode cX9_pay 42 = .ok (.iload_n 2, 1) := by decide +kernel
theorem dX9_pay_43 : decode cX9_pay 43 = .ok (.isub, 1) := by decide +kernel
theorem dX9_pay_44 : decode cX9_pay 44 = .ok (.iastore, 1) := by decide +kernel
theorem dX9_pay_45 : decode cX9_pay 45 = .ok (.aload_n 0, 1) := by decide +kernel
theorem dX9_pay_46 : decode cX9_pay 46 = .ok (.getfield 53, 3) := by decide +kernel
theorem dX9_pay_49 : decode cX9_pay 49 = .ok (.iload_n 1, 1) := by decide +kernel
theorem dX9_pay_50 : decode cX9_pay 50 = .ok (.iaload, 1) := by decide +kernel
theorem dX9_pay_51 : decode cX9_pay 51 = .ok (.ireturn, 1) := by decide +kernel
theorem dX9_owedOf_0 : decode cX9_owedOf 0 = .ok (.iload_n 2, 1) := by decide +kernel
theorem dX9_owedOf_1 : decode cX9_owedOf 1 = .ok (.aload_n 0, 1) := by decide +kernel
theorem dX9_owedOf_2 : decode cX9_owedOf 2 = .ok (.getfield 56, 3) := by decide +kernel
theorem dX9_owedOf_5 : decode cX9_owedOf 5 = .ok (.iload_n 1, 1) := by decide +kernel
theorem dX9_owedOf_6 : decode cX9_owedOf 6 = .ok (.iaload, 1) := by decide +kernel
theorem dX9_owedOf_7 : decode cX9_owedOf 7 = .ok (.if_icmp .ge 5, 3) := by decide +kernel
theorem dX9_owedOf_10 : decode cX9_owedOf 10 = .ok (.iconst 0, 1) := by decide +kernel
theorem dX9_owedOf_11 : decode cX9_owedOf 11 = .ok (.ireturn, 1) := by decide +kernel
theorem dX9_owedOf_12 : decode cX9_owedOf 12 = .ok (.iload_n 2, 1) := by decide +kernel
theorem dX9_owedOf_13 : decode cX9_owedOf 13 = .ok (.aload_n 0, 1) := by decide +kernel
theorem dX9_owedOf_14 : decode cX9_owedOf 14 = .ok (.getfield 59, 3) := by decide +kernel
theorem dX9_owedOf_17 : decode cX9_owedOf 17 = .ok (.iload_n 1, 1) := by decide +kernel
theorem dX9_owedOf_18 : decode cX9_owedOf 18 = .ok (.iaload, 1) := by decide +kernel
theorem dX9_owedOf_19 : decode cX9_owedOf 19 = .ok (.if_icmp .le 17, 3) := by decide +kernel
theorem dX9_owedOf_22 : decode cX9_owedOf 22 = .ok (.iload_n 2, 1) := by decide +kernel
theorem dX9_owedOf_23 : decode cX9_owedOf 23 = .ok (.aload_n 0, 1) := by decide +kernel
theorem dX9_owedOf_24 : decode cX9_owedOf 24 = .ok (.getfield 59, 3) := by decide +kernel
theorem dX9_owedOf_27 : decode cX9_owedOf 27 = .ok (.iload_n 1, 1) := by decide +kernel
theorem dX9_owedOf_28 : decode cX9_owedOf 28 = .ok (.iaload, 1) := by decide +kernel
theorem dX9_owedOf_29 : decode cX9_owedOf 29 = .ok (.isub, 1) := by decide +kernel
theorem dX9_owedOf_30 : decode cX9_owedOf 30 = .ok (.bipush 7, 2) := by decide +kernel
theorem dX9_owedOf_32 : decode cX9_owedOf 32 = .ok (.idiv, 1) := by decide +kernel
theorem dX9_owedOf_33 : decode cX9_owedOf 33 = .ok (.goto 4, 3) := by decide +kernel
theorem dX9_owedOf_36 : decode cX9_owedOf 36 = .ok (.iconst 0, 1) := by decide +kernel
theorem dX9_owedOf_37 : decode cX9_owedOf 37 = .ok (.istore_n 3, 1) := by decide +kernel
theorem dX9_owedOf_38 : decode cX9_owedOf 38 = .ok (.aload_n 0, 1) := by decide +kernel
theorem dX9_owedOf_39 : decode cX9_owedOf 39 = .ok (.getfield 53, 3) := by decide +kernel
theorem dX9_owedOf_42 : decode cX9_owedOf 42 = .ok (.iload_n 1, 1) := by decide +kernel
theorem dX9_owedOf_43 : decode cX9_owedOf 43 = .ok (.iaload, 1) := by decide +kernel
theorem dX9_owedOf_44 : decode cX9_owedOf 44 = .ok (.iload_n 3, 1) := by decide +kernel
theorem dX9_owedOf_45 : decode cX9_owedOf 45 = .ok (.aload_n 0, 1) := by decide +kernel
theorem dX9_owedOf_46 : decode cX9_owedOf 46 = .ok (.getfield 53, 3) := by decide +kernel
theorem dX9_owedOf_49 : decode cX9_owedOf 49 = .ok (.iload_n 1, 1) := by decide +kernel
theorem dX9_owedOf_50 : decode cX9_owedOf 50 = .ok (.iaload, 1) := by decide +kernel
theorem dX9_owedOf_51 : decode cX9_owedOf 51 = .ok (.bipush 50, 2) := by decide +kernel
theorem dX9_owedOf_53 : decode cX9_owedOf 53 = .ok (.idiv, 1) := by decide +kernel
theorem dX9_owedOf_54 : decode cX9_owedOf 54 = .ok (.imul, 1) := by decide +kernel
theorem dX9_owedOf_55 : decode cX9_owedOf 55 = .ok (.iadd, 1) := by decide +kernel
theorem dX9_owedOf_56 : decode cX9_owedOf 56 = .ok (.ireturn, 1) := by decide +kernel
theorem dX9_owed_0 : decode cX9_owed 0 = .ok (.iload_n 1, 1) := by decide +kernel
theorem dX9_owed_1 : decode cX9_owed 1 = .ok (.iconst (-1), 1) := by decide +kernel
theorem dX9_owed_2 : decode cX9_owed 2 = .ok (.if_icmp .eq 11, 3) := by decide +kernel
theorem dX9_owed_5 : decode cX9_owed 5 = .ok (.aload_n 0, 1) := by decide +kernel
theorem dX9_owed_6 : decode cX9_owed 6 = .ok (.iload_n 1, 1) := by decide +kernel
theorem dX9_owed_7 : decode cX9_owed 7 = .ok (.invokevirtual 188, 3) := by decide +kernel
theorem dX9_owed_10 : decode cX9_owed 10 = .ok (.ifCond .eq 14, 3) := by decide +kernel
theorem dX9_owed_13 : decode cX9_owed 13 = .ok (.iload_n 2, 1) := by decide +kernel
theorem dX9_owed_14 : decode cX9_owed 14 = .ok (.iconst 0, 1) := by decide +kernel
theorem dX9_owed_15 : decode cX9_owed 15 = .ok (.sipush 2000, 3) := by decide +kernel
theorem dX9_owed_18 : decode cX9_owed 18 = .ok (.invokestatic 93, 3) := by decide +kernel
theorem dX9_owed_21 : decode cX9_owed 21 = .ok (.ifCond .ne 9, 3) := by decide +kernel
theorem dX9_owed_24 : decode cX9_owed 24 = .ok (.aload_n 0, 1) := by decide +kernel
theorem dX9_owed_25 : decode cX9_owed 25 = .ok (.iconst 1, 1) := by decide +kernel
theorem dX9_owed_26 : decode cX9_owed 26 = .ok (.invokevirtual 107, 3) := by decide +kernel
theorem dX9_owed_29 : decode cX9_owed 29 = .ok (.ireturn, 1) := by decide +kernel
theorem dX9_owed_30 : decode cX9_owed 30 = .ok (.iload_n 1, 1) := by decide +kernel
theorem dX9_owed_31 : decode cX9_owed 31 = .ok (.ifCond .lt 10, 3) := by decide +kernel
theorem dX9_owed_34 : decode cX9_owed 34 = .ok (.aload_n 0, 1) := by decide +kernel
theorem dX9_owed_35 : decode cX9_owed 35 = .ok (.iload_n 1, 1) := by decide +kernel
theorem dX9_owed_36 : decode cX9_owed 36 = .ok (.iload_n 2, 1) := by decide +kernel
theorem dX9_owed_37 : decode cX9_owed 37 = .ok (.invokevirtual 191, 3) := by decide +kernel
theorem dX9_owed_40 : decode cX9_owed 40 = .ok (.ireturn, 1) := by decide +kernel
theorem dX9_owed_41 : decode cX9_owed 41 = .ok (.iconst 0, 1) := by decide +kernel
theorem dX9_owed_42 : decode cX9_owed 42 = .ok (.istore_n 3, 1) := by decide +kernel
theorem dX9_owed_43 : decode cX9_owed 43 = .ok (.iconst 0, 1) := by decide +kernel
theorem dX9_owed_44 : decode cX9_owed 44 = .ok (.istore 4, 2) := by decide +kernel
theorem dX9_owed_46 : decode cX9_owed 46 = .ok (.iload 4, 2) := by decide +kernel
theorem dX9_owed_48 : decode cX9_owed 48 = .ok (.aload_n 0, 1) := by decide +kernel
theorem dX9_owed_49 : decode cX9_owed 49 = .ok (.getfield 185, 3) := by decide +kernel
theorem dX9_owed_52 : decode cX9_owed 52 = .ok (.if_icmp .ge 19, 3) := by decide +kernel
theorem dX9_owed_55 : decode cX9_owed 55 = .ok (.iload_n 3, 1) := by decide +kernel
theorem dX9_owed_56 : decode cX9_owed 56 = .ok (.aload_n 0, 1) := by decide +kernel
theorem dX9_owed_57 : decode cX9_owed 57 = .ok (.iload 4, 2) := by decide +kernel
theorem dX9_owed_59 : decode cX9_owed 59 = .ok (.iload_n 2, 1) := by decide +kernel
theorem dX9_owed_60 : decode cX9_owed 60 = .ok (.invokevirtual 191, 3) := by decide +kernel
theorem dX9_owed_63 : decode cX9_owed 63 = .ok (.iadd, 1) := by decide +kernel
theorem dX9_owed_64 : decode cX9_owed 64 = .ok (.istore_n 3, 1) := by decide +kernel
theorem dX9_owed_65 : decode cX9_owed 65 = .ok (.iinc 4 1, 3) := by decide +kernel
theorem dX9_owed_68 : decode cX9_owed 68 = .ok (.goto (-22), 3) := by decide +kernel
theorem dX9_owed_71 : decode cX9_owed 71 = .ok (.iload_n 3, 1) := by decide +kernel
theorem dX9_owed_72 : decode cX9_owed 72 = .ok (.ireturn, 1) := by decide +kernel
theorem dX9_tell_0 : decode cX9_tell 0 = .ok (.aload_n 0, 1) := by decide +kernel
theorem dX9_tell_1 : decode cX9_tell 1 = .ok (.getfield 194, 3) := by decide +kernel
theorem dX9_tell_4 : decode cX9_tell 4 = .ok (.bipush 12, 2) := by decide +kernel
theorem dX9_tell_6 : decode cX9_tell 6 = .ok (.if_icmp .ne 9, 3) := by decide +kernel
theorem dX9_tell_9 : decode cX9_tell 9 = .ok (.aload_n 0, 1) := by decide +kernel
theorem dX9_tell_10 : decode cX9_tell 10 = .ok (.iconst 4, 1) := by decide +kernel
theorem dX9_tell_11 : decode cX9_tell 11 = .ok (.invokevirtual 107, 3) := by decide +kernel
theorem dX9_tell_14 : decode cX9_tell 14 = .ok (.ireturn, 1) := by decide +kernel
theorem dX9_tell_15 : decode cX9_tell 15 = .ok (.aload_n 0, 1) := by decide +kernel
theorem dX9_tell_16 : decode cX9_tell 16 = .ok (.getfield 62, 3) := by decide +kernel
theorem dX9_tell_19 : decode cX9_tell 19 = .ok (.aload_n 0, 1) := by decide +kernel
theorem dX9_tell_20 : decode cX9_tell 20 = .ok (.getfield 194, 3) := by decide +kernel
theorem dX9_tell_23 : decode cX9_tell 23 = .ok (.iload_n 1, 1) := by decide +kernel
theorem dX9_tell_24 : decode cX9_tell 24 = .ok (.iastore, 1) := by decide +kernel
theorem dX9_tell_25 : decode cX9_tell 25 = .ok (.aload_n 0, 1) := by decide +kernel
theorem dX9_tell_26 : decode cX9_tell 26 = .ok (.dup, 1) := by decide +kernel
theorem dX9_tell_27 : decode cX9_tell 27 = .ok (.getfield 194, 3) := by decide +kernel
theorem dX9_tell_30 : decode cX9_tell 30 = .ok (.iconst 1, 1) := by decide +kernel
theorem dX9_tell_31 : decode cX9_tell 31 = .ok (.iadd, 1) := by decide +kernel
theorem dX9_tell_32 : decode cX9_tell 32 = .ok (.putfield 194, 3) := by decide +kernel
theorem dX9_tell_35 : decode cX9_tell 35 = .ok (.aload_n 0, 1) := by decide +kernel
theorem dX9_tell_36 : decode cX9_tell 36 = .ok (.getfield 194, 3) := by decide +kernel
theorem dX9_tell_39 : decode cX9_tell 39 = .ok (.ireturn, 1) := by decide +kernel
theorem dX9_check_0 : decode cX9_check 0 = .ok (.aload_n 0, 1) := by decide +kernel
theorem dX9_check_1 : decode cX9_check 1 = .ok (.getfield 194, 3) := by decide +kernel
theorem dX9_check_4 : decode cX9_check 4 = .ok (.istore_n 2, 1) := by decide +kernel
theorem dX9_check_5 : decode cX9_check 5 = .ok (.aload_n 0, 1) := by decide +kernel
theorem dX9_check_6 : decode cX9_check 6 = .ok (.iconst 0, 1) := by decide +kernel
theorem dX9_check_7 : decode cX9_check 7 = .ok (.putfield 194, 3) := by decide +kernel
theorem dX9_check_10 : decode cX9_check 10 = .ok (.iload_n 2, 1) := by decide +kernel
theorem dX9_check_11 : decode cX9_check 11 = .ok (.ifCond .ne 9, 3) := by decide +kernel
theorem dX9_check_14 : decode cX9_check 14 = .ok (.aload_n 0, 1) := by decide +kernel
theorem dX9_check_15 : decode cX9_check 15 = .ok (.iconst 2, 1) := by decide +kernel
theorem dX9_check_16 : decode cX9_check 16 = .ok (.invokevirtual 107, 3) := by decide +kernel
theorem dX9_check_19 : decode cX9_check 19 = .ok (.ireturn, 1) := by decide +kernel
theorem dX9_check_20 : decode cX9_check 20 = .ok (.aload_n 0, 1) := by decide +kernel
theorem dX9_check_21 : decode cX9_check 21 = .ok (.iload_n 1, 1) := by decide +kernel
theorem dX9_check_22 : decode cX9_check 22 = .ok (.invokevirtual 111, 3) := by decide +kernel
theorem dX9_check_25 : decode cX9_check 25 = .ok (.ifCond .ne 9, 3) := by decide +kernel
theorem dX9_check_28 : decode cX9_check 28 = .ok (.aload_n 0, 1) := by decide +kernel
theorem dX9_check_29 : decode cX9_check 29 = .ok (.iconst 1, 1) := by decide +kernel
theorem dX9_check_30 : decode cX9_check 30 = .ok (.invokevirtual 107, 3) := by decide +kernel
theorem dX9_check_33 : decode cX9_check 33 = .ok (.ireturn, 1) := by decide +kernel
theorem dX9_check_34 : decode cX9_check 34 = .ok (.iconst 0, 1) := by decide +kernel
theorem dX9_check_35 : decode cX9_check 35 = .ok (.istore_n 3, 1) := by decide +kernel
theorem dX9_check_36 : decode cX9_check 36 = .ok (.iload_n 3, 1) := by decide +kernel
theorem dX9_check_37 : decode cX9_check 37 = .ok (.iload_n 2, 1) := by decide +kernel
theorem dX9_check_38 : decode cX9_check 38 = .ok (.if_icmp .ge 137, 3) := by decide +kernel
theorem dX9_check_41 : decode cX9_check 41 = .ok (.aload_n 0, 1) := by decide +kernel
theorem dX9_check_42 : decode cX9_check 42 = .ok (.aload_n 0, 1) := by decide +kernel
theorem dX9_check_43 : decode cX9_check 43 = .ok (.getfield 62, 3) := by decide +kernel
theorem dX9_check_46 : decode cX9_check 46 = .ok (.iload_n 3, 1) := by decide +kernel
theorem dX9_check_47 : decode cX9_check 47 = .ok (.iaload, 1) := by decide +kernel
theorem dX9_check_48 : decode cX9_check 48 = .ok (.invokevirtual 152, 3) := by decide +kernel
theorem dX9_check_51 : decode cX9_check 51 = .ok (.ifCond .eq 29, 3) := by decide +kernel
theorem dX9_check_54 : decode cX9_check 54 = .ok (.aload_n 0, 1) := by decide +kernel
theorem dX9_check_55 : decode cX9_check 55 = .ok (.iload_n 1, 1) := by decide +kernel
theorem dX9_check_56 : decode cX9_check 56 = .ok (.aload_n 0, 1) := by decide +kernel
theorem dX9_check_57 : decode cX9_check 57 = .ok (.getfield 62, 3) := by decide +kernel
theorem dX9_check_60 : decode cX9_check 60 = .ok (.iload_n 3, 1) := by decide +kernel
theorem dX9_check_61 : decode cX9_check 61 = .ok (.iaload, 1) := by decide +kernel
theorem dX9_check_62 : decode cX9_check 62 = .ok (.bipush 100, 2) := by decide +kernel
theorem dX9_check_64 : decode cX9_check 64 = .ok (.idiv, 1) := by decide +kernel
theorem dX9_check_65 : decode cX9_check 65 = .ok (.aload_n 0, 1) := by decide +kernel
theorem dX9_check_66 : decode cX9_check 66 = .ok (.getfield 62, 3) := by decide +kernel
theorem dX9_check_69 : decode cX9_check 69 = .ok (.iload_n 3, 1) := by decide +kernel
theorem dX9_check_70 : decode cX9_check 70 = .ok (.iaload, 1) := by decide +kernel
theorem dX9_check_71 : decode cX9_check 71 = .ok (.bipush 100, 2) := by decide +kernel
theorem dX9_check_73 : decode cX9_check 73 = .ok (.irem, 1) := by decide +kernel
theorem dX9_check_74 : decode cX9_check 74 = .ok (.invokevirtual 124, 3) := by decide +kernel
theorem dX9_check_77 : decode cX9_check 77 = .ok (.ifCond .ne 9, 3) := by decide +kernel
theorem dX9_check_80 : decode cX9_check 80 = .ok (.aload_n 0, 1) := by decide +kernel
theorem dX9_check_81 : decode cX9_check 81 = .ok (.iconst 3, 1) := by decide +kernel
theorem dX9_check_82 : decode cX9_check 82 = .ok (.invokevirtual 107, 3) := by decide +kernel
theorem dX9_check_85 : decode cX9_check 85 = .ok (.ireturn, 1) := by decide +kernel
theorem dX9_check_86 : decode cX9_check 86 = .ok (.aload_n 0, 1) := by decide +kernel
theorem dX9_check_87 : decode cX9_check 87 = .ok (.getfield 68, 3) := by decide +kernel
theorem dX9_check_90 : decode cX9_check 90 = .ok (.iload_n 3, 1) := by decide +kernel
theorem dX9_check_91 : decode cX9_check 91 = .ok (.aload_n 0, 1) := by decide +kernel
theorem dX9_check_92 : decode cX9_check 92 = .ok (.getfield 62, 3) := by decide +kernel
theorem dX9_check_95 : decode cX9_check 95 = .ok (.iload_n 3, 1) := by decide +kernel
theorem dX9_check_96 : decode cX9_check 96 = .ok (.iaload, 1) := by decide +kernel
theorem dX9_check_97 : decode cX9_check 97 = .ok (.bipush 100, 2) := by decide +kernel
theorem dX9_check_99 : decode cX9_check 99 = .ok (.idiv, 1) := by decide +kernel
theorem dX9_check_100 : decode cX9_check 100 = .ok (.iastore, 1) := by decide +kernel
theorem dX9_check_101 : decode cX9_check 101 = .ok (.aload_n 0, 1) := by decide +kernel
theorem dX9_check_102 : decode cX9_check 102 = .ok (.getfield 71, 3) := by decide +kernel
theorem dX9_check_105 : decode cX9_check 105 = .ok (.iload_n 3, 1) := by decide +kernel
theorem dX9_check_106 : decode cX9_check 106 = .ok (.aload_n 0, 1) := by decide +kernel
theorem dX9_check_107 : decode cX9_check 107 = .ok (.getfield 62, 3) := by decide +kernel
theorem dX9_check_110 : decode cX9_check 110 = .ok (.iload_n 3, 1) := by decide +kernel
theorem dX9_check_111 : decode cX9_check 111 = .ok (.iaload, 1) := by decide +kernel
theorem dX9_check_112 : decode cX9_check 112 = .ok (.bipush 100, 2) := by decide +kernel
theorem dX9_check_114 : decode cX9_check 114 = .ok (.irem, 1) := by decide +kernel
theorem dX9_check_115 : decode cX9_check 115 = .ok (.iastore, 1) := by decide +kernel
theorem dX9_check_116 : decode cX9_check 116 = .ok (.iload_n 3, 1) := by decide +kernel
theorem dX9_check_117 : decode cX9_check 117 = .ok (.ifCond .le 46, 3) := by decide +kernel
theorem dX9_check_120 : decode cX9_check 120 = .ok (.aload_n 0, 1) := by decide +kernel
theorem dX9_check_121 : decode cX9_check 121 = .ok (.getfield 71, 3) := by decide +kernel
theorem dX9_check_124 : decode cX9_check 124 = .ok (.iload_n 3, 1) := by decide +kernel
theorem dX9_check_125 : decode cX9_check 125 = .ok (.iaload, 1) := by decide +kernel
theorem dX9_check_126 : decode cX9_check 126 = .ok (.aload_n 0, 1) := by decide +kernel
theorem dX9_check_127 : decode cX9_check 127 = .ok (.getfield 71, 3) := by decide +kernel
theorem dX9_check_130 : decode cX9_check 130 = .ok (.iload_n 3, 1) := by decide +kernel
theorem dX9_check_131 : decode cX9_check 131 = .ok (.iconst 1, 1) := by decide +kernel
theorem dX9_check_132 : decode cX9_check 132 = .ok (.isub, 1) := by decide +kernel
theorem dX9_check_133 : decode cX9_check 133 = .ok (.iaload, 1) := by decide +kernel
theorem dX9_check_134 : decode cX9_check 134 = .ok (.aload_n 0, 1) := by decide +kernel
theorem dX9_check_135 : decode cX9_check 135 = .ok (.iload_n 1, 1) := by decide +kernel
theorem dX9_check_136 : decode cX9_check 136 = .ok (.aload_n 0, 1) := by decide +kernel
theorem dX9_check_137 : decode cX9_check 137 = .ok (.getfield 68, 3) := by decide +kernel
theorem dX9_check_140 : decode cX9_check 140 = .ok (.iload_n 3, 1) := by decide +kernel
theorem dX9_check_141 : decode cX9_check 141 = .ok (.iconst 1, 1) := by decide +kernel
theorem dX9_check_142 : decode cX9_check 142 = .ok (.isub, 1) := by decide +kernel
theorem dX9_check_143 : decode cX9_check 143 = .ok (.iaload, 1) := by decide +kernel
theorem dX9_check_144 : decode cX9_check 144 = .ok (.aload_n 0, 1) := by decide +kernel
theorem dX9_check_145 : decode cX9_check 145 = .ok (.getfield 68, 3) := by decide +kernel
theorem dX9_check_148 : decode cX9_check 148 = .ok (.iload_n 3, 1) := by decide +kernel
theorem dX9_check_149 : decode cX9_check 149 = .ok (.iaload, 1) := by decide +kernel
theorem dX9_check_150 : decode cX9_check 150 = .ok (.invokevirtual 148, 3) := by decide +kernel
theorem dX9_check_153 : decode cX9_check 153 = .ok (.iadd, 1) := by decide +kernel
theorem dX9_check_154 : decode cX9_check 154 = .ok (.if_icmp .eq 9, 3) := by decide +kernel
theorem dX9_check_157 : decode cX9_check 157 = .ok (.aload_n 0, 1) := by decide +kernel
theorem dX9_check_158 : decode cX9_check 158 = .ok (.iconst 3, 1) := by decide +kernel
theorem dX9_check_159 : decode cX9_check 159 = .ok (.invokevirtual 107, 3) := by decide +kernel
theorem dX9_check_162 : decode cX9_check 162 = .ok (.ireturn, 1) := by decide +kernel
theorem dX9_check_163 : decode cX9_check 163 = .ok (.aload_n 0, 1) := by decide +kernel
theorem dX9_check_164 : decode cX9_check 164 = .ok (.iload_n 1, 1) := by decide +kernel
theorem dX9_check_165 : decode cX9_check 165 = .ok (.iload_n 3, 1) := by decide +kernel
theorem dX9_check_166 : decode cX9_check 166 = .ok (.invokevirtual 140, 3) := by decide +kernel
theorem dX9_check_169 : decode cX9_check 169 = .ok (.iinc 3 1, 3) := by decide +kernel
theorem dX9_check_172 : decode cX9_check 172 = .ok (.goto (-136), 3) := by decide +kernel
theorem dX9_check_175 : decode cX9_check 175 = .ok (.aload_n 0, 1) := by decide +kernel
theorem dX9_check_176 : decode cX9_check 176 = .ok (.getfield 74, 3) := by decide +kernel
theorem dX9_check_179 : decode cX9_check 179 = .ok (.iload_n 2, 1) := by decide +kernel
theorem dX9_check_180 : decode cX9_check 180 = .ok (.iconst 1, 1) := by decide +kernel
theorem dX9_check_181 : decode cX9_check 181 = .ok (.isub, 1) := by decide +kernel
theorem dX9_check_182 : decode cX9_check 182 = .ok (.iaload, 1) := by decide +kernel
theorem dX9_check_183 : decode cX9_check 183 = .ok (.ireturn, 1) := by decide +kernel
theorem dX9_count_0 : decode cX9_count 0 = .ok (.iconst 0, 1) := by decide +kernel
theorem dX9_count_1 : decode cX9_count 1 = .ok (.istore_n 2, 1) := by decide +kernel
theorem dX9_count_2 : decode cX9_count 2 = .ok (.iload_n 1, 1) := by decide +kernel
theorem dX9_count_3 : decode cX9_count 3 = .ok (.tableswitch 98 0 6 #[41, 46, 51, 56, 61, 66, 93], 41) := by decide +kernel
theorem dX9_count_44 : decode cX9_count 44 = .ok (.aload_n 0, 1) := by decide +kernel
theorem dX9_count_45 : decode cX9_count 45 = .ok (.getfield 90, 3) := by decide +kernel
theorem dX9_count_48 : decode cX9_count 48 = .ok (.ireturn, 1) := by decide +kernel
theorem dX9_count_49 : decode cX9_count 49 = .ok (.aload_n 0, 1) := by decide +kernel
theorem dX9_count_50 : decode cX9_count 50 = .ok (.getfield 97, 3) := by decide +kernel
theorem dX9_count_53 : decode cX9_count 53 = .ok (.ireturn, 1) := by decide +kernel
theorem dX9_count_54 : decode cX9_count 54 = .ok (.aload_n 0, 1) := by decide +kernel
theorem dX9_count_55 : decode cX9_count 55 = .ok (.getfield 162, 3) := by decide +kernel
theorem dX9_count_58 : decode cX9_count 58 = .ok (.ireturn, 1) := by decide +kernel
theorem dX9_count_59 : decode cX9_count 59 = .ok (.aload_n 0, 1) := by decide +kernel
theorem dX9_count_60 : decode cX9_count 60 = .ok (.getfield 185, 3) := by decide +kernel
theorem dX9_count_63 : decode cX9_count 63 = .ok (.ireturn, 1) := by decide +kernel
theorem dX9_count_64 : decode cX9_count 64 = .ok (.aload_n 0, 1) := by decide +kernel
theorem dX9_count_65 : decode cX9_count 65 = .ok (.getfield 194, 3) := by decide +kernel
theorem dX9_count_68 : decode cX9_count 68 = .ok (.ireturn, 1) := by decide +kernel
theorem dX9_count_69 : decode cX9_count 69 = .ok (.iconst 0, 1) := by decide +kernel
theorem dX9_count_70 : decode cX9_count 70 = .ok (.istore_n 3, 1) := by decide +kernel
theorem dX9_count_71 : decode cX9_count 71 = .ok (.iload_n 3, 1) := by decide +kernel
theorem dX9_count_72 : decode cX9_count 72 = .ok (.aload_n 0, 1) := by decide +kernel
theorem dX9_count_73 : decode cX9_count 73 = .ok (.getfield 97, 3) := by decide +kernel
theorem dX9_count_76 : decode cX9_count 76 = .ok (.if_icmp .ge 18, 3) := by decide +kernel
theorem dX9_count_79 : decode cX9_count 79 = .ok (.iload_n 2, 1) := by decide +kernel
theorem dX9_count_80 : decode cX9_count 80 = .ok (.aload_n 0, 1) := by decide +kernel
theorem dX9_count_81 : decode cX9_count 81 = .ok (.getfield 35, 3) := by decide +kernel
theorem dX9_count_84 : decode cX9_count 84 = .ok (.iload_n 3, 1) := by decide +kernel
theorem dX9_count_85 : decode cX9_count 85 = .ok (.iaload, 1) := by decide +kernel
theorem dX9_count_86 : decode cX9_count 86 = .ok (.iadd, 1) := by decide +kernel
theorem dX9_count_87 : decode cX9_count 87 = .ok (.istore_n 2, 1) := by decide +kernel
theorem dX9_count_88 : decode cX9_count 88 = .ok (.iinc 3 1, 3) := by decide +kernel
theorem dX9_count_91 : decode cX9_count 91 = .ok (.goto (-20), 3) := by decide +kernel
theorem dX9_count_94 : decode cX9_count 94 = .ok (.iload_n 2, 1) := by decide +kernel
theorem dX9_count_95 : decode cX9_count 95 = .ok (.ireturn, 1) := by decide +kernel
theorem dX9_count_96 : decode cX9_count 96 = .ok (.aload_n 0, 1) := by decide +kernel
theorem dX9_count_97 : decode cX9_count 97 = .ok (.getfield 7, 3) := by decide +kernel
theorem dX9_count_100 : decode cX9_count 100 = .ok (.ireturn, 1) := by decide +kernel
theorem dX9_count_101 : decode cX9_count 101 = .ok (.aload_n 0, 1) := by decide +kernel
theorem dX9_count_102 : decode cX9_count 102 = .ok (.iconst 1, 1) := by decide +kernel
theorem dX9_count_103 : decode cX9_count 103 = .ok (.invokevirtual 107, 3) := by decide +kernel
theorem dX9_count_106 : decode cX9_count 106 = .ok (.ireturn, 1) := by decide +kernel
theorem dX9_found_0 : decode cX9_found 0 = .ok (.iload_n 1, 1) := by decide +kernel
theorem dX9_found_1 : decode cX9_found 1 = .ok (.iconst 1, 1) := by decide +kernel
theorem dX9_found_2 : decode cX9_found 2 = .ok (.iconst 5, 1) := by decide +kernel
theorem dX9_found_3 : decode cX9_found 3 = .ok (.invokestatic 93, 3) := by decide +kernel
theorem dX9_found_6 : decode cX9_found 6 = .ok (.ifCond .eq 12, 3) := by decide +kernel
theorem dX9_found_9 : decode cX9_found 9 = .ok (.aload_n 0, 1) := by decide +kernel
theorem dX9_found_10 : decode cX9_found 10 = .ok (.getfield 65, 3) := by decide +kernel
theorem dX9_found_13 : decode cX9_found 13 = .ok (.iload_n 1, 1) := by decide +kernel
theorem dX9_found_14 : decode cX9_found 14 = .ok (.iaload, 1) := by decide +kernel
theorem dX9_found_15 : decode cX9_found 15 = .ok (.goto 8, 3) := by decide +kernel
theorem dX9_found_18 : decode cX9_found 18 = .ok (.aload_n 0, 1) := by decide +kernel
theorem dX9_found_19 : decode cX9_found 19 = .ok (.iconst 1, 1) := by decide +kernel
theorem dX9_found_20 : decode cX9_found 20 = .ok (.invokevirtual 107, 3) := by decide +kernel
theorem dX9_found_23 : decode cX9_found 23 = .ok (.ireturn, 1) := by decide +kernel
