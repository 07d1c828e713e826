theorem dX8_explore_121 : decode cX8_explore 121 = .ok (.aload_n 1, 1) := by decide +kernel
theorem dX8_explore_122 : decode cX8_explore 122 = .ok (.iload 7, 2) := by decide +kernel
theorem dX8_explore_124 : decode cX8_explore 124 = .ok (.iload 8, 2) := by decide +kernel
theorem dX8_explore_126 : decode cX8_explore 126 = .ok (.invokevirtual 139, 3) := by decide +kernel
theorem dX8_explore_129 : decode cX8_explore 129 = .ok (.ifCond .eq 14, 3) := by decide +kernel
theorem dX8_explore_132 : decode cX8_explore 132 = .ok (.aload_n 0, 1) := by decide +kernel
theorem dX8_explore_133 : decode cX8_explore 133 = .ok (.aload_n 1, 1) := by decide +kernel
theorem dX8_explore_134 : decode cX8_explore 134 = .ok (.iload 7, 2) := by decide +kernel
theorem dX8_explore_136 : decode cX8_explore 136 = .ok (.iload 8, 2) := by decide +kernel
theorem dX8_explore_138 : decode cX8_explore 138 = .ok (.iload 4, 2) := by decide +kernel
theorem dX8_explore_140 : decode cX8_explore 140 = .ok (.invokevirtual 262, 3) := by decide +kernel
theorem dX8_explore_143 : decode cX8_explore 143 = .ok (.iinc 7 1, 3) := by decide +kernel
theorem dX8_explore_146 : decode cX8_explore 146 = .ok (.goto (-57), 3) := by decide +kernel
theorem dX8_explore_149 : decode cX8_explore 149 = .ok (.aload_n 0, 1) := by decide +kernel
theorem dX8_explore_150 : decode cX8_explore 150 = .ok (.getfield 40, 3) := by decide +kernel
theorem dX8_explore_153 : decode cX8_explore 153 = .ok (.iload 5, 2) := by decide +kernel
theorem dX8_explore_155 : decode cX8_explore 155 = .ok (.iload 6, 2) := by decide +kernel
theorem dX8_explore_157 : decode cX8_explore 157 = .ok (.invokevirtual 279, 3) := by decide +kernel
theorem dX8_explore_160 : decode cX8_explore 160 = .ok (.return_, 1) := by decide +kernel
theorem dX8_walkTold_0 : decode cX8_walkTold 0 = .ok (.aload_n 0, 1) := by decide +kernel
theorem dX8_walkTold_1 : decode cX8_walkTold 1 = .ok (.getfield 40, 3) := by decide +kernel
theorem dX8_walkTold_4 : decode cX8_walkTold 4 = .ok (.aload_n 1, 1) := by decide +kernel
theorem dX8_walkTold_5 : decode cX8_walkTold 5 = .ok (.getfield 124, 3) := by decide +kernel
theorem dX8_walkTold_8 : decode cX8_walkTold 8 = .ok (.invokevirtual 253, 3) := by decide +kernel
theorem dX8_walkTold_11 : decode cX8_walkTold 11 = .ok (.iconst 0, 1) := by decide +kernel
theorem dX8_walkTold_12 : decode cX8_walkTold 12 = .ok (.istore_n 3, 1) := by decide +kernel
theorem dX8_walkTold_13 : decode cX8_walkTold 13 = .ok (.iload_n 3, 1) := by decide +kernel
theorem dX8_walkTold_14 : decode cX8_walkTold 14 = .ok (.iload_n 2, 1) := by decide +kernel
theorem dX8_walkTold_15 : decode cX8_walkTold 15 = .ok (.if_icmp .ge 91, 3) := by decide +kernel
theorem dX8_walkTold_18 : decode cX8_walkTold 18 = .ok (.aload_n 0, 1) := by decide +kernel
theorem dX8_walkTold_19 : decode cX8_walkTold 19 = .ok (.getfield 61, 3) := by decide +kernel
theorem dX8_walkTold_22 : decode cX8_walkTold 22 = .ok (.iload_n 3, 1) := by decide +kernel
theorem dX8_walkTold_23 : decode cX8_walkTold 23 = .ok (.iaload, 1) := by decide +kernel
theorem dX8_walkTold_24 : decode cX8_walkTold 24 = .ok (.istore 4, 2) := by decide +kernel
theorem dX8_walkTold_26 : decode cX8_walkTold 26 = .ok (.aload_n 0, 1) := by decide +kernel
theorem dX8_walkTold_27 : decode cX8_walkTold 27 = .ok (.getfield 40, 3) := by decide +kernel
theorem dX8_walkTold_30 : decode cX8_walkTold 30 = .ok (.invokevirtual 266, 3) := by decide +kernel
theorem dX8_walkTold_33 : decode cX8_walkTold 33 = .ok (.ifCond .ne 30, 3) := by decide +kernel
theorem dX8_walkTold_36 : decode cX8_walkTold 36 = .ok (.aload_n 0, 1) := by decide +kernel
theorem dX8_walkTold_37 : decode cX8_walkTold 37 = .ok (.iload 4, 2) := by decide +kernel
theorem dX8_walkTold_39 : decode cX8_walkTold 39 = .ok (.invokevirtual 162, 3) := by decide +kernel
theorem dX8_walkTold_42 : decode cX8_walkTold 42 = .ok (.ifCond .eq 21, 3) := by decide +kernel
theorem dX8_walkTold_45 : decode cX8_walkTold 45 = .ok (.aload_n 0, 1) := by decide +kernel
theorem dX8_walkTold_46 : decode cX8_walkTold 46 = .ok (.aload_n 1, 1) := by decide +kernel
theorem dX8_walkTold_47 : decode cX8_walkTold 47 = .ok (.iload 4, 2) := by decide +kernel
theorem dX8_walkTold_49 : decode cX8_walkTold 49 = .ok (.invokestatic 178, 3) := by decide +kernel
theorem dX8_walkTold_52 : decode cX8_walkTold 52 = .ok (.iload 4, 2) := by decide +kernel
theorem dX8_walkTold_54 : decode cX8_walkTold 54 = .ok (.invokestatic 165, 3) := by decide +kernel
theorem dX8_walkTold_57 : decode cX8_walkTold 57 = .ok (.invokevirtual 283, 3) := by decide +kernel
theorem dX8_walkTold_60 : decode cX8_walkTold 60 = .ok (.ifCond .ne 5, 3) := by decide +kernel
theorem dX8_walkTold_63 : decode cX8_walkTold 63 = .ok (.iconst 0, 1) := by decide +kernel
theorem dX8_walkTold_64 : decode cX8_walkTold 64 = .ok (.ireturn, 1) := by decide +kernel
theorem dX8_walkTold_65 : decode cX8_walkTold 65 = .ok (.aload_n 0, 1) := by decide +kernel
theorem dX8_walkTold_66 : decode cX8_walkTold 66 = .ok (.getfield 40, 3) := by decide +kernel
theorem dX8_walkTold_69 : decode cX8_walkTold 69 = .ok (.aload_n 1, 1) := by decide +kernel
theorem dX8_walkTold_70 : decode cX8_walkTold 70 = .ok (.iload 4, 2) := by decide +kernel
theorem dX8_walkTold_72 : decode cX8_walkTold 72 = .ok (.invokestatic 178, 3) := by decide +kernel
theorem dX8_walkTold_75 : decode cX8_walkTold 75 = .ok (.iload 4, 2) := by decide +kernel
theorem dX8_walkTold_77 : decode cX8_walkTold 77 = .ok (.invokestatic 165, 3) := by decide +kernel
theorem dX8_walkTold_80 : decode cX8_walkTold 80 = .ok (.aload_n 0, 1) := by decide +kernel
theorem dX8_walkTold_81 : decode cX8_walkTold 81 = .ok (.getfield 16, 3) := by decide +kernel
theorem dX8_walkTold_84 : decode cX8_walkTold 84 = .ok (.iload 4, 2) := by decide +kernel
theorem dX8_walkTold_86 : decode cX8_walkTold 86 = .ok (.invokestatic 178, 3) := by decide +kernel
theorem dX8_walkTold_89 : decode cX8_walkTold 89 = .ok (.iload 4, 2) := by decide +kernel
theorem dX8_walkTold_91 : decode cX8_walkTold 91 = .ok (.invokestatic 165, 3) := by decide +kernel
theorem dX8_walkTold_94 : decode cX8_walkTold 94 = .ok (.invokevirtual 143, 3) := by decide +kernel
theorem dX8_walkTold_97 : decode cX8_walkTold 97 = .ok (.invokevirtual 267, 3) := by decide +kernel
theorem dX8_walkTold_100 : decode cX8_walkTold 100 = .ok (.iinc 3 1, 3) := by decide +kernel
theorem dX8_walkTold_103 : decode cX8_walkTold 103 = .ok (.goto (-90), 3) := by decide +kernel
theorem dX8_walkTold_106 : decode cX8_walkTold 106 = .ok (.iconst 1, 1) := by decide +kernel
theorem dX8_walkTold_107 : decode cX8_walkTold 107 = .ok (.ireturn, 1) := by decide +kernel
theorem dX8_goesOn_0 : decode cX8_goesOn 0 = .ok (.aload_n 0, 1) := by decide +kernel
theorem dX8_goesOn_1 : decode cX8_goesOn 1 = .ok (.aload_n 1, 1) := by decide +kernel
theorem dX8_goesOn_2 : decode cX8_goesOn 2 = .ok (.iload_n 2, 1) := by decide +kernel
theorem dX8_goesOn_3 : decode cX8_goesOn 3 = .ok (.iload_n 3, 1) := by decide +kernel
theorem dX8_goesOn_4 : decode cX8_goesOn 4 = .ok (.invokevirtual 139, 3) := by decide +kernel
theorem dX8_goesOn_7 : decode cX8_goesOn 7 = .ok (.ifCond .ne 5, 3) := by decide +kernel
theorem dX8_goesOn_10 : decode cX8_goesOn 10 = .ok (.iconst 0, 1) := by decide +kernel
theorem dX8_goesOn_11 : decode cX8_goesOn 11 = .ok (.ireturn, 1) := by decide +kernel
theorem dX8_goesOn_12 : decode cX8_goesOn 12 = .ok (.aload_n 0, 1) := by decide +kernel
theorem dX8_goesOn_13 : decode cX8_goesOn 13 = .ok (.getfield 40, 3) := by decide +kernel
theorem dX8_goesOn_16 : decode cX8_goesOn 16 = .ok (.getfield 270, 3) := by decide +kernel
theorem dX8_goesOn_19 : decode cX8_goesOn 19 = .ok (.iconst 1, 1) := by decide +kernel
theorem dX8_goesOn_20 : decode cX8_goesOn 20 = .ok (.isub, 1) := by decide +kernel
theorem dX8_goesOn_21 : decode cX8_goesOn 21 = .ok (.istore 4, 2) := by decide +kernel
theorem dX8_goesOn_23 : decode cX8_goesOn 23 = .ok (.iload 4, 2) := by decide +kernel
theorem dX8_goesOn_25 : decode cX8_goesOn 25 = .ok (.ifCond .lt 34, 3) := by decide +kernel
theorem dX8_goesOn_28 : decode cX8_goesOn 28 = .ok (.iload_n 3, 1) := by decide +kernel
theorem dX8_goesOn_29 : decode cX8_goesOn 29 = .ok (.aload_n 0, 1) := by decide +kernel
theorem dX8_goesOn_30 : decode cX8_goesOn 30 = .ok (.getfield 40, 3) := by decide +kernel
theorem dX8_goesOn_33 : decode cX8_goesOn 33 = .ok (.getfield 158, 3) := by decide +kernel
theorem dX8_goesOn_36 : decode cX8_goesOn 36 = .ok (.iload 4, 2) := by decide +kernel
theorem dX8_goesOn_38 : decode cX8_goesOn 38 = .ok (.iaload, 1) := by decide +kernel
theorem dX8_goesOn_39 : decode cX8_goesOn 39 = .ok (.aload_n 0, 1) := by decide +kernel
theorem dX8_goesOn_40 : decode cX8_goesOn 40 = .ok (.aload_n 1, 1) := by decide +kernel
theorem dX8_goesOn_41 : decode cX8_goesOn 41 = .ok (.aload_n 0, 1) := by decide +kernel
theorem dX8_goesOn_42 : decode cX8_goesOn 42 = .ok (.getfield 40, 3) := by decide +kernel
theorem dX8_goesOn_45 : decode cX8_goesOn 45 = .ok (.getfield 155, 3) := by decide +kernel
theorem dX8_goesOn_48 : decode cX8_goesOn 48 = .ok (.iload 4, 2) := by decide +kernel
theorem dX8_goesOn_50 : decode cX8_goesOn 50 = .ok (.iaload, 1) := by decide +kernel
theorem dX8_goesOn_51 : decode cX8_goesOn 51 = .ok (.iload_n 2, 1) := by decide +kernel
theorem dX8_goesOn_52 : decode cX8_goesOn 52 = .ok (.invokevirtual 275, 3) := by decide +kernel
theorem dX8_goesOn_55 : decode cX8_goesOn 55 = .ok (.iadd, 1) := by decide +kernel
theorem dX8_goesOn_56 : decode cX8_goesOn 56 = .ok (.if_icmp .ne 7, 3) := by decide +kernel
theorem dX8_goesOn_59 : decode cX8_goesOn 59 = .ok (.iconst 1, 1) := by decide +kernel
theorem dX8_goesOn_60 : decode cX8_goesOn 60 = .ok (.goto 4, 3) := by decide +kernel
theorem dX8_goesOn_63 : decode cX8_goesOn 63 = .ok (.iconst 0, 1) := by decide +kernel
theorem dX8_goesOn_64 : decode cX8_goesOn 64 = .ok (.ireturn, 1) := by decide +kernel
theorem dX8_faultOf_0 : decode cX8_faultOf 0 = .ok (.aload_n 0, 1) := by decide +kernel
theorem dX8_faultOf_1 : decode cX8_faultOf 1 = .ok (.aload_n 0, 1) := by decide +kernel
theorem dX8_faultOf_2 : decode cX8_faultOf 2 = .ok (.getfield 50, 3) := by decide +kernel
theorem dX8_faultOf_5 : decode cX8_faultOf 5 = .ok (.getfield 286, 3) := by decide +kernel
theorem dX8_faultOf_8 : decode cX8_faultOf 8 = .ok (.iload_n 1, 1) := by decide +kernel
theorem dX8_faultOf_9 : decode cX8_faultOf 9 = .ok (.iaload, 1) := by decide +kernel
theorem dX8_faultOf_10 : decode cX8_faultOf 10 = .ok (.invokevirtual 116, 3) := by decide +kernel
theorem dX8_faultOf_13 : decode cX8_faultOf 13 = .ok (.astore_n 2, 1) := by decide +kernel
theorem dX8_faultOf_14 : decode cX8_faultOf 14 = .ok (.aload_n 0, 1) := by decide +kernel
theorem dX8_faultOf_15 : decode cX8_faultOf 15 = .ok (.getfield 50, 3) := by decide +kernel
theorem dX8_faultOf_18 : decode cX8_faultOf 18 = .ok (.getfield 288, 3) := by decide +kernel
theorem dX8_faultOf_21 : decode cX8_faultOf 21 = .ok (.iload_n 1, 1) := by decide +kernel
theorem dX8_faultOf_22 : decode cX8_faultOf 22 = .ok (.iaload, 1) := by decide +kernel
theorem dX8_faultOf_23 : decode cX8_faultOf 23 = .ok (.istore_n 3, 1) := by decide +kernel
theorem dX8_faultOf_24 : decode cX8_faultOf 24 = .ok (.aload_n 2, 1) := by decide +kernel
theorem dX8_faultOf_25 : decode cX8_faultOf 25 = .ok (.ifnull 11, 3) := by decide +kernel
theorem dX8_faultOf_28 : decode cX8_faultOf 28 = .ok (.aload_n 2, 1) := by decide +kernel
theorem dX8_faultOf_29 : decode cX8_faultOf 29 = .ok (.iload_n 3, 1) := by decide +kernel
theorem dX8_faultOf_30 : decode cX8_faultOf 30 = .ok (.invokevirtual 237, 3) := by decide +kernel
theorem dX8_faultOf_33 : decode cX8_faultOf 33 = .ok (.ifCond .ne 5, 3) := by decide +kernel
theorem dX8_faultOf_36 : decode cX8_faultOf 36 = .ok (.iconst 1, 1) := by decide +kernel
theorem dX8_faultOf_37 : decode cX8_faultOf 37 = .ok (.ireturn, 1) := by decide +kernel
theorem dX8_faultOf_38 : decode cX8_faultOf 38 = .ok (.aload_n 0, 1) := by decide +kernel
theorem dX8_faultOf_39 : decode cX8_faultOf 39 = .ok (.iload_n 3, 1) := by decide +kernel
theorem dX8_faultOf_40 : decode cX8_faultOf 40 = .ok (.aload_n 0, 1) := by decide +kernel
theorem dX8_faultOf_41 : decode cX8_faultOf 41 = .ok (.getfield 50, 3) := by decide +kernel
theorem dX8_faultOf_44 : decode cX8_faultOf 44 = .ok (.getfield 175, 3) := by decide +kernel
theorem dX8_faultOf_47 : decode cX8_faultOf 47 = .ok (.iload_n 1, 1) := by decide +kernel
theorem dX8_faultOf_48 : decode cX8_faultOf 48 = .ok (.iaload, 1) := by decide +kernel
theorem dX8_faultOf_49 : decode cX8_faultOf 49 = .ok (.invokevirtual 240, 3) := by decide +kernel
theorem dX8_faultOf_52 : decode cX8_faultOf 52 = .ok (.ifCond .eq 5, 3) := by decide +kernel
theorem dX8_faultOf_55 : decode cX8_faultOf 55 = .ok (.iconst 2, 1) := by decide +kernel
theorem dX8_faultOf_56 : decode cX8_faultOf 56 = .ok (.ireturn, 1) := by decide +kernel
theorem dX8_faultOf_57 : decode cX8_faultOf 57 = .ok (.aload_n 0, 1) := by decide +kernel
theorem dX8_faultOf_58 : decode cX8_faultOf 58 = .ok (.getfield 50, 3) := by decide +kernel
theorem dX8_faultOf_61 : decode cX8_faultOf 61 = .ok (.getfield 289, 3) := by decide +kernel
theorem dX8_faultOf_64 : decode cX8_faultOf 64 = .ok (.iload_n 1, 1) := by decide +kernel
theorem dX8_faultOf_65 : decode cX8_faultOf 65 = .ok (.iaload, 1) := by decide +kernel
theorem dX8_faultOf_66 : decode cX8_faultOf 66 = .ok (.aload_n 0, 1) := by decide +kernel
theorem dX8_faultOf_67 : decode cX8_faultOf 67 = .ok (.getfield 23, 3) := by decide +kernel
theorem dX8_faultOf_70 : decode cX8_faultOf 70 = .ok (.getfield 136, 3) := by decide +kernel
theorem dX8_faultOf_73 : decode cX8_faultOf 73 = .ok (.if_icmp .le 5, 3) := by decide +kernel
theorem dX8_faultOf_76 : decode cX8_faultOf 76 = .ok (.iconst 3, 1) := by decide +kernel
theorem dX8_faultOf_77 : decode cX8_faultOf 77 = .ok (.ireturn, 1) := by decide +kernel
theorem dX8_faultOf_78 : decode cX8_faultOf 78 = .ok (.aload_n 0, 1) := by decide +kernel
theorem dX8_faultOf_79 : decode cX8_faultOf 79 = .ok (.aload_n 2, 1) := by decide +kernel
theorem dX8_faultOf_80 : decode cX8_faultOf 80 = .ok (.iload_n 1, 1) := by decide +kernel
theorem dX8_faultOf_81 : decode cX8_faultOf 81 = .ok (.invokevirtual 292, 3) := by decide +kernel
theorem dX8_faultOf_84 : decode cX8_faultOf 84 = .ok (.ifCond .eq 5, 3) := by decide +kernel
theorem dX8_faultOf_87 : decode cX8_faultOf 87 = .ok (.iconst 4, 1) := by decide +kernel
theorem dX8_faultOf_88 : decode cX8_faultOf 88 = .ok (.ireturn, 1) := by decide +kernel
theorem dX8_faultOf_89 : decode cX8_faultOf 89 = .ok (.aload_n 0, 1) := by decide +kernel
theorem dX8_faultOf_90 : decode cX8_faultOf 90 = .ok (.getfield 50, 3) := by decide +kernel
theorem dX8_faultOf_93 : decode cX8_faultOf 93 = .ok (.iload_n 1, 1) := by decide +kernel
theorem dX8_faultOf_94 : decode cX8_faultOf 94 = .ok (.invokevirtual 295, 3) := by decide +kernel
theorem dX8_faultOf_97 : decode cX8_faultOf 97 = .ok (.ifCond .eq 7, 3) := by decide +kernel
theorem dX8_faultOf_100 : decode cX8_faultOf 100 = .ok (.iconst 5, 1) := by decide +kernel
theorem dX8_faultOf_101 : decode cX8_faultOf 101 = .ok (.goto 4, 3) := by decide +kernel
theorem dX8_faultOf_104 : decode cX8_faultOf 104 = .ok (.iconst 0, 1) := by decide +kernel
theorem dX8_faultOf_105 : decode cX8_faultOf 105 = .ok (.ireturn, 1) := by decide +kernel
theorem dX8_isTooSoon_0 : decode cX8_isTooSoon 0 = .ok (.aload_n 0, 1) := by decide +kernel
theorem dX8_isTooSoon_1 : decode cX8_isTooSoon 1 = .ok (.getfield 50, 3) := by decide +kernel
theorem dX8_isTooSoon_4 : decode cX8_isTooSoon 4 = .ok (.aload_n 0, 1) := by decide +kernel
theorem dX8_isTooSoon_5 : decode cX8_isTooSoon 5 = .ok (.getfield 50, 3) := by decide +kernel
theorem dX8_isTooSoon_8 : decode cX8_isTooSoon 8 = .ok (.getfield 286, 3) := by decide +kernel
theorem dX8_isTooSoon_11 : decode cX8_isTooSoon 11 = .ok (.iload_n 2, 1) := by decide +kernel
theorem dX8_isTooSoon_12 : decode cX8_isTooSoon 12 = .ok (.iaload, 1) := by decide +kernel
theorem dX8_isTooSoon_13 : decode cX8_isTooSoon 13 = .ok (.iload_n 2, 1) := by decide +kernel
theorem dX8_isTooSoon_14 : decode cX8_isTooSoon 14 = .ok (.invokevirtual 171, 3) := by decide +kernel
theorem dX8_isTooSoon_17 : decode cX8_isTooSoon 17 = .ok (.istore_n 3, 1) := by decide +kernel
theorem dX8_isTooSoon_18 : decode cX8_isTooSoon 18 = .ok (.aload_n 0, 1) := by decide +kernel
theorem dX8_isTooSoon_19 : decode cX8_isTooSoon 19 = .ok (.getfield 50, 3) := by decide +kernel
theorem dX8_isTooSoon_22 : decode cX8_isTooSoon 22 = .ok (.iload_n 3, 1) := by decide +kernel
theorem dX8_isTooSoon_23 : decode cX8_isTooSoon 23 = .ok (.invokevirtual 174, 3) := by decide +kernel
theorem dX8_isTooSoon_26 : decode cX8_isTooSoon 26 = .ok (.ifCond .ne 5, 3) := by decide +kernel
theorem dX8_isTooSoon_29 : decode cX8_isTooSoon 29 = .ok (.iconst 0, 1) := by decide +kernel
theorem dX8_isTooSoon_30 : decode cX8_isTooSoon 30 = .ok (.ireturn, 1) := by decide +kernel
theorem dX8_isTooSoon_31 : decode cX8_isTooSoon 31 = .ok (.aload_n 0, 1) := by decide +kernel
theorem dX8_isTooSoon_32 : decode cX8_isTooSoon 32 = .ok (.aload_n 1, 1) := by decide +kernel
theorem dX8_isTooSoon_33 : decode cX8_isTooSoon 33 = .ok (.aload_n 0, 1) := by decide +kernel
theorem dX8_isTooSoon_34 : decode cX8_isTooSoon 34 = .ok (.getfield 50, 3) := by decide +kernel
theorem dX8_isTooSoon_37 : decode cX8_isTooSoon 37 = .ok (.getfield 288, 3) := by decide +kernel
theorem dX8_isTooSoon_40 : decode cX8_isTooSoon 40 = .ok (.iload_n 3, 1) := by decide +kernel
theorem dX8_isTooSoon_41 : decode cX8_isTooSoon 41 = .ok (.iaload, 1) := by decide +kernel
theorem dX8_isTooSoon_42 : decode cX8_isTooSoon 42 = .ok (.aload_n 0, 1) := by decide +kernel
theorem dX8_isTooSoon_43 : decode cX8_isTooSoon 43 = .ok (.getfield 50, 3) := by decide +kernel
theorem dX8_isTooSoon_46 : decode cX8_isTooSoon 46 = .ok (.getfield 288, 3) := by decide +kernel
theorem dX8_isTooSoon_49 : decode cX8_isTooSoon 49 = .ok (.iload_n 2, 1) := by decide +kernel
theorem dX8_isTooSoon_50 : decode cX8_isTooSoon 50 = .ok (.iaload, 1) := by decide +kernel
theorem dX8_isTooSoon_51 : decode cX8_isTooSoon 51 = .ok (.invokevirtual 275, 3) := by decide +kernel
theorem dX8_isTooSoon_54 : decode cX8_isTooSoon 54 = .ok (.istore 4, 2) := by decide +kernel
theorem dX8_isTooSoon_56 : decode cX8_isTooSoon 56 = .ok (.aload_n 0, 1) := by decide +kernel
theorem dX8_isTooSoon_57 : decode cX8_isTooSoon 57 = .ok (.getfield 50, 3) := by decide +kernel
theorem dX8_isTooSoon_60 : decode cX8_isTooSoon 60 = .ok (.getfield 175, 3) := by decide +kernel
theorem dX8_isTooSoon_63 : decode cX8_isTooSoon 63 = .ok (.iload_n 2, 1) := by decide +kernel
theorem dX8_isTooSoon_64 : decode cX8_isTooSoon 64 = .ok (.iaload, 1) := by decide +kernel
theorem dX8_isTooSoon_65 : decode cX8_isTooSoon 65 = .ok (.aload_n 0, 1) := by decide +kernel
theorem dX8_isTooSoon_66 : decode cX8_isTooSoon 66 = .ok (.getfield 50, 3) := by decide +kernel
theorem dX8_isTooSoon_69 : decode cX8_isTooSoon 69 = .ok (.getfield 175, 3) := by decide +kernel
theorem dX8_isTooSoon_72 : decode cX8_isTooSoon 72 = .ok (.iload_n 3, 1) := by decide +kernel
theorem dX8_isTooSoon_73 : decode cX8_isTooSoon 73 = .ok (.iaload, 1) := by decide +kernel
theorem dX8_isTooSoon_74 : decode cX8_isTooSoon 74 = .ok (.isub, 1) := by decide +kernel
theorem dX8_isTooSoon_75 : decode cX8_isTooSoon 75 = .ok (.iload 4, 2) := by decide +kernel
theorem dX8_isTooSoon_77 : decode cX8_isTooSoon 77 = .ok (.if_icmp .ge 7, 3) := by decide +kernel
theorem dX8_isTooSoon_80 : decode cX8_isTooSoon 80 = .ok (.iconst 1, 1) := by decide +kernel
theorem dX8_isTooSoon_81 : decode cX8_isTooSoon 81 = .ok (.goto 4, 3) := by decide +kernel
theorem dX8_isTooSoon_84 : decode cX8_isTooSoon 84 = .ok (.iconst 0, 1) := by decide +kernel
theorem dX8_isTooSoon_85 : decode cX8_isTooSoon 85 = .ok (.ireturn, 1) := by decide +kernel
theorem dX8_holderOf_0 : decode cX8_holderOf 0 = .ok (.iconst (-1), 1) := by decide +kernel
theorem dX8_holderOf_1 : decode cX8_holderOf 1 = .ok (.istore_n 2, 1) := by decide +kernel
theorem dX8_holderOf_2 : decode cX8_holderOf 2 = .ok (.iconst 0, 1) := by decide +kernel
theorem dX8_holderOf_3 : decode cX8_holderOf 3 = .ok (.istore_n 3, 1) := by decide +kernel
theorem dX8_holderOf_4 : decode cX8_holderOf 4 = .ok (.iconst 0, 1) := by decide +kernel
theorem dX8_holderOf_5 : decode cX8_holderOf 5 = .ok (.istore 4, 2) := by decide +kernel
theorem dX8_holderOf_7 : decode cX8_holderOf 7 = .ok (.iload 4, 2) := by decide +kernel
theorem dX8_holderOf_9 : decode cX8_holderOf 9 = .ok (.aload_n 0, 1) := by decide +kernel
theorem dX8_holderOf_10 : decode cX8_holderOf 10 = .ok (.getfield 33, 3) := by decide +kernel
theorem dX8_holderOf_13 : decode cX8_holderOf 13 = .ok (.if_icmp .ge 33, 3) := by decide +kernel
theorem dX8_holderOf_16 : decode cX8_holderOf 16 = .ok (.aload_n 0, 1) := by decide +kernel
theorem dX8_holderOf_17 : decode cX8_holderOf 17 = .ok (.getfield 50, 3) := by decide +kernel
theorem dX8_holderOf_20 : decode cX8_holderOf 20 = .ok (.iload 4, 2) := by decide +kernel
theorem dX8_holderOf_22 : decode cX8_holderOf 22 = .ok (.iload_n 1, 1) := by decide +kernel
theorem dX8_holderOf_23 : decode cX8_holderOf 23 = .ok (.invokevirtual 298, 3) := by decide +kernel
theorem dX8_holderOf_26 : decode cX8_holderOf 26 = .ok (.istore 5, 2) := by decide +kernel
theorem dX8_holderOf_28 : decode cX8_holderOf 28 = .ok (.iload 5, 2) := by decide +kernel
theorem dX8_holderOf_30 : decode cX8_holderOf 30 = .ok (.iload_n 3, 1) := by decide +kernel
theorem dX8_holderOf_31 : decode cX8_holderOf 31 = .ok (.if_icmp .le 9, 3) := by decide +kernel
theorem dX8_holderOf_34 : decode cX8_holderOf 34 = .ok (.iload 5, 2) := by decide +kernel
theorem dX8_holderOf_36 : decode cX8_holderOf 36 = .ok (.istore_n 3, 1) := by decide +kernel
theorem dX8_holderOf_37 : decode cX8_holderOf 37 = .ok (.iload 4, 2) := by decide +kernel
theorem dX8_holderOf_39 : decode cX8_holderOf 39 = .ok (.istore_n 2, 1) := by decide +kernel
theorem dX8_holderOf_40 : decode cX8_holderOf 40 = .ok (.iinc 4 1, 3) := by decide +kernel
theorem dX8_holderOf_43 : decode cX8_holderOf 43 = .ok (.goto (-36), 3) := by decide +kernel
theorem dX8_holderOf_46 : decode cX8_holderOf 46 = .ok (.iload_n 2, 1) := by decide +kernel
theorem dX8_holderOf_47 : decode cX8_holderOf 47 = .ok (.ireturn, 1) := by decide +kernel
theorem dX8_shareOf_0 : decode cX8_shareOf 0 = .ok (.aload_n 0, 1) := by decide +kernel
theorem dX8_shareOf_1 : decode cX8_shareOf 1 = .ok (.getfield 16, 3) := by decide +kernel
theorem dX8_shareOf_4 : decode cX8_shareOf 4 = .ok (.iload_n 2, 1) := by decide +kernel
theorem dX8_shareOf_5 : decode cX8_shareOf 5 = .ok (.iload 5, 2) := by decide +kernel
theorem dX8_shareOf_7 : decode cX8_shareOf 7 = .ok (.invokevirtual 143, 3) := by decide +kernel
theorem dX8_shareOf_10 : decode cX8_shareOf 10 = .ok (.istore 6, 2) := by decide +kernel
theorem dX8_shareOf_12 : decode cX8_shareOf 12 = .ok (.iload_n 2, 1) := by decide +kernel
theorem dX8_shareOf_13 : decode cX8_shareOf 13 = .ok (.iload 4, 2) := by decide +kernel
theorem dX8_shareOf_15 : decode cX8_shareOf 15 = .ok (.if_icmp .eq 6, 3) := by decide +kernel
theorem dX8_shareOf_18 : decode cX8_shareOf 18 = .ok (.iload 6, 2) := by decide +kernel
theorem dX8_shareOf_20 : decode cX8_shareOf 20 = .ok (.ireturn, 1) := by decide +kernel
theorem dX8_shareOf_21 : decode cX8_shareOf 21 = .ok (.aload_n 0, 1) := by decide +kernel
theorem dX8_shareOf_22 : decode cX8_shareOf 22 = .ok (.iload_n 2, 1) := by decide +kernel
theorem dX8_shareOf_23 : decode cX8_shareOf 23 = .ok (.invokevirtual 187, 3) := by decide +kernel
theorem dX8_shareOf_26 : decode cX8_shareOf 26 = .ok (.istore 7, 2) := by decide +kernel
theorem dX8_shareOf_28 : decode cX8_shareOf 28 = .ok (.iload 7, 2) := by decide +kernel
theorem dX8_shareOf_30 : decode cX8_shareOf 30 = .ok (.iload_n 1, 1) := by decide +kernel
theorem dX8_shareOf_31 : decode cX8_shareOf 31 = .ok (.if_icmp .ne 10, 3) := by decide +kernel
theorem dX8_shareOf_34 : decode cX8_shareOf 34 = .ok (.iload 6, 2) := by decide +kernel
theorem dX8_shareOf_36 : decode cX8_shareOf 36 = .ok (.iconst 2, 1) := by decide +kernel
theorem dX8_shareOf_37 : decode cX8_shareOf 37 = .ok (.imul, 1) := by decide +kernel
theorem dX8_shareOf_38 : decode cX8_shareOf 38 = .ok (.iconst 3, 1) := by decide +kernel
theorem dX8_shareOf_39 : decode cX8_shareOf 39 = .ok (.idiv, 1) := by decide +kernel
theorem dX8_shareOf_40 : decode cX8_shareOf 40 = .ok (.ireturn, 1) := by decide +kernel
theorem dX8_shareOf_41 : decode cX8_shareOf 41 = .ok (.iload 7, 2) := by decide +kernel
theorem dX8_shareOf_43 : decode cX8_shareOf 43 = .ok (.iload_n 3, 1) := by decide +kernel
theorem dX8_shareOf_44 : decode cX8_shareOf 44 = .ok (.if_icmp .ne 10, 3) := by decide +kernel
theorem dX8_shareOf_47 : decode cX8_shareOf 47 = .ok (.iload 6, 2) := by decide +kernel
theorem dX8_shareOf_49 : decode cX8_shareOf 49 = .ok (.iconst 3, 1) := by decide +kernel
theorem dX8_shareOf_50 : decode cX8_shareOf 50 = .ok (.idiv, 1) := by decide +kernel
theorem dX8_shareOf_51 : decode cX8_shareOf 51 = .ok (.goto 7, 3) := by decide +kernel
theorem dX8_shareOf_54 : decode cX8_shareOf 54 = .ok (.iload 6, 2) := by decide +kernel
theorem dX8_shareOf_56 : decode cX8_shareOf 56 = .ok (.iconst 2, 1) := by decide +kernel
theorem dX8_shareOf_57 : decode cX8_shareOf 57 = .ok (.idiv, 1) := by decide +kernel
theorem dX8_shareOf_58 : decode cX8_shareOf 58 = .ok (.ireturn, 1) := by decide +kernel
theorem dX8_isBalance_0 : decode cX8_isBalance 0 = .ok (.aload_n 0, 1) := by decide +kernel
theorem dX8_isBalance_1 : decode cX8_isBalance 1 = .ok (.iload_n 1, 1) := by decide +kernel
theorem dX8_isBalance_2 : decode cX8_isBalance 2 = .ok (.iload_n 2, 1) := by decide +kernel
theorem dX8_isBalance_3 : decode cX8_isBalance 3 = .ok (.iload_n 3, 1) := by decide +kernel
theorem dX8_isBalance_4 : decode cX8_isBalance 4 = .ok (.iload 4, 2) := by decide +kernel
theorem dX8_isBalance_6 : decode cX8_isBalance 6 = .ok (.iload 5, 2) := by decide +kernel
theorem dX8_isBalance_8 : decode cX8_isBalance 8 = .ok (.invokevirtual 301, 3) := by decide +kernel
theorem dX8_isBalance_11 : decode cX8_isBalance 11 = .ok (.ifCond .eq 21, 3) := by decide +kernel
theorem dX8_isBalance_14 : decode cX8_isBalance 14 = .ok (.aload_n 0, 1) := by decide +kernel
theorem dX8_isBalance_15 : decode cX8_isBalance 15 = .ok (.iload_n 3, 1) := by decide +kernel
theorem dX8_isBalance_16 : decode cX8_isBalance 16 = .ok (.iload 4, 2) := by decide +kernel
theorem dX8_isBalance_18 : decode cX8_isBalance 18 = .ok (.iload_n 1, 1) := by decide +kernel
theorem dX8_isBalance_19 : decode cX8_isBalance 19 = .ok (.iload_n 2, 1) := by decide +kernel
theorem dX8_isBalance_20 : decode cX8_isBalance 20 = .ok (.iload 5, 2) := by decide +kernel
theorem dX8_isBalance_22 : decode cX8_isBalance 22 = .ok (.invokevirtual 301, 3) := by decide +kernel
theorem dX8_isBalance_25 : decode cX8_isBalance 25 = .ok (.ifCond .eq 7, 3) := by decide +kernel
theorem dX8_isBalance_28 : decode cX8_isBalance 28 = .ok (.iconst 1, 1) := by decide +kernel
theorem dX8_isBalance_29 : decode cX8_isBalance 29 = .ok (.goto 4, 3) := by decide +kernel
theorem dX8_isBalance_32 : decode cX8_isBalance 32 = .ok (.iconst 0, 1) := by decide +kernel
theorem dX8_isBalance_33 : decode cX8_isBalance 33 = .ok (.ireturn, 1) := by decide +kernel
theorem dX8_isContent_0 : decode cX8_isContent 0 = .ok (.aload_n 0, 1) := by decide +kernel
theorem dX8_isContent_1 : decode cX8_isContent 1 = .ok (.iload_n 1, 1) := by decide +kernel
theorem dX8_isContent_2 : decode cX8_isContent 2 = .ok (.invokevirtual 116, 3) := by decide +kernel
theorem dX8_isContent_5 : decode cX8_isContent 5 = .ok (.astore 6, 2) := by decide +kernel
theorem dX8_isContent_7 : decode cX8_isContent 7 = .ok (.aload 6, 2) := by decide +kernel
theorem dX8_isContent_9 : decode cX8_isContent 9 = .ok (.ifnull 15, 3) := by decide +kernel
theorem dX8_isContent_12 : decode cX8_isContent 12 = .ok (.aload_n 0, 1) := by decide +kernel
theorem dX8_isContent_13 : decode cX8_isContent 13 = .ok (.aload 6, 2) := by decide +kernel
theorem dX8_isContent_15 : decode cX8_isContent 15 = .ok (.iload_n 2, 1) := by decide +kernel
theorem dX8_isContent_16 : decode cX8_isContent 16 = .ok (.iload 5, 2) := by decide +kernel
theorem dX8_isContent_18 : decode cX8_isContent 18 = .ok (.invokevirtual 139, 3) := by decide +kernel
theorem dX8_isContent_21 : decode cX8_isContent 21 = .ok (.ifCond .ne 5, 3) := by decide +kernel
theorem dX8_isContent_24 : decode cX8_isContent 24 = .ok (.iconst 0, 1) := by decide +kernel
theorem dX8_isContent_25 : decode cX8_isContent 25 = .ok (.ireturn, 1) := by decide +kernel
theorem dX8_isContent_26 : decode cX8_isContent 26 = .ok (.aload_n 0, 1) := by decide +kernel
theorem dX8_isContent_27 : decode cX8_isContent 27 = .ok (.iload_n 1, 1) := by decide +kernel
theorem dX8_isContent_28 : decode cX8_isContent 28 = .ok (.iload_n 2, 1) := by decide +kernel
theorem dX8_isContent_29 : decode cX8_isContent 29 = .ok (.iload_n 3, 1) := by decide +kernel
theorem dX8_isContent_30 : decode cX8_isContent 30 = .ok (.iload 4, 2) := by decide +kernel
theorem dX8_isContent_32 : decode cX8_isContent 32 = .ok (.iload 5, 2) := by decide +kernel
theorem dX8_isContent_34 : decode cX8_isContent 34 = .ok (.invokevirtual 193, 3) := by decide +kernel
theorem dX8_isContent_37 : decode cX8_isContent 37 = .ok (.istore 7, 2) := by decide +kernel
theorem dX8_isContent_39 : decode cX8_isContent 39 = .ok (.iconst 0, 1) := by decide +kernel
theorem dX8_isContent_40 : decode cX8_isContent 40 = .ok (.istore 8, 2) := by decide +kernel
theorem dX8_isContent_42 : decode cX8_isContent 42 = .ok (.iload 8, 2) := by decide +kernel
theorem dX8_isContent_44 : decode cX8_isContent 44 = .ok (.aload_n 0, 1) := by decide +kernel
theorem dX8_isContent_45 : decode cX8_isContent 45 = .ok (.getfield 16, 3) := by decide +kernel
theorem dX8_isContent_48 : decode cX8_isContent 48 = .ok (.getfield 200, 3) := by decide +kernel
theorem dX8_isContent_51 : decode cX8_isContent 51 = .ok (.if_icmp .ge 41, 3) := by decide +kernel
theorem dX8_isContent_54 : decode cX8_isContent 54 = .ok (.aload_n 0, 1) := by decide +kernel
theorem dX8_isContent_55 : decode cX8_isContent 55 = .ok (.aload 6, 2) := by decide +kernel
theorem dX8_isContent_57 : decode cX8_isContent 57 = .ok (.iload 8, 2) := by decide +kernel
theorem dX8_isContent_59 : decode cX8_isContent 59 = .ok (.iload 5, 2) := by decide +kernel
theorem dX8_isContent_61 : decode cX8_isContent 61 = .ok (.invokevirtual 139, 3) := by decide +kernel
theorem dX8_isContent_64 : decode cX8_isContent 64 = .ok (.ifCond .eq 22, 3) := by decide +kernel
theorem dX8_isContent_67 : decode cX8_isContent 67 = .ok (.aload_n 0, 1) := by decide +kernel
theorem dX8_isContent_68 : decode cX8_isContent 68 = .ok (.iload_n 1, 1) := by decide +kernel
theorem dX8_isContent_69 : decode cX8_isContent 69 = .ok (.iload 8, 2) := by decide +kernel
theorem dX8_isContent_71 : decode cX8_isContent 71 = .ok (.iload_n 3, 1) := by decide +kernel
theorem dX8_isContent_72 : decode cX8_isContent 72 = .ok (.iload 4, 2) := by decide +kernel
theorem dX8_isContent_74 : decode cX8_isContent 74 = .ok (.iload 5, 2) := by decide +kernel
theorem dX8_isContent_76 : decode cX8_isContent 76 = .ok (.invokevirtual 193, 3) := by decide +kernel
theorem dX8_isContent_79 : decode cX8_isContent 79 = .ok (.iload 7, 2) := by decide +kernel
theorem dX8_isContent_81 : decode cX8_isContent 81 = .ok (.if_icmp .le 5, 3) := by decide +kernel
theorem dX8_isContent_84 : decode cX8_isContent 84 = .ok (.iconst 0, 1) := by decide +kernel
theorem dX8_isContent_85 : decode cX8_isContent 85 = .ok (.ireturn, 1) := by decide +kernel
theorem dX8_isContent_86 : decode cX8_isContent 86 = .ok (.iinc 8 1, 3) := by decide +kernel
theorem dX8_isContent_89 : decode cX8_isContent 89 = .ok (.goto (-47), 3) := by decide +kernel
theorem dX8_isContent_92 : decode cX8_isContent 92 = .ok (.iconst 1, 1) := by decide +kernel
theorem dX8_isContent_93 : decode cX8_isContent 93 = .ok (.ireturn, 1) := by decide +kernel
theorem dX9_init_0 : decode cX9_init 0 = .ok (.aload_n 0, 1) := by decide +kernel
theorem dX9_init_1 : decode cX9_init 1 = .ok (.invokespecial 1, 3) := by decide +kernel
theorem dX9_init_4 : decode cX9_init 4 = .ok (.aload_n 0, 1) := by decide +kernel
theorem dX9_init_5 : decode cX9_init 5 = .ok (.iconst 2, 1) := by decide +kernel
theorem dX9_init_6 : decode cX9_init 6 = .ok (.putfield 7, 3) := by decide +kernel
theorem dX9_init_9 : decode cX9_init 9 = .ok (.aload_n 0, 1) := by decide +kernel
theorem dX9_init_10 : decode cX9_init 10 = .ok (.iconst 1, 1) := by decide +kernel
theorem dX9_init_11 : decode cX9_init 11 = .ok (.putfield 13, 3) := by decide +kernel
theorem dX9_init_14 : decode cX9_init 14 = .ok (.aload_n 0, 1) := by decide +kernel
theorem dX9_init_15 : decode cX9_init 15 = .ok (.bipush 12, 2) := by decide +kernel
theorem dX9_init_17 : decode cX9_init 17 = .ok (.putfield 16, 3) := by decide +kernel
theorem dX9_init_20 : decode cX9_init 20 = .ok (.aload_n 0, 1) := by decide +kernel
theorem dX9_init_21 : decode cX9_init 21 = .ok (.bipush 14, 2) := by decide +kernel
theorem dX9_init_23 : decode cX9_init 23 = .ok (.putfield 19, 3) := by decide +kernel
theorem dX9_init_26 : decode cX9_init 26 = .ok (.aload_n 0, 1) := by decide +kernel
theorem dX9_init_27 : decode cX9_init 27 = .ok (.bipush 6, 2) := by decide +kernel
theorem dX9_init_29 : decode cX9_init 29 = .ok (.newarray .int, 2) := by decide +kernel
theorem dX9_init_31 : decode cX9_init 31 = .ok (.putfield 22, 3) := by decide +kernel
theorem dX9_init_34 : decode cX9_init 34 = .ok (.aload_n 0, 1) := by decide +kernel
theorem dX9_init_35 : decode cX9_init 35 = .ok (.bipush 36, 2) := by decide +kernel
theorem dX9_init_37 : decode cX9_init 37 = .ok (.newarray .int, 2) := by decide +kernel
theorem dX9_init_39 : decode cX9_init 39 = .ok (.putfield 26, 3) := by decide +kernel
theorem dX9_init_42 : decode cX9_init 42 = .ok (.aload_n 0, 1) := by decide +kernel
theorem dX9_init_43 : decode cX9_init 43 = .ok (.bipush 72, 2) := by decide +kernel
theorem dX9_init_45 : decode cX9_init 45 = .ok (.newarray .int, 2) := by decide +kernel
theorem dX9_init_47 : decode cX9_init 47 = .ok (.putfield 29, 3) := by decide +kernel
theorem dX9_init_50 : decode cX9_init 50 = .ok (.aload_n 0, 1) := by decide +kernel
theorem dX9_init_51 : decode cX9_init 51 = .ok (.iconst 4, 1) := by decide +kernel
theorem dX9_init_52 : decode cX9_init 52 = .ok (.newarray .int, 2) := by decide +kernel
theorem dX9_init_54 : decode cX9_init 54 = .ok (.putfield 32, 3) := by decide +kernel
theorem dX9_init_57 : decode cX9_init 57 = .ok (.aload_n 0, 1) := by decide +kernel
theorem dX9_init_58 : decode cX9_init 58 = .ok (.iconst 4, 1) := by decide +kernel
theorem dX9_init_59 : decode cX9_init 59 = .ok (.newarray .int, 2) := by decide +kernel
theorem dX9_init_61 : decode cX9_init 61 = .ok (.putfield 35, 3) := by decide +kernel
theorem dX9_init_64 : decode cX9_init 64 = .ok (.aload_n 0, 1) := by decide +kernel
theorem dX9_init_65 : decode cX9_init 65 = .ok (.iconst 4, 1) := by decide +kernel
theorem dX9_init_66 : decode cX9_init 66 = .ok (.newarray .int, 2) := by decide +kernel
theorem dX9_init_68 : decode cX9_init 68 = .ok (.putfield 38, 3) := by decide +kernel
theorem dX9_init_71 : decode cX9_init 71 = .ok (.aload_n 0, 1) := by decide +kernel
theorem dX9_init_72 : decode cX9_init 72 = .ok (.bipush 24, 2) := by decide +kernel
theorem dX9_init_74 : decode cX9_init 74 = .ok (.newarray .int, 2) := by decide +kernel
theorem dX9_init_76 : decode cX9_init 76 = .ok (.putfield 41, 3) := by decide +kernel
theorem dX9_init_79 : decode cX9_init 79 = .ok (.aload_n 0, 1) := by decide +kernel
theorem dX9_init_80 : decode cX9_init 80 = .ok (.bipush 24, 2) := by decide +kernel
theorem dX9_init_82 : decode cX9_init 82 = .ok (.newarray .int, 2) := by decide +kernel
theorem dX9_init_84 : decode cX9_init 84 = .ok (.putfield 44, 3) := by decide +kernel
theorem dX9_init_87 : decode cX9_init 87 = .ok (.aload_n 0, 1) := by decide +kernel
theorem dX9_init_88 : decode cX9_init 88 = .ok (.bipush 24, 2) := by decide +kernel
theorem dX9_init_90 : decode cX9_init 90 = .ok (.newarray .int, 2) := by decide +kernel
theorem dX9_init_92 : decode cX9_init 92 = .ok (.putfield 47, 3) := by decide +kernel
theorem dX9_init_95 : decode cX9_init 95 = .ok (.aload_n 0, 1) := by decide +kernel
theorem dX9_init_96 : decode cX9_init 96 = .ok (.bipush 24, 2) := by decide +kernel
theorem dX9_init_98 : decode cX9_init 98 = .ok (.newarray .int, 2) := by decide +kernel
theorem dX9_init_100 : decode cX9_init 100 = .ok (.putfield 50, 3) := by decide +kernel
theorem dX9_init_103 : decode cX9_init 103 = .ok (.aload_n 0, 1) := by decide +kernel
theorem dX9_init_104 : decode cX9_init 104 = .ok (.bipush 12, 2) := by decide +kernel
theorem dX9_init_106 : decode cX9_init 106 = .ok (.newarray .int, 2) := by decide +kernel
theorem dX9_init_108 : decode cX9_init 108 = .ok (.putfield 53, 3) := by decide +kernel
theorem dX9_init_111 : decode cX9_init 111 = .ok (.aload_n 0, 1) := by decide +kernel
theorem dX9_init_112 : decode cX9_init 112 = .ok (.bipush 12, 2) := by decide +kernel
theorem dX9_init_114 : decode cX9_init 114 = .ok (.newarray .int, 2) := by decide +kernel
theorem dX9_init_116 : decode cX9_init 116 = .ok (.putfield 56, 3) := by decide +kernel
theorem dX9_init_119 : decode cX9_init 119 = .ok (.aload_n 0, 1) := by decide +kernel
theorem dX9_init_120 : decode cX9_init 120 = .ok (.bipush 12, 2) := by decide +kernel
theorem dX9_init_122 : decode cX9_init 122 = .ok (.newarray .int, 2) := by decide +kernel
theorem dX9_init_124 : decode cX9_init 124 = .ok (.putfield 59, 3) := by decide +kernel
theorem dX9_init_127 : decode cX9_init 127 = .ok (.aload_n 0, 1) := by decide +kernel
theorem dX9_init_128 : decode cX9_init 128 = .ok (.bipush 12, 2) := by decide +kernel
theorem dX9_init_130 : decode cX9_init 130 = .ok (.newarray .int, 2) := by decide +kernel
theorem dX9_init_132 : decode cX9_init 132 = .ok (.putfield 62, 3) := by decide +kernel
theorem dX9_init_135 : decode cX9_init 135 = .ok (.aload_n 0, 1) := by decide +kernel
theorem dX9_init_136 : decode cX9_init 136 = .ok (.bipush 6, 2) := by decide +kernel
theorem dX9_init_138 : decode cX9_init 138 = .ok (.newarray .int, 2) := by decide +kernel
theorem dX9_init_140 : decode cX9_init 140 = .ok (.putfield 65, 3) := by decide +kernel
theorem dX9_init_143 : decode cX9_init 143 = .ok (.aload_n 0, 1) := by decide +kernel
theorem dX9_init_144 : decode cX9_init 144 = .ok (.bipush 12, 2) := by decide +kernel
theorem dX9_init_146 : decode cX9_init 146 = .ok (.newarray .int, 2) := by decide +kernel
theorem dX9_init_148 : decode cX9_init 148 = .ok (.putfield 68, 3) := by decide +kernel
theorem dX9_init_151 : decode cX9_init 151 = .ok (.aload_n 0, 1) := by decide +kernel
theorem dX9_init_152 : decode cX9_init 152 = .ok (.bipush 12, 2) := by decide +kernel
theorem dX9_init_154 : decode cX9_init 154 = .ok (.newarray .int, 2) := by decide +kernel
theorem dX9_init_156 : decode cX9_init 156 = .ok (.putfield 71, 3) := by decide +kernel
theorem dX9_init_159 : decode cX9_init 159 = .ok (.aload_n 0, 1) := by decide +kernel
theorem dX9_init_160 : decode cX9_init 160 = .ok (.bipush 12, 2) := by decide +kernel
theorem dX9_init_162 : decode cX9_init 162 = .ok (.newarray .int, 2) := by decide +kernel
theorem dX9_init_164 : decode cX9_init 164 = .ok (.putfield 74, 3) := by decide +kernel
theorem dX9_init_167 : decode cX9_init 167 = .ok (.aload_n 0, 1) := by decide +kernel
theorem dX9_init_168 : decode cX9_init 168 = .ok (.bipush 12, 2) := by decide +kernel
theorem dX9_init_170 : decode cX9_init 170 = .ok (.newarray .int, 2) := by decide +kernel
theorem dX9_init_172 : decode cX9_init 172 = .ok (.putfield 77, 3) := by decide +kernel
theorem dX9_init_175 : decode cX9_init 175 = .ok (.aload_n 0, 1) := by decide +kernel
theorem dX9_init_176 : decode cX9_init 176 = .ok (.bipush 12, 2) := by decide +kernel
theorem dX9_init_178 : decode cX9_init 178 = .ok (.newarray .int, 2) := by decide +kernel
theorem dX9_init_180 : decode cX9_init 180 = .ok (.putfield 80, 3) := by decide +kernel
theorem dX9_init_183 : decode cX9_init 183 = .ok (.aload_n 0, 1) := by decide +kernel
theorem dX9_init_184 : decode cX9_init 184 = .ok (.bipush 6, 2) := by decide +kernel
theorem dX9_init_186 : decode cX9_init 186 = .ok (.newarray .int, 2) := by decide +kernel
theorem dX9_init_188 : decode cX9_init 188 = .ok (.putfield 83, 3) := by decide +kernel
theorem dX9_init_191 : decode cX9_init 191 = .ok (.aload_n 0, 1) := by decide +kernel
theorem dX9_init_192 : decode cX9_init 192 = .ok (.bipush 6, 2) := by decide +kernel
theorem dX9_init_194 : decode cX9_init 194 = .ok (.newarray .int, 2) := by decide +kernel
theorem dX9_init_196 : decode cX9_init 196 = .ok (.putfield 86, 3) := by decide +kernel
theorem dX9_init_199 : decode cX9_init 199 = .ok (.return_, 1) := by decide +kernel
theorem dX9_in_0 : decode cX9_in 0 = .ok (.iload_n 0, 1) := by decide +kernel
theorem dX9_in_1 : decode cX9_in 1 = .ok (.iload_n 1, 1) := by decide +kernel
theorem dX9_in_2 : decode cX9_in 2 = .ok (.if_icmp .lt 12, 3) := by decide +kernel
theorem dX9_in_5 : decode cX9_in 5 = .ok (.iload_n 0, 1) := by decide +kernel
theorem dX9_in_6 : decode cX9_in 6 = .ok (.iload_n 2, 1) := by decide +kernel
theorem dX9_in_7 : decode cX9_in 7 = .ok (.if_icmp .gt 7, 3) := by decide +kernel
theorem dX9_in_10 : decode cX9_in 10 = .ok (.iconst 1, 1) := by decide +kernel
theorem dX9_in_11 : decode cX9_in 11 = .ok (.goto 4, 3) := by decide +kernel
theorem dX9_in_14 : decode cX9_in 14 = .ok (.iconst 0, 1) := by decide +kernel
theorem dX9_in_15 : decode cX9_in 15 = .ok (.ireturn, 1) := by decide +kernel
theorem dX9_finds_0 : decode cX9_finds 0 = .ok (.aload_n 0, 1) := by decide +kernel
theorem dX9_finds_1 : decode cX9_finds 1 = .ok (.getfield 65, 3) := by decide +kernel
theorem dX9_finds_4 : decode cX9_finds 4 = .ok (.iload_n 1, 1) := by decide +kernel
theorem dX9_finds_5 : decode cX9_finds 5 = .ok (.dup2, 1) := by decide +kernel
theorem dX9_finds_6 : decode cX9_finds 6 = .ok (.iaload, 1) := by decide +kernel
theorem dX9_finds_7 : decode cX9_finds 7 = .ok (.iconst 1, 1) := by decide +kernel
theorem dX9_finds_8 : decode cX9_finds 8 = .ok (.iadd, 1) := by decide +kernel
theorem dX9_finds_9 : decode cX9_finds 9 = .ok (.iastore, 1) := by decide +kernel
theorem dX9_finds_10 : decode cX9_finds 10 = .ok (.ldc 89, 2) := by decide +kernel
theorem dX9_finds_12 : decode cX9_finds 12 = .ok (.iload_n 1, 1) := by decide +kernel
theorem dX9_finds_13 : decode cX9_finds 13 = .ok (.isub, 1) := by decide +kernel
theorem dX9_finds_14 : decode cX9_finds 14 = .ok (.ireturn, 1) := by decide +kernel
theorem dX9_isStreet_0 : decode cX9_isStreet 0 = .ok (.iload_n 1, 1) := by decide +kernel
theorem dX9_isStreet_1 : decode cX9_isStreet 1 = .ok (.iconst 0, 1) := by decide +kernel
theorem dX9_isStreet_2 : decode cX9_isStreet 2 = .ok (.aload_n 0, 1) := by decide +kernel
theorem dX9_isStreet_3 : decode cX9_isStreet 3 = .ok (.getfield 90, 3) := by decide +kernel
theorem dX9_isStreet_6 : decode cX9_isStreet 6 = .ok (.iconst 1, 1) := by decide +kernel
theorem dX9_isStreet_7 : decode cX9_isStreet 7 = .ok (.isub, 1) := by decide +kernel
theorem dX9_isStreet_8 : decode cX9_isStreet 8 = .ok (.invokestatic 93, 3) := by decide +kernel
