theorem dX9_stand_117 : decode cX9_stand 117 = .ok (.irem, 1) := by decide +kernel
theorem dX9_stand_118 : decode cX9_stand 118 = .ok (.iastore, 1) := by decide +kernel
theorem dX9_stand_119 : decode cX9_stand 119 = .ok (.aload_n 0, 1) := by decide +kernel
theorem dX9_stand_120 : decode cX9_stand 120 = .ok (.getfield 50, 3) := by decide +kernel
theorem dX9_stand_123 : decode cX9_stand 123 = .ok (.aload_n 0, 1) := by decide +kernel
theorem dX9_stand_124 : decode cX9_stand 124 = .ok (.getfield 162, 3) := by decide +kernel
theorem dX9_stand_127 : decode cX9_stand 127 = .ok (.iload_n 3, 1) := by decide +kernel
theorem dX9_stand_128 : decode cX9_stand 128 = .ok (.iastore, 1) := by decide +kernel
theorem dX9_stand_129 : decode cX9_stand 129 = .ok (.aload_n 0, 1) := by decide +kernel
theorem dX9_stand_130 : decode cX9_stand 130 = .ok (.dup, 1) := by decide +kernel
theorem dX9_stand_131 : decode cX9_stand 131 = .ok (.getfield 162, 3) := by decide +kernel
theorem dX9_stand_134 : decode cX9_stand 134 = .ok (.iconst 1, 1) := by decide +kernel
theorem dX9_stand_135 : decode cX9_stand 135 = .ok (.iadd, 1) := by decide +kernel
theorem dX9_stand_136 : decode cX9_stand 136 = .ok (.putfield 162, 3) := by decide +kernel
theorem dX9_stand_139 : decode cX9_stand 139 = .ok (.aload_n 0, 1) := by decide +kernel
theorem dX9_stand_140 : decode cX9_stand 140 = .ok (.getfield 162, 3) := by decide +kernel
theorem dX9_stand_143 : decode cX9_stand 143 = .ok (.iconst 1, 1) := by decide +kernel
theorem dX9_stand_144 : decode cX9_stand 144 = .ok (.isub, 1) := by decide +kernel
theorem dX9_stand_145 : decode cX9_stand 145 = .ok (.ireturn, 1) := by decide +kernel
theorem dX9_wrongOf_0 : decode cX9_wrongOf 0 = .ok (.aload_n 0, 1) := by decide +kernel
theorem dX9_wrongOf_1 : decode cX9_wrongOf 1 = .ok (.getfield 41, 3) := by decide +kernel
theorem dX9_wrongOf_4 : decode cX9_wrongOf 4 = .ok (.iload_n 1, 1) := by decide +kernel
theorem dX9_wrongOf_5 : decode cX9_wrongOf 5 = .ok (.iaload, 1) := by decide +kernel
theorem dX9_wrongOf_6 : decode cX9_wrongOf 6 = .ok (.istore_n 2, 1) := by decide +kernel
theorem dX9_wrongOf_7 : decode cX9_wrongOf 7 = .ok (.aload_n 0, 1) := by decide +kernel
theorem dX9_wrongOf_8 : decode cX9_wrongOf 8 = .ok (.getfield 44, 3) := by decide +kernel
theorem dX9_wrongOf_11 : decode cX9_wrongOf 11 = .ok (.iload_n 1, 1) := by decide +kernel
theorem dX9_wrongOf_12 : decode cX9_wrongOf 12 = .ok (.iaload, 1) := by decide +kernel
theorem dX9_wrongOf_13 : decode cX9_wrongOf 13 = .ok (.istore_n 3, 1) := by decide +kernel
theorem dX9_wrongOf_14 : decode cX9_wrongOf 14 = .ok (.aload_n 0, 1) := by decide +kernel
theorem dX9_wrongOf_15 : decode cX9_wrongOf 15 = .ok (.iload_n 2, 1) := by decide +kernel
theorem dX9_wrongOf_16 : decode cX9_wrongOf 16 = .ok (.iload_n 3, 1) := by decide +kernel
theorem dX9_wrongOf_17 : decode cX9_wrongOf 17 = .ok (.invokevirtual 117, 3) := by decide +kernel
theorem dX9_wrongOf_20 : decode cX9_wrongOf 20 = .ok (.ifCond .ne 5, 3) := by decide +kernel
theorem dX9_wrongOf_23 : decode cX9_wrongOf 23 = .ok (.iconst 1, 1) := by decide +kernel
theorem dX9_wrongOf_24 : decode cX9_wrongOf 24 = .ok (.ireturn, 1) := by decide +kernel
theorem dX9_wrongOf_25 : decode cX9_wrongOf 25 = .ok (.aload_n 0, 1) := by decide +kernel
theorem dX9_wrongOf_26 : decode cX9_wrongOf 26 = .ok (.iload_n 3, 1) := by decide +kernel
theorem dX9_wrongOf_27 : decode cX9_wrongOf 27 = .ok (.aload_n 0, 1) := by decide +kernel
theorem dX9_wrongOf_28 : decode cX9_wrongOf 28 = .ok (.getfield 47, 3) := by decide +kernel
theorem dX9_wrongOf_31 : decode cX9_wrongOf 31 = .ok (.iload_n 1, 1) := by decide +kernel
theorem dX9_wrongOf_32 : decode cX9_wrongOf 32 = .ok (.iaload, 1) := by decide +kernel
theorem dX9_wrongOf_33 : decode cX9_wrongOf 33 = .ok (.invokevirtual 121, 3) := by decide +kernel
theorem dX9_wrongOf_36 : decode cX9_wrongOf 36 = .ok (.ifCond .eq 5, 3) := by decide +kernel
theorem dX9_wrongOf_39 : decode cX9_wrongOf 39 = .ok (.iconst 2, 1) := by decide +kernel
theorem dX9_wrongOf_40 : decode cX9_wrongOf 40 = .ok (.ireturn, 1) := by decide +kernel
theorem dX9_wrongOf_41 : decode cX9_wrongOf 41 = .ok (.aload_n 0, 1) := by decide +kernel
theorem dX9_wrongOf_42 : decode cX9_wrongOf 42 = .ok (.getfield 50, 3) := by decide +kernel
theorem dX9_wrongOf_45 : decode cX9_wrongOf 45 = .ok (.iload_n 1, 1) := by decide +kernel
theorem dX9_wrongOf_46 : decode cX9_wrongOf 46 = .ok (.iaload, 1) := by decide +kernel
theorem dX9_wrongOf_47 : decode cX9_wrongOf 47 = .ok (.aload_n 0, 1) := by decide +kernel
theorem dX9_wrongOf_48 : decode cX9_wrongOf 48 = .ok (.getfield 16, 3) := by decide +kernel
theorem dX9_wrongOf_51 : decode cX9_wrongOf 51 = .ok (.if_icmp .le 5, 3) := by decide +kernel
theorem dX9_wrongOf_54 : decode cX9_wrongOf 54 = .ok (.iconst 3, 1) := by decide +kernel
theorem dX9_wrongOf_55 : decode cX9_wrongOf 55 = .ok (.ireturn, 1) := by decide +kernel
theorem dX9_wrongOf_56 : decode cX9_wrongOf 56 = .ok (.aload_n 0, 1) := by decide +kernel
theorem dX9_wrongOf_57 : decode cX9_wrongOf 57 = .ok (.iload_n 2, 1) := by decide +kernel
theorem dX9_wrongOf_58 : decode cX9_wrongOf 58 = .ok (.iload_n 1, 1) := by decide +kernel
theorem dX9_wrongOf_59 : decode cX9_wrongOf 59 = .ok (.invokevirtual 165, 3) := by decide +kernel
theorem dX9_wrongOf_62 : decode cX9_wrongOf 62 = .ok (.istore 4, 2) := by decide +kernel
theorem dX9_wrongOf_64 : decode cX9_wrongOf 64 = .ok (.iload 4, 2) := by decide +kernel
theorem dX9_wrongOf_66 : decode cX9_wrongOf 66 = .ok (.ifCond .lt 35, 3) := by decide +kernel
theorem dX9_wrongOf_69 : decode cX9_wrongOf 69 = .ok (.aload_n 0, 1) := by decide +kernel
theorem dX9_wrongOf_70 : decode cX9_wrongOf 70 = .ok (.getfield 47, 3) := by decide +kernel
theorem dX9_wrongOf_73 : decode cX9_wrongOf 73 = .ok (.iload_n 1, 1) := by decide +kernel
theorem dX9_wrongOf_74 : decode cX9_wrongOf 74 = .ok (.iaload, 1) := by decide +kernel
theorem dX9_wrongOf_75 : decode cX9_wrongOf 75 = .ok (.aload_n 0, 1) := by decide +kernel
theorem dX9_wrongOf_76 : decode cX9_wrongOf 76 = .ok (.getfield 47, 3) := by decide +kernel
theorem dX9_wrongOf_79 : decode cX9_wrongOf 79 = .ok (.iload 4, 2) := by decide +kernel
theorem dX9_wrongOf_81 : decode cX9_wrongOf 81 = .ok (.iaload, 1) := by decide +kernel
theorem dX9_wrongOf_82 : decode cX9_wrongOf 82 = .ok (.aload_n 0, 1) := by decide +kernel
theorem dX9_wrongOf_83 : decode cX9_wrongOf 83 = .ok (.iload_n 2, 1) := by decide +kernel
theorem dX9_wrongOf_84 : decode cX9_wrongOf 84 = .ok (.aload_n 0, 1) := by decide +kernel
theorem dX9_wrongOf_85 : decode cX9_wrongOf 85 = .ok (.getfield 44, 3) := by decide +kernel
theorem dX9_wrongOf_88 : decode cX9_wrongOf 88 = .ok (.iload 4, 2) := by decide +kernel
theorem dX9_wrongOf_90 : decode cX9_wrongOf 90 = .ok (.iaload, 1) := by decide +kernel
theorem dX9_wrongOf_91 : decode cX9_wrongOf 91 = .ok (.iload_n 3, 1) := by decide +kernel
theorem dX9_wrongOf_92 : decode cX9_wrongOf 92 = .ok (.invokevirtual 148, 3) := by decide +kernel
theorem dX9_wrongOf_95 : decode cX9_wrongOf 95 = .ok (.iadd, 1) := by decide +kernel
theorem dX9_wrongOf_96 : decode cX9_wrongOf 96 = .ok (.if_icmp .ge 5, 3) := by decide +kernel
theorem dX9_wrongOf_99 : decode cX9_wrongOf 99 = .ok (.iconst 4, 1) := by decide +kernel
theorem dX9_wrongOf_100 : decode cX9_wrongOf 100 = .ok (.ireturn, 1) := by decide +kernel
theorem dX9_wrongOf_101 : decode cX9_wrongOf 101 = .ok (.iconst 0, 1) := by decide +kernel
theorem dX9_wrongOf_102 : decode cX9_wrongOf 102 = .ok (.istore 5, 2) := by decide +kernel
theorem dX9_wrongOf_104 : decode cX9_wrongOf 104 = .ok (.iload 5, 2) := by decide +kernel
theorem dX9_wrongOf_106 : decode cX9_wrongOf 106 = .ok (.iload_n 1, 1) := by decide +kernel
theorem dX9_wrongOf_107 : decode cX9_wrongOf 107 = .ok (.if_icmp .ge 49, 3) := by decide +kernel
theorem dX9_wrongOf_110 : decode cX9_wrongOf 110 = .ok (.aload_n 0, 1) := by decide +kernel
theorem dX9_wrongOf_111 : decode cX9_wrongOf 111 = .ok (.getfield 41, 3) := by decide +kernel
theorem dX9_wrongOf_114 : decode cX9_wrongOf 114 = .ok (.iload 5, 2) := by decide +kernel
theorem dX9_wrongOf_116 : decode cX9_wrongOf 116 = .ok (.iaload, 1) := by decide +kernel
theorem dX9_wrongOf_117 : decode cX9_wrongOf 117 = .ok (.iload_n 2, 1) := by decide +kernel
theorem dX9_wrongOf_118 : decode cX9_wrongOf 118 = .ok (.if_icmp .eq 32, 3) := by decide +kernel
theorem dX9_wrongOf_121 : decode cX9_wrongOf 121 = .ok (.aload_n 0, 1) := by decide +kernel
theorem dX9_wrongOf_122 : decode cX9_wrongOf 122 = .ok (.getfield 44, 3) := by decide +kernel
theorem dX9_wrongOf_125 : decode cX9_wrongOf 125 = .ok (.iload 5, 2) := by decide +kernel
theorem dX9_wrongOf_127 : decode cX9_wrongOf 127 = .ok (.iaload, 1) := by decide +kernel
theorem dX9_wrongOf_128 : decode cX9_wrongOf 128 = .ok (.iload_n 3, 1) := by decide +kernel
theorem dX9_wrongOf_129 : decode cX9_wrongOf 129 = .ok (.if_icmp .ne 21, 3) := by decide +kernel
theorem dX9_wrongOf_132 : decode cX9_wrongOf 132 = .ok (.aload_n 0, 1) := by decide +kernel
theorem dX9_wrongOf_133 : decode cX9_wrongOf 133 = .ok (.getfield 47, 3) := by decide +kernel
theorem dX9_wrongOf_136 : decode cX9_wrongOf 136 = .ok (.iload 5, 2) := by decide +kernel
theorem dX9_wrongOf_138 : decode cX9_wrongOf 138 = .ok (.iaload, 1) := by decide +kernel
theorem dX9_wrongOf_139 : decode cX9_wrongOf 139 = .ok (.aload_n 0, 1) := by decide +kernel
theorem dX9_wrongOf_140 : decode cX9_wrongOf 140 = .ok (.getfield 47, 3) := by decide +kernel
theorem dX9_wrongOf_143 : decode cX9_wrongOf 143 = .ok (.iload_n 1, 1) := by decide +kernel
theorem dX9_wrongOf_144 : decode cX9_wrongOf 144 = .ok (.iaload, 1) := by decide +kernel
theorem dX9_wrongOf_145 : decode cX9_wrongOf 145 = .ok (.if_icmp .ne 5, 3) := by decide +kernel
theorem dX9_wrongOf_148 : decode cX9_wrongOf 148 = .ok (.iconst 5, 1) := by decide +kernel
theorem dX9_wrongOf_149 : decode cX9_wrongOf 149 = .ok (.ireturn, 1) := by decide +kernel
theorem dX9_wrongOf_150 : decode cX9_wrongOf 150 = .ok (.iinc 5 1, 3) := by decide +kernel
theorem dX9_wrongOf_153 : decode cX9_wrongOf 153 = .ok (.goto (-49), 3) := by decide +kernel
theorem dX9_wrongOf_156 : decode cX9_wrongOf 156 = .ok (.iconst 0, 1) := by decide +kernel
theorem dX9_wrongOf_157 : decode cX9_wrongOf 157 = .ok (.ireturn, 1) := by decide +kernel
theorem dX9_wrong_0 : decode cX9_wrong 0 = .ok (.iload_n 1, 1) := by decide +kernel
theorem dX9_wrong_1 : decode cX9_wrong 1 = .ok (.iconst 0, 1) := by decide +kernel
theorem dX9_wrong_2 : decode cX9_wrong 2 = .ok (.aload_n 0, 1) := by decide +kernel
theorem dX9_wrong_3 : decode cX9_wrong 3 = .ok (.getfield 162, 3) := by decide +kernel
theorem dX9_wrong_6 : decode cX9_wrong 6 = .ok (.iconst 1, 1) := by decide +kernel
theorem dX9_wrong_7 : decode cX9_wrong 7 = .ok (.isub, 1) := by decide +kernel
theorem dX9_wrong_8 : decode cX9_wrong 8 = .ok (.invokestatic 93, 3) := by decide +kernel
theorem dX9_wrong_11 : decode cX9_wrong 11 = .ok (.ifCond .eq 11, 3) := by decide +kernel
theorem dX9_wrong_14 : decode cX9_wrong 14 = .ok (.aload_n 0, 1) := by decide +kernel
theorem dX9_wrong_15 : decode cX9_wrong 15 = .ok (.iload_n 1, 1) := by decide +kernel
theorem dX9_wrong_16 : decode cX9_wrong 16 = .ok (.invokevirtual 168, 3) := by decide +kernel
theorem dX9_wrong_19 : decode cX9_wrong 19 = .ok (.goto 8, 3) := by decide +kernel
theorem dX9_wrong_22 : decode cX9_wrong 22 = .ok (.aload_n 0, 1) := by decide +kernel
theorem dX9_wrong_23 : decode cX9_wrong 23 = .ok (.iconst 1, 1) := by decide +kernel
theorem dX9_wrong_24 : decode cX9_wrong 24 = .ok (.invokevirtual 107, 3) := by decide +kernel
theorem dX9_wrong_27 : decode cX9_wrong 27 = .ok (.ireturn, 1) := by decide +kernel
theorem dX9_clear_0 : decode cX9_clear 0 = .ok (.iconst 0, 1) := by decide +kernel
theorem dX9_clear_1 : decode cX9_clear 1 = .ok (.istore_n 1, 1) := by decide +kernel
theorem dX9_clear_2 : decode cX9_clear 2 = .ok (.iconst 0, 1) := by decide +kernel
theorem dX9_clear_3 : decode cX9_clear 3 = .ok (.istore_n 2, 1) := by decide +kernel
theorem dX9_clear_4 : decode cX9_clear 4 = .ok (.iload_n 2, 1) := by decide +kernel
theorem dX9_clear_5 : decode cX9_clear 5 = .ok (.aload_n 0, 1) := by decide +kernel
theorem dX9_clear_6 : decode cX9_clear 6 = .ok (.getfield 162, 3) := by decide +kernel
theorem dX9_clear_9 : decode cX9_clear 9 = .ok (.if_icmp .ge 25, 3) := by decide +kernel
theorem dX9_clear_12 : decode cX9_clear 12 = .ok (.iload_n 1, 1) := by decide +kernel
theorem dX9_clear_13 : decode cX9_clear 13 = .ok (.aload_n 0, 1) := by decide +kernel
theorem dX9_clear_14 : decode cX9_clear 14 = .ok (.iload_n 2, 1) := by decide +kernel
theorem dX9_clear_15 : decode cX9_clear 15 = .ok (.invokevirtual 168, 3) := by decide +kernel
theorem dX9_clear_18 : decode cX9_clear 18 = .ok (.ifCond .ne 7, 3) := by decide +kernel
theorem dX9_clear_21 : decode cX9_clear 21 = .ok (.iconst 0, 1) := by decide +kernel
theorem dX9_clear_22 : decode cX9_clear 22 = .ok (.goto 4, 3) := by decide +kernel
theorem dX9_clear_25 : decode cX9_clear 25 = .ok (.iconst 1, 1) := by decide +kernel
theorem dX9_clear_26 : decode cX9_clear 26 = .ok (.iadd, 1) := by decide +kernel
theorem dX9_clear_27 : decode cX9_clear 27 = .ok (.istore_n 1, 1) := by decide +kernel
theorem dX9_clear_28 : decode cX9_clear 28 = .ok (.iinc 2 1, 3) := by decide +kernel
theorem dX9_clear_31 : decode cX9_clear 31 = .ok (.goto (-27), 3) := by decide +kernel
theorem dX9_clear_34 : decode cX9_clear 34 = .ok (.aload_n 0, 1) := by decide +kernel
theorem dX9_clear_35 : decode cX9_clear 35 = .ok (.iconst 0, 1) := by decide +kernel
theorem dX9_clear_36 : decode cX9_clear 36 = .ok (.putfield 162, 3) := by decide +kernel
theorem dX9_clear_39 : decode cX9_clear 39 = .ok (.iload_n 1, 1) := by decide +kernel
theorem dX9_clear_40 : decode cX9_clear 40 = .ok (.ireturn, 1) := by decide +kernel
theorem dX9_holderOf_0 : decode cX9_holderOf 0 = .ok (.iconst (-1), 1) := by decide +kernel
theorem dX9_holderOf_1 : decode cX9_holderOf 1 = .ok (.istore_n 2, 1) := by decide +kernel
theorem dX9_holderOf_2 : decode cX9_holderOf 2 = .ok (.iconst 0, 1) := by decide +kernel
theorem dX9_holderOf_3 : decode cX9_holderOf 3 = .ok (.istore_n 3, 1) := by decide +kernel
theorem dX9_holderOf_4 : decode cX9_holderOf 4 = .ok (.iconst 0, 1) := by decide +kernel
theorem dX9_holderOf_5 : decode cX9_holderOf 5 = .ok (.istore 4, 2) := by decide +kernel
theorem dX9_holderOf_7 : decode cX9_holderOf 7 = .ok (.iload 4, 2) := by decide +kernel
theorem dX9_holderOf_9 : decode cX9_holderOf 9 = .ok (.aload_n 0, 1) := by decide +kernel
theorem dX9_holderOf_10 : decode cX9_holderOf 10 = .ok (.getfield 97, 3) := by decide +kernel
theorem dX9_holderOf_13 : decode cX9_holderOf 13 = .ok (.if_icmp .ge 78, 3) := by decide +kernel
theorem dX9_holderOf_16 : decode cX9_holderOf 16 = .ok (.iconst 0, 1) := by decide +kernel
theorem dX9_holderOf_17 : decode cX9_holderOf 17 = .ok (.istore 5, 2) := by decide +kernel
theorem dX9_holderOf_19 : decode cX9_holderOf 19 = .ok (.iconst 0, 1) := by decide +kernel
theorem dX9_holderOf_20 : decode cX9_holderOf 20 = .ok (.istore 6, 2) := by decide +kernel
theorem dX9_holderOf_22 : decode cX9_holderOf 22 = .ok (.iload 6, 2) := by decide +kernel
theorem dX9_holderOf_24 : decode cX9_holderOf 24 = .ok (.aload_n 0, 1) := by decide +kernel
theorem dX9_holderOf_25 : decode cX9_holderOf 25 = .ok (.getfield 162, 3) := by decide +kernel
theorem dX9_holderOf_28 : decode cX9_holderOf 28 = .ok (.if_icmp .ge 42, 3) := by decide +kernel
theorem dX9_holderOf_31 : decode cX9_holderOf 31 = .ok (.iload 5, 2) := by decide +kernel
theorem dX9_holderOf_33 : decode cX9_holderOf 33 = .ok (.aload_n 0, 1) := by decide +kernel
theorem dX9_holderOf_34 : decode cX9_holderOf 34 = .ok (.getfield 41, 3) := by decide +kernel
theorem dX9_holderOf_37 : decode cX9_holderOf 37 = .ok (.iload 6, 2) := by decide +kernel
theorem dX9_holderOf_39 : decode cX9_holderOf 39 = .ok (.iaload, 1) := by decide +kernel
theorem dX9_holderOf_40 : decode cX9_holderOf 40 = .ok (.iload 4, 2) := by decide +kernel
theorem dX9_holderOf_42 : decode cX9_holderOf 42 = .ok (.if_icmp .ne 18, 3) := by decide +kernel
theorem dX9_holderOf_45 : decode cX9_holderOf 45 = .ok (.aload_n 0, 1) := by decide +kernel
theorem dX9_holderOf_46 : decode cX9_holderOf 46 = .ok (.getfield 44, 3) := by decide +kernel
theorem dX9_holderOf_49 : decode cX9_holderOf 49 = .ok (.iload 6, 2) := by decide +kernel
theorem dX9_holderOf_51 : decode cX9_holderOf 51 = .ok (.iaload, 1) := by decide +kernel
theorem dX9_holderOf_52 : decode cX9_holderOf 52 = .ok (.iload_n 1, 1) := by decide +kernel
theorem dX9_holderOf_53 : decode cX9_holderOf 53 = .ok (.if_icmp .ne 7, 3) := by decide +kernel
theorem dX9_holderOf_56 : decode cX9_holderOf 56 = .ok (.iconst 1, 1) := by decide +kernel
theorem dX9_holderOf_57 : decode cX9_holderOf 57 = .ok (.goto 4, 3) := by decide +kernel
theorem dX9_holderOf_60 : decode cX9_holderOf 60 = .ok (.iconst 0, 1) := by decide +kernel
theorem dX9_holderOf_61 : decode cX9_holderOf 61 = .ok (.iadd, 1) := by decide +kernel
theorem dX9_holderOf_62 : decode cX9_holderOf 62 = .ok (.istore 5, 2) := by decide +kernel
theorem dX9_holderOf_64 : decode cX9_holderOf 64 = .ok (.iinc 6 1, 3) := by decide +kernel
theorem dX9_holderOf_67 : decode cX9_holderOf 67 = .ok (.goto (-45), 3) := by decide +kernel
theorem dX9_holderOf_70 : decode cX9_holderOf 70 = .ok (.iload 5, 2) := by decide +kernel
theorem dX9_holderOf_72 : decode cX9_holderOf 72 = .ok (.iload_n 3, 1) := by decide +kernel
theorem dX9_holderOf_73 : decode cX9_holderOf 73 = .ok (.if_icmp .gt 6, 3) := by decide +kernel
theorem dX9_holderOf_76 : decode cX9_holderOf 76 = .ok (.goto 9, 3) := by decide +kernel
theorem dX9_holderOf_79 : decode cX9_holderOf 79 = .ok (.iload 4, 2) := by decide +kernel
theorem dX9_holderOf_81 : decode cX9_holderOf 81 = .ok (.istore_n 2, 1) := by decide +kernel
theorem dX9_holderOf_82 : decode cX9_holderOf 82 = .ok (.iload 5, 2) := by decide +kernel
theorem dX9_holderOf_84 : decode cX9_holderOf 84 = .ok (.istore_n 3, 1) := by decide +kernel
theorem dX9_holderOf_85 : decode cX9_holderOf 85 = .ok (.iinc 4 1, 3) := by decide +kernel
theorem dX9_holderOf_88 : decode cX9_holderOf 88 = .ok (.goto (-81), 3) := by decide +kernel
theorem dX9_holderOf_91 : decode cX9_holderOf 91 = .ok (.iload_n 2, 1) := by decide +kernel
theorem dX9_holderOf_92 : decode cX9_holderOf 92 = .ok (.ireturn, 1) := by decide +kernel
theorem dX9_holder_0 : decode cX9_holder 0 = .ok (.aload_n 0, 1) := by decide +kernel
theorem dX9_holder_1 : decode cX9_holder 1 = .ok (.iload_n 1, 1) := by decide +kernel
theorem dX9_holder_2 : decode cX9_holder 2 = .ok (.invokevirtual 100, 3) := by decide +kernel
theorem dX9_holder_5 : decode cX9_holder 5 = .ok (.ifCond .ne 9, 3) := by decide +kernel
theorem dX9_holder_8 : decode cX9_holder 8 = .ok (.aload_n 0, 1) := by decide +kernel
theorem dX9_holder_9 : decode cX9_holder 9 = .ok (.iconst 1, 1) := by decide +kernel
theorem dX9_holder_10 : decode cX9_holder 10 = .ok (.invokevirtual 107, 3) := by decide +kernel
theorem dX9_holder_13 : decode cX9_holder 13 = .ok (.ireturn, 1) := by decide +kernel
theorem dX9_holder_14 : decode cX9_holder 14 = .ok (.aload_n 0, 1) := by decide +kernel
theorem dX9_holder_15 : decode cX9_holder 15 = .ok (.iload_n 1, 1) := by decide +kernel
theorem dX9_holder_16 : decode cX9_holder 16 = .ok (.invokevirtual 171, 3) := by decide +kernel
theorem dX9_holder_19 : decode cX9_holder 19 = .ok (.istore_n 2, 1) := by decide +kernel
theorem dX9_holder_20 : decode cX9_holder 20 = .ok (.iload_n 2, 1) := by decide +kernel
theorem dX9_holder_21 : decode cX9_holder 21 = .ok (.ifCond .ge 11, 3) := by decide +kernel
theorem dX9_holder_24 : decode cX9_holder 24 = .ok (.aload_n 0, 1) := by decide +kernel
theorem dX9_holder_25 : decode cX9_holder 25 = .ok (.iconst 2, 1) := by decide +kernel
theorem dX9_holder_26 : decode cX9_holder 26 = .ok (.invokevirtual 107, 3) := by decide +kernel
theorem dX9_holder_29 : decode cX9_holder 29 = .ok (.goto 4, 3) := by decide +kernel
theorem dX9_holder_32 : decode cX9_holder 32 = .ok (.iload_n 2, 1) := by decide +kernel
theorem dX9_holder_33 : decode cX9_holder 33 = .ok (.ireturn, 1) := by decide +kernel
theorem dX9_getsOf_0 : decode cX9_getsOf 0 = .ok (.aload_n 0, 1) := by decide +kernel
theorem dX9_getsOf_1 : decode cX9_getsOf 1 = .ok (.iload_n 3, 1) := by decide +kernel
theorem dX9_getsOf_2 : decode cX9_getsOf 2 = .ok (.iload 5, 2) := by decide +kernel
theorem dX9_getsOf_4 : decode cX9_getsOf 4 = .ok (.invokevirtual 127, 3) := by decide +kernel
theorem dX9_getsOf_7 : decode cX9_getsOf 7 = .ok (.istore 6, 2) := by decide +kernel
theorem dX9_getsOf_9 : decode cX9_getsOf 9 = .ok (.iload_n 3, 1) := by decide +kernel
theorem dX9_getsOf_10 : decode cX9_getsOf 10 = .ok (.iload 4, 2) := by decide +kernel
theorem dX9_getsOf_12 : decode cX9_getsOf 12 = .ok (.if_icmp .eq 6, 3) := by decide +kernel
theorem dX9_getsOf_15 : decode cX9_getsOf 15 = .ok (.iload 6, 2) := by decide +kernel
theorem dX9_getsOf_17 : decode cX9_getsOf 17 = .ok (.ireturn, 1) := by decide +kernel
theorem dX9_getsOf_18 : decode cX9_getsOf 18 = .ok (.aload_n 0, 1) := by decide +kernel
theorem dX9_getsOf_19 : decode cX9_getsOf 19 = .ok (.iload_n 3, 1) := by decide +kernel
theorem dX9_getsOf_20 : decode cX9_getsOf 20 = .ok (.invokevirtual 171, 3) := by decide +kernel
theorem dX9_getsOf_23 : decode cX9_getsOf 23 = .ok (.istore 7, 2) := by decide +kernel
theorem dX9_getsOf_25 : decode cX9_getsOf 25 = .ok (.iload 7, 2) := by decide +kernel
theorem dX9_getsOf_27 : decode cX9_getsOf 27 = .ok (.iload_n 1, 1) := by decide +kernel
theorem dX9_getsOf_28 : decode cX9_getsOf 28 = .ok (.if_icmp .ne 12, 3) := by decide +kernel
theorem dX9_getsOf_31 : decode cX9_getsOf 31 = .ok (.iconst 2, 1) := by decide +kernel
theorem dX9_getsOf_32 : decode cX9_getsOf 32 = .ok (.iload 6, 2) := by decide +kernel
theorem dX9_getsOf_34 : decode cX9_getsOf 34 = .ok (.imul, 1) := by decide +kernel
theorem dX9_getsOf_35 : decode cX9_getsOf 35 = .ok (.iconst 3, 1) := by decide +kernel
theorem dX9_getsOf_36 : decode cX9_getsOf 36 = .ok (.idiv, 1) := by decide +kernel
theorem dX9_getsOf_37 : decode cX9_getsOf 37 = .ok (.goto 20, 3) := by decide +kernel
theorem dX9_getsOf_40 : decode cX9_getsOf 40 = .ok (.iload 7, 2) := by decide +kernel
theorem dX9_getsOf_42 : decode cX9_getsOf 42 = .ok (.iload_n 2, 1) := by decide +kernel
theorem dX9_getsOf_43 : decode cX9_getsOf 43 = .ok (.if_icmp .ne 10, 3) := by decide +kernel
theorem dX9_getsOf_46 : decode cX9_getsOf 46 = .ok (.iload 6, 2) := by decide +kernel
theorem dX9_getsOf_48 : decode cX9_getsOf 48 = .ok (.iconst 3, 1) := by decide +kernel
theorem dX9_getsOf_49 : decode cX9_getsOf 49 = .ok (.idiv, 1) := by decide +kernel
theorem dX9_getsOf_50 : decode cX9_getsOf 50 = .ok (.goto 7, 3) := by decide +kernel
theorem dX9_getsOf_53 : decode cX9_getsOf 53 = .ok (.iload 6, 2) := by decide +kernel
theorem dX9_getsOf_55 : decode cX9_getsOf 55 = .ok (.iconst 2, 1) := by decide +kernel
theorem dX9_getsOf_56 : decode cX9_getsOf 56 = .ok (.idiv, 1) := by decide +kernel
theorem dX9_getsOf_57 : decode cX9_getsOf 57 = .ok (.ireturn, 1) := by decide +kernel
theorem dX9_gets_0 : decode cX9_gets 0 = .ok (.aload_n 0, 1) := by decide +kernel
theorem dX9_gets_1 : decode cX9_gets 1 = .ok (.iload_n 1, 1) := by decide +kernel
theorem dX9_gets_2 : decode cX9_gets 2 = .ok (.invokevirtual 111, 3) := by decide +kernel
theorem dX9_gets_5 : decode cX9_gets 5 = .ok (.ifCond .eq 50, 3) := by decide +kernel
theorem dX9_gets_8 : decode cX9_gets 8 = .ok (.aload_n 0, 1) := by decide +kernel
theorem dX9_gets_9 : decode cX9_gets 9 = .ok (.iload_n 2, 1) := by decide +kernel
theorem dX9_gets_10 : decode cX9_gets 10 = .ok (.invokevirtual 111, 3) := by decide +kernel
theorem dX9_gets_13 : decode cX9_gets 13 = .ok (.ifCond .eq 42, 3) := by decide +kernel
theorem dX9_gets_16 : decode cX9_gets 16 = .ok (.iload_n 1, 1) := by decide +kernel
theorem dX9_gets_17 : decode cX9_gets 17 = .ok (.iload_n 2, 1) := by decide +kernel
theorem dX9_gets_18 : decode cX9_gets 18 = .ok (.if_icmp .eq 37, 3) := by decide +kernel
theorem dX9_gets_21 : decode cX9_gets 21 = .ok (.iload_n 3, 1) := by decide +kernel
theorem dX9_gets_22 : decode cX9_gets 22 = .ok (.ifCond .lt 33, 3) := by decide +kernel
theorem dX9_gets_25 : decode cX9_gets 25 = .ok (.aload_n 0, 1) := by decide +kernel
theorem dX9_gets_26 : decode cX9_gets 26 = .ok (.iload_n 3, 1) := by decide +kernel
theorem dX9_gets_27 : decode cX9_gets 27 = .ok (.bipush 10, 2) := by decide +kernel
theorem dX9_gets_29 : decode cX9_gets 29 = .ok (.idiv, 1) := by decide +kernel
theorem dX9_gets_30 : decode cX9_gets 30 = .ok (.invokevirtual 100, 3) := by decide +kernel
theorem dX9_gets_33 : decode cX9_gets 33 = .ok (.ifCond .eq 22, 3) := by decide +kernel
theorem dX9_gets_36 : decode cX9_gets 36 = .ok (.aload_n 0, 1) := by decide +kernel
theorem dX9_gets_37 : decode cX9_gets 37 = .ok (.iload_n 3, 1) := by decide +kernel
theorem dX9_gets_38 : decode cX9_gets 38 = .ok (.bipush 10, 2) := by decide +kernel
theorem dX9_gets_40 : decode cX9_gets 40 = .ok (.irem, 1) := by decide +kernel
theorem dX9_gets_41 : decode cX9_gets 41 = .ok (.invokevirtual 100, 3) := by decide +kernel
theorem dX9_gets_44 : decode cX9_gets 44 = .ok (.ifCond .eq 11, 3) := by decide +kernel
theorem dX9_gets_47 : decode cX9_gets 47 = .ok (.iload 4, 2) := by decide +kernel
theorem dX9_gets_49 : decode cX9_gets 49 = .ok (.invokestatic 104, 3) := by decide +kernel
theorem dX9_gets_52 : decode cX9_gets 52 = .ok (.ifCond .ne 9, 3) := by decide +kernel
theorem dX9_gets_55 : decode cX9_gets 55 = .ok (.aload_n 0, 1) := by decide +kernel
theorem dX9_gets_56 : decode cX9_gets 56 = .ok (.iconst 1, 1) := by decide +kernel
theorem dX9_gets_57 : decode cX9_gets 57 = .ok (.invokevirtual 107, 3) := by decide +kernel
theorem dX9_gets_60 : decode cX9_gets 60 = .ok (.ireturn, 1) := by decide +kernel
theorem dX9_gets_61 : decode cX9_gets 61 = .ok (.aload_n 0, 1) := by decide +kernel
theorem dX9_gets_62 : decode cX9_gets 62 = .ok (.iload_n 1, 1) := by decide +kernel
theorem dX9_gets_63 : decode cX9_gets 63 = .ok (.iload_n 3, 1) := by decide +kernel
theorem dX9_gets_64 : decode cX9_gets 64 = .ok (.bipush 10, 2) := by decide +kernel
theorem dX9_gets_66 : decode cX9_gets 66 = .ok (.idiv, 1) := by decide +kernel
theorem dX9_gets_67 : decode cX9_gets 67 = .ok (.iload 4, 2) := by decide +kernel
theorem dX9_gets_69 : decode cX9_gets 69 = .ok (.invokevirtual 124, 3) := by decide +kernel
theorem dX9_gets_72 : decode cX9_gets 72 = .ok (.ifCond .eq 17, 3) := by decide +kernel
theorem dX9_gets_75 : decode cX9_gets 75 = .ok (.aload_n 0, 1) := by decide +kernel
theorem dX9_gets_76 : decode cX9_gets 76 = .ok (.iload_n 2, 1) := by decide +kernel
theorem dX9_gets_77 : decode cX9_gets 77 = .ok (.iload_n 3, 1) := by decide +kernel
theorem dX9_gets_78 : decode cX9_gets 78 = .ok (.bipush 10, 2) := by decide +kernel
theorem dX9_gets_80 : decode cX9_gets 80 = .ok (.irem, 1) := by decide +kernel
theorem dX9_gets_81 : decode cX9_gets 81 = .ok (.iload 4, 2) := by decide +kernel
theorem dX9_gets_83 : decode cX9_gets 83 = .ok (.invokevirtual 124, 3) := by decide +kernel
theorem dX9_gets_86 : decode cX9_gets 86 = .ok (.ifCond .ne 9, 3) := by decide +kernel
theorem dX9_gets_89 : decode cX9_gets 89 = .ok (.aload_n 0, 1) := by decide +kernel
theorem dX9_gets_90 : decode cX9_gets 90 = .ok (.iconst 3, 1) := by decide +kernel
theorem dX9_gets_91 : decode cX9_gets 91 = .ok (.invokevirtual 107, 3) := by decide +kernel
theorem dX9_gets_94 : decode cX9_gets 94 = .ok (.ireturn, 1) := by decide +kernel
theorem dX9_gets_95 : decode cX9_gets 95 = .ok (.aload_n 0, 1) := by decide +kernel
theorem dX9_gets_96 : decode cX9_gets 96 = .ok (.iload_n 1, 1) := by decide +kernel
theorem dX9_gets_97 : decode cX9_gets 97 = .ok (.iload_n 2, 1) := by decide +kernel
theorem dX9_gets_98 : decode cX9_gets 98 = .ok (.iload_n 3, 1) := by decide +kernel
theorem dX9_gets_99 : decode cX9_gets 99 = .ok (.bipush 10, 2) := by decide +kernel
theorem dX9_gets_101 : decode cX9_gets 101 = .ok (.idiv, 1) := by decide +kernel
theorem dX9_gets_102 : decode cX9_gets 102 = .ok (.iload_n 3, 1) := by decide +kernel
theorem dX9_gets_103 : decode cX9_gets 103 = .ok (.bipush 10, 2) := by decide +kernel
theorem dX9_gets_105 : decode cX9_gets 105 = .ok (.irem, 1) := by decide +kernel
theorem dX9_gets_106 : decode cX9_gets 106 = .ok (.iload 4, 2) := by decide +kernel
theorem dX9_gets_108 : decode cX9_gets 108 = .ok (.invokevirtual 174, 3) := by decide +kernel
theorem dX9_gets_111 : decode cX9_gets 111 = .ok (.ireturn, 1) := by decide +kernel
theorem dX9_isBalance_0 : decode cX9_isBalance 0 = .ok (.iconst 0, 1) := by decide +kernel
theorem dX9_isBalance_1 : decode cX9_isBalance 1 = .ok (.istore 6, 2) := by decide +kernel
theorem dX9_isBalance_3 : decode cX9_isBalance 3 = .ok (.iload 6, 2) := by decide +kernel
theorem dX9_isBalance_5 : decode cX9_isBalance 5 = .ok (.aload_n 0, 1) := by decide +kernel
theorem dX9_isBalance_6 : decode cX9_isBalance 6 = .ok (.getfield 90, 3) := by decide +kernel
theorem dX9_isBalance_9 : decode cX9_isBalance 9 = .ok (.if_icmp .ge 88, 3) := by decide +kernel
theorem dX9_isBalance_12 : decode cX9_isBalance 12 = .ok (.aload_n 0, 1) := by decide +kernel
theorem dX9_isBalance_13 : decode cX9_isBalance 13 = .ok (.iload_n 1, 1) := by decide +kernel
theorem dX9_isBalance_14 : decode cX9_isBalance 14 = .ok (.iload 6, 2) := by decide +kernel
theorem dX9_isBalance_16 : decode cX9_isBalance 16 = .ok (.iload 5, 2) := by decide +kernel
theorem dX9_isBalance_18 : decode cX9_isBalance 18 = .ok (.invokevirtual 124, 3) := by decide +kernel
theorem dX9_isBalance_21 : decode cX9_isBalance 21 = .ok (.ifCond .eq 31, 3) := by decide +kernel
theorem dX9_isBalance_24 : decode cX9_isBalance 24 = .ok (.aload_n 0, 1) := by decide +kernel
theorem dX9_isBalance_25 : decode cX9_isBalance 25 = .ok (.iload_n 1, 1) := by decide +kernel
theorem dX9_isBalance_26 : decode cX9_isBalance 26 = .ok (.iload_n 2, 1) := by decide +kernel
theorem dX9_isBalance_27 : decode cX9_isBalance 27 = .ok (.iload 6, 2) := by decide +kernel
theorem dX9_isBalance_29 : decode cX9_isBalance 29 = .ok (.iload 4, 2) := by decide +kernel
theorem dX9_isBalance_31 : decode cX9_isBalance 31 = .ok (.iload 5, 2) := by decide +kernel
theorem dX9_isBalance_33 : decode cX9_isBalance 33 = .ok (.invokevirtual 174, 3) := by decide +kernel
theorem dX9_isBalance_36 : decode cX9_isBalance 36 = .ok (.aload_n 0, 1) := by decide +kernel
theorem dX9_isBalance_37 : decode cX9_isBalance 37 = .ok (.iload_n 1, 1) := by decide +kernel
theorem dX9_isBalance_38 : decode cX9_isBalance 38 = .ok (.iload_n 2, 1) := by decide +kernel
theorem dX9_isBalance_39 : decode cX9_isBalance 39 = .ok (.iload_n 3, 1) := by decide +kernel
theorem dX9_isBalance_40 : decode cX9_isBalance 40 = .ok (.iload 4, 2) := by decide +kernel
theorem dX9_isBalance_42 : decode cX9_isBalance 42 = .ok (.iload 5, 2) := by decide +kernel
theorem dX9_isBalance_44 : decode cX9_isBalance 44 = .ok (.invokevirtual 174, 3) := by decide +kernel
theorem dX9_isBalance_47 : decode cX9_isBalance 47 = .ok (.if_icmp .le 5, 3) := by decide +kernel
theorem dX9_isBalance_50 : decode cX9_isBalance 50 = .ok (.iconst 0, 1) := by decide +kernel
theorem dX9_isBalance_51 : decode cX9_isBalance 51 = .ok (.ireturn, 1) := by decide +kernel
theorem dX9_isBalance_52 : decode cX9_isBalance 52 = .ok (.aload_n 0, 1) := by decide +kernel
theorem dX9_isBalance_53 : decode cX9_isBalance 53 = .ok (.iload_n 2, 1) := by decide +kernel
theorem dX9_isBalance_54 : decode cX9_isBalance 54 = .ok (.iload 6, 2) := by decide +kernel
theorem dX9_isBalance_56 : decode cX9_isBalance 56 = .ok (.iload 5, 2) := by decide +kernel
theorem dX9_isBalance_58 : decode cX9_isBalance 58 = .ok (.invokevirtual 124, 3) := by decide +kernel
theorem dX9_isBalance_61 : decode cX9_isBalance 61 = .ok (.ifCond .eq 30, 3) := by decide +kernel
theorem dX9_isBalance_64 : decode cX9_isBalance 64 = .ok (.aload_n 0, 1) := by decide +kernel
theorem dX9_isBalance_65 : decode cX9_isBalance 65 = .ok (.iload_n 2, 1) := by decide +kernel
theorem dX9_isBalance_66 : decode cX9_isBalance 66 = .ok (.iload_n 1, 1) := by decide +kernel
theorem dX9_isBalance_67 : decode cX9_isBalance 67 = .ok (.iload 6, 2) := by decide +kernel
theorem dX9_isBalance_69 : decode cX9_isBalance 69 = .ok (.iload_n 3, 1) := by decide +kernel
theorem dX9_isBalance_70 : decode cX9_isBalance 70 = .ok (.iload 5, 2) := by decide +kernel
theorem dX9_isBalance_72 : decode cX9_isBalance 72 = .ok (.invokevirtual 174, 3) := by decide +kernel
theorem dX9_isBalance_75 : decode cX9_isBalance 75 = .ok (.aload_n 0, 1) := by decide +kernel
theorem dX9_isBalance_76 : decode cX9_isBalance 76 = .ok (.iload_n 2, 1) := by decide +kernel
theorem dX9_isBalance_77 : decode cX9_isBalance 77 = .ok (.iload_n 1, 1) := by decide +kernel
theorem dX9_isBalance_78 : decode cX9_isBalance 78 = .ok (.iload 4, 2) := by decide +kernel
theorem dX9_isBalance_80 : decode cX9_isBalance 80 = .ok (.iload_n 3, 1) := by decide +kernel
theorem dX9_isBalance_81 : decode cX9_isBalance 81 = .ok (.iload 5, 2) := by decide +kernel
theorem dX9_isBalance_83 : decode cX9_isBalance 83 = .ok (.invokevirtual 174, 3) := by decide +kernel
theorem dX9_isBalance_86 : decode cX9_isBalance 86 = .ok (.if_icmp .le 5, 3) := by decide +kernel
theorem dX9_isBalance_89 : decode cX9_isBalance 89 = .ok (.iconst 0, 1) := by decide +kernel
theorem dX9_isBalance_90 : decode cX9_isBalance 90 = .ok (.ireturn, 1) := by decide +kernel
theorem dX9_isBalance_91 : decode cX9_isBalance 91 = .ok (.iinc 6 1, 3) := by decide +kernel
theorem dX9_isBalance_94 : decode cX9_isBalance 94 = .ok (.goto (-91), 3) := by decide +kernel
theorem dX9_isBalance_97 : decode cX9_isBalance 97 = .ok (.iconst 1, 1) := by decide +kernel
theorem dX9_isBalance_98 : decode cX9_isBalance 98 = .ok (.ireturn, 1) := by decide +kernel
theorem dX9_areTwo_0 : decode cX9_areTwo 0 = .ok (.aload_n 0, 1) := by decide +kernel
theorem dX9_areTwo_1 : decode cX9_areTwo 1 = .ok (.iload_n 1, 1) := by decide +kernel
theorem dX9_areTwo_2 : decode cX9_areTwo 2 = .ok (.invokevirtual 111, 3) := by decide +kernel
theorem dX9_areTwo_5 : decode cX9_areTwo 5 = .ok (.ifCond .eq 27, 3) := by decide +kernel
theorem dX9_areTwo_8 : decode cX9_areTwo 8 = .ok (.aload_n 0, 1) := by decide +kernel
theorem dX9_areTwo_9 : decode cX9_areTwo 9 = .ok (.iload_n 2, 1) := by decide +kernel
theorem dX9_areTwo_10 : decode cX9_areTwo 10 = .ok (.invokevirtual 111, 3) := by decide +kernel
theorem dX9_areTwo_13 : decode cX9_areTwo 13 = .ok (.ifCond .eq 19, 3) := by decide +kernel
theorem dX9_areTwo_16 : decode cX9_areTwo 16 = .ok (.iload_n 1, 1) := by decide +kernel
theorem dX9_areTwo_17 : decode cX9_areTwo 17 = .ok (.iload_n 2, 1) := by decide +kernel
theorem dX9_areTwo_18 : decode cX9_areTwo 18 = .ok (.if_icmp .eq 14, 3) := by decide +kernel
theorem dX9_areTwo_21 : decode cX9_areTwo 21 = .ok (.iload_n 3, 1) := by decide +kernel
theorem dX9_areTwo_22 : decode cX9_areTwo 22 = .ok (.invokestatic 104, 3) := by decide +kernel
theorem dX9_areTwo_25 : decode cX9_areTwo 25 = .ok (.ifCond .eq 7, 3) := by decide +kernel
theorem dX9_areTwo_28 : decode cX9_areTwo 28 = .ok (.iconst 1, 1) := by decide +kernel
theorem dX9_areTwo_29 : decode cX9_areTwo 29 = .ok (.goto 4, 3) := by decide +kernel
theorem dX9_areTwo_32 : decode cX9_areTwo 32 = .ok (.iconst 0, 1) := by decide +kernel
theorem dX9_areTwo_33 : decode cX9_areTwo 33 = .ok (.ireturn, 1) := by decide +kernel
theorem dX9_balance_0 : decode cX9_balance 0 = .ok (.aload_n 0, 1) := by decide +kernel
theorem dX9_balance_1 : decode cX9_balance 1 = .ok (.iload_n 1, 1) := by decide +kernel
theorem dX9_balance_2 : decode cX9_balance 2 = .ok (.iload_n 2, 1) := by decide +kernel
theorem dX9_balance_3 : decode cX9_balance 3 = .ok (.iload_n 3, 1) := by decide +kernel
theorem dX9_balance_4 : decode cX9_balance 4 = .ok (.invokevirtual 178, 3) := by decide +kernel
theorem dX9_balance_7 : decode cX9_balance 7 = .ok (.ifCond .eq 8, 3) := by decide +kernel
theorem dX9_balance_10 : decode cX9_balance 10 = .ok (.iload 4, 2) := by decide +kernel
theorem dX9_balance_12 : decode cX9_balance 12 = .ok (.ifCond .ge 9, 3) := by decide +kernel
theorem dX9_balance_15 : decode cX9_balance 15 = .ok (.aload_n 0, 1) := by decide +kernel
theorem dX9_balance_16 : decode cX9_balance 16 = .ok (.iconst 1, 1) := by decide +kernel
theorem dX9_balance_17 : decode cX9_balance 17 = .ok (.invokevirtual 107, 3) := by decide +kernel
theorem dX9_balance_20 : decode cX9_balance 20 = .ok (.ireturn, 1) := by decide +kernel
theorem dX9_balance_21 : decode cX9_balance 21 = .ok (.iload 4, 2) := by decide +kernel
theorem dX9_balance_23 : decode cX9_balance 23 = .ok (.istore 5, 2) := by decide +kernel
theorem dX9_balance_25 : decode cX9_balance 25 = .ok (.iconst 0, 1) := by decide +kernel
theorem dX9_balance_26 : decode cX9_balance 26 = .ok (.istore 6, 2) := by decide +kernel
theorem dX9_balance_28 : decode cX9_balance 28 = .ok (.iload 6, 2) := by decide +kernel
theorem dX9_balance_30 : decode cX9_balance 30 = .ok (.aload_n 0, 1) := by decide +kernel
theorem dX9_balance_31 : decode cX9_balance 31 = .ok (.getfield 90, 3) := by decide +kernel
theorem dX9_balance_34 : decode cX9_balance 34 = .ok (.if_icmp .ge 83, 3) := by decide +kernel
theorem dX9_balance_37 : decode cX9_balance 37 = .ok (.iconst 0, 1) := by decide +kernel
theorem dX9_balance_38 : decode cX9_balance 38 = .ok (.istore 7, 2) := by decide +kernel
theorem dX9_balance_40 : decode cX9_balance 40 = .ok (.iload 7, 2) := by decide +kernel
theorem dX9_balance_42 : decode cX9_balance 42 = .ok (.aload_n 0, 1) := by decide +kernel
theorem dX9_balance_43 : decode cX9_balance 43 = .ok (.getfield 90, 3) := by decide +kernel
theorem dX9_balance_46 : decode cX9_balance 46 = .ok (.if_icmp .ge 65, 3) := by decide +kernel
theorem dX9_balance_49 : decode cX9_balance 49 = .ok (.aload_n 0, 1) := by decide +kernel
theorem dX9_balance_50 : decode cX9_balance 50 = .ok (.iload_n 1, 1) := by decide +kernel
theorem dX9_balance_51 : decode cX9_balance 51 = .ok (.iload 6, 2) := by decide +kernel
theorem dX9_balance_53 : decode cX9_balance 53 = .ok (.iload_n 3, 1) := by decide +kernel
theorem dX9_balance_54 : decode cX9_balance 54 = .ok (.invokevirtual 124, 3) := by decide +kernel
theorem dX9_balance_57 : decode cX9_balance 57 = .ok (.ifCond .eq 48, 3) := by decide +kernel
theorem dX9_balance_60 : decode cX9_balance 60 = .ok (.aload_n 0, 1) := by decide +kernel
theorem dX9_balance_61 : decode cX9_balance 61 = .ok (.iload_n 2, 1) := by decide +kernel
theorem dX9_balance_62 : decode cX9_balance 62 = .ok (.iload 7, 2) := by decide +kernel
theorem dX9_balance_64 : decode cX9_balance 64 = .ok (.iload_n 3, 1) := by decide +kernel
theorem dX9_balance_65 : decode cX9_balance 65 = .ok (.invokevirtual 124, 3) := by decide +kernel
theorem dX9_balance_68 : decode cX9_balance 68 = .ok (.ifCond .eq 37, 3) := by decide +kernel
theorem dX9_balance_71 : decode cX9_balance 71 = .ok (.aload_n 0, 1) := by decide +kernel
theorem dX9_balance_72 : decode cX9_balance 72 = .ok (.iload_n 1, 1) := by decide +kernel
theorem dX9_balance_73 : decode cX9_balance 73 = .ok (.iload_n 2, 1) := by decide +kernel
theorem dX9_balance_74 : decode cX9_balance 74 = .ok (.iload 6, 2) := by decide +kernel
theorem dX9_balance_76 : decode cX9_balance 76 = .ok (.iload 7, 2) := by decide +kernel
theorem dX9_balance_78 : decode cX9_balance 78 = .ok (.iload_n 3, 1) := by decide +kernel
theorem dX9_balance_79 : decode cX9_balance 79 = .ok (.invokevirtual 181, 3) := by decide +kernel
theorem dX9_balance_82 : decode cX9_balance 82 = .ok (.ifCond .ne 6, 3) := by decide +kernel
theorem dX9_balance_85 : decode cX9_balance 85 = .ok (.goto 20, 3) := by decide +kernel
theorem dX9_balance_88 : decode cX9_balance 88 = .ok (.iload 5, 2) := by decide +kernel
theorem dX9_balance_90 : decode cX9_balance 90 = .ok (.ifCond .ne 12, 3) := by decide +kernel
theorem dX9_balance_93 : decode cX9_balance 93 = .ok (.bipush 10, 2) := by decide +kernel
theorem dX9_balance_95 : decode cX9_balance 95 = .ok (.iload 6, 2) := by decide +kernel
theorem dX9_balance_97 : decode cX9_balance 97 = .ok (.imul, 1) := by decide +kernel
theorem dX9_balance_98 : decode cX9_balance 98 = .ok (.iload 7, 2) := by decide +kernel
theorem dX9_balance_100 : decode cX9_balance 100 = .ok (.iadd, 1) := by decide +kernel
theorem dX9_balance_101 : decode cX9_balance 101 = .ok (.ireturn, 1) := by decide +kernel
theorem dX9_balance_102 : decode cX9_balance 102 = .ok (.iinc 5 (-1), 3) := by decide +kernel
theorem dX9_balance_105 : decode cX9_balance 105 = .ok (.iinc 7 1, 3) := by decide +kernel
theorem dX9_balance_108 : decode cX9_balance 108 = .ok (.goto (-68), 3) := by decide +kernel
theorem dX9_balance_111 : decode cX9_balance 111 = .ok (.iinc 6 1, 3) := by decide +kernel
theorem dX9_balance_114 : decode cX9_balance 114 = .ok (.goto (-86), 3) := by decide +kernel
theorem dX9_balance_117 : decode cX9_balance 117 = .ok (.aload_n 0, 1) := by decide +kernel
theorem dX9_balance_118 : decode cX9_balance 118 = .ok (.iconst 2, 1) := by decide +kernel
theorem dX9_balance_119 : decode cX9_balance 119 = .ok (.invokevirtual 107, 3) := by decide +kernel
theorem dX9_balance_122 : decode cX9_balance 122 = .ok (.ireturn, 1) := by decide +kernel
theorem dX9_together_0 : decode cX9_together 0 = .ok (.aload_n 0, 1) := by decide +kernel
theorem dX9_together_1 : decode cX9_together 1 = .ok (.iload_n 1, 1) := by decide +kernel
theorem dX9_together_2 : decode cX9_together 2 = .ok (.iload_n 2, 1) := by decide +kernel
theorem dX9_together_3 : decode cX9_together 3 = .ok (.iload_n 3, 1) := by decide +kernel
theorem dX9_together_4 : decode cX9_together 4 = .ok (.invokevirtual 178, 3) := by decide +kernel
theorem dX9_together_7 : decode cX9_together 7 = .ok (.ifCond .ne 9, 3) := by decide +kernel
theorem dX9_together_10 : decode cX9_together 10 = .ok (.aload_n 0, 1) := by decide +kernel
theorem dX9_together_11 : decode cX9_together 11 = .ok (.iconst 1, 1) := by decide +kernel
theorem dX9_together_12 : decode cX9_together 12 = .ok (.invokevirtual 107, 3) := by decide +kernel
theorem dX9_together_15 : decode cX9_together 15 = .ok (.ireturn, 1) := by decide +kernel
theorem dX9_together_16 : decode cX9_together 16 = .ok (.iconst (-1), 1) := by decide +kernel
theorem dX9_together_17 : decode cX9_together 17 = .ok (.istore 4, 2) := by decide +kernel
theorem dX9_together_19 : decode cX9_together 19 = .ok (.iconst (-1), 1) := by decide +kernel
theorem dX9_together_20 : decode cX9_together 20 = .ok (.istore 5, 2) := by decide +kernel
theorem dX9_together_22 : decode cX9_together 22 = .ok (.iconst 0, 1) := by decide +kernel
theorem dX9_together_23 : decode cX9_together 23 = .ok (.istore 6, 2) := by decide +kernel
theorem dX9_together_25 : decode cX9_together 25 = .ok (.iload 6, 2) := by decide +kernel
theorem dX9_together_27 : decode cX9_together 27 = .ok (.aload_n 0, 1) := by decide +kernel
theorem dX9_together_28 : decode cX9_together 28 = .ok (.getfield 90, 3) := by decide +kernel
