theorem dX9_sells_56 : decode cX9_sells 56 = .ok (.aload_n 0, 1) := by decide +kernel
theorem dX9_sells_57 : decode cX9_sells 57 = .ok (.getfield 71, 3) := by decide +kernel
theorem dX9_sells_60 : decode cX9_sells 60 = .ok (.iload 5, 2) := by decide +kernel
theorem dX9_sells_62 : decode cX9_sells 62 = .ok (.iaload, 1) := by decide +kernel
theorem dX9_sells_63 : decode cX9_sells 63 = .ok (.isub, 1) := by decide +kernel
theorem dX9_sells_64 : decode cX9_sells 64 = .ok (.iconst 3, 1) := by decide +kernel
theorem dX9_sells_65 : decode cX9_sells 65 = .ok (.if_icmp .ge 7, 3) := by decide +kernel
theorem dX9_sells_68 : decode cX9_sells 68 = .ok (.iconst 1, 1) := by decide +kernel
theorem dX9_sells_69 : decode cX9_sells 69 = .ok (.goto 4, 3) := by decide +kernel
theorem dX9_sells_72 : decode cX9_sells 72 = .ok (.iconst 0, 1) := by decide +kernel
theorem dX9_sells_73 : decode cX9_sells 73 = .ok (.istore 4, 2) := by decide +kernel
theorem dX9_sells_75 : decode cX9_sells 75 = .ok (.iinc 5 1, 3) := by decide +kernel
theorem dX9_sells_78 : decode cX9_sells 78 = .ok (.goto (-55), 3) := by decide +kernel
theorem dX9_sells_81 : decode cX9_sells 81 = .ok (.iload 4, 2) := by decide +kernel
theorem dX9_sells_83 : decode cX9_sells 83 = .ok (.ifCond .eq 9, 3) := by decide +kernel
theorem dX9_sells_86 : decode cX9_sells 86 = .ok (.iload_n 3, 1) := by decide +kernel
theorem dX9_sells_87 : decode cX9_sells 87 = .ok (.iconst 2, 1) := by decide +kernel
theorem dX9_sells_88 : decode cX9_sells 88 = .ok (.idiv, 1) := by decide +kernel
theorem dX9_sells_89 : decode cX9_sells 89 = .ok (.goto 4, 3) := by decide +kernel
theorem dX9_sells_92 : decode cX9_sells 92 = .ok (.iload_n 3, 1) := by decide +kernel
theorem dX9_sells_93 : decode cX9_sells 93 = .ok (.istore 5, 2) := by decide +kernel
theorem dX9_sells_95 : decode cX9_sells 95 = .ok (.aload_n 0, 1) := by decide +kernel
theorem dX9_sells_96 : decode cX9_sells 96 = .ok (.getfield 32, 3) := by decide +kernel
theorem dX9_sells_99 : decode cX9_sells 99 = .ok (.iload_n 1, 1) := by decide +kernel
theorem dX9_sells_100 : decode cX9_sells 100 = .ok (.iaload, 1) := by decide +kernel
theorem dX9_sells_101 : decode cX9_sells 101 = .ok (.iconst 1, 1) := by decide +kernel
theorem dX9_sells_102 : decode cX9_sells 102 = .ok (.if_icmp .ne 15, 3) := by decide +kernel
theorem dX9_sells_105 : decode cX9_sells 105 = .ok (.iload 5, 2) := by decide +kernel
theorem dX9_sells_107 : decode cX9_sells 107 = .ok (.bipush 30, 2) := by decide +kernel
theorem dX9_sells_109 : decode cX9_sells 109 = .ok (.if_icmp .le 8, 3) := by decide +kernel
theorem dX9_sells_112 : decode cX9_sells 112 = .ok (.bipush 30, 2) := by decide +kernel
theorem dX9_sells_114 : decode cX9_sells 114 = .ok (.goto 5, 3) := by decide +kernel
theorem dX9_sells_117 : decode cX9_sells 117 = .ok (.iload 5, 2) := by decide +kernel
theorem dX9_sells_119 : decode cX9_sells 119 = .ok (.istore 5, 2) := by decide +kernel
theorem dX9_sells_121 : decode cX9_sells 121 = .ok (.iload_n 2, 1) := by decide +kernel
theorem dX9_sells_122 : decode cX9_sells 122 = .ok (.ifCond .ne 12, 3) := by decide +kernel
theorem dX9_sells_125 : decode cX9_sells 125 = .ok (.aload_n 0, 1) := by decide +kernel
theorem dX9_sells_126 : decode cX9_sells 126 = .ok (.getfield 35, 3) := by decide +kernel
theorem dX9_sells_129 : decode cX9_sells 129 = .ok (.iload_n 1, 1) := by decide +kernel
theorem dX9_sells_130 : decode cX9_sells 130 = .ok (.iaload, 1) := by decide +kernel
theorem dX9_sells_131 : decode cX9_sells 131 = .ok (.goto 11, 3) := by decide +kernel
theorem dX9_sells_134 : decode cX9_sells 134 = .ok (.aload_n 0, 1) := by decide +kernel
theorem dX9_sells_135 : decode cX9_sells 135 = .ok (.getfield 77, 3) := by decide +kernel
theorem dX9_sells_138 : decode cX9_sells 138 = .ok (.iload_n 2, 1) := by decide +kernel
theorem dX9_sells_139 : decode cX9_sells 139 = .ok (.iconst 1, 1) := by decide +kernel
theorem dX9_sells_140 : decode cX9_sells 140 = .ok (.isub, 1) := by decide +kernel
theorem dX9_sells_141 : decode cX9_sells 141 = .ok (.iaload, 1) := by decide +kernel
theorem dX9_sells_142 : decode cX9_sells 142 = .ok (.istore 6, 2) := by decide +kernel
theorem dX9_sells_144 : decode cX9_sells 144 = .ok (.iload 6, 2) := by decide +kernel
theorem dX9_sells_146 : decode cX9_sells 146 = .ok (.iload 5, 2) := by decide +kernel
theorem dX9_sells_148 : decode cX9_sells 148 = .ok (.if_icmp .ge 8, 3) := by decide +kernel
theorem dX9_sells_151 : decode cX9_sells 151 = .ok (.iload 6, 2) := by decide +kernel
theorem dX9_sells_153 : decode cX9_sells 153 = .ok (.goto 5, 3) := by decide +kernel
theorem dX9_sells_156 : decode cX9_sells 156 = .ok (.iload 5, 2) := by decide +kernel
theorem dX9_sells_158 : decode cX9_sells 158 = .ok (.istore 7, 2) := by decide +kernel
theorem dX9_sells_160 : decode cX9_sells 160 = .ok (.iload 6, 2) := by decide +kernel
theorem dX9_sells_162 : decode cX9_sells 162 = .ok (.iload 7, 2) := by decide +kernel
theorem dX9_sells_164 : decode cX9_sells 164 = .ok (.isub, 1) := by decide +kernel
theorem dX9_sells_165 : decode cX9_sells 165 = .ok (.istore 8, 2) := by decide +kernel
theorem dX9_sells_167 : decode cX9_sells 167 = .ok (.aload_n 0, 1) := by decide +kernel
theorem dX9_sells_168 : decode cX9_sells 168 = .ok (.getfield 74, 3) := by decide +kernel
theorem dX9_sells_171 : decode cX9_sells 171 = .ok (.iload_n 2, 1) := by decide +kernel
theorem dX9_sells_172 : decode cX9_sells 172 = .ok (.iload_n 2, 1) := by decide +kernel
theorem dX9_sells_173 : decode cX9_sells 173 = .ok (.ifCond .ne 7, 3) := by decide +kernel
theorem dX9_sells_176 : decode cX9_sells 176 = .ok (.iconst 0, 1) := by decide +kernel
theorem dX9_sells_177 : decode cX9_sells 177 = .ok (.goto 11, 3) := by decide +kernel
theorem dX9_sells_180 : decode cX9_sells 180 = .ok (.aload_n 0, 1) := by decide +kernel
theorem dX9_sells_181 : decode cX9_sells 181 = .ok (.getfield 74, 3) := by decide +kernel
theorem dX9_sells_184 : decode cX9_sells 184 = .ok (.iload_n 2, 1) := by decide +kernel
theorem dX9_sells_185 : decode cX9_sells 185 = .ok (.iconst 1, 1) := by decide +kernel
theorem dX9_sells_186 : decode cX9_sells 186 = .ok (.isub, 1) := by decide +kernel
theorem dX9_sells_187 : decode cX9_sells 187 = .ok (.iaload, 1) := by decide +kernel
theorem dX9_sells_188 : decode cX9_sells 188 = .ok (.iload 7, 2) := by decide +kernel
theorem dX9_sells_190 : decode cX9_sells 190 = .ok (.iadd, 1) := by decide +kernel
theorem dX9_sells_191 : decode cX9_sells 191 = .ok (.iastore, 1) := by decide +kernel
theorem dX9_sells_192 : decode cX9_sells 192 = .ok (.aload_n 0, 1) := by decide +kernel
theorem dX9_sells_193 : decode cX9_sells 193 = .ok (.getfield 77, 3) := by decide +kernel
theorem dX9_sells_196 : decode cX9_sells 196 = .ok (.iload_n 2, 1) := by decide +kernel
theorem dX9_sells_197 : decode cX9_sells 197 = .ok (.iload 8, 2) := by decide +kernel
theorem dX9_sells_199 : decode cX9_sells 199 = .ok (.aload_n 0, 1) := by decide +kernel
theorem dX9_sells_200 : decode cX9_sells 200 = .ok (.getfield 32, 3) := by decide +kernel
theorem dX9_sells_203 : decode cX9_sells 203 = .ok (.iload_n 1, 1) := by decide +kernel
theorem dX9_sells_204 : decode cX9_sells 204 = .ok (.iaload, 1) := by decide +kernel
theorem dX9_sells_205 : decode cX9_sells 205 = .ok (.iconst 1, 1) := by decide +kernel
theorem dX9_sells_206 : decode cX9_sells 206 = .ok (.if_icmp .ne 10, 3) := by decide +kernel
theorem dX9_sells_209 : decode cX9_sells 209 = .ok (.iload 8, 2) := by decide +kernel
theorem dX9_sells_211 : decode cX9_sells 211 = .ok (.iconst 5, 1) := by decide +kernel
theorem dX9_sells_212 : decode cX9_sells 212 = .ok (.idiv, 1) := by decide +kernel
theorem dX9_sells_213 : decode cX9_sells 213 = .ok (.goto 22, 3) := by decide +kernel
theorem dX9_sells_216 : decode cX9_sells 216 = .ok (.aload_n 0, 1) := by decide +kernel
theorem dX9_sells_217 : decode cX9_sells 217 = .ok (.getfield 32, 3) := by decide +kernel
theorem dX9_sells_220 : decode cX9_sells 220 = .ok (.iload_n 1, 1) := by decide +kernel
theorem dX9_sells_221 : decode cX9_sells 221 = .ok (.iaload, 1) := by decide +kernel
theorem dX9_sells_222 : decode cX9_sells 222 = .ok (.iconst 2, 1) := by decide +kernel
theorem dX9_sells_223 : decode cX9_sells 223 = .ok (.if_icmp .ne 7, 3) := by decide +kernel
theorem dX9_sells_226 : decode cX9_sells 226 = .ok (.iconst 0, 1) := by decide +kernel
theorem dX9_sells_227 : decode cX9_sells 227 = .ok (.goto 8, 3) := by decide +kernel
theorem dX9_sells_230 : decode cX9_sells 230 = .ok (.iload 8, 2) := by decide +kernel
theorem dX9_sells_232 : decode cX9_sells 232 = .ok (.bipush 10, 2) := by decide +kernel
theorem dX9_sells_234 : decode cX9_sells 234 = .ok (.idiv, 1) := by decide +kernel
theorem dX9_sells_235 : decode cX9_sells 235 = .ok (.isub, 1) := by decide +kernel
theorem dX9_sells_236 : decode cX9_sells 236 = .ok (.iastore, 1) := by decide +kernel
theorem dX9_sells_237 : decode cX9_sells 237 = .ok (.return_, 1) := by decide +kernel
theorem dX9_note_0 : decode cX9_note 0 = .ok (.aload_n 0, 1) := by decide +kernel
theorem dX9_note_1 : decode cX9_note 1 = .ok (.getfield 131, 3) := by decide +kernel
theorem dX9_note_4 : decode cX9_note 4 = .ok (.ifCond .le 19, 3) := by decide +kernel
theorem dX9_note_7 : decode cX9_note 7 = .ok (.aload_n 0, 1) := by decide +kernel
theorem dX9_note_8 : decode cX9_note 8 = .ok (.getfield 74, 3) := by decide +kernel
theorem dX9_note_11 : decode cX9_note 11 = .ok (.iload_n 1, 1) := by decide +kernel
theorem dX9_note_12 : decode cX9_note 12 = .ok (.iconst 1, 1) := by decide +kernel
theorem dX9_note_13 : decode cX9_note 13 = .ok (.isub, 1) := by decide +kernel
theorem dX9_note_14 : decode cX9_note 14 = .ok (.iaload, 1) := by decide +kernel
theorem dX9_note_15 : decode cX9_note 15 = .ok (.aload_n 0, 1) := by decide +kernel
theorem dX9_note_16 : decode cX9_note 16 = .ok (.getfield 134, 3) := by decide +kernel
theorem dX9_note_19 : decode cX9_note 19 = .ok (.if_icmp .gt 4, 3) := by decide +kernel
theorem dX9_note_22 : decode cX9_note 22 = .ok (.return_, 1) := by decide +kernel
theorem dX9_note_23 : decode cX9_note 23 = .ok (.aload_n 0, 1) := by decide +kernel
theorem dX9_note_24 : decode cX9_note 24 = .ok (.iload_n 1, 1) := by decide +kernel
theorem dX9_note_25 : decode cX9_note 25 = .ok (.putfield 131, 3) := by decide +kernel
theorem dX9_note_28 : decode cX9_note 28 = .ok (.aload_n 0, 1) := by decide +kernel
theorem dX9_note_29 : decode cX9_note 29 = .ok (.aload_n 0, 1) := by decide +kernel
theorem dX9_note_30 : decode cX9_note 30 = .ok (.getfield 74, 3) := by decide +kernel
theorem dX9_note_33 : decode cX9_note 33 = .ok (.iload_n 1, 1) := by decide +kernel
theorem dX9_note_34 : decode cX9_note 34 = .ok (.iconst 1, 1) := by decide +kernel
theorem dX9_note_35 : decode cX9_note 35 = .ok (.isub, 1) := by decide +kernel
theorem dX9_note_36 : decode cX9_note 36 = .ok (.iaload, 1) := by decide +kernel
theorem dX9_note_37 : decode cX9_note 37 = .ok (.putfield 134, 3) := by decide +kernel
theorem dX9_note_40 : decode cX9_note 40 = .ok (.aload_n 0, 1) := by decide +kernel
theorem dX9_note_41 : decode cX9_note 41 = .ok (.aload_n 0, 1) := by decide +kernel
theorem dX9_note_42 : decode cX9_note 42 = .ok (.getfield 77, 3) := by decide +kernel
theorem dX9_note_45 : decode cX9_note 45 = .ok (.iload_n 1, 1) := by decide +kernel
theorem dX9_note_46 : decode cX9_note 46 = .ok (.iconst 1, 1) := by decide +kernel
theorem dX9_note_47 : decode cX9_note 47 = .ok (.isub, 1) := by decide +kernel
theorem dX9_note_48 : decode cX9_note 48 = .ok (.iaload, 1) := by decide +kernel
theorem dX9_note_49 : decode cX9_note 49 = .ok (.putfield 137, 3) := by decide +kernel
theorem dX9_note_52 : decode cX9_note 52 = .ok (.iconst 0, 1) := by decide +kernel
theorem dX9_note_53 : decode cX9_note 53 = .ok (.istore_n 2, 1) := by decide +kernel
theorem dX9_note_54 : decode cX9_note 54 = .ok (.iload_n 2, 1) := by decide +kernel
theorem dX9_note_55 : decode cX9_note 55 = .ok (.iload_n 1, 1) := by decide +kernel
theorem dX9_note_56 : decode cX9_note 56 = .ok (.if_icmp .ge 33, 3) := by decide +kernel
theorem dX9_note_59 : decode cX9_note 59 = .ok (.aload_n 0, 1) := by decide +kernel
theorem dX9_note_60 : decode cX9_note 60 = .ok (.getfield 83, 3) := by decide +kernel
theorem dX9_note_63 : decode cX9_note 63 = .ok (.iload_n 2, 1) := by decide +kernel
theorem dX9_note_64 : decode cX9_note 64 = .ok (.aload_n 0, 1) := by decide +kernel
theorem dX9_note_65 : decode cX9_note 65 = .ok (.getfield 68, 3) := by decide +kernel
theorem dX9_note_68 : decode cX9_note 68 = .ok (.iload_n 2, 1) := by decide +kernel
theorem dX9_note_69 : decode cX9_note 69 = .ok (.iaload, 1) := by decide +kernel
theorem dX9_note_70 : decode cX9_note 70 = .ok (.iastore, 1) := by decide +kernel
theorem dX9_note_71 : decode cX9_note 71 = .ok (.aload_n 0, 1) := by decide +kernel
theorem dX9_note_72 : decode cX9_note 72 = .ok (.getfield 86, 3) := by decide +kernel
theorem dX9_note_75 : decode cX9_note 75 = .ok (.iload_n 2, 1) := by decide +kernel
theorem dX9_note_76 : decode cX9_note 76 = .ok (.aload_n 0, 1) := by decide +kernel
theorem dX9_note_77 : decode cX9_note 77 = .ok (.getfield 71, 3) := by decide +kernel
theorem dX9_note_80 : decode cX9_note 80 = .ok (.iload_n 2, 1) := by decide +kernel
theorem dX9_note_81 : decode cX9_note 81 = .ok (.iaload, 1) := by decide +kernel
theorem dX9_note_82 : decode cX9_note 82 = .ok (.iastore, 1) := by decide +kernel
theorem dX9_note_83 : decode cX9_note 83 = .ok (.iinc 2 1, 3) := by decide +kernel
theorem dX9_note_86 : decode cX9_note 86 = .ok (.goto (-32), 3) := by decide +kernel
theorem dX9_note_89 : decode cX9_note 89 = .ok (.return_, 1) := by decide +kernel
theorem dX9_findPlan_0 : decode cX9_findPlan 0 = .ok (.aload_n 0, 1) := by decide +kernel
theorem dX9_findPlan_1 : decode cX9_findPlan 1 = .ok (.iconst 0, 1) := by decide +kernel
theorem dX9_findPlan_2 : decode cX9_findPlan 2 = .ok (.putfield 131, 3) := by decide +kernel
theorem dX9_findPlan_5 : decode cX9_findPlan 5 = .ok (.aload_n 0, 1) := by decide +kernel
theorem dX9_findPlan_6 : decode cX9_findPlan 6 = .ok (.getfield 68, 3) := by decide +kernel
theorem dX9_findPlan_9 : decode cX9_findPlan 9 = .ok (.iconst 0, 1) := by decide +kernel
theorem dX9_findPlan_10 : decode cX9_findPlan 10 = .ok (.iload_n 2, 1) := by decide +kernel
theorem dX9_findPlan_11 : decode cX9_findPlan 11 = .ok (.bipush 100, 2) := by decide +kernel
theorem dX9_findPlan_13 : decode cX9_findPlan 13 = .ok (.idiv, 1) := by decide +kernel
theorem dX9_findPlan_14 : decode cX9_findPlan 14 = .ok (.iastore, 1) := by decide +kernel
theorem dX9_findPlan_15 : decode cX9_findPlan 15 = .ok (.aload_n 0, 1) := by decide +kernel
theorem dX9_findPlan_16 : decode cX9_findPlan 16 = .ok (.getfield 71, 3) := by decide +kernel
theorem dX9_findPlan_19 : decode cX9_findPlan 19 = .ok (.iconst 0, 1) := by decide +kernel
theorem dX9_findPlan_20 : decode cX9_findPlan 20 = .ok (.iload_n 2, 1) := by decide +kernel
theorem dX9_findPlan_21 : decode cX9_findPlan 21 = .ok (.bipush 100, 2) := by decide +kernel
theorem dX9_findPlan_23 : decode cX9_findPlan 23 = .ok (.irem, 1) := by decide +kernel
theorem dX9_findPlan_24 : decode cX9_findPlan 24 = .ok (.iastore, 1) := by decide +kernel
theorem dX9_findPlan_25 : decode cX9_findPlan 25 = .ok (.aload_n 0, 1) := by decide +kernel
theorem dX9_findPlan_26 : decode cX9_findPlan 26 = .ok (.getfield 71, 3) := by decide +kernel
theorem dX9_findPlan_29 : decode cX9_findPlan 29 = .ok (.iconst 0, 1) := by decide +kernel
theorem dX9_findPlan_30 : decode cX9_findPlan 30 = .ok (.iaload, 1) := by decide +kernel
theorem dX9_findPlan_31 : decode cX9_findPlan 31 = .ok (.iload_n 3, 1) := by decide +kernel
theorem dX9_findPlan_32 : decode cX9_findPlan 32 = .ok (.iadd, 1) := by decide +kernel
theorem dX9_findPlan_33 : decode cX9_findPlan 33 = .ok (.iconst 1, 1) := by decide +kernel
theorem dX9_findPlan_34 : decode cX9_findPlan 34 = .ok (.isub, 1) := by decide +kernel
theorem dX9_findPlan_35 : decode cX9_findPlan 35 = .ok (.bipush 11, 2) := by decide +kernel
theorem dX9_findPlan_37 : decode cX9_findPlan 37 = .ok (.if_icmp .ge 16, 3) := by decide +kernel
theorem dX9_findPlan_40 : decode cX9_findPlan 40 = .ok (.aload_n 0, 1) := by decide +kernel
theorem dX9_findPlan_41 : decode cX9_findPlan 41 = .ok (.getfield 71, 3) := by decide +kernel
theorem dX9_findPlan_44 : decode cX9_findPlan 44 = .ok (.iconst 0, 1) := by decide +kernel
theorem dX9_findPlan_45 : decode cX9_findPlan 45 = .ok (.iaload, 1) := by decide +kernel
theorem dX9_findPlan_46 : decode cX9_findPlan 46 = .ok (.iload_n 3, 1) := by decide +kernel
theorem dX9_findPlan_47 : decode cX9_findPlan 47 = .ok (.iadd, 1) := by decide +kernel
theorem dX9_findPlan_48 : decode cX9_findPlan 48 = .ok (.iconst 1, 1) := by decide +kernel
theorem dX9_findPlan_49 : decode cX9_findPlan 49 = .ok (.isub, 1) := by decide +kernel
theorem dX9_findPlan_50 : decode cX9_findPlan 50 = .ok (.goto 5, 3) := by decide +kernel
theorem dX9_findPlan_53 : decode cX9_findPlan 53 = .ok (.bipush 11, 2) := by decide +kernel
theorem dX9_findPlan_55 : decode cX9_findPlan 55 = .ok (.istore 4, 2) := by decide +kernel
theorem dX9_findPlan_57 : decode cX9_findPlan 57 = .ok (.aload_n 0, 1) := by decide +kernel
theorem dX9_findPlan_58 : decode cX9_findPlan 58 = .ok (.iload_n 1, 1) := by decide +kernel
theorem dX9_findPlan_59 : decode cX9_findPlan 59 = .ok (.iconst 0, 1) := by decide +kernel
theorem dX9_findPlan_60 : decode cX9_findPlan 60 = .ok (.invokevirtual 140, 3) := by decide +kernel
theorem dX9_findPlan_63 : decode cX9_findPlan 63 = .ok (.aload_n 0, 1) := by decide +kernel
theorem dX9_findPlan_64 : decode cX9_findPlan 64 = .ok (.iconst 1, 1) := by decide +kernel
theorem dX9_findPlan_65 : decode cX9_findPlan 65 = .ok (.invokevirtual 144, 3) := by decide +kernel
theorem dX9_findPlan_68 : decode cX9_findPlan 68 = .ok (.aload_n 0, 1) := by decide +kernel
theorem dX9_findPlan_69 : decode cX9_findPlan 69 = .ok (.getfield 80, 3) := by decide +kernel
theorem dX9_findPlan_72 : decode cX9_findPlan 72 = .ok (.iconst 0, 1) := by decide +kernel
theorem dX9_findPlan_73 : decode cX9_findPlan 73 = .ok (.iconst 0, 1) := by decide +kernel
theorem dX9_findPlan_74 : decode cX9_findPlan 74 = .ok (.iastore, 1) := by decide +kernel
theorem dX9_findPlan_75 : decode cX9_findPlan 75 = .ok (.iconst 1, 1) := by decide +kernel
theorem dX9_findPlan_76 : decode cX9_findPlan 76 = .ok (.istore 5, 2) := by decide +kernel
theorem dX9_findPlan_78 : decode cX9_findPlan 78 = .ok (.iload 5, 2) := by decide +kernel
theorem dX9_findPlan_80 : decode cX9_findPlan 80 = .ok (.ifCond .le 137, 3) := by decide +kernel
theorem dX9_findPlan_83 : decode cX9_findPlan 83 = .ok (.aload_n 0, 1) := by decide +kernel
theorem dX9_findPlan_84 : decode cX9_findPlan 84 = .ok (.getfield 80, 3) := by decide +kernel
theorem dX9_findPlan_87 : decode cX9_findPlan 87 = .ok (.iload 5, 2) := by decide +kernel
theorem dX9_findPlan_89 : decode cX9_findPlan 89 = .ok (.iconst 1, 1) := by decide +kernel
theorem dX9_findPlan_90 : decode cX9_findPlan 90 = .ok (.isub, 1) := by decide +kernel
theorem dX9_findPlan_91 : decode cX9_findPlan 91 = .ok (.iaload, 1) := by decide +kernel
theorem dX9_findPlan_92 : decode cX9_findPlan 92 = .ok (.istore 6, 2) := by decide +kernel
theorem dX9_findPlan_94 : decode cX9_findPlan 94 = .ok (.iload 6, 2) := by decide +kernel
theorem dX9_findPlan_96 : decode cX9_findPlan 96 = .ok (.aload_n 0, 1) := by decide +kernel
theorem dX9_findPlan_97 : decode cX9_findPlan 97 = .ok (.getfield 90, 3) := by decide +kernel
theorem dX9_findPlan_100 : decode cX9_findPlan 100 = .ok (.if_icmp .ne 9, 3) := by decide +kernel
theorem dX9_findPlan_103 : decode cX9_findPlan 103 = .ok (.iinc 5 (-1), 3) := by decide +kernel
theorem dX9_findPlan_106 : decode cX9_findPlan 106 = .ok (.goto (-28), 3) := by decide +kernel
theorem dX9_findPlan_109 : decode cX9_findPlan 109 = .ok (.aload_n 0, 1) := by decide +kernel
theorem dX9_findPlan_110 : decode cX9_findPlan 110 = .ok (.getfield 80, 3) := by decide +kernel
theorem dX9_findPlan_113 : decode cX9_findPlan 113 = .ok (.iload 5, 2) := by decide +kernel
theorem dX9_findPlan_115 : decode cX9_findPlan 115 = .ok (.iconst 1, 1) := by decide +kernel
theorem dX9_findPlan_116 : decode cX9_findPlan 116 = .ok (.isub, 1) := by decide +kernel
theorem dX9_findPlan_117 : decode cX9_findPlan 117 = .ok (.dup2, 1) := by decide +kernel
theorem dX9_findPlan_118 : decode cX9_findPlan 118 = .ok (.iaload, 1) := by decide +kernel
theorem dX9_findPlan_119 : decode cX9_findPlan 119 = .ok (.iconst 1, 1) := by decide +kernel
theorem dX9_findPlan_120 : decode cX9_findPlan 120 = .ok (.iadd, 1) := by decide +kernel
theorem dX9_findPlan_121 : decode cX9_findPlan 121 = .ok (.iastore, 1) := by decide +kernel
theorem dX9_findPlan_122 : decode cX9_findPlan 122 = .ok (.aload_n 0, 1) := by decide +kernel
theorem dX9_findPlan_123 : decode cX9_findPlan 123 = .ok (.getfield 71, 3) := by decide +kernel
theorem dX9_findPlan_126 : decode cX9_findPlan 126 = .ok (.iload 5, 2) := by decide +kernel
theorem dX9_findPlan_128 : decode cX9_findPlan 128 = .ok (.iconst 1, 1) := by decide +kernel
theorem dX9_findPlan_129 : decode cX9_findPlan 129 = .ok (.isub, 1) := by decide +kernel
theorem dX9_findPlan_130 : decode cX9_findPlan 130 = .ok (.iaload, 1) := by decide +kernel
theorem dX9_findPlan_131 : decode cX9_findPlan 131 = .ok (.aload_n 0, 1) := by decide +kernel
theorem dX9_findPlan_132 : decode cX9_findPlan 132 = .ok (.iload_n 1, 1) := by decide +kernel
theorem dX9_findPlan_133 : decode cX9_findPlan 133 = .ok (.aload_n 0, 1) := by decide +kernel
theorem dX9_findPlan_134 : decode cX9_findPlan 134 = .ok (.getfield 68, 3) := by decide +kernel
theorem dX9_findPlan_137 : decode cX9_findPlan 137 = .ok (.iload 5, 2) := by decide +kernel
theorem dX9_findPlan_139 : decode cX9_findPlan 139 = .ok (.iconst 1, 1) := by decide +kernel
theorem dX9_findPlan_140 : decode cX9_findPlan 140 = .ok (.isub, 1) := by decide +kernel
theorem dX9_findPlan_141 : decode cX9_findPlan 141 = .ok (.iaload, 1) := by decide +kernel
theorem dX9_findPlan_142 : decode cX9_findPlan 142 = .ok (.iload 6, 2) := by decide +kernel
theorem dX9_findPlan_144 : decode cX9_findPlan 144 = .ok (.invokevirtual 148, 3) := by decide +kernel
theorem dX9_findPlan_147 : decode cX9_findPlan 147 = .ok (.iadd, 1) := by decide +kernel
theorem dX9_findPlan_148 : decode cX9_findPlan 148 = .ok (.istore 7, 2) := by decide +kernel
theorem dX9_findPlan_150 : decode cX9_findPlan 150 = .ok (.iload 7, 2) := by decide +kernel
theorem dX9_findPlan_152 : decode cX9_findPlan 152 = .ok (.iload 4, 2) := by decide +kernel
theorem dX9_findPlan_154 : decode cX9_findPlan 154 = .ok (.if_icmp .gt (-76), 3) := by decide +kernel
theorem dX9_findPlan_157 : decode cX9_findPlan 157 = .ok (.aload_n 0, 1) := by decide +kernel
theorem dX9_findPlan_158 : decode cX9_findPlan 158 = .ok (.iload_n 1, 1) := by decide +kernel
theorem dX9_findPlan_159 : decode cX9_findPlan 159 = .ok (.iload 6, 2) := by decide +kernel
theorem dX9_findPlan_161 : decode cX9_findPlan 161 = .ok (.iload 7, 2) := by decide +kernel
theorem dX9_findPlan_163 : decode cX9_findPlan 163 = .ok (.invokevirtual 124, 3) := by decide +kernel
theorem dX9_findPlan_166 : decode cX9_findPlan 166 = .ok (.ifCond .ne 6, 3) := by decide +kernel
theorem dX9_findPlan_169 : decode cX9_findPlan 169 = .ok (.goto (-91), 3) := by decide +kernel
theorem dX9_findPlan_172 : decode cX9_findPlan 172 = .ok (.aload_n 0, 1) := by decide +kernel
theorem dX9_findPlan_173 : decode cX9_findPlan 173 = .ok (.getfield 68, 3) := by decide +kernel
theorem dX9_findPlan_176 : decode cX9_findPlan 176 = .ok (.iload 5, 2) := by decide +kernel
theorem dX9_findPlan_178 : decode cX9_findPlan 178 = .ok (.iload 6, 2) := by decide +kernel
theorem dX9_findPlan_180 : decode cX9_findPlan 180 = .ok (.iastore, 1) := by decide +kernel
theorem dX9_findPlan_181 : decode cX9_findPlan 181 = .ok (.aload_n 0, 1) := by decide +kernel
theorem dX9_findPlan_182 : decode cX9_findPlan 182 = .ok (.getfield 71, 3) := by decide +kernel
theorem dX9_findPlan_185 : decode cX9_findPlan 185 = .ok (.iload 5, 2) := by decide +kernel
theorem dX9_findPlan_187 : decode cX9_findPlan 187 = .ok (.iload 7, 2) := by decide +kernel
theorem dX9_findPlan_189 : decode cX9_findPlan 189 = .ok (.iastore, 1) := by decide +kernel
theorem dX9_findPlan_190 : decode cX9_findPlan 190 = .ok (.aload_n 0, 1) := by decide +kernel
theorem dX9_findPlan_191 : decode cX9_findPlan 191 = .ok (.iload_n 1, 1) := by decide +kernel
theorem dX9_findPlan_192 : decode cX9_findPlan 192 = .ok (.iload 5, 2) := by decide +kernel
theorem dX9_findPlan_194 : decode cX9_findPlan 194 = .ok (.invokevirtual 140, 3) := by decide +kernel
theorem dX9_findPlan_197 : decode cX9_findPlan 197 = .ok (.aload_n 0, 1) := by decide +kernel
theorem dX9_findPlan_198 : decode cX9_findPlan 198 = .ok (.getfield 80, 3) := by decide +kernel
theorem dX9_findPlan_201 : decode cX9_findPlan 201 = .ok (.iload 5, 2) := by decide +kernel
theorem dX9_findPlan_203 : decode cX9_findPlan 203 = .ok (.iconst 0, 1) := by decide +kernel
theorem dX9_findPlan_204 : decode cX9_findPlan 204 = .ok (.iastore, 1) := by decide +kernel
theorem dX9_findPlan_205 : decode cX9_findPlan 205 = .ok (.iinc 5 1, 3) := by decide +kernel
theorem dX9_findPlan_208 : decode cX9_findPlan 208 = .ok (.aload_n 0, 1) := by decide +kernel
theorem dX9_findPlan_209 : decode cX9_findPlan 209 = .ok (.iload 5, 2) := by decide +kernel
theorem dX9_findPlan_211 : decode cX9_findPlan 211 = .ok (.invokevirtual 144, 3) := by decide +kernel
theorem dX9_findPlan_214 : decode cX9_findPlan 214 = .ok (.goto (-136), 3) := by decide +kernel
theorem dX9_findPlan_217 : decode cX9_findPlan 217 = .ok (.return_, 1) := by decide +kernel
theorem dX9_whyNot_0 : decode cX9_whyNot 0 = .ok (.aload_n 0, 1) := by decide +kernel
theorem dX9_whyNot_1 : decode cX9_whyNot 1 = .ok (.iload_n 1, 1) := by decide +kernel
theorem dX9_whyNot_2 : decode cX9_whyNot 2 = .ok (.invokevirtual 111, 3) := by decide +kernel
theorem dX9_whyNot_5 : decode cX9_whyNot 5 = .ok (.ifCond .eq 21, 3) := by decide +kernel
theorem dX9_whyNot_8 : decode cX9_whyNot 8 = .ok (.aload_n 0, 1) := by decide +kernel
theorem dX9_whyNot_9 : decode cX9_whyNot 9 = .ok (.iload_n 2, 1) := by decide +kernel
theorem dX9_whyNot_10 : decode cX9_whyNot 10 = .ok (.invokevirtual 152, 3) := by decide +kernel
theorem dX9_whyNot_13 : decode cX9_whyNot 13 = .ok (.ifCond .eq 13, 3) := by decide +kernel
theorem dX9_whyNot_16 : decode cX9_whyNot 16 = .ok (.iload_n 3, 1) := by decide +kernel
theorem dX9_whyNot_17 : decode cX9_whyNot 17 = .ok (.iconst 1, 1) := by decide +kernel
theorem dX9_whyNot_18 : decode cX9_whyNot 18 = .ok (.bipush 6, 2) := by decide +kernel
theorem dX9_whyNot_20 : decode cX9_whyNot 20 = .ok (.invokestatic 93, 3) := by decide +kernel
theorem dX9_whyNot_23 : decode cX9_whyNot 23 = .ok (.ifCond .ne 5, 3) := by decide +kernel
theorem dX9_whyNot_26 : decode cX9_whyNot 26 = .ok (.iconst 1, 1) := by decide +kernel
theorem dX9_whyNot_27 : decode cX9_whyNot 27 = .ok (.ireturn, 1) := by decide +kernel
theorem dX9_whyNot_28 : decode cX9_whyNot 28 = .ok (.aload_n 0, 1) := by decide +kernel
theorem dX9_whyNot_29 : decode cX9_whyNot 29 = .ok (.iload_n 1, 1) := by decide +kernel
theorem dX9_whyNot_30 : decode cX9_whyNot 30 = .ok (.iload_n 2, 1) := by decide +kernel
theorem dX9_whyNot_31 : decode cX9_whyNot 31 = .ok (.bipush 100, 2) := by decide +kernel
theorem dX9_whyNot_33 : decode cX9_whyNot 33 = .ok (.idiv, 1) := by decide +kernel
theorem dX9_whyNot_34 : decode cX9_whyNot 34 = .ok (.iload_n 2, 1) := by decide +kernel
theorem dX9_whyNot_35 : decode cX9_whyNot 35 = .ok (.bipush 100, 2) := by decide +kernel
theorem dX9_whyNot_37 : decode cX9_whyNot 37 = .ok (.irem, 1) := by decide +kernel
theorem dX9_whyNot_38 : decode cX9_whyNot 38 = .ok (.invokevirtual 124, 3) := by decide +kernel
theorem dX9_whyNot_41 : decode cX9_whyNot 41 = .ok (.ifCond .eq 7, 3) := by decide +kernel
theorem dX9_whyNot_44 : decode cX9_whyNot 44 = .ok (.iconst 0, 1) := by decide +kernel
theorem dX9_whyNot_45 : decode cX9_whyNot 45 = .ok (.goto 4, 3) := by decide +kernel
theorem dX9_whyNot_48 : decode cX9_whyNot 48 = .ok (.iconst 3, 1) := by decide +kernel
theorem dX9_whyNot_49 : decode cX9_whyNot 49 = .ok (.ireturn, 1) := by decide +kernel
theorem dX9_plan_0 : decode cX9_plan 0 = .ok (.aload_n 0, 1) := by decide +kernel
theorem dX9_plan_1 : decode cX9_plan 1 = .ok (.iload_n 1, 1) := by decide +kernel
theorem dX9_plan_2 : decode cX9_plan 2 = .ok (.iload_n 2, 1) := by decide +kernel
theorem dX9_plan_3 : decode cX9_plan 3 = .ok (.iload_n 3, 1) := by decide +kernel
theorem dX9_plan_4 : decode cX9_plan 4 = .ok (.invokevirtual 155, 3) := by decide +kernel
theorem dX9_plan_7 : decode cX9_plan 7 = .ok (.istore 4, 2) := by decide +kernel
theorem dX9_plan_9 : decode cX9_plan 9 = .ok (.iload 4, 2) := by decide +kernel
theorem dX9_plan_11 : decode cX9_plan 11 = .ok (.ifCond .eq 10, 3) := by decide +kernel
theorem dX9_plan_14 : decode cX9_plan 14 = .ok (.aload_n 0, 1) := by decide +kernel
theorem dX9_plan_15 : decode cX9_plan 15 = .ok (.iload 4, 2) := by decide +kernel
theorem dX9_plan_17 : decode cX9_plan 17 = .ok (.invokevirtual 107, 3) := by decide +kernel
theorem dX9_plan_20 : decode cX9_plan 20 = .ok (.ireturn, 1) := by decide +kernel
theorem dX9_plan_21 : decode cX9_plan 21 = .ok (.aload_n 0, 1) := by decide +kernel
theorem dX9_plan_22 : decode cX9_plan 22 = .ok (.iload_n 1, 1) := by decide +kernel
theorem dX9_plan_23 : decode cX9_plan 23 = .ok (.iload_n 2, 1) := by decide +kernel
theorem dX9_plan_24 : decode cX9_plan 24 = .ok (.iload_n 3, 1) := by decide +kernel
theorem dX9_plan_25 : decode cX9_plan 25 = .ok (.invokevirtual 158, 3) := by decide +kernel
theorem dX9_plan_28 : decode cX9_plan 28 = .ok (.aload_n 0, 1) := by decide +kernel
theorem dX9_plan_29 : decode cX9_plan 29 = .ok (.getfield 134, 3) := by decide +kernel
theorem dX9_plan_32 : decode cX9_plan 32 = .ok (.ireturn, 1) := by decide +kernel
theorem dX9_stop_0 : decode cX9_stop 0 = .ok (.aload_n 0, 1) := by decide +kernel
theorem dX9_stop_1 : decode cX9_stop 1 = .ok (.iload_n 1, 1) := by decide +kernel
theorem dX9_stop_2 : decode cX9_stop 2 = .ok (.iload_n 2, 1) := by decide +kernel
theorem dX9_stop_3 : decode cX9_stop 3 = .ok (.iload_n 3, 1) := by decide +kernel
theorem dX9_stop_4 : decode cX9_stop 4 = .ok (.invokevirtual 155, 3) := by decide +kernel
theorem dX9_stop_7 : decode cX9_stop 7 = .ok (.istore 5, 2) := by decide +kernel
theorem dX9_stop_9 : decode cX9_stop 9 = .ok (.iload 5, 2) := by decide +kernel
theorem dX9_stop_11 : decode cX9_stop 11 = .ok (.ifCond .eq 10, 3) := by decide +kernel
theorem dX9_stop_14 : decode cX9_stop 14 = .ok (.aload_n 0, 1) := by decide +kernel
theorem dX9_stop_15 : decode cX9_stop 15 = .ok (.iload 5, 2) := by decide +kernel
theorem dX9_stop_17 : decode cX9_stop 17 = .ok (.invokevirtual 107, 3) := by decide +kernel
theorem dX9_stop_20 : decode cX9_stop 20 = .ok (.ireturn, 1) := by decide +kernel
theorem dX9_stop_21 : decode cX9_stop 21 = .ok (.aload_n 0, 1) := by decide +kernel
theorem dX9_stop_22 : decode cX9_stop 22 = .ok (.iload_n 1, 1) := by decide +kernel
theorem dX9_stop_23 : decode cX9_stop 23 = .ok (.iload_n 2, 1) := by decide +kernel
theorem dX9_stop_24 : decode cX9_stop 24 = .ok (.iload_n 3, 1) := by decide +kernel
theorem dX9_stop_25 : decode cX9_stop 25 = .ok (.invokevirtual 158, 3) := by decide +kernel
theorem dX9_stop_28 : decode cX9_stop 28 = .ok (.iload 4, 2) := by decide +kernel
theorem dX9_stop_30 : decode cX9_stop 30 = .ok (.iconst 0, 1) := by decide +kernel
theorem dX9_stop_31 : decode cX9_stop 31 = .ok (.aload_n 0, 1) := by decide +kernel
theorem dX9_stop_32 : decode cX9_stop 32 = .ok (.getfield 131, 3) := by decide +kernel
theorem dX9_stop_35 : decode cX9_stop 35 = .ok (.iconst 1, 1) := by decide +kernel
theorem dX9_stop_36 : decode cX9_stop 36 = .ok (.isub, 1) := by decide +kernel
theorem dX9_stop_37 : decode cX9_stop 37 = .ok (.invokestatic 93, 3) := by decide +kernel
theorem dX9_stop_40 : decode cX9_stop 40 = .ok (.ifCond .eq 24, 3) := by decide +kernel
theorem dX9_stop_43 : decode cX9_stop 43 = .ok (.bipush 100, 2) := by decide +kernel
theorem dX9_stop_45 : decode cX9_stop 45 = .ok (.aload_n 0, 1) := by decide +kernel
theorem dX9_stop_46 : decode cX9_stop 46 = .ok (.getfield 83, 3) := by decide +kernel
theorem dX9_stop_49 : decode cX9_stop 49 = .ok (.iload 4, 2) := by decide +kernel
theorem dX9_stop_51 : decode cX9_stop 51 = .ok (.iaload, 1) := by decide +kernel
theorem dX9_stop_52 : decode cX9_stop 52 = .ok (.imul, 1) := by decide +kernel
theorem dX9_stop_53 : decode cX9_stop 53 = .ok (.aload_n 0, 1) := by decide +kernel
theorem dX9_stop_54 : decode cX9_stop 54 = .ok (.getfield 86, 3) := by decide +kernel
theorem dX9_stop_57 : decode cX9_stop 57 = .ok (.iload 4, 2) := by decide +kernel
theorem dX9_stop_59 : decode cX9_stop 59 = .ok (.iaload, 1) := by decide +kernel
theorem dX9_stop_60 : decode cX9_stop 60 = .ok (.iadd, 1) := by decide +kernel
theorem dX9_stop_61 : decode cX9_stop 61 = .ok (.goto 8, 3) := by decide +kernel
theorem dX9_stop_64 : decode cX9_stop 64 = .ok (.aload_n 0, 1) := by decide +kernel
theorem dX9_stop_65 : decode cX9_stop 65 = .ok (.iconst 2, 1) := by decide +kernel
theorem dX9_stop_66 : decode cX9_stop 66 = .ok (.invokevirtual 107, 3) := by decide +kernel
theorem dX9_stop_69 : decode cX9_stop 69 = .ok (.ireturn, 1) := by decide +kernel
theorem dX9_left_0 : decode cX9_left 0 = .ok (.aload_n 0, 1) := by decide +kernel
theorem dX9_left_1 : decode cX9_left 1 = .ok (.iload_n 1, 1) := by decide +kernel
theorem dX9_left_2 : decode cX9_left 2 = .ok (.iload_n 2, 1) := by decide +kernel
theorem dX9_left_3 : decode cX9_left 3 = .ok (.iload_n 3, 1) := by decide +kernel
theorem dX9_left_4 : decode cX9_left 4 = .ok (.invokevirtual 155, 3) := by decide +kernel
theorem dX9_left_7 : decode cX9_left 7 = .ok (.istore 4, 2) := by decide +kernel
theorem dX9_left_9 : decode cX9_left 9 = .ok (.iload 4, 2) := by decide +kernel
theorem dX9_left_11 : decode cX9_left 11 = .ok (.ifCond .eq 10, 3) := by decide +kernel
theorem dX9_left_14 : decode cX9_left 14 = .ok (.aload_n 0, 1) := by decide +kernel
theorem dX9_left_15 : decode cX9_left 15 = .ok (.iload 4, 2) := by decide +kernel
theorem dX9_left_17 : decode cX9_left 17 = .ok (.invokevirtual 107, 3) := by decide +kernel
theorem dX9_left_20 : decode cX9_left 20 = .ok (.ireturn, 1) := by decide +kernel
theorem dX9_left_21 : decode cX9_left 21 = .ok (.aload_n 0, 1) := by decide +kernel
theorem dX9_left_22 : decode cX9_left 22 = .ok (.iload_n 1, 1) := by decide +kernel
theorem dX9_left_23 : decode cX9_left 23 = .ok (.iload_n 2, 1) := by decide +kernel
theorem dX9_left_24 : decode cX9_left 24 = .ok (.iload_n 3, 1) := by decide +kernel
theorem dX9_left_25 : decode cX9_left 25 = .ok (.invokevirtual 158, 3) := by decide +kernel
theorem dX9_left_28 : decode cX9_left 28 = .ok (.aload_n 0, 1) := by decide +kernel
theorem dX9_left_29 : decode cX9_left 29 = .ok (.getfield 137, 3) := by decide +kernel
theorem dX9_left_32 : decode cX9_left 32 = .ok (.ireturn, 1) := by decide +kernel
theorem dX9_ahead_0 : decode cX9_ahead 0 = .ok (.iload_n 2, 1) := by decide +kernel
theorem dX9_ahead_1 : decode cX9_ahead 1 = .ok (.iconst 1, 1) := by decide +kernel
theorem dX9_ahead_2 : decode cX9_ahead 2 = .ok (.isub, 1) := by decide +kernel
theorem dX9_ahead_3 : decode cX9_ahead 3 = .ok (.istore_n 3, 1) := by decide +kernel
theorem dX9_ahead_4 : decode cX9_ahead 4 = .ok (.iload_n 3, 1) := by decide +kernel
theorem dX9_ahead_5 : decode cX9_ahead 5 = .ok (.ifCond .lt 19, 3) := by decide +kernel
theorem dX9_ahead_8 : decode cX9_ahead 8 = .ok (.aload_n 0, 1) := by decide +kernel
theorem dX9_ahead_9 : decode cX9_ahead 9 = .ok (.getfield 41, 3) := by decide +kernel
theorem dX9_ahead_12 : decode cX9_ahead 12 = .ok (.iload_n 3, 1) := by decide +kernel
theorem dX9_ahead_13 : decode cX9_ahead 13 = .ok (.iaload, 1) := by decide +kernel
theorem dX9_ahead_14 : decode cX9_ahead 14 = .ok (.iload_n 1, 1) := by decide +kernel
theorem dX9_ahead_15 : decode cX9_ahead 15 = .ok (.if_icmp .eq 9, 3) := by decide +kernel
theorem dX9_ahead_18 : decode cX9_ahead 18 = .ok (.iinc 3 (-1), 3) := by decide +kernel
theorem dX9_ahead_21 : decode cX9_ahead 21 = .ok (.goto (-17), 3) := by decide +kernel
theorem dX9_ahead_24 : decode cX9_ahead 24 = .ok (.iload_n 3, 1) := by decide +kernel
theorem dX9_ahead_25 : decode cX9_ahead 25 = .ok (.ireturn, 1) := by decide +kernel
theorem dX9_stand_0 : decode cX9_stand 0 = .ok (.aload_n 0, 1) := by decide +kernel
theorem dX9_stand_1 : decode cX9_stand 1 = .ok (.iload_n 1, 1) := by decide +kernel
theorem dX9_stand_2 : decode cX9_stand 2 = .ok (.invokevirtual 111, 3) := by decide +kernel
theorem dX9_stand_5 : decode cX9_stand 5 = .ok (.ifCond .eq 21, 3) := by decide +kernel
theorem dX9_stand_8 : decode cX9_stand 8 = .ok (.aload_n 0, 1) := by decide +kernel
theorem dX9_stand_9 : decode cX9_stand 9 = .ok (.iload_n 2, 1) := by decide +kernel
theorem dX9_stand_10 : decode cX9_stand 10 = .ok (.invokevirtual 152, 3) := by decide +kernel
theorem dX9_stand_13 : decode cX9_stand 13 = .ok (.ifCond .eq 13, 3) := by decide +kernel
theorem dX9_stand_16 : decode cX9_stand 16 = .ok (.iload_n 3, 1) := by decide +kernel
theorem dX9_stand_17 : decode cX9_stand 17 = .ok (.iconst 0, 1) := by decide +kernel
theorem dX9_stand_18 : decode cX9_stand 18 = .ok (.bipush 99, 2) := by decide +kernel
theorem dX9_stand_20 : decode cX9_stand 20 = .ok (.invokestatic 93, 3) := by decide +kernel
theorem dX9_stand_23 : decode cX9_stand 23 = .ok (.ifCond .ne 9, 3) := by decide +kernel
theorem dX9_stand_26 : decode cX9_stand 26 = .ok (.aload_n 0, 1) := by decide +kernel
theorem dX9_stand_27 : decode cX9_stand 27 = .ok (.iconst 1, 1) := by decide +kernel
theorem dX9_stand_28 : decode cX9_stand 28 = .ok (.invokevirtual 107, 3) := by decide +kernel
theorem dX9_stand_31 : decode cX9_stand 31 = .ok (.ireturn, 1) := by decide +kernel
theorem dX9_stand_32 : decode cX9_stand 32 = .ok (.aload_n 0, 1) := by decide +kernel
theorem dX9_stand_33 : decode cX9_stand 33 = .ok (.iload_n 1, 1) := by decide +kernel
theorem dX9_stand_34 : decode cX9_stand 34 = .ok (.aload_n 0, 1) := by decide +kernel
theorem dX9_stand_35 : decode cX9_stand 35 = .ok (.getfield 162, 3) := by decide +kernel
theorem dX9_stand_38 : decode cX9_stand 38 = .ok (.invokevirtual 165, 3) := by decide +kernel
theorem dX9_stand_41 : decode cX9_stand 41 = .ok (.istore 4, 2) := by decide +kernel
theorem dX9_stand_43 : decode cX9_stand 43 = .ok (.iload 4, 2) := by decide +kernel
theorem dX9_stand_45 : decode cX9_stand 45 = .ok (.ifCond .lt 23, 3) := by decide +kernel
theorem dX9_stand_48 : decode cX9_stand 48 = .ok (.iload_n 2, 1) := by decide +kernel
theorem dX9_stand_49 : decode cX9_stand 49 = .ok (.bipush 100, 2) := by decide +kernel
theorem dX9_stand_51 : decode cX9_stand 51 = .ok (.irem, 1) := by decide +kernel
theorem dX9_stand_52 : decode cX9_stand 52 = .ok (.aload_n 0, 1) := by decide +kernel
theorem dX9_stand_53 : decode cX9_stand 53 = .ok (.getfield 47, 3) := by decide +kernel
theorem dX9_stand_56 : decode cX9_stand 56 = .ok (.iload 4, 2) := by decide +kernel
theorem dX9_stand_58 : decode cX9_stand 58 = .ok (.iaload, 1) := by decide +kernel
theorem dX9_stand_59 : decode cX9_stand 59 = .ok (.if_icmp .gt 9, 3) := by decide +kernel
theorem dX9_stand_62 : decode cX9_stand 62 = .ok (.aload_n 0, 1) := by decide +kernel
theorem dX9_stand_63 : decode cX9_stand 63 = .ok (.iconst 3, 1) := by decide +kernel
theorem dX9_stand_64 : decode cX9_stand 64 = .ok (.invokevirtual 107, 3) := by decide +kernel
theorem dX9_stand_67 : decode cX9_stand 67 = .ok (.ireturn, 1) := by decide +kernel
theorem dX9_stand_68 : decode cX9_stand 68 = .ok (.aload_n 0, 1) := by decide +kernel
theorem dX9_stand_69 : decode cX9_stand 69 = .ok (.getfield 162, 3) := by decide +kernel
theorem dX9_stand_72 : decode cX9_stand 72 = .ok (.bipush 24, 2) := by decide +kernel
theorem dX9_stand_74 : decode cX9_stand 74 = .ok (.if_icmp .ne 9, 3) := by decide +kernel
theorem dX9_stand_77 : decode cX9_stand 77 = .ok (.aload_n 0, 1) := by decide +kernel
theorem dX9_stand_78 : decode cX9_stand 78 = .ok (.iconst 4, 1) := by decide +kernel
theorem dX9_stand_79 : decode cX9_stand 79 = .ok (.invokevirtual 107, 3) := by decide +kernel
theorem dX9_stand_82 : decode cX9_stand 82 = .ok (.ireturn, 1) := by decide +kernel
theorem dX9_stand_83 : decode cX9_stand 83 = .ok (.aload_n 0, 1) := by decide +kernel
theorem dX9_stand_84 : decode cX9_stand 84 = .ok (.getfield 41, 3) := by decide +kernel
theorem dX9_stand_87 : decode cX9_stand 87 = .ok (.aload_n 0, 1) := by decide +kernel
theorem dX9_stand_88 : decode cX9_stand 88 = .ok (.getfield 162, 3) := by decide +kernel
theorem dX9_stand_91 : decode cX9_stand 91 = .ok (.iload_n 1, 1) := by decide +kernel
theorem dX9_stand_92 : decode cX9_stand 92 = .ok (.iastore, 1) := by decide +kernel
theorem dX9_stand_93 : decode cX9_stand 93 = .ok (.aload_n 0, 1) := by decide +kernel
theorem dX9_stand_94 : decode cX9_stand 94 = .ok (.getfield 44, 3) := by decide +kernel
theorem dX9_stand_97 : decode cX9_stand 97 = .ok (.aload_n 0, 1) := by decide +kernel
theorem dX9_stand_98 : decode cX9_stand 98 = .ok (.getfield 162, 3) := by decide +kernel
theorem dX9_stand_101 : decode cX9_stand 101 = .ok (.iload_n 2, 1) := by decide +kernel
theorem dX9_stand_102 : decode cX9_stand 102 = .ok (.bipush 100, 2) := by decide +kernel
theorem dX9_stand_104 : decode cX9_stand 104 = .ok (.idiv, 1) := by decide +kernel
theorem dX9_stand_105 : decode cX9_stand 105 = .ok (.iastore, 1) := by decide +kernel
theorem dX9_stand_106 : decode cX9_stand 106 = .ok (.aload_n 0, 1) := by decide +kernel
theorem dX9_stand_107 : decode cX9_stand 107 = .ok (.getfield 47, 3) := by decide +kernel
theorem dX9_stand_110 : decode cX9_stand 110 = .ok (.aload_n 0, 1) := by decide +kernel
theorem dX9_stand_111 : decode cX9_stand 111 = .ok (.getfield 162, 3) := by decide +kernel
theorem dX9_stand_114 : decode cX9_stand 114 = .ok (.iload_n 2, 1) := by decide +kernel
theorem dX9_stand_115 : decode cX9_stand 115 = .ok (.bipush 100, 2) := by decide +kernel
