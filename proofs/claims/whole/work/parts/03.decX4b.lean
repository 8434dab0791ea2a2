theorem dX4_within_0 : decode cX4_within 0 = .ok (.iload_n 0, 1) := by decide +kernel
theorem dX4_within_1 : decode cX4_within 1 = .ok (.iload_n 1, 1) := by decide +kernel
theorem dX4_within_2 : decode cX4_within 2 = .ok (.if_icmp .lt 12, 3) := by decide +kernel
theorem dX4_within_5 : decode cX4_within 5 = .ok (.iload_n 0, 1) := by decide +kernel
theorem dX4_within_6 : decode cX4_within 6 = .ok (.iload_n 2, 1) := by decide +kernel
theorem dX4_within_7 : decode cX4_within 7 = .ok (.if_icmp .gt 7, 3) := by decide +kernel
theorem dX4_within_10 : decode cX4_within 10 = .ok (.iconst 1, 1) := by decide +kernel
theorem dX4_within_11 : decode cX4_within 11 = .ok (.goto 4, 3) := by decide +kernel
theorem dX4_within_14 : decode cX4_within 14 = .ok (.iconst 0, 1) := by decide +kernel
theorem dX4_within_15 : decode cX4_within 15 = .ok (.ireturn, 1) := by decide +kernel
theorem dX4_buy_0 : decode cX4_buy 0 = .ok (.aload_n 0, 1) := by decide +kernel
theorem dX4_buy_1 : decode cX4_buy 1 = .ok (.iconst 0, 1) := by decide +kernel
theorem dX4_buy_2 : decode cX4_buy 2 = .ok (.putfield 121, 3) := by decide +kernel
theorem dX4_buy_5 : decode cX4_buy 5 = .ok (.iload_n 1, 1) := by decide +kernel
theorem dX4_buy_6 : decode cX4_buy 6 = .ok (.iconst 0, 1) := by decide +kernel
theorem dX4_buy_7 : decode cX4_buy 7 = .ok (.bipush 7, 2) := by decide +kernel
theorem dX4_buy_9 : decode cX4_buy 9 = .ok (.invokestatic 259, 3) := by decide +kernel
theorem dX4_buy_12 : decode cX4_buy 12 = .ok (.ifCond .eq 78, 3) := by decide +kernel
theorem dX4_buy_15 : decode cX4_buy 15 = .ok (.aload_n 0, 1) := by decide +kernel
theorem dX4_buy_16 : decode cX4_buy 16 = .ok (.getfield 252, 3) := by decide +kernel
theorem dX4_buy_19 : decode cX4_buy 19 = .ok (.ifCond .eq 71, 3) := by decide +kernel
theorem dX4_buy_22 : decode cX4_buy 22 = .ok (.aload_n 0, 1) := by decide +kernel
theorem dX4_buy_23 : decode cX4_buy 23 = .ok (.getfield 265, 3) := by decide +kernel
theorem dX4_buy_26 : decode cX4_buy 26 = .ok (.bipush 16, 2) := by decide +kernel
theorem dX4_buy_28 : decode cX4_buy 28 = .ok (.if_icmp .eq 62, 3) := by decide +kernel
theorem dX4_buy_31 : decode cX4_buy 31 = .ok (.iload_n 2, 1) := by decide +kernel
theorem dX4_buy_32 : decode cX4_buy 32 = .ok (.iconst 1, 1) := by decide +kernel
theorem dX4_buy_33 : decode cX4_buy 33 = .ok (.bipush 60, 2) := by decide +kernel
theorem dX4_buy_35 : decode cX4_buy 35 = .ok (.invokestatic 259, 3) := by decide +kernel
theorem dX4_buy_38 : decode cX4_buy 38 = .ok (.ifCond .eq 52, 3) := by decide +kernel
theorem dX4_buy_41 : decode cX4_buy 41 = .ok (.iload_n 3, 1) := by decide +kernel
theorem dX4_buy_42 : decode cX4_buy 42 = .ok (.iconst 1, 1) := by decide +kernel
theorem dX4_buy_43 : decode cX4_buy 43 = .ok (.sipush 1000, 3) := by decide +kernel
theorem dX4_buy_46 : decode cX4_buy 46 = .ok (.invokestatic 259, 3) := by decide +kernel
theorem dX4_buy_49 : decode cX4_buy 49 = .ok (.ifCond .eq 41, 3) := by decide +kernel
theorem dX4_buy_52 : decode cX4_buy 52 = .ok (.iload 4, 2) := by decide +kernel
theorem dX4_buy_54 : decode cX4_buy 54 = .ok (.iconst 1, 1) := by decide +kernel
theorem dX4_buy_55 : decode cX4_buy 55 = .ok (.sipush 255, 3) := by decide +kernel
theorem dX4_buy_58 : decode cX4_buy 58 = .ok (.invokestatic 259, 3) := by decide +kernel
theorem dX4_buy_61 : decode cX4_buy 61 = .ok (.ifCond .eq 29, 3) := by decide +kernel
theorem dX4_buy_64 : decode cX4_buy 64 = .ok (.iload 7, 2) := by decide +kernel
theorem dX4_buy_66 : decode cX4_buy 66 = .ok (.iconst 1, 1) := by decide +kernel
theorem dX4_buy_67 : decode cX4_buy 67 = .ok (.bipush 60, 2) := by decide +kernel
theorem dX4_buy_69 : decode cX4_buy 69 = .ok (.invokestatic 259, 3) := by decide +kernel
theorem dX4_buy_72 : decode cX4_buy 72 = .ok (.ifCond .eq 18, 3) := by decide +kernel
theorem dX4_buy_75 : decode cX4_buy 75 = .ok (.aload_n 0, 1) := by decide +kernel
theorem dX4_buy_76 : decode cX4_buy 76 = .ok (.getfield 44, 3) := by decide +kernel
theorem dX4_buy_79 : decode cX4_buy 79 = .ok (.iload_n 1, 1) := by decide +kernel
theorem dX4_buy_80 : decode cX4_buy 80 = .ok (.laload, 1) := by decide +kernel
theorem dX4_buy_81 : decode cX4_buy 81 = .ok (.iload_n 2, 1) := by decide +kernel
theorem dX4_buy_82 : decode cX4_buy 82 = .ok (.i2l, 1) := by decide +kernel
theorem dX4_buy_83 : decode cX4_buy 83 = .ok (.iload_n 3, 1) := by decide +kernel
theorem dX4_buy_84 : decode cX4_buy 84 = .ok (.i2l, 1) := by decide +kernel
theorem dX4_buy_85 : decode cX4_buy 85 = .ok (.lmul, 1) := by decide +kernel
theorem dX4_buy_86 : decode cX4_buy 86 = .ok (.lcmp, 1) := by decide +kernel
theorem dX4_buy_87 : decode cX4_buy 87 = .ok (.ifCond .ge 5, 3) := by decide +kernel
theorem dX4_buy_90 : decode cX4_buy 90 = .ok (.iconst (-1), 1) := by decide +kernel
theorem dX4_buy_91 : decode cX4_buy 91 = .ok (.ireturn, 1) := by decide +kernel
theorem dX4_buy_92 : decode cX4_buy 92 = .ok (.aload_n 0, 1) := by decide +kernel
theorem dX4_buy_93 : decode cX4_buy 93 = .ok (.getfield 44, 3) := by decide +kernel
theorem dX4_buy_96 : decode cX4_buy 96 = .ok (.iload_n 1, 1) := by decide +kernel
theorem dX4_buy_97 : decode cX4_buy 97 = .ok (.dup2, 1) := by decide +kernel
theorem dX4_buy_98 : decode cX4_buy 98 = .ok (.laload, 1) := by decide +kernel
theorem dX4_buy_99 : decode cX4_buy 99 = .ok (.iload_n 2, 1) := by decide +kernel
theorem dX4_buy_100 : decode cX4_buy 100 = .ok (.i2l, 1) := by decide +kernel
theorem dX4_buy_101 : decode cX4_buy 101 = .ok (.iload_n 3, 1) := by decide +kernel
theorem dX4_buy_102 : decode cX4_buy 102 = .ok (.i2l, 1) := by decide +kernel
theorem dX4_buy_103 : decode cX4_buy 103 = .ok (.lmul, 1) := by decide +kernel
theorem dX4_buy_104 : decode cX4_buy 104 = .ok (.lsub, 1) := by decide +kernel
theorem dX4_buy_105 : decode cX4_buy 105 = .ok (.lastore, 1) := by decide +kernel
theorem dX4_buy_106 : decode cX4_buy 106 = .ok (.aload_n 0, 1) := by decide +kernel
theorem dX4_buy_107 : decode cX4_buy 107 = .ok (.dup, 1) := by decide +kernel
theorem dX4_buy_108 : decode cX4_buy 108 = .ok (.getfield 268, 3) := by decide +kernel
theorem dX4_buy_111 : decode cX4_buy 111 = .ok (.iload_n 2, 1) := by decide +kernel
theorem dX4_buy_112 : decode cX4_buy 112 = .ok (.i2l, 1) := by decide +kernel
theorem dX4_buy_113 : decode cX4_buy 113 = .ok (.iload_n 3, 1) := by decide +kernel
theorem dX4_buy_114 : decode cX4_buy 114 = .ok (.i2l, 1) := by decide +kernel
theorem dX4_buy_115 : decode cX4_buy 115 = .ok (.lmul, 1) := by decide +kernel
theorem dX4_buy_116 : decode cX4_buy 116 = .ok (.ladd, 1) := by decide +kernel
theorem dX4_buy_117 : decode cX4_buy 117 = .ok (.putfield 268, 3) := by decide +kernel
theorem dX4_buy_120 : decode cX4_buy 120 = .ok (.aload_n 0, 1) := by decide +kernel
theorem dX4_buy_121 : decode cX4_buy 121 = .ok (.getfield 48, 3) := by decide +kernel
theorem dX4_buy_124 : decode cX4_buy 124 = .ok (.aload_n 0, 1) := by decide +kernel
theorem dX4_buy_125 : decode cX4_buy 125 = .ok (.getfield 265, 3) := by decide +kernel
theorem dX4_buy_128 : decode cX4_buy 128 = .ok (.iload_n 1, 1) := by decide +kernel
theorem dX4_buy_129 : decode cX4_buy 129 = .ok (.iastore, 1) := by decide +kernel
theorem dX4_buy_130 : decode cX4_buy 130 = .ok (.aload_n 0, 1) := by decide +kernel
theorem dX4_buy_131 : decode cX4_buy 131 = .ok (.getfield 51, 3) := by decide +kernel
theorem dX4_buy_134 : decode cX4_buy 134 = .ok (.aload_n 0, 1) := by decide +kernel
theorem dX4_buy_135 : decode cX4_buy 135 = .ok (.getfield 265, 3) := by decide +kernel
theorem dX4_buy_138 : decode cX4_buy 138 = .ok (.iload_n 2, 1) := by decide +kernel
theorem dX4_buy_139 : decode cX4_buy 139 = .ok (.iastore, 1) := by decide +kernel
theorem dX4_buy_140 : decode cX4_buy 140 = .ok (.aload_n 0, 1) := by decide +kernel
theorem dX4_buy_141 : decode cX4_buy 141 = .ok (.getfield 54, 3) := by decide +kernel
theorem dX4_buy_144 : decode cX4_buy 144 = .ok (.aload_n 0, 1) := by decide +kernel
theorem dX4_buy_145 : decode cX4_buy 145 = .ok (.getfield 265, 3) := by decide +kernel
theorem dX4_buy_148 : decode cX4_buy 148 = .ok (.iload_n 3, 1) := by decide +kernel
theorem dX4_buy_149 : decode cX4_buy 149 = .ok (.iastore, 1) := by decide +kernel
theorem dX4_buy_150 : decode cX4_buy 150 = .ok (.aload_n 0, 1) := by decide +kernel
theorem dX4_buy_151 : decode cX4_buy 151 = .ok (.getfield 57, 3) := by decide +kernel
theorem dX4_buy_154 : decode cX4_buy 154 = .ok (.aload_n 0, 1) := by decide +kernel
theorem dX4_buy_155 : decode cX4_buy 155 = .ok (.getfield 265, 3) := by decide +kernel
theorem dX4_buy_158 : decode cX4_buy 158 = .ok (.iload 4, 2) := by decide +kernel
theorem dX4_buy_160 : decode cX4_buy 160 = .ok (.iastore, 1) := by decide +kernel
theorem dX4_buy_161 : decode cX4_buy 161 = .ok (.aload_n 0, 1) := by decide +kernel
theorem dX4_buy_162 : decode cX4_buy 162 = .ok (.getfield 60, 3) := by decide +kernel
theorem dX4_buy_165 : decode cX4_buy 165 = .ok (.aload_n 0, 1) := by decide +kernel
theorem dX4_buy_166 : decode cX4_buy 166 = .ok (.getfield 265, 3) := by decide +kernel
theorem dX4_buy_169 : decode cX4_buy 169 = .ok (.lload 5, 2) := by decide +kernel
theorem dX4_buy_171 : decode cX4_buy 171 = .ok (.lastore, 1) := by decide +kernel
theorem dX4_buy_172 : decode cX4_buy 172 = .ok (.aload_n 0, 1) := by decide +kernel
theorem dX4_buy_173 : decode cX4_buy 173 = .ok (.getfield 63, 3) := by decide +kernel
theorem dX4_buy_176 : decode cX4_buy 176 = .ok (.aload_n 0, 1) := by decide +kernel
theorem dX4_buy_177 : decode cX4_buy 177 = .ok (.getfield 265, 3) := by decide +kernel
theorem dX4_buy_180 : decode cX4_buy 180 = .ok (.aload_n 0, 1) := by decide +kernel
theorem dX4_buy_181 : decode cX4_buy 181 = .ok (.getfield 255, 3) := by decide +kernel
theorem dX4_buy_184 : decode cX4_buy 184 = .ok (.iload 7, 2) := by decide +kernel
theorem dX4_buy_186 : decode cX4_buy 186 = .ok (.iadd, 1) := by decide +kernel
theorem dX4_buy_187 : decode cX4_buy 187 = .ok (.iastore, 1) := by decide +kernel
theorem dX4_buy_188 : decode cX4_buy 188 = .ok (.aload_n 0, 1) := by decide +kernel
theorem dX4_buy_189 : decode cX4_buy 189 = .ok (.getfield 66, 3) := by decide +kernel
theorem dX4_buy_192 : decode cX4_buy 192 = .ok (.aload_n 0, 1) := by decide +kernel
theorem dX4_buy_193 : decode cX4_buy 193 = .ok (.getfield 265, 3) := by decide +kernel
theorem dX4_buy_196 : decode cX4_buy 196 = .ok (.aload_n 0, 1) := by decide +kernel
theorem dX4_buy_197 : decode cX4_buy 197 = .ok (.getfield 239, 3) := by decide +kernel
theorem dX4_buy_200 : decode cX4_buy 200 = .ok (.lastore, 1) := by decide +kernel
theorem dX4_buy_201 : decode cX4_buy 201 = .ok (.aload_n 0, 1) := by decide +kernel
theorem dX4_buy_202 : decode cX4_buy 202 = .ok (.getfield 69, 3) := by decide +kernel
theorem dX4_buy_205 : decode cX4_buy 205 = .ok (.aload_n 0, 1) := by decide +kernel
theorem dX4_buy_206 : decode cX4_buy 206 = .ok (.getfield 265, 3) := by decide +kernel
theorem dX4_buy_209 : decode cX4_buy 209 = .ok (.aload_n 0, 1) := by decide +kernel
theorem dX4_buy_210 : decode cX4_buy 210 = .ok (.getfield 246, 3) := by decide +kernel
theorem dX4_buy_213 : decode cX4_buy 213 = .ok (.lastore, 1) := by decide +kernel
theorem dX4_buy_214 : decode cX4_buy 214 = .ok (.aload_n 0, 1) := by decide +kernel
theorem dX4_buy_215 : decode cX4_buy 215 = .ok (.dup, 1) := by decide +kernel
theorem dX4_buy_216 : decode cX4_buy 216 = .ok (.getfield 265, 3) := by decide +kernel
theorem dX4_buy_219 : decode cX4_buy 219 = .ok (.iconst 1, 1) := by decide +kernel
theorem dX4_buy_220 : decode cX4_buy 220 = .ok (.iadd, 1) := by decide +kernel
theorem dX4_buy_221 : decode cX4_buy 221 = .ok (.putfield 265, 3) := by decide +kernel
theorem dX4_buy_224 : decode cX4_buy 224 = .ok (.aload_n 0, 1) := by decide +kernel
theorem dX4_buy_225 : decode cX4_buy 225 = .ok (.getfield 265, 3) := by decide +kernel
theorem dX4_buy_228 : decode cX4_buy 228 = .ok (.iconst 1, 1) := by decide +kernel
theorem dX4_buy_229 : decode cX4_buy 229 = .ok (.isub, 1) := by decide +kernel
theorem dX4_buy_230 : decode cX4_buy 230 = .ok (.ireturn, 1) := by decide +kernel
theorem dX4_insert_0 : decode cX4_insert 0 = .ok (.aload_n 0, 1) := by decide +kernel
theorem dX4_insert_1 : decode cX4_insert 1 = .ok (.iconst 0, 1) := by decide +kernel
theorem dX4_insert_2 : decode cX4_insert 2 = .ok (.putfield 121, 3) := by decide +kernel
theorem dX4_insert_5 : decode cX4_insert 5 = .ok (.aload_n 0, 1) := by decide +kernel
theorem dX4_insert_6 : decode cX4_insert 6 = .ok (.iload_n 1, 1) := by decide +kernel
theorem dX4_insert_7 : decode cX4_insert 7 = .ok (.iload_n 2, 1) := by decide +kernel
theorem dX4_insert_8 : decode cX4_insert 8 = .ok (.invokevirtual 274, 3) := by decide +kernel
theorem dX4_insert_11 : decode cX4_insert 11 = .ok (.ifCond .ne 5, 3) := by decide +kernel
theorem dX4_insert_14 : decode cX4_insert 14 = .ok (.iconst (-1), 1) := by decide +kernel
theorem dX4_insert_15 : decode cX4_insert 15 = .ok (.ireturn, 1) := by decide +kernel
theorem dX4_insert_16 : decode cX4_insert 16 = .ok (.bipush 8, 2) := by decide +kernel
theorem dX4_insert_18 : decode cX4_insert 18 = .ok (.iload_n 1, 1) := by decide +kernel
theorem dX4_insert_19 : decode cX4_insert 19 = .ok (.imul, 1) := by decide +kernel
theorem dX4_insert_20 : decode cX4_insert 20 = .ok (.iload_n 2, 1) := by decide +kernel
theorem dX4_insert_21 : decode cX4_insert 21 = .ok (.iadd, 1) := by decide +kernel
theorem dX4_insert_22 : decode cX4_insert 22 = .ok (.istore_n 3, 1) := by decide +kernel
theorem dX4_insert_23 : decode cX4_insert 23 = .ok (.aload_n 0, 1) := by decide +kernel
theorem dX4_insert_24 : decode cX4_insert 24 = .ok (.getfield 106, 3) := by decide +kernel
theorem dX4_insert_27 : decode cX4_insert 27 = .ok (.iload_n 3, 1) := by decide +kernel
theorem dX4_insert_28 : decode cX4_insert 28 = .ok (.baload, 1) := by decide +kernel
theorem dX4_insert_29 : decode cX4_insert 29 = .ok (.ifCond .eq 5, 3) := by decide +kernel
theorem dX4_insert_32 : decode cX4_insert 32 = .ok (.iconst 1, 1) := by decide +kernel
theorem dX4_insert_33 : decode cX4_insert 33 = .ok (.ireturn, 1) := by decide +kernel
theorem dX4_insert_34 : decode cX4_insert 34 = .ok (.aload_n 0, 1) := by decide +kernel
theorem dX4_insert_35 : decode cX4_insert 35 = .ok (.iload_n 2, 1) := by decide +kernel
theorem dX4_insert_36 : decode cX4_insert 36 = .ok (.iload_n 1, 1) := by decide +kernel
theorem dX4_insert_37 : decode cX4_insert 37 = .ok (.invokevirtual 278, 3) := by decide +kernel
theorem dX4_insert_40 : decode cX4_insert 40 = .ok (.ifCond .ne 5, 3) := by decide +kernel
theorem dX4_insert_43 : decode cX4_insert 43 = .ok (.iconst 2, 1) := by decide +kernel
theorem dX4_insert_44 : decode cX4_insert 44 = .ok (.ireturn, 1) := by decide +kernel
theorem dX4_insert_45 : decode cX4_insert 45 = .ok (.aload_n 0, 1) := by decide +kernel
theorem dX4_insert_46 : decode cX4_insert 46 = .ok (.getfield 57, 3) := by decide +kernel
theorem dX4_insert_49 : decode cX4_insert 49 = .ok (.iload_n 1, 1) := by decide +kernel
theorem dX4_insert_50 : decode cX4_insert 50 = .ok (.iaload, 1) := by decide +kernel
theorem dX4_insert_51 : decode cX4_insert 51 = .ok (.iload_n 2, 1) := by decide +kernel
theorem dX4_insert_52 : decode cX4_insert 52 = .ok (.ishr, 1) := by decide +kernel
theorem dX4_insert_53 : decode cX4_insert 53 = .ok (.iconst 1, 1) := by decide +kernel
theorem dX4_insert_54 : decode cX4_insert 54 = .ok (.iand, 1) := by decide +kernel
theorem dX4_insert_55 : decode cX4_insert 55 = .ok (.ifCond .ne 7, 3) := by decide +kernel
theorem dX4_insert_58 : decode cX4_insert 58 = .ok (.iconst 3, 1) := by decide +kernel
theorem dX4_insert_59 : decode cX4_insert 59 = .ok (.goto 54, 3) := by decide +kernel
theorem dX4_insert_62 : decode cX4_insert 62 = .ok (.aload_n 0, 1) := by decide +kernel
theorem dX4_insert_63 : decode cX4_insert 63 = .ok (.getfield 255, 3) := by decide +kernel
theorem dX4_insert_66 : decode cX4_insert 66 = .ok (.aload_n 0, 1) := by decide +kernel
theorem dX4_insert_67 : decode cX4_insert 67 = .ok (.getfield 63, 3) := by decide +kernel
theorem dX4_insert_70 : decode cX4_insert 70 = .ok (.iload_n 1, 1) := by decide +kernel
theorem dX4_insert_71 : decode cX4_insert 71 = .ok (.iaload, 1) := by decide +kernel
theorem dX4_insert_72 : decode cX4_insert 72 = .ok (.if_icmp .le 7, 3) := by decide +kernel
theorem dX4_insert_75 : decode cX4_insert 75 = .ok (.iconst 4, 1) := by decide +kernel
theorem dX4_insert_76 : decode cX4_insert 76 = .ok (.goto 37, 3) := by decide +kernel
theorem dX4_insert_79 : decode cX4_insert 79 = .ok (.aload_n 0, 1) := by decide +kernel
theorem dX4_insert_80 : decode cX4_insert 80 = .ok (.getfield 100, 3) := by decide +kernel
theorem dX4_insert_83 : decode cX4_insert 83 = .ok (.iload_n 2, 1) := by decide +kernel
theorem dX4_insert_84 : decode cX4_insert 84 = .ok (.iaload, 1) := by decide +kernel
theorem dX4_insert_85 : decode cX4_insert 85 = .ok (.iload_n 1, 1) := by decide +kernel
theorem dX4_insert_86 : decode cX4_insert 86 = .ok (.ishr, 1) := by decide +kernel
theorem dX4_insert_87 : decode cX4_insert 87 = .ok (.iconst 1, 1) := by decide +kernel
theorem dX4_insert_88 : decode cX4_insert 88 = .ok (.iand, 1) := by decide +kernel
theorem dX4_insert_89 : decode cX4_insert 89 = .ok (.iconst 1, 1) := by decide +kernel
theorem dX4_insert_90 : decode cX4_insert 90 = .ok (.if_icmp .ne 7, 3) := by decide +kernel
theorem dX4_insert_93 : decode cX4_insert 93 = .ok (.iconst 5, 1) := by decide +kernel
theorem dX4_insert_94 : decode cX4_insert 94 = .ok (.goto 19, 3) := by decide +kernel
theorem dX4_insert_97 : decode cX4_insert 97 = .ok (.aload_n 0, 1) := by decide +kernel
theorem dX4_insert_98 : decode cX4_insert 98 = .ok (.iload_n 2, 1) := by decide +kernel
theorem dX4_insert_99 : decode cX4_insert 99 = .ok (.invokevirtual 281, 3) := by decide +kernel
theorem dX4_insert_102 : decode cX4_insert 102 = .ok (.bipush 6, 2) := by decide +kernel
theorem dX4_insert_104 : decode cX4_insert 104 = .ok (.if_icmp .ne 8, 3) := by decide +kernel
theorem dX4_insert_107 : decode cX4_insert 107 = .ok (.bipush 6, 2) := by decide +kernel
theorem dX4_insert_109 : decode cX4_insert 109 = .ok (.goto 4, 3) := by decide +kernel
theorem dX4_insert_112 : decode cX4_insert 112 = .ok (.iconst 0, 1) := by decide +kernel
theorem dX4_insert_113 : decode cX4_insert 113 = .ok (.istore 4, 2) := by decide +kernel
theorem dX4_insert_115 : decode cX4_insert 115 = .ok (.iload 4, 2) := by decide +kernel
theorem dX4_insert_117 : decode cX4_insert 117 = .ok (.ifCond .eq 6, 3) := by decide +kernel
theorem dX4_insert_120 : decode cX4_insert 120 = .ok (.iload 4, 2) := by decide +kernel
theorem dX4_insert_122 : decode cX4_insert 122 = .ok (.ireturn, 1) := by decide +kernel
theorem dX4_insert_123 : decode cX4_insert 123 = .ok (.aload_n 0, 1) := by decide +kernel
theorem dX4_insert_124 : decode cX4_insert 124 = .ok (.iload_n 2, 1) := by decide +kernel
theorem dX4_insert_125 : decode cX4_insert 125 = .ok (.invokevirtual 285, 3) := by decide +kernel
theorem dX4_insert_128 : decode cX4_insert 128 = .ok (.ifCond .ne 6, 3) := by decide +kernel
theorem dX4_insert_131 : decode cX4_insert 131 = .ok (.bipush (-5), 2) := by decide +kernel
theorem dX4_insert_133 : decode cX4_insert 133 = .ok (.ireturn, 1) := by decide +kernel
theorem dX4_insert_134 : decode cX4_insert 134 = .ok (.aload_n 0, 1) := by decide +kernel
theorem dX4_insert_135 : decode cX4_insert 135 = .ok (.getfield 106, 3) := by decide +kernel
theorem dX4_insert_138 : decode cX4_insert 138 = .ok (.iload_n 3, 1) := by decide +kernel
theorem dX4_insert_139 : decode cX4_insert 139 = .ok (.iconst 1, 1) := by decide +kernel
theorem dX4_insert_140 : decode cX4_insert 140 = .ok (.bastore, 1) := by decide +kernel
theorem dX4_insert_141 : decode cX4_insert 141 = .ok (.aload_n 0, 1) := by decide +kernel
theorem dX4_insert_142 : decode cX4_insert 142 = .ok (.getfield 109, 3) := by decide +kernel
theorem dX4_insert_145 : decode cX4_insert 145 = .ok (.iload_n 3, 1) := by decide +kernel
theorem dX4_insert_146 : decode cX4_insert 146 = .ok (.iconst 0, 1) := by decide +kernel
theorem dX4_insert_147 : decode cX4_insert 147 = .ok (.iastore, 1) := by decide +kernel
theorem dX4_insert_148 : decode cX4_insert 148 = .ok (.iconst 0, 1) := by decide +kernel
theorem dX4_insert_149 : decode cX4_insert 149 = .ok (.istore 5, 2) := by decide +kernel
theorem dX4_insert_151 : decode cX4_insert 151 = .ok (.iload 5, 2) := by decide +kernel
theorem dX4_insert_153 : decode cX4_insert 153 = .ok (.bipush 20, 2) := by decide +kernel
theorem dX4_insert_155 : decode cX4_insert 155 = .ok (.if_icmp .ge 36, 3) := by decide +kernel
theorem dX4_insert_158 : decode cX4_insert 158 = .ok (.aload_n 0, 1) := by decide +kernel
theorem dX4_insert_159 : decode cX4_insert 159 = .ok (.getfield 112, 3) := by decide +kernel
theorem dX4_insert_162 : decode cX4_insert 162 = .ok (.bipush 20, 2) := by decide +kernel
theorem dX4_insert_164 : decode cX4_insert 164 = .ok (.iload_n 3, 1) := by decide +kernel
theorem dX4_insert_165 : decode cX4_insert 165 = .ok (.imul, 1) := by decide +kernel
theorem dX4_insert_166 : decode cX4_insert 166 = .ok (.iload 5, 2) := by decide +kernel
theorem dX4_insert_168 : decode cX4_insert 168 = .ok (.iadd, 1) := by decide +kernel
theorem dX4_insert_169 : decode cX4_insert 169 = .ok (.aload_n 0, 1) := by decide +kernel
theorem dX4_insert_170 : decode cX4_insert 170 = .ok (.getfield 38, 3) := by decide +kernel
theorem dX4_insert_173 : decode cX4_insert 173 = .ok (.bipush 12, 2) := by decide +kernel
theorem dX4_insert_175 : decode cX4_insert 175 = .ok (.bipush 20, 2) := by decide +kernel
theorem dX4_insert_177 : decode cX4_insert 177 = .ok (.iload_n 2, 1) := by decide +kernel
theorem dX4_insert_178 : decode cX4_insert 178 = .ok (.imul, 1) := by decide +kernel
theorem dX4_insert_179 : decode cX4_insert 179 = .ok (.iadd, 1) := by decide +kernel
theorem dX4_insert_180 : decode cX4_insert 180 = .ok (.iload 5, 2) := by decide +kernel
theorem dX4_insert_182 : decode cX4_insert 182 = .ok (.iadd, 1) := by decide +kernel
theorem dX4_insert_183 : decode cX4_insert 183 = .ok (.baload, 1) := by decide +kernel
theorem dX4_insert_184 : decode cX4_insert 184 = .ok (.bastore, 1) := by decide +kernel
theorem dX4_insert_185 : decode cX4_insert 185 = .ok (.iinc 5 1, 3) := by decide +kernel
theorem dX4_insert_188 : decode cX4_insert 188 = .ok (.goto (-37), 3) := by decide +kernel
theorem dX4_insert_191 : decode cX4_insert 191 = .ok (.iconst 0, 1) := by decide +kernel
theorem dX4_insert_192 : decode cX4_insert 192 = .ok (.ireturn, 1) := by decide +kernel
theorem dX4_isPair_0 : decode cX4_isPair 0 = .ok (.iload_n 1, 1) := by decide +kernel
theorem dX4_isPair_1 : decode cX4_isPair 1 = .ok (.iconst 0, 1) := by decide +kernel
theorem dX4_isPair_2 : decode cX4_isPair 2 = .ok (.aload_n 0, 1) := by decide +kernel
theorem dX4_isPair_3 : decode cX4_isPair 3 = .ok (.getfield 265, 3) := by decide +kernel
theorem dX4_isPair_6 : decode cX4_isPair 6 = .ok (.iconst 1, 1) := by decide +kernel
theorem dX4_isPair_7 : decode cX4_isPair 7 = .ok (.isub, 1) := by decide +kernel
theorem dX4_isPair_8 : decode cX4_isPair 8 = .ok (.invokestatic 259, 3) := by decide +kernel
theorem dX4_isPair_11 : decode cX4_isPair 11 = .ok (.ifCond .eq 17, 3) := by decide +kernel
theorem dX4_isPair_14 : decode cX4_isPair 14 = .ok (.iload_n 2, 1) := by decide +kernel
theorem dX4_isPair_15 : decode cX4_isPair 15 = .ok (.iconst 0, 1) := by decide +kernel
theorem dX4_isPair_16 : decode cX4_isPair 16 = .ok (.bipush 7, 2) := by decide +kernel
theorem dX4_isPair_18 : decode cX4_isPair 18 = .ok (.invokestatic 259, 3) := by decide +kernel
theorem dX4_isPair_21 : decode cX4_isPair 21 = .ok (.ifCond .eq 7, 3) := by decide +kernel
theorem dX4_isPair_24 : decode cX4_isPair 24 = .ok (.iconst 1, 1) := by decide +kernel
theorem dX4_isPair_25 : decode cX4_isPair 25 = .ok (.goto 4, 3) := by decide +kernel
theorem dX4_isPair_28 : decode cX4_isPair 28 = .ok (.iconst 0, 1) := by decide +kernel
theorem dX4_isPair_29 : decode cX4_isPair 29 = .ok (.ireturn, 1) := by decide +kernel
theorem dX4_knows_0 : decode cX4_knows 0 = .ok (.aload_n 0, 1) := by decide +kernel
theorem dX4_knows_1 : decode cX4_knows 1 = .ok (.iload_n 2, 1) := by decide +kernel
theorem dX4_knows_2 : decode cX4_knows 2 = .ok (.invokevirtual 271, 3) := by decide +kernel
theorem dX4_knows_5 : decode cX4_knows 5 = .ok (.iconst 0, 1) := by decide +kernel
theorem dX4_knows_6 : decode cX4_knows 6 = .ok (.istore_n 3, 1) := by decide +kernel
theorem dX4_knows_7 : decode cX4_knows 7 = .ok (.iload_n 3, 1) := by decide +kernel
theorem dX4_knows_8 : decode cX4_knows 8 = .ok (.aload_n 0, 1) := by decide +kernel
theorem dX4_knows_9 : decode cX4_knows 9 = .ok (.getfield 91, 3) := by decide +kernel
theorem dX4_knows_12 : decode cX4_knows 12 = .ok (.iload_n 1, 1) := by decide +kernel
theorem dX4_knows_13 : decode cX4_knows 13 = .ok (.iaload, 1) := by decide +kernel
theorem dX4_knows_14 : decode cX4_knows 14 = .ok (.if_icmp .ge 92, 3) := by decide +kernel
theorem dX4_knows_17 : decode cX4_knows 17 = .ok (.aload_n 0, 1) := by decide +kernel
theorem dX4_knows_18 : decode cX4_knows 18 = .ok (.aload_n 0, 1) := by decide +kernel
theorem dX4_knows_19 : decode cX4_knows 19 = .ok (.getfield 94, 3) := by decide +kernel
theorem dX4_knows_22 : decode cX4_knows 22 = .ok (.iconst 2, 1) := by decide +kernel
theorem dX4_knows_23 : decode cX4_knows 23 = .ok (.iload_n 1, 1) := by decide +kernel
theorem dX4_knows_24 : decode cX4_knows 24 = .ok (.imul, 1) := by decide +kernel
theorem dX4_knows_25 : decode cX4_knows 25 = .ok (.iload_n 3, 1) := by decide +kernel
theorem dX4_knows_26 : decode cX4_knows 26 = .ok (.iadd, 1) := by decide +kernel
theorem dX4_knows_27 : decode cX4_knows 27 = .ok (.laload, 1) := by decide +kernel
theorem dX4_knows_28 : decode cX4_knows 28 = .ok (.aload_n 0, 1) := by decide +kernel
theorem dX4_knows_29 : decode cX4_knows 29 = .ok (.getfield 97, 3) := by decide +kernel
theorem dX4_knows_32 : decode cX4_knows 32 = .ok (.iconst 2, 1) := by decide +kernel
theorem dX4_knows_33 : decode cX4_knows 33 = .ok (.iload_n 1, 1) := by decide +kernel
theorem dX4_knows_34 : decode cX4_knows 34 = .ok (.imul, 1) := by decide +kernel
theorem dX4_knows_35 : decode cX4_knows 35 = .ok (.iload_n 3, 1) := by decide +kernel
theorem dX4_knows_36 : decode cX4_knows 36 = .ok (.iadd, 1) := by decide +kernel
theorem dX4_knows_37 : decode cX4_knows 37 = .ok (.laload, 1) := by decide +kernel
theorem dX4_knows_38 : decode cX4_knows 38 = .ok (.invokevirtual 235, 3) := by decide +kernel
theorem dX4_knows_41 : decode cX4_knows 41 = .ok (.iconst 1, 1) := by decide +kernel
theorem dX4_knows_42 : decode cX4_knows 42 = .ok (.istore 4, 2) := by decide +kernel
theorem dX4_knows_44 : decode cX4_knows 44 = .ok (.iconst 0, 1) := by decide +kernel
theorem dX4_knows_45 : decode cX4_knows 45 = .ok (.istore 5, 2) := by decide +kernel
theorem dX4_knows_47 : decode cX4_knows 47 = .ok (.iload 5, 2) := by decide +kernel
theorem dX4_knows_49 : decode cX4_knows 49 = .ok (.bipush 32, 2) := by decide +kernel
theorem dX4_knows_51 : decode cX4_knows 51 = .ok (.if_icmp .ge 42, 3) := by decide +kernel
theorem dX4_knows_54 : decode cX4_knows 54 = .ok (.iload 4, 2) := by decide +kernel
theorem dX4_knows_56 : decode cX4_knows 56 = .ok (.ifCond .eq 28, 3) := by decide +kernel
theorem dX4_knows_59 : decode cX4_knows 59 = .ok (.aload_n 0, 1) := by decide +kernel
theorem dX4_knows_60 : decode cX4_knows 60 = .ok (.getfield 35, 3) := by decide +kernel
theorem dX4_knows_63 : decode cX4_knows 63 = .ok (.iload 5, 2) := by decide +kernel
theorem dX4_knows_65 : decode cX4_knows 65 = .ok (.baload, 1) := by decide +kernel
theorem dX4_knows_66 : decode cX4_knows 66 = .ok (.aload_n 0, 1) := by decide +kernel
theorem dX4_knows_67 : decode cX4_knows 67 = .ok (.getfield 38, 3) := by decide +kernel
theorem dX4_knows_70 : decode cX4_knows 70 = .ok (.sipush 172, 3) := by decide +kernel
theorem dX4_knows_73 : decode cX4_knows 73 = .ok (.iload 5, 2) := by decide +kernel
theorem dX4_knows_75 : decode cX4_knows 75 = .ok (.iadd, 1) := by decide +kernel
theorem dX4_knows_76 : decode cX4_knows 76 = .ok (.baload, 1) := by decide +kernel
theorem dX4_knows_77 : decode cX4_knows 77 = .ok (.if_icmp .ne 7, 3) := by decide +kernel
theorem dX4_knows_80 : decode cX4_knows 80 = .ok (.iconst 1, 1) := by decide +kernel
theorem dX4_knows_81 : decode cX4_knows 81 = .ok (.goto 4, 3) := by decide +kernel
theorem dX4_knows_84 : decode cX4_knows 84 = .ok (.iconst 0, 1) := by decide +kernel
theorem dX4_knows_85 : decode cX4_knows 85 = .ok (.istore 4, 2) := by decide +kernel
theorem dX4_knows_87 : decode cX4_knows 87 = .ok (.iinc 5 1, 3) := by decide +kernel
theorem dX4_knows_90 : decode cX4_knows 90 = .ok (.goto (-43), 3) := by decide +kernel
theorem dX4_knows_93 : decode cX4_knows 93 = .ok (.iload 4, 2) := by decide +kernel
theorem dX4_knows_95 : decode cX4_knows 95 = .ok (.ifCond .eq 5, 3) := by decide +kernel
theorem dX4_knows_98 : decode cX4_knows 98 = .ok (.iconst 1, 1) := by decide +kernel
theorem dX4_knows_99 : decode cX4_knows 99 = .ok (.ireturn, 1) := by decide +kernel
theorem dX4_knows_100 : decode cX4_knows 100 = .ok (.iinc 3 1, 3) := by decide +kernel
theorem dX4_knows_103 : decode cX4_knows 103 = .ok (.goto (-96), 3) := by decide +kernel
theorem dX4_knows_106 : decode cX4_knows 106 = .ok (.iconst 0, 1) := by decide +kernel
theorem dX4_knows_107 : decode cX4_knows 107 = .ok (.ireturn, 1) := by decide +kernel
