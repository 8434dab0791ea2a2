theorem dX4_letterOf_0 : decode cX4_letterOf 0 = .ok (.aload_n 0, 1) := by decide +kernel
theorem dX4_letterOf_1 : decode cX4_letterOf 1 = .ok (.iconst 0, 1) := by decide +kernel
theorem dX4_letterOf_2 : decode cX4_letterOf 2 = .ok (.iconst 2, 1) := by decide +kernel
theorem dX4_letterOf_3 : decode cX4_letterOf 3 = .ok (.iload_n 1, 1) := by decide +kernel
theorem dX4_letterOf_4 : decode cX4_letterOf 4 = .ok (.invokevirtual 224, 3) := by decide +kernel
theorem dX4_letterOf_7 : decode cX4_letterOf 7 = .ok (.aload_n 0, 1) := by decide +kernel
theorem dX4_letterOf_8 : decode cX4_letterOf 8 = .ok (.iconst 2, 1) := by decide +kernel
theorem dX4_letterOf_9 : decode cX4_letterOf 9 = .ok (.iconst 2, 1) := by decide +kernel
theorem dX4_letterOf_10 : decode cX4_letterOf 10 = .ok (.aload_n 0, 1) := by decide +kernel
theorem dX4_letterOf_11 : decode cX4_letterOf 11 = .ok (.getfield 51, 3) := by decide +kernel
theorem dX4_letterOf_14 : decode cX4_letterOf 14 = .ok (.iload_n 1, 1) := by decide +kernel
theorem dX4_letterOf_15 : decode cX4_letterOf 15 = .ok (.iaload, 1) := by decide +kernel
theorem dX4_letterOf_16 : decode cX4_letterOf 16 = .ok (.invokevirtual 224, 3) := by decide +kernel
theorem dX4_letterOf_19 : decode cX4_letterOf 19 = .ok (.aload_n 0, 1) := by decide +kernel
theorem dX4_letterOf_20 : decode cX4_letterOf 20 = .ok (.iconst 4, 1) := by decide +kernel
theorem dX4_letterOf_21 : decode cX4_letterOf 21 = .ok (.iconst 2, 1) := by decide +kernel
theorem dX4_letterOf_22 : decode cX4_letterOf 22 = .ok (.aload_n 0, 1) := by decide +kernel
theorem dX4_letterOf_23 : decode cX4_letterOf 23 = .ok (.getfield 54, 3) := by decide +kernel
theorem dX4_letterOf_26 : decode cX4_letterOf 26 = .ok (.iload_n 1, 1) := by decide +kernel
theorem dX4_letterOf_27 : decode cX4_letterOf 27 = .ok (.iaload, 1) := by decide +kernel
theorem dX4_letterOf_28 : decode cX4_letterOf 28 = .ok (.invokevirtual 224, 3) := by decide +kernel
theorem dX4_letterOf_31 : decode cX4_letterOf 31 = .ok (.aload_n 0, 1) := by decide +kernel
theorem dX4_letterOf_32 : decode cX4_letterOf 32 = .ok (.bipush 6, 2) := by decide +kernel
theorem dX4_letterOf_34 : decode cX4_letterOf 34 = .ok (.iconst 4, 1) := by decide +kernel
theorem dX4_letterOf_35 : decode cX4_letterOf 35 = .ok (.aload_n 0, 1) := by decide +kernel
theorem dX4_letterOf_36 : decode cX4_letterOf 36 = .ok (.getfield 63, 3) := by decide +kernel
theorem dX4_letterOf_39 : decode cX4_letterOf 39 = .ok (.iload_n 1, 1) := by decide +kernel
theorem dX4_letterOf_40 : decode cX4_letterOf 40 = .ok (.iaload, 1) := by decide +kernel
theorem dX4_letterOf_41 : decode cX4_letterOf 41 = .ok (.invokevirtual 224, 3) := by decide +kernel
theorem dX4_letterOf_44 : decode cX4_letterOf 44 = .ok (.aload_n 0, 1) := by decide +kernel
theorem dX4_letterOf_45 : decode cX4_letterOf 45 = .ok (.bipush 10, 2) := by decide +kernel
theorem dX4_letterOf_47 : decode cX4_letterOf 47 = .ok (.iconst 2, 1) := by decide +kernel
theorem dX4_letterOf_48 : decode cX4_letterOf 48 = .ok (.aload_n 0, 1) := by decide +kernel
theorem dX4_letterOf_49 : decode cX4_letterOf 49 = .ok (.getfield 57, 3) := by decide +kernel
theorem dX4_letterOf_52 : decode cX4_letterOf 52 = .ok (.iload_n 1, 1) := by decide +kernel
theorem dX4_letterOf_53 : decode cX4_letterOf 53 = .ok (.iaload, 1) := by decide +kernel
theorem dX4_letterOf_54 : decode cX4_letterOf 54 = .ok (.invokevirtual 224, 3) := by decide +kernel
theorem dX4_letterOf_57 : decode cX4_letterOf 57 = .ok (.iconst 0, 1) := by decide +kernel
theorem dX4_letterOf_58 : decode cX4_letterOf 58 = .ok (.istore_n 2, 1) := by decide +kernel
theorem dX4_letterOf_59 : decode cX4_letterOf 59 = .ok (.iload_n 2, 1) := by decide +kernel
theorem dX4_letterOf_60 : decode cX4_letterOf 60 = .ok (.bipush 8, 2) := by decide +kernel
theorem dX4_letterOf_62 : decode cX4_letterOf 62 = .ok (.if_icmp .ge 90, 3) := by decide +kernel
theorem dX4_letterOf_65 : decode cX4_letterOf 65 = .ok (.aload_n 0, 1) := by decide +kernel
theorem dX4_letterOf_66 : decode cX4_letterOf 66 = .ok (.getfield 57, 3) := by decide +kernel
theorem dX4_letterOf_69 : decode cX4_letterOf 69 = .ok (.iload_n 1, 1) := by decide +kernel
theorem dX4_letterOf_70 : decode cX4_letterOf 70 = .ok (.iaload, 1) := by decide +kernel
theorem dX4_letterOf_71 : decode cX4_letterOf 71 = .ok (.iload_n 2, 1) := by decide +kernel
theorem dX4_letterOf_72 : decode cX4_letterOf 72 = .ok (.ishr, 1) := by decide +kernel
theorem dX4_letterOf_73 : decode cX4_letterOf 73 = .ok (.iconst 1, 1) := by decide +kernel
theorem dX4_letterOf_74 : decode cX4_letterOf 74 = .ok (.iand, 1) := by decide +kernel
theorem dX4_letterOf_75 : decode cX4_letterOf 75 = .ok (.iconst 1, 1) := by decide +kernel
theorem dX4_letterOf_76 : decode cX4_letterOf 76 = .ok (.if_icmp .ne 7, 3) := by decide +kernel
theorem dX4_letterOf_79 : decode cX4_letterOf 79 = .ok (.iconst 1, 1) := by decide +kernel
theorem dX4_letterOf_80 : decode cX4_letterOf 80 = .ok (.goto 4, 3) := by decide +kernel
theorem dX4_letterOf_83 : decode cX4_letterOf 83 = .ok (.iconst 0, 1) := by decide +kernel
theorem dX4_letterOf_84 : decode cX4_letterOf 84 = .ok (.istore_n 3, 1) := by decide +kernel
theorem dX4_letterOf_85 : decode cX4_letterOf 85 = .ok (.iload_n 3, 1) := by decide +kernel
theorem dX4_letterOf_86 : decode cX4_letterOf 86 = .ok (.ifCond .eq 14, 3) := by decide +kernel
theorem dX4_letterOf_89 : decode cX4_letterOf 89 = .ok (.aload_n 0, 1) := by decide +kernel
theorem dX4_letterOf_90 : decode cX4_letterOf 90 = .ok (.iload_n 1, 1) := by decide +kernel
theorem dX4_letterOf_91 : decode cX4_letterOf 91 = .ok (.iconst 1, 1) := by decide +kernel
theorem dX4_letterOf_92 : decode cX4_letterOf 92 = .ok (.invokevirtual 228, 3) := by decide +kernel
theorem dX4_letterOf_95 : decode cX4_letterOf 95 = .ok (.aload_n 0, 1) := by decide +kernel
theorem dX4_letterOf_96 : decode cX4_letterOf 96 = .ok (.iload_n 2, 1) := by decide +kernel
theorem dX4_letterOf_97 : decode cX4_letterOf 97 = .ok (.invokevirtual 232, 3) := by decide +kernel
theorem dX4_letterOf_100 : decode cX4_letterOf 100 = .ok (.iconst 0, 1) := by decide +kernel
theorem dX4_letterOf_101 : decode cX4_letterOf 101 = .ok (.istore 4, 2) := by decide +kernel
theorem dX4_letterOf_103 : decode cX4_letterOf 103 = .ok (.iload 4, 2) := by decide +kernel
theorem dX4_letterOf_105 : decode cX4_letterOf 105 = .ok (.bipush 20, 2) := by decide +kernel
theorem dX4_letterOf_107 : decode cX4_letterOf 107 = .ok (.if_icmp .ge 39, 3) := by decide +kernel
theorem dX4_letterOf_110 : decode cX4_letterOf 110 = .ok (.aload_n 0, 1) := by decide +kernel
theorem dX4_letterOf_111 : decode cX4_letterOf 111 = .ok (.getfield 38, 3) := by decide +kernel
theorem dX4_letterOf_114 : decode cX4_letterOf 114 = .ok (.bipush 12, 2) := by decide +kernel
theorem dX4_letterOf_116 : decode cX4_letterOf 116 = .ok (.bipush 20, 2) := by decide +kernel
theorem dX4_letterOf_118 : decode cX4_letterOf 118 = .ok (.iload_n 2, 1) := by decide +kernel
theorem dX4_letterOf_119 : decode cX4_letterOf 119 = .ok (.imul, 1) := by decide +kernel
theorem dX4_letterOf_120 : decode cX4_letterOf 120 = .ok (.iadd, 1) := by decide +kernel
theorem dX4_letterOf_121 : decode cX4_letterOf 121 = .ok (.iload 4, 2) := by decide +kernel
theorem dX4_letterOf_123 : decode cX4_letterOf 123 = .ok (.iadd, 1) := by decide +kernel
theorem dX4_letterOf_124 : decode cX4_letterOf 124 = .ok (.iload_n 3, 1) := by decide +kernel
theorem dX4_letterOf_125 : decode cX4_letterOf 125 = .ok (.ifCond .eq 13, 3) := by decide +kernel
theorem dX4_letterOf_128 : decode cX4_letterOf 128 = .ok (.aload_n 0, 1) := by decide +kernel
theorem dX4_letterOf_129 : decode cX4_letterOf 129 = .ok (.getfield 32, 3) := by decide +kernel
theorem dX4_letterOf_132 : decode cX4_letterOf 132 = .ok (.iload 4, 2) := by decide +kernel
theorem dX4_letterOf_134 : decode cX4_letterOf 134 = .ok (.baload, 1) := by decide +kernel
theorem dX4_letterOf_135 : decode cX4_letterOf 135 = .ok (.goto 4, 3) := by decide +kernel
theorem dX4_letterOf_138 : decode cX4_letterOf 138 = .ok (.iconst 0, 1) := by decide +kernel
theorem dX4_letterOf_139 : decode cX4_letterOf 139 = .ok (.bastore, 1) := by decide +kernel
theorem dX4_letterOf_140 : decode cX4_letterOf 140 = .ok (.iinc 4 1, 3) := by decide +kernel
theorem dX4_letterOf_143 : decode cX4_letterOf 143 = .ok (.goto (-40), 3) := by decide +kernel
theorem dX4_letterOf_146 : decode cX4_letterOf 146 = .ok (.iinc 2 1, 3) := by decide +kernel
theorem dX4_letterOf_149 : decode cX4_letterOf 149 = .ok (.goto (-90), 3) := by decide +kernel
theorem dX4_letterOf_152 : decode cX4_letterOf 152 = .ok (.aload_n 0, 1) := by decide +kernel
theorem dX4_letterOf_153 : decode cX4_letterOf 153 = .ok (.aload_n 0, 1) := by decide +kernel
theorem dX4_letterOf_154 : decode cX4_letterOf 154 = .ok (.getfield 66, 3) := by decide +kernel
theorem dX4_letterOf_157 : decode cX4_letterOf 157 = .ok (.iload_n 1, 1) := by decide +kernel
theorem dX4_letterOf_158 : decode cX4_letterOf 158 = .ok (.laload, 1) := by decide +kernel
theorem dX4_letterOf_159 : decode cX4_letterOf 159 = .ok (.aload_n 0, 1) := by decide +kernel
theorem dX4_letterOf_160 : decode cX4_letterOf 160 = .ok (.getfield 69, 3) := by decide +kernel
theorem dX4_letterOf_163 : decode cX4_letterOf 163 = .ok (.iload_n 1, 1) := by decide +kernel
theorem dX4_letterOf_164 : decode cX4_letterOf 164 = .ok (.laload, 1) := by decide +kernel
theorem dX4_letterOf_165 : decode cX4_letterOf 165 = .ok (.invokevirtual 235, 3) := by decide +kernel
theorem dX4_letterOf_168 : decode cX4_letterOf 168 = .ok (.iconst 0, 1) := by decide +kernel
theorem dX4_letterOf_169 : decode cX4_letterOf 169 = .ok (.istore_n 2, 1) := by decide +kernel
theorem dX4_letterOf_170 : decode cX4_letterOf 170 = .ok (.iload_n 2, 1) := by decide +kernel
theorem dX4_letterOf_171 : decode cX4_letterOf 171 = .ok (.bipush 32, 2) := by decide +kernel
theorem dX4_letterOf_173 : decode cX4_letterOf 173 = .ok (.if_icmp .ge 25, 3) := by decide +kernel
theorem dX4_letterOf_176 : decode cX4_letterOf 176 = .ok (.aload_n 0, 1) := by decide +kernel
theorem dX4_letterOf_177 : decode cX4_letterOf 177 = .ok (.getfield 38, 3) := by decide +kernel
theorem dX4_letterOf_180 : decode cX4_letterOf 180 = .ok (.sipush 172, 3) := by decide +kernel
theorem dX4_letterOf_183 : decode cX4_letterOf 183 = .ok (.iload_n 2, 1) := by decide +kernel
theorem dX4_letterOf_184 : decode cX4_letterOf 184 = .ok (.iadd, 1) := by decide +kernel
theorem dX4_letterOf_185 : decode cX4_letterOf 185 = .ok (.aload_n 0, 1) := by decide +kernel
theorem dX4_letterOf_186 : decode cX4_letterOf 186 = .ok (.getfield 35, 3) := by decide +kernel
theorem dX4_letterOf_189 : decode cX4_letterOf 189 = .ok (.iload_n 2, 1) := by decide +kernel
theorem dX4_letterOf_190 : decode cX4_letterOf 190 = .ok (.baload, 1) := by decide +kernel
theorem dX4_letterOf_191 : decode cX4_letterOf 191 = .ok (.bastore, 1) := by decide +kernel
theorem dX4_letterOf_192 : decode cX4_letterOf 192 = .ok (.iinc 2 1, 3) := by decide +kernel
theorem dX4_letterOf_195 : decode cX4_letterOf 195 = .ok (.goto (-25), 3) := by decide +kernel
theorem dX4_letterOf_198 : decode cX4_letterOf 198 = .ok (.return_, 1) := by decide +kernel
theorem dX4_number_0 : decode cX4_number 0 = .ok (.iconst 0, 1) := by decide +kernel
theorem dX4_number_1 : decode cX4_number 1 = .ok (.istore 4, 2) := by decide +kernel
theorem dX4_number_3 : decode cX4_number 3 = .ok (.iload 4, 2) := by decide +kernel
theorem dX4_number_5 : decode cX4_number 5 = .ok (.iload_n 2, 1) := by decide +kernel
theorem dX4_number_6 : decode cX4_number 6 = .ok (.if_icmp .ge 30, 3) := by decide +kernel
theorem dX4_number_9 : decode cX4_number 9 = .ok (.aload_n 0, 1) := by decide +kernel
theorem dX4_number_10 : decode cX4_number 10 = .ok (.getfield 38, 3) := by decide +kernel
theorem dX4_number_13 : decode cX4_number 13 = .ok (.iload_n 1, 1) := by decide +kernel
theorem dX4_number_14 : decode cX4_number 14 = .ok (.iload 4, 2) := by decide +kernel
theorem dX4_number_16 : decode cX4_number 16 = .ok (.iadd, 1) := by decide +kernel
theorem dX4_number_17 : decode cX4_number 17 = .ok (.iload_n 3, 1) := by decide +kernel
theorem dX4_number_18 : decode cX4_number 18 = .ok (.bipush 8, 2) := by decide +kernel
theorem dX4_number_20 : decode cX4_number 20 = .ok (.iload_n 2, 1) := by decide +kernel
theorem dX4_number_21 : decode cX4_number 21 = .ok (.iconst 1, 1) := by decide +kernel
theorem dX4_number_22 : decode cX4_number 22 = .ok (.isub, 1) := by decide +kernel
theorem dX4_number_23 : decode cX4_number 23 = .ok (.iload 4, 2) := by decide +kernel
theorem dX4_number_25 : decode cX4_number 25 = .ok (.isub, 1) := by decide +kernel
theorem dX4_number_26 : decode cX4_number 26 = .ok (.imul, 1) := by decide +kernel
theorem dX4_number_27 : decode cX4_number 27 = .ok (.ishr, 1) := by decide +kernel
theorem dX4_number_28 : decode cX4_number 28 = .ok (.i2b, 1) := by decide +kernel
theorem dX4_number_29 : decode cX4_number 29 = .ok (.bastore, 1) := by decide +kernel
theorem dX4_number_30 : decode cX4_number 30 = .ok (.iinc 4 1, 3) := by decide +kernel
theorem dX4_number_33 : decode cX4_number 33 = .ok (.goto (-30), 3) := by decide +kernel
theorem dX4_number_36 : decode cX4_number 36 = .ok (.return_, 1) := by decide +kernel
theorem dX4_coinOf_0 : decode cX4_coinOf 0 = .ok (.iconst 0, 1) := by decide +kernel
theorem dX4_coinOf_1 : decode cX4_coinOf 1 = .ok (.istore_n 3, 1) := by decide +kernel
theorem dX4_coinOf_2 : decode cX4_coinOf 2 = .ok (.iload_n 3, 1) := by decide +kernel
theorem dX4_coinOf_3 : decode cX4_coinOf 3 = .ok (.bipush 8, 2) := by decide +kernel
theorem dX4_coinOf_5 : decode cX4_coinOf 5 = .ok (.if_icmp .ge 31, 3) := by decide +kernel
theorem dX4_coinOf_8 : decode cX4_coinOf 8 = .ok (.aload_n 0, 1) := by decide +kernel
theorem dX4_coinOf_9 : decode cX4_coinOf 9 = .ok (.getfield 16, 3) := by decide +kernel
theorem dX4_coinOf_12 : decode cX4_coinOf 12 = .ok (.iload_n 3, 1) := by decide +kernel
theorem dX4_coinOf_13 : decode cX4_coinOf 13 = .ok (.aload_n 0, 1) := by decide +kernel
theorem dX4_coinOf_14 : decode cX4_coinOf 14 = .ok (.getfield 60, 3) := by decide +kernel
theorem dX4_coinOf_17 : decode cX4_coinOf 17 = .ok (.iload_n 1, 1) := by decide +kernel
theorem dX4_coinOf_18 : decode cX4_coinOf 18 = .ok (.laload, 1) := by decide +kernel
theorem dX4_coinOf_19 : decode cX4_coinOf 19 = .ok (.bipush 56, 2) := by decide +kernel
theorem dX4_coinOf_21 : decode cX4_coinOf 21 = .ok (.bipush 8, 2) := by decide +kernel
theorem dX4_coinOf_23 : decode cX4_coinOf 23 = .ok (.iload_n 3, 1) := by decide +kernel
theorem dX4_coinOf_24 : decode cX4_coinOf 24 = .ok (.imul, 1) := by decide +kernel
theorem dX4_coinOf_25 : decode cX4_coinOf 25 = .ok (.isub, 1) := by decide +kernel
theorem dX4_coinOf_26 : decode cX4_coinOf 26 = .ok (.lshr, 1) := by decide +kernel
theorem dX4_coinOf_27 : decode cX4_coinOf 27 = .ok (.l2i, 1) := by decide +kernel
theorem dX4_coinOf_28 : decode cX4_coinOf 28 = .ok (.i2b, 1) := by decide +kernel
theorem dX4_coinOf_29 : decode cX4_coinOf 29 = .ok (.bastore, 1) := by decide +kernel
theorem dX4_coinOf_30 : decode cX4_coinOf 30 = .ok (.iinc 3 1, 3) := by decide +kernel
theorem dX4_coinOf_33 : decode cX4_coinOf 33 = .ok (.goto (-31), 3) := by decide +kernel
theorem dX4_coinOf_36 : decode cX4_coinOf 36 = .ok (.aload_n 0, 1) := by decide +kernel
theorem dX4_coinOf_37 : decode cX4_coinOf 37 = .ok (.bipush 8, 2) := by decide +kernel
theorem dX4_coinOf_39 : decode cX4_coinOf 39 = .ok (.invokevirtual 209, 3) := by decide +kernel
theorem dX4_coinOf_42 : decode cX4_coinOf 42 = .ok (.aload_n 0, 1) := by decide +kernel
theorem dX4_coinOf_43 : decode cX4_coinOf 43 = .ok (.invokevirtual 211, 3) := by decide +kernel
theorem dX4_coinOf_46 : decode cX4_coinOf 46 = .ok (.aload_n 0, 1) := by decide +kernel
theorem dX4_coinOf_47 : decode cX4_coinOf 47 = .ok (.getfield 51, 3) := by decide +kernel
theorem dX4_coinOf_50 : decode cX4_coinOf 50 = .ok (.iload_n 1, 1) := by decide +kernel
theorem dX4_coinOf_51 : decode cX4_coinOf 51 = .ok (.iaload, 1) := by decide +kernel
theorem dX4_coinOf_52 : decode cX4_coinOf 52 = .ok (.istore_n 3, 1) := by decide +kernel
theorem dX4_coinOf_53 : decode cX4_coinOf 53 = .ok (.iload_n 3, 1) := by decide +kernel
theorem dX4_coinOf_54 : decode cX4_coinOf 54 = .ok (.iload_n 2, 1) := by decide +kernel
theorem dX4_coinOf_55 : decode cX4_coinOf 55 = .ok (.if_icmp .le 13, 3) := by decide +kernel
theorem dX4_coinOf_58 : decode cX4_coinOf 58 = .ok (.aload_n 0, 1) := by decide +kernel
theorem dX4_coinOf_59 : decode cX4_coinOf 59 = .ok (.invokevirtual 214, 3) := by decide +kernel
theorem dX4_coinOf_62 : decode cX4_coinOf 62 = .ok (.iinc 3 (-1), 3) := by decide +kernel
theorem dX4_coinOf_65 : decode cX4_coinOf 65 = .ok (.goto (-12), 3) := by decide +kernel
theorem dX4_coinOf_68 : decode cX4_coinOf 68 = .ok (.return_, 1) := by decide +kernel
theorem dX4_hash_0 : decode cX4_hash 0 = .ok (.iload_n 1, 1) := by decide +kernel
theorem dX4_hash_1 : decode cX4_hash 1 = .ok (.bipush 72, 2) := by decide +kernel
theorem dX4_hash_3 : decode cX4_hash 3 = .ok (.iadd, 1) := by decide +kernel
theorem dX4_hash_4 : decode cX4_hash 4 = .ok (.bipush 64, 2) := by decide +kernel
theorem dX4_hash_6 : decode cX4_hash 6 = .ok (.idiv, 1) := by decide +kernel
theorem dX4_hash_7 : decode cX4_hash 7 = .ok (.bipush 64, 2) := by decide +kernel
theorem dX4_hash_9 : decode cX4_hash 9 = .ok (.imul, 1) := by decide +kernel
theorem dX4_hash_10 : decode cX4_hash 10 = .ok (.istore_n 2, 1) := by decide +kernel
theorem dX4_hash_11 : decode cX4_hash 11 = .ok (.iload_n 1, 1) := by decide +kernel
theorem dX4_hash_12 : decode cX4_hash 12 = .ok (.istore_n 3, 1) := by decide +kernel
theorem dX4_hash_13 : decode cX4_hash 13 = .ok (.iload_n 3, 1) := by decide +kernel
theorem dX4_hash_14 : decode cX4_hash 14 = .ok (.iload_n 2, 1) := by decide +kernel
theorem dX4_hash_15 : decode cX4_hash 15 = .ok (.if_icmp .ge 16, 3) := by decide +kernel
theorem dX4_hash_18 : decode cX4_hash 18 = .ok (.aload_n 0, 1) := by decide +kernel
theorem dX4_hash_19 : decode cX4_hash 19 = .ok (.getfield 16, 3) := by decide +kernel
theorem dX4_hash_22 : decode cX4_hash 22 = .ok (.iload_n 3, 1) := by decide +kernel
theorem dX4_hash_23 : decode cX4_hash 23 = .ok (.iconst 0, 1) := by decide +kernel
theorem dX4_hash_24 : decode cX4_hash 24 = .ok (.bastore, 1) := by decide +kernel
theorem dX4_hash_25 : decode cX4_hash 25 = .ok (.iinc 3 1, 3) := by decide +kernel
theorem dX4_hash_28 : decode cX4_hash 28 = .ok (.goto (-15), 3) := by decide +kernel
theorem dX4_hash_31 : decode cX4_hash 31 = .ok (.aload_n 0, 1) := by decide +kernel
theorem dX4_hash_32 : decode cX4_hash 32 = .ok (.getfield 16, 3) := by decide +kernel
theorem dX4_hash_35 : decode cX4_hash 35 = .ok (.iload_n 1, 1) := by decide +kernel
theorem dX4_hash_36 : decode cX4_hash 36 = .ok (.bipush (-128), 2) := by decide +kernel
theorem dX4_hash_38 : decode cX4_hash 38 = .ok (.bastore, 1) := by decide +kernel
theorem dX4_hash_39 : decode cX4_hash 39 = .ok (.iconst 0, 1) := by decide +kernel
theorem dX4_hash_40 : decode cX4_hash 40 = .ok (.istore_n 3, 1) := by decide +kernel
theorem dX4_hash_41 : decode cX4_hash 41 = .ok (.iload_n 3, 1) := by decide +kernel
theorem dX4_hash_42 : decode cX4_hash 42 = .ok (.iconst 4, 1) := by decide +kernel
theorem dX4_hash_43 : decode cX4_hash 43 = .ok (.if_icmp .ge 29, 3) := by decide +kernel
theorem dX4_hash_46 : decode cX4_hash 46 = .ok (.aload_n 0, 1) := by decide +kernel
theorem dX4_hash_47 : decode cX4_hash 47 = .ok (.getfield 16, 3) := by decide +kernel
theorem dX4_hash_50 : decode cX4_hash 50 = .ok (.iload_n 2, 1) := by decide +kernel
theorem dX4_hash_51 : decode cX4_hash 51 = .ok (.iconst 1, 1) := by decide +kernel
theorem dX4_hash_52 : decode cX4_hash 52 = .ok (.isub, 1) := by decide +kernel
theorem dX4_hash_53 : decode cX4_hash 53 = .ok (.iload_n 3, 1) := by decide +kernel
theorem dX4_hash_54 : decode cX4_hash 54 = .ok (.isub, 1) := by decide +kernel
theorem dX4_hash_55 : decode cX4_hash 55 = .ok (.bipush 8, 2) := by decide +kernel
theorem dX4_hash_57 : decode cX4_hash 57 = .ok (.iload_n 1, 1) := by decide +kernel
theorem dX4_hash_58 : decode cX4_hash 58 = .ok (.imul, 1) := by decide +kernel
theorem dX4_hash_59 : decode cX4_hash 59 = .ok (.bipush 8, 2) := by decide +kernel
theorem dX4_hash_61 : decode cX4_hash 61 = .ok (.iload_n 3, 1) := by decide +kernel
theorem dX4_hash_62 : decode cX4_hash 62 = .ok (.imul, 1) := by decide +kernel
theorem dX4_hash_63 : decode cX4_hash 63 = .ok (.ishr, 1) := by decide +kernel
theorem dX4_hash_64 : decode cX4_hash 64 = .ok (.i2b, 1) := by decide +kernel
theorem dX4_hash_65 : decode cX4_hash 65 = .ok (.bastore, 1) := by decide +kernel
theorem dX4_hash_66 : decode cX4_hash 66 = .ok (.iinc 3 1, 3) := by decide +kernel
theorem dX4_hash_69 : decode cX4_hash 69 = .ok (.goto (-28), 3) := by decide +kernel
theorem dX4_hash_72 : decode cX4_hash 72 = .ok (.iconst 0, 1) := by decide +kernel
theorem dX4_hash_73 : decode cX4_hash 73 = .ok (.istore_n 3, 1) := by decide +kernel
theorem dX4_hash_74 : decode cX4_hash 74 = .ok (.iload_n 3, 1) := by decide +kernel
theorem dX4_hash_75 : decode cX4_hash 75 = .ok (.bipush 8, 2) := by decide +kernel
theorem dX4_hash_77 : decode cX4_hash 77 = .ok (.if_icmp .ge 21, 3) := by decide +kernel
theorem dX4_hash_80 : decode cX4_hash 80 = .ok (.aload_n 0, 1) := by decide +kernel
theorem dX4_hash_81 : decode cX4_hash 81 = .ok (.getfield 23, 3) := by decide +kernel
theorem dX4_hash_84 : decode cX4_hash 84 = .ok (.iload_n 3, 1) := by decide +kernel
theorem dX4_hash_85 : decode cX4_hash 85 = .ok (.aload_n 0, 1) := by decide +kernel
theorem dX4_hash_86 : decode cX4_hash 86 = .ok (.getfield 13, 3) := by decide +kernel
theorem dX4_hash_89 : decode cX4_hash 89 = .ok (.iload_n 3, 1) := by decide +kernel
theorem dX4_hash_90 : decode cX4_hash 90 = .ok (.iaload, 1) := by decide +kernel
theorem dX4_hash_91 : decode cX4_hash 91 = .ok (.iastore, 1) := by decide +kernel
theorem dX4_hash_92 : decode cX4_hash 92 = .ok (.iinc 3 1, 3) := by decide +kernel
theorem dX4_hash_95 : decode cX4_hash 95 = .ok (.goto (-21), 3) := by decide +kernel
theorem dX4_hash_98 : decode cX4_hash 98 = .ok (.iconst 0, 1) := by decide +kernel
theorem dX4_hash_99 : decode cX4_hash 99 = .ok (.istore_n 3, 1) := by decide +kernel
theorem dX4_hash_100 : decode cX4_hash 100 = .ok (.iload_n 3, 1) := by decide +kernel
theorem dX4_hash_101 : decode cX4_hash 101 = .ok (.iload_n 2, 1) := by decide +kernel
theorem dX4_hash_102 : decode cX4_hash 102 = .ok (.if_icmp .ge 14, 3) := by decide +kernel
theorem dX4_hash_105 : decode cX4_hash 105 = .ok (.aload_n 0, 1) := by decide +kernel
theorem dX4_hash_106 : decode cX4_hash 106 = .ok (.iload_n 3, 1) := by decide +kernel
theorem dX4_hash_107 : decode cX4_hash 107 = .ok (.invokevirtual 205, 3) := by decide +kernel
theorem dX4_hash_110 : decode cX4_hash 110 = .ok (.iinc 3 64, 3) := by decide +kernel
theorem dX4_hash_113 : decode cX4_hash 113 = .ok (.goto (-13), 3) := by decide +kernel
theorem dX4_hash_116 : decode cX4_hash 116 = .ok (.iconst 0, 1) := by decide +kernel
theorem dX4_hash_117 : decode cX4_hash 117 = .ok (.istore_n 3, 1) := by decide +kernel
theorem dX4_hash_118 : decode cX4_hash 118 = .ok (.iload_n 3, 1) := by decide +kernel
theorem dX4_hash_119 : decode cX4_hash 119 = .ok (.bipush 32, 2) := by decide +kernel
theorem dX4_hash_121 : decode cX4_hash 121 = .ok (.if_icmp .ge 34, 3) := by decide +kernel
theorem dX4_hash_124 : decode cX4_hash 124 = .ok (.aload_n 0, 1) := by decide +kernel
theorem dX4_hash_125 : decode cX4_hash 125 = .ok (.getfield 29, 3) := by decide +kernel
theorem dX4_hash_128 : decode cX4_hash 128 = .ok (.iload_n 3, 1) := by decide +kernel
theorem dX4_hash_129 : decode cX4_hash 129 = .ok (.aload_n 0, 1) := by decide +kernel
theorem dX4_hash_130 : decode cX4_hash 130 = .ok (.getfield 23, 3) := by decide +kernel
theorem dX4_hash_133 : decode cX4_hash 133 = .ok (.iload_n 3, 1) := by decide +kernel
theorem dX4_hash_134 : decode cX4_hash 134 = .ok (.iconst 4, 1) := by decide +kernel
theorem dX4_hash_135 : decode cX4_hash 135 = .ok (.idiv, 1) := by decide +kernel
theorem dX4_hash_136 : decode cX4_hash 136 = .ok (.iaload, 1) := by decide +kernel
theorem dX4_hash_137 : decode cX4_hash 137 = .ok (.bipush 24, 2) := by decide +kernel
theorem dX4_hash_139 : decode cX4_hash 139 = .ok (.bipush 8, 2) := by decide +kernel
theorem dX4_hash_141 : decode cX4_hash 141 = .ok (.iload_n 3, 1) := by decide +kernel
theorem dX4_hash_142 : decode cX4_hash 142 = .ok (.iconst 4, 1) := by decide +kernel
theorem dX4_hash_143 : decode cX4_hash 143 = .ok (.irem, 1) := by decide +kernel
theorem dX4_hash_144 : decode cX4_hash 144 = .ok (.imul, 1) := by decide +kernel
theorem dX4_hash_145 : decode cX4_hash 145 = .ok (.isub, 1) := by decide +kernel
theorem dX4_hash_146 : decode cX4_hash 146 = .ok (.ishr, 1) := by decide +kernel
theorem dX4_hash_147 : decode cX4_hash 147 = .ok (.i2b, 1) := by decide +kernel
theorem dX4_hash_148 : decode cX4_hash 148 = .ok (.bastore, 1) := by decide +kernel
theorem dX4_hash_149 : decode cX4_hash 149 = .ok (.iinc 3 1, 3) := by decide +kernel
theorem dX4_hash_152 : decode cX4_hash 152 = .ok (.goto (-34), 3) := by decide +kernel
theorem dX4_hash_155 : decode cX4_hash 155 = .ok (.return_, 1) := by decide +kernel
