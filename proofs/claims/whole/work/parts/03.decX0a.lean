theorem dX0_init_0 : decode cX0_init 0 = .ok (.aload_n 0, 1) := by decide +kernel
theorem dX0_init_1 : decode cX0_init 1 = .ok (.invokespecial 3, 3) := by decide +kernel
theorem dX0_init_4 : decode cX0_init 4 = .ok (.aload_n 0, 1) := by decide +kernel
theorem dX0_init_5 : decode cX0_init 5 = .ok (.bipush 32, 2) := by decide +kernel
theorem dX0_init_7 : decode cX0_init 7 = .ok (.newarray .byte, 2) := by decide +kernel
theorem dX0_init_9 : decode cX0_init 9 = .ok (.putfield 9, 3) := by decide +kernel
theorem dX0_init_12 : decode cX0_init 12 = .ok (.aload_n 0, 1) := by decide +kernel
theorem dX0_init_13 : decode cX0_init 13 = .ok (.bipush 20, 2) := by decide +kernel
theorem dX0_init_15 : decode cX0_init 15 = .ok (.newarray .byte, 2) := by decide +kernel
theorem dX0_init_17 : decode cX0_init 17 = .ok (.putfield 15, 3) := by decide +kernel
theorem dX0_init_20 : decode cX0_init 20 = .ok (.aload_n 0, 1) := by decide +kernel
theorem dX0_init_21 : decode cX0_init 21 = .ok (.sipush 256, 3) := by decide +kernel
theorem dX0_init_24 : decode cX0_init 24 = .ok (.newarray .byte, 2) := by decide +kernel
theorem dX0_init_26 : decode cX0_init 26 = .ok (.putfield 18, 3) := by decide +kernel
theorem dX0_init_29 : decode cX0_init 29 = .ok (.aload_n 0, 1) := by decide +kernel
theorem dX0_init_30 : decode cX0_init 30 = .ok (.bipush 64, 2) := by decide +kernel
theorem dX0_init_32 : decode cX0_init 32 = .ok (.newarray .int, 2) := by decide +kernel
theorem dX0_init_34 : decode cX0_init 34 = .ok (.putfield 21, 3) := by decide +kernel
theorem dX0_init_37 : decode cX0_init 37 = .ok (.aload_n 0, 1) := by decide +kernel
theorem dX0_init_38 : decode cX0_init 38 = .ok (.getstatic 25, 3) := by decide +kernel
theorem dX0_init_41 : decode cX0_init 41 = .ok (.arraylength, 1) := by decide +kernel
theorem dX0_init_42 : decode cX0_init 42 = .ok (.newarray .int, 2) := by decide +kernel
theorem dX0_init_44 : decode cX0_init 44 = .ok (.putfield 28, 3) := by decide +kernel
theorem dX0_init_47 : decode cX0_init 47 = .ok (.return_, 1) := by decide +kernel
theorem dX0_begin_0 : decode cX0_begin 0 = .ok (.aload_n 0, 1) := by decide +kernel
theorem dX0_begin_1 : decode cX0_begin 1 = .ok (.iconst 0, 1) := by decide +kernel
theorem dX0_begin_2 : decode cX0_begin 2 = .ok (.putfield 49, 3) := by decide +kernel
theorem dX0_begin_5 : decode cX0_begin 5 = .ok (.return_, 1) := by decide +kernel
theorem dX0_addNumber_0 : decode cX0_addNumber 0 = .ok (.aload_n 0, 1) := by decide +kernel
theorem dX0_addNumber_1 : decode cX0_addNumber 1 = .ok (.getfield 18, 3) := by decide +kernel
theorem dX0_addNumber_4 : decode cX0_addNumber 4 = .ok (.aload_n 0, 1) := by decide +kernel
theorem dX0_addNumber_5 : decode cX0_addNumber 5 = .ok (.getfield 49, 3) := by decide +kernel
theorem dX0_addNumber_8 : decode cX0_addNumber 8 = .ok (.iload_n 3, 1) := by decide +kernel
theorem dX0_addNumber_9 : decode cX0_addNumber 9 = .ok (.lload_n 1, 1) := by decide +kernel
theorem dX0_addNumber_10 : decode cX0_addNumber 10 = .ok (.invokestatic 53, 3) := by decide +kernel
theorem dX0_addNumber_13 : decode cX0_addNumber 13 = .ok (.aload_n 0, 1) := by decide +kernel
theorem dX0_addNumber_14 : decode cX0_addNumber 14 = .ok (.dup, 1) := by decide +kernel
theorem dX0_addNumber_15 : decode cX0_addNumber 15 = .ok (.getfield 49, 3) := by decide +kernel
theorem dX0_addNumber_18 : decode cX0_addNumber 18 = .ok (.iload_n 3, 1) := by decide +kernel
theorem dX0_addNumber_19 : decode cX0_addNumber 19 = .ok (.iadd, 1) := by decide +kernel
theorem dX0_addNumber_20 : decode cX0_addNumber 20 = .ok (.putfield 49, 3) := by decide +kernel
theorem dX0_addNumber_23 : decode cX0_addNumber 23 = .ok (.return_, 1) := by decide +kernel
theorem dX0_finish_0 : decode cX0_finish 0 = .ok (.aload_n 0, 1) := by decide +kernel
theorem dX0_finish_1 : decode cX0_finish 1 = .ok (.getfield 49, 3) := by decide +kernel
theorem dX0_finish_4 : decode cX0_finish 4 = .ok (.bipush 9, 2) := by decide +kernel
theorem dX0_finish_6 : decode cX0_finish 6 = .ok (.iadd, 1) := by decide +kernel
theorem dX0_finish_7 : decode cX0_finish 7 = .ok (.bipush 64, 2) := by decide +kernel
theorem dX0_finish_9 : decode cX0_finish 9 = .ok (.iadd, 1) := by decide +kernel
theorem dX0_finish_10 : decode cX0_finish 10 = .ok (.iconst 1, 1) := by decide +kernel
theorem dX0_finish_11 : decode cX0_finish 11 = .ok (.isub, 1) := by decide +kernel
theorem dX0_finish_12 : decode cX0_finish 12 = .ok (.bipush 64, 2) := by decide +kernel
theorem dX0_finish_14 : decode cX0_finish 14 = .ok (.idiv, 1) := by decide +kernel
theorem dX0_finish_15 : decode cX0_finish 15 = .ok (.bipush 64, 2) := by decide +kernel
theorem dX0_finish_17 : decode cX0_finish 17 = .ok (.imul, 1) := by decide +kernel
theorem dX0_finish_18 : decode cX0_finish 18 = .ok (.istore 4, 2) := by decide +kernel
theorem dX0_finish_20 : decode cX0_finish 20 = .ok (.aload_n 0, 1) := by decide +kernel
theorem dX0_finish_21 : decode cX0_finish 21 = .ok (.getfield 18, 3) := by decide +kernel
theorem dX0_finish_24 : decode cX0_finish 24 = .ok (.iload 4, 2) := by decide +kernel
theorem dX0_finish_26 : decode cX0_finish 26 = .ok (.bipush 8, 2) := by decide +kernel
theorem dX0_finish_28 : decode cX0_finish 28 = .ok (.isub, 1) := by decide +kernel
theorem dX0_finish_29 : decode cX0_finish 29 = .ok (.bipush 8, 2) := by decide +kernel
theorem dX0_finish_31 : decode cX0_finish 31 = .ok (.aload_n 0, 1) := by decide +kernel
theorem dX0_finish_32 : decode cX0_finish 32 = .ok (.getfield 49, 3) := by decide +kernel
theorem dX0_finish_35 : decode cX0_finish 35 = .ok (.i2l, 1) := by decide +kernel
theorem dX0_finish_36 : decode cX0_finish 36 = .ok (.ldc2_w 63, 3) := by decide +kernel
theorem dX0_finish_39 : decode cX0_finish 39 = .ok (.lmul, 1) := by decide +kernel
theorem dX0_finish_40 : decode cX0_finish 40 = .ok (.invokestatic 53, 3) := by decide +kernel
theorem dX0_finish_43 : decode cX0_finish 43 = .ok (.aload_n 0, 1) := by decide +kernel
theorem dX0_finish_44 : decode cX0_finish 44 = .ok (.getfield 18, 3) := by decide +kernel
theorem dX0_finish_47 : decode cX0_finish 47 = .ok (.aload_n 0, 1) := by decide +kernel
theorem dX0_finish_48 : decode cX0_finish 48 = .ok (.getfield 49, 3) := by decide +kernel
theorem dX0_finish_51 : decode cX0_finish 51 = .ok (.bipush (-128), 2) := by decide +kernel
theorem dX0_finish_53 : decode cX0_finish 53 = .ok (.bastore, 1) := by decide +kernel
theorem dX0_finish_54 : decode cX0_finish 54 = .ok (.aload_n 0, 1) := by decide +kernel
theorem dX0_finish_55 : decode cX0_finish 55 = .ok (.getfield 49, 3) := by decide +kernel
theorem dX0_finish_58 : decode cX0_finish 58 = .ok (.iconst 1, 1) := by decide +kernel
theorem dX0_finish_59 : decode cX0_finish 59 = .ok (.iadd, 1) := by decide +kernel
theorem dX0_finish_60 : decode cX0_finish 60 = .ok (.istore 5, 2) := by decide +kernel
theorem dX0_finish_62 : decode cX0_finish 62 = .ok (.iload 5, 2) := by decide +kernel
theorem dX0_finish_64 : decode cX0_finish 64 = .ok (.iload 4, 2) := by decide +kernel
theorem dX0_finish_66 : decode cX0_finish 66 = .ok (.bipush 8, 2) := by decide +kernel
theorem dX0_finish_68 : decode cX0_finish 68 = .ok (.isub, 1) := by decide +kernel
theorem dX0_finish_69 : decode cX0_finish 69 = .ok (.if_icmp .ge 17, 3) := by decide +kernel
theorem dX0_finish_72 : decode cX0_finish 72 = .ok (.aload_n 0, 1) := by decide +kernel
theorem dX0_finish_73 : decode cX0_finish 73 = .ok (.getfield 18, 3) := by decide +kernel
theorem dX0_finish_76 : decode cX0_finish 76 = .ok (.iload 5, 2) := by decide +kernel
theorem dX0_finish_78 : decode cX0_finish 78 = .ok (.iconst 0, 1) := by decide +kernel
theorem dX0_finish_79 : decode cX0_finish 79 = .ok (.bastore, 1) := by decide +kernel
theorem dX0_finish_80 : decode cX0_finish 80 = .ok (.iinc 5 1, 3) := by decide +kernel
theorem dX0_finish_83 : decode cX0_finish 83 = .ok (.goto (-21), 3) := by decide +kernel
theorem dX0_finish_86 : decode cX0_finish 86 = .ok (.getstatic 25, 3) := by decide +kernel
theorem dX0_finish_89 : decode cX0_finish 89 = .ok (.iconst 0, 1) := by decide +kernel
theorem dX0_finish_90 : decode cX0_finish 90 = .ok (.aload_n 0, 1) := by decide +kernel
theorem dX0_finish_91 : decode cX0_finish 91 = .ok (.getfield 28, 3) := by decide +kernel
theorem dX0_finish_94 : decode cX0_finish 94 = .ok (.iconst 0, 1) := by decide +kernel
theorem dX0_finish_95 : decode cX0_finish 95 = .ok (.aload_n 0, 1) := by decide +kernel
theorem dX0_finish_96 : decode cX0_finish 96 = .ok (.getfield 28, 3) := by decide +kernel
theorem dX0_finish_99 : decode cX0_finish 99 = .ok (.arraylength, 1) := by decide +kernel
theorem dX0_finish_100 : decode cX0_finish 100 = .ok (.invokestatic 57, 3) := by decide +kernel
theorem dX0_finish_103 : decode cX0_finish 103 = .ok (.iconst 0, 1) := by decide +kernel
theorem dX0_finish_104 : decode cX0_finish 104 = .ok (.istore 5, 2) := by decide +kernel
theorem dX0_finish_106 : decode cX0_finish 106 = .ok (.iload 5, 2) := by decide +kernel
theorem dX0_finish_108 : decode cX0_finish 108 = .ok (.iload 4, 2) := by decide +kernel
theorem dX0_finish_110 : decode cX0_finish 110 = .ok (.if_icmp .ge 19, 3) := by decide +kernel
theorem dX0_finish_113 : decode cX0_finish 113 = .ok (.aload_n 0, 1) := by decide +kernel
theorem dX0_finish_114 : decode cX0_finish 114 = .ok (.iload 5, 2) := by decide +kernel
theorem dX0_finish_116 : decode cX0_finish 116 = .ok (.invokevirtual 65, 3) := by decide +kernel
theorem dX0_finish_119 : decode cX0_finish 119 = .ok (.aload_n 0, 1) := by decide +kernel
theorem dX0_finish_120 : decode cX0_finish 120 = .ok (.invokevirtual 69, 3) := by decide +kernel
theorem dX0_finish_123 : decode cX0_finish 123 = .ok (.iinc 5 64, 3) := by decide +kernel
theorem dX0_finish_126 : decode cX0_finish 126 = .ok (.goto (-20), 3) := by decide +kernel
theorem dX0_finish_129 : decode cX0_finish 129 = .ok (.iconst 0, 1) := by decide +kernel
theorem dX0_finish_130 : decode cX0_finish 130 = .ok (.istore 5, 2) := by decide +kernel
theorem dX0_finish_132 : decode cX0_finish 132 = .ok (.iload 5, 2) := by decide +kernel
theorem dX0_finish_134 : decode cX0_finish 134 = .ok (.iload_n 3, 1) := by decide +kernel
theorem dX0_finish_135 : decode cX0_finish 135 = .ok (.if_icmp .ge 36, 3) := by decide +kernel
theorem dX0_finish_138 : decode cX0_finish 138 = .ok (.aload_n 1, 1) := by decide +kernel
theorem dX0_finish_139 : decode cX0_finish 139 = .ok (.iload_n 2, 1) := by decide +kernel
theorem dX0_finish_140 : decode cX0_finish 140 = .ok (.iload 5, 2) := by decide +kernel
theorem dX0_finish_142 : decode cX0_finish 142 = .ok (.iadd, 1) := by decide +kernel
theorem dX0_finish_143 : decode cX0_finish 143 = .ok (.aload_n 0, 1) := by decide +kernel
theorem dX0_finish_144 : decode cX0_finish 144 = .ok (.getfield 28, 3) := by decide +kernel
theorem dX0_finish_147 : decode cX0_finish 147 = .ok (.iload 5, 2) := by decide +kernel
theorem dX0_finish_149 : decode cX0_finish 149 = .ok (.iconst 2, 1) := by decide +kernel
theorem dX0_finish_150 : decode cX0_finish 150 = .ok (.ishr, 1) := by decide +kernel
theorem dX0_finish_151 : decode cX0_finish 151 = .ok (.iaload, 1) := by decide +kernel
theorem dX0_finish_152 : decode cX0_finish 152 = .ok (.bipush 24, 2) := by decide +kernel
theorem dX0_finish_154 : decode cX0_finish 154 = .ok (.bipush 8, 2) := by decide +kernel
theorem dX0_finish_156 : decode cX0_finish 156 = .ok (.iload 5, 2) := by decide +kernel
theorem dX0_finish_158 : decode cX0_finish 158 = .ok (.iconst 3, 1) := by decide +kernel
theorem dX0_finish_159 : decode cX0_finish 159 = .ok (.iand, 1) := by decide +kernel
theorem dX0_finish_160 : decode cX0_finish 160 = .ok (.imul, 1) := by decide +kernel
theorem dX0_finish_161 : decode cX0_finish 161 = .ok (.isub, 1) := by decide +kernel
theorem dX0_finish_162 : decode cX0_finish 162 = .ok (.iushr, 1) := by decide +kernel
theorem dX0_finish_163 : decode cX0_finish 163 = .ok (.i2b, 1) := by decide +kernel
theorem dX0_finish_164 : decode cX0_finish 164 = .ok (.bastore, 1) := by decide +kernel
theorem dX0_finish_165 : decode cX0_finish 165 = .ok (.iinc 5 1, 3) := by decide +kernel
theorem dX0_finish_168 : decode cX0_finish 168 = .ok (.goto (-36), 3) := by decide +kernel
theorem dX0_finish_171 : decode cX0_finish 171 = .ok (.return_, 1) := by decide +kernel
theorem dX0_spread_0 : decode cX0_spread 0 = .ok (.iconst 0, 1) := by decide +kernel
theorem dX0_spread_1 : decode cX0_spread 1 = .ok (.istore_n 2, 1) := by decide +kernel
theorem dX0_spread_2 : decode cX0_spread 2 = .ok (.iload_n 2, 1) := by decide +kernel
theorem dX0_spread_3 : decode cX0_spread 3 = .ok (.bipush 16, 2) := by decide +kernel
theorem dX0_spread_5 : decode cX0_spread 5 = .ok (.if_icmp .ge 79, 3) := by decide +kernel
theorem dX0_spread_8 : decode cX0_spread 8 = .ok (.iload_n 1, 1) := by decide +kernel
theorem dX0_spread_9 : decode cX0_spread 9 = .ok (.iconst 4, 1) := by decide +kernel
theorem dX0_spread_10 : decode cX0_spread 10 = .ok (.iload_n 2, 1) := by decide +kernel
theorem dX0_spread_11 : decode cX0_spread 11 = .ok (.imul, 1) := by decide +kernel
theorem dX0_spread_12 : decode cX0_spread 12 = .ok (.iadd, 1) := by decide +kernel
theorem dX0_spread_13 : decode cX0_spread 13 = .ok (.istore_n 3, 1) := by decide +kernel
theorem dX0_spread_14 : decode cX0_spread 14 = .ok (.aload_n 0, 1) := by decide +kernel
theorem dX0_spread_15 : decode cX0_spread 15 = .ok (.getfield 21, 3) := by decide +kernel
theorem dX0_spread_18 : decode cX0_spread 18 = .ok (.iload_n 2, 1) := by decide +kernel
theorem dX0_spread_19 : decode cX0_spread 19 = .ok (.aload_n 0, 1) := by decide +kernel
theorem dX0_spread_20 : decode cX0_spread 20 = .ok (.getfield 18, 3) := by decide +kernel
theorem dX0_spread_23 : decode cX0_spread 23 = .ok (.iload_n 3, 1) := by decide +kernel
theorem dX0_spread_24 : decode cX0_spread 24 = .ok (.baload, 1) := by decide +kernel
theorem dX0_spread_25 : decode cX0_spread 25 = .ok (.sipush 255, 3) := by decide +kernel
theorem dX0_spread_28 : decode cX0_spread 28 = .ok (.iand, 1) := by decide +kernel
theorem dX0_spread_29 : decode cX0_spread 29 = .ok (.bipush 24, 2) := by decide +kernel
theorem dX0_spread_31 : decode cX0_spread 31 = .ok (.ishl, 1) := by decide +kernel
theorem dX0_spread_32 : decode cX0_spread 32 = .ok (.aload_n 0, 1) := by decide +kernel
theorem dX0_spread_33 : decode cX0_spread 33 = .ok (.getfield 18, 3) := by decide +kernel
theorem dX0_spread_36 : decode cX0_spread 36 = .ok (.iload_n 3, 1) := by decide +kernel
theorem dX0_spread_37 : decode cX0_spread 37 = .ok (.iconst 1, 1) := by decide +kernel
theorem dX0_spread_38 : decode cX0_spread 38 = .ok (.iadd, 1) := by decide +kernel
theorem dX0_spread_39 : decode cX0_spread 39 = .ok (.baload, 1) := by decide +kernel
theorem dX0_spread_40 : decode cX0_spread 40 = .ok (.sipush 255, 3) := by decide +kernel
theorem dX0_spread_43 : decode cX0_spread 43 = .ok (.iand, 1) := by decide +kernel
theorem dX0_spread_44 : decode cX0_spread 44 = .ok (.bipush 16, 2) := by decide +kernel
theorem dX0_spread_46 : decode cX0_spread 46 = .ok (.ishl, 1) := by decide +kernel
theorem dX0_spread_47 : decode cX0_spread 47 = .ok (.ior, 1) := by decide +kernel
theorem dX0_spread_48 : decode cX0_spread 48 = .ok (.aload_n 0, 1) := by decide +kernel
theorem dX0_spread_49 : decode cX0_spread 49 = .ok (.getfield 18, 3) := by decide +kernel
theorem dX0_spread_52 : decode cX0_spread 52 = .ok (.iload_n 3, 1) := by decide +kernel
theorem dX0_spread_53 : decode cX0_spread 53 = .ok (.iconst 2, 1) := by decide +kernel
theorem dX0_spread_54 : decode cX0_spread 54 = .ok (.iadd, 1) := by decide +kernel
theorem dX0_spread_55 : decode cX0_spread 55 = .ok (.baload, 1) := by decide +kernel
theorem dX0_spread_56 : decode cX0_spread 56 = .ok (.sipush 255, 3) := by decide +kernel
theorem dX0_spread_59 : decode cX0_spread 59 = .ok (.iand, 1) := by decide +kernel
theorem dX0_spread_60 : decode cX0_spread 60 = .ok (.bipush 8, 2) := by decide +kernel
theorem dX0_spread_62 : decode cX0_spread 62 = .ok (.ishl, 1) := by decide +kernel
theorem dX0_spread_63 : decode cX0_spread 63 = .ok (.ior, 1) := by decide +kernel
theorem dX0_spread_64 : decode cX0_spread 64 = .ok (.aload_n 0, 1) := by decide +kernel
theorem dX0_spread_65 : decode cX0_spread 65 = .ok (.getfield 18, 3) := by decide +kernel
theorem dX0_spread_68 : decode cX0_spread 68 = .ok (.iload_n 3, 1) := by decide +kernel
theorem dX0_spread_69 : decode cX0_spread 69 = .ok (.iconst 3, 1) := by decide +kernel
theorem dX0_spread_70 : decode cX0_spread 70 = .ok (.iadd, 1) := by decide +kernel
theorem dX0_spread_71 : decode cX0_spread 71 = .ok (.baload, 1) := by decide +kernel
theorem dX0_spread_72 : decode cX0_spread 72 = .ok (.sipush 255, 3) := by decide +kernel
theorem dX0_spread_75 : decode cX0_spread 75 = .ok (.iand, 1) := by decide +kernel
theorem dX0_spread_76 : decode cX0_spread 76 = .ok (.ior, 1) := by decide +kernel
theorem dX0_spread_77 : decode cX0_spread 77 = .ok (.iastore, 1) := by decide +kernel
theorem dX0_spread_78 : decode cX0_spread 78 = .ok (.iinc 2 1, 3) := by decide +kernel
theorem dX0_spread_81 : decode cX0_spread 81 = .ok (.goto (-79), 3) := by decide +kernel
theorem dX0_spread_84 : decode cX0_spread 84 = .ok (.bipush 16, 2) := by decide +kernel
theorem dX0_spread_86 : decode cX0_spread 86 = .ok (.istore_n 2, 1) := by decide +kernel
theorem dX0_spread_87 : decode cX0_spread 87 = .ok (.iload_n 2, 1) := by decide +kernel
theorem dX0_spread_88 : decode cX0_spread 88 = .ok (.bipush 64, 2) := by decide +kernel
theorem dX0_spread_90 : decode cX0_spread 90 = .ok (.if_icmp .ge 102, 3) := by decide +kernel
theorem dX0_spread_93 : decode cX0_spread 93 = .ok (.aload_n 0, 1) := by decide +kernel
theorem dX0_spread_94 : decode cX0_spread 94 = .ok (.getfield 21, 3) := by decide +kernel
theorem dX0_spread_97 : decode cX0_spread 97 = .ok (.iload_n 2, 1) := by decide +kernel
theorem dX0_spread_98 : decode cX0_spread 98 = .ok (.bipush 15, 2) := by decide +kernel
theorem dX0_spread_100 : decode cX0_spread 100 = .ok (.isub, 1) := by decide +kernel
theorem dX0_spread_101 : decode cX0_spread 101 = .ok (.iaload, 1) := by decide +kernel
theorem dX0_spread_102 : decode cX0_spread 102 = .ok (.istore_n 3, 1) := by decide +kernel
theorem dX0_spread_103 : decode cX0_spread 103 = .ok (.aload_n 0, 1) := by decide +kernel
theorem dX0_spread_104 : decode cX0_spread 104 = .ok (.getfield 21, 3) := by decide +kernel
theorem dX0_spread_107 : decode cX0_spread 107 = .ok (.iload_n 2, 1) := by decide +kernel
theorem dX0_spread_108 : decode cX0_spread 108 = .ok (.iconst 2, 1) := by decide +kernel
theorem dX0_spread_109 : decode cX0_spread 109 = .ok (.isub, 1) := by decide +kernel
theorem dX0_spread_110 : decode cX0_spread 110 = .ok (.iaload, 1) := by decide +kernel
theorem dX0_spread_111 : decode cX0_spread 111 = .ok (.istore 4, 2) := by decide +kernel
theorem dX0_spread_113 : decode cX0_spread 113 = .ok (.iload_n 3, 1) := by decide +kernel
theorem dX0_spread_114 : decode cX0_spread 114 = .ok (.bipush 7, 2) := by decide +kernel
theorem dX0_spread_116 : decode cX0_spread 116 = .ok (.invokestatic 72, 3) := by decide +kernel
theorem dX0_spread_119 : decode cX0_spread 119 = .ok (.iload_n 3, 1) := by decide +kernel
theorem dX0_spread_120 : decode cX0_spread 120 = .ok (.bipush 18, 2) := by decide +kernel
theorem dX0_spread_122 : decode cX0_spread 122 = .ok (.invokestatic 72, 3) := by decide +kernel
theorem dX0_spread_125 : decode cX0_spread 125 = .ok (.ixor, 1) := by decide +kernel
theorem dX0_spread_126 : decode cX0_spread 126 = .ok (.iload_n 3, 1) := by decide +kernel
theorem dX0_spread_127 : decode cX0_spread 127 = .ok (.iconst 3, 1) := by decide +kernel
theorem dX0_spread_128 : decode cX0_spread 128 = .ok (.iushr, 1) := by decide +kernel
theorem dX0_spread_129 : decode cX0_spread 129 = .ok (.ixor, 1) := by decide +kernel
theorem dX0_spread_130 : decode cX0_spread 130 = .ok (.istore 5, 2) := by decide +kernel
theorem dX0_spread_132 : decode cX0_spread 132 = .ok (.iload 4, 2) := by decide +kernel
theorem dX0_spread_134 : decode cX0_spread 134 = .ok (.bipush 17, 2) := by decide +kernel
theorem dX0_spread_136 : decode cX0_spread 136 = .ok (.invokestatic 72, 3) := by decide +kernel
theorem dX0_spread_139 : decode cX0_spread 139 = .ok (.iload 4, 2) := by decide +kernel
theorem dX0_spread_141 : decode cX0_spread 141 = .ok (.bipush 19, 2) := by decide +kernel
theorem dX0_spread_143 : decode cX0_spread 143 = .ok (.invokestatic 72, 3) := by decide +kernel
theorem dX0_spread_146 : decode cX0_spread 146 = .ok (.ixor, 1) := by decide +kernel
theorem dX0_spread_147 : decode cX0_spread 147 = .ok (.iload 4, 2) := by decide +kernel
theorem dX0_spread_149 : decode cX0_spread 149 = .ok (.bipush 10, 2) := by decide +kernel
theorem dX0_spread_151 : decode cX0_spread 151 = .ok (.iushr, 1) := by decide +kernel
theorem dX0_spread_152 : decode cX0_spread 152 = .ok (.ixor, 1) := by decide +kernel
theorem dX0_spread_153 : decode cX0_spread 153 = .ok (.istore 6, 2) := by decide +kernel
theorem dX0_spread_155 : decode cX0_spread 155 = .ok (.aload_n 0, 1) := by decide +kernel
theorem dX0_spread_156 : decode cX0_spread 156 = .ok (.getfield 21, 3) := by decide +kernel
theorem dX0_spread_159 : decode cX0_spread 159 = .ok (.iload_n 2, 1) := by decide +kernel
theorem dX0_spread_160 : decode cX0_spread 160 = .ok (.iload 6, 2) := by decide +kernel
theorem dX0_spread_162 : decode cX0_spread 162 = .ok (.aload_n 0, 1) := by decide +kernel
theorem dX0_spread_163 : decode cX0_spread 163 = .ok (.getfield 21, 3) := by decide +kernel
theorem dX0_spread_166 : decode cX0_spread 166 = .ok (.iload_n 2, 1) := by decide +kernel
theorem dX0_spread_167 : decode cX0_spread 167 = .ok (.bipush 7, 2) := by decide +kernel
theorem dX0_spread_169 : decode cX0_spread 169 = .ok (.isub, 1) := by decide +kernel
theorem dX0_spread_170 : decode cX0_spread 170 = .ok (.iaload, 1) := by decide +kernel
theorem dX0_spread_171 : decode cX0_spread 171 = .ok (.iadd, 1) := by decide +kernel
theorem dX0_spread_172 : decode cX0_spread 172 = .ok (.iload 5, 2) := by decide +kernel
theorem dX0_spread_174 : decode cX0_spread 174 = .ok (.iadd, 1) := by decide +kernel
theorem dX0_spread_175 : decode cX0_spread 175 = .ok (.aload_n 0, 1) := by decide +kernel
theorem dX0_spread_176 : decode cX0_spread 176 = .ok (.getfield 21, 3) := by decide +kernel
theorem dX0_spread_179 : decode cX0_spread 179 = .ok (.iload_n 2, 1) := by decide +kernel
theorem dX0_spread_180 : decode cX0_spread 180 = .ok (.bipush 16, 2) := by decide +kernel
theorem dX0_spread_182 : decode cX0_spread 182 = .ok (.isub, 1) := by decide +kernel
theorem dX0_spread_183 : decode cX0_spread 183 = .ok (.iaload, 1) := by decide +kernel
theorem dX0_spread_184 : decode cX0_spread 184 = .ok (.iadd, 1) := by decide +kernel
theorem dX0_spread_185 : decode cX0_spread 185 = .ok (.iastore, 1) := by decide +kernel
theorem dX0_spread_186 : decode cX0_spread 186 = .ok (.iinc 2 1, 3) := by decide +kernel
theorem dX0_spread_189 : decode cX0_spread 189 = .ok (.goto (-102), 3) := by decide +kernel
theorem dX0_spread_192 : decode cX0_spread 192 = .ok (.return_, 1) := by decide +kernel
theorem dX0_rot_0 : decode cX0_rot 0 = .ok (.iload_n 0, 1) := by decide +kernel
theorem dX0_rot_1 : decode cX0_rot 1 = .ok (.iload_n 1, 1) := by decide +kernel
theorem dX0_rot_2 : decode cX0_rot 2 = .ok (.iushr, 1) := by decide +kernel
theorem dX0_rot_3 : decode cX0_rot 3 = .ok (.iload_n 0, 1) := by decide +kernel
theorem dX0_rot_4 : decode cX0_rot 4 = .ok (.bipush 32, 2) := by decide +kernel
theorem dX0_rot_6 : decode cX0_rot 6 = .ok (.iload_n 1, 1) := by decide +kernel
theorem dX0_rot_7 : decode cX0_rot 7 = .ok (.isub, 1) := by decide +kernel
theorem dX0_rot_8 : decode cX0_rot 8 = .ok (.ishl, 1) := by decide +kernel
theorem dX0_rot_9 : decode cX0_rot 9 = .ok (.ior, 1) := by decide +kernel
theorem dX0_rot_10 : decode cX0_rot 10 = .ok (.ireturn, 1) := by decide +kernel
