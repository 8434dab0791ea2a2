theorem dX0_mix_0 : decode cX0_mix 0 = .ok (.aload_n 0, 1) := by decide +kernel
theorem dX0_mix_1 : decode cX0_mix 1 = .ok (.getfield 28, 3) := by decide +kernel
theorem dX0_mix_4 : decode cX0_mix 4 = .ok (.iconst 0, 1) := by decide +kernel
theorem dX0_mix_5 : decode cX0_mix 5 = .ok (.iaload, 1) := by decide +kernel
theorem dX0_mix_6 : decode cX0_mix 6 = .ok (.istore_n 1, 1) := by decide +kernel
theorem dX0_mix_7 : decode cX0_mix 7 = .ok (.aload_n 0, 1) := by decide +kernel
theorem dX0_mix_8 : decode cX0_mix 8 = .ok (.getfield 28, 3) := by decide +kernel
theorem dX0_mix_11 : decode cX0_mix 11 = .ok (.iconst 1, 1) := by decide +kernel
theorem dX0_mix_12 : decode cX0_mix 12 = .ok (.iaload, 1) := by decide +kernel
theorem dX0_mix_13 : decode cX0_mix 13 = .ok (.istore_n 2, 1) := by decide +kernel
theorem dX0_mix_14 : decode cX0_mix 14 = .ok (.aload_n 0, 1) := by decide +kernel
theorem dX0_mix_15 : decode cX0_mix 15 = .ok (.getfield 28, 3) := by decide +kernel
theorem dX0_mix_18 : decode cX0_mix 18 = .ok (.iconst 2, 1) := by decide +kernel
theorem dX0_mix_19 : decode cX0_mix 19 = .ok (.iaload, 1) := by decide +kernel
theorem dX0_mix_20 : decode cX0_mix 20 = .ok (.istore_n 3, 1) := by decide +kernel
theorem dX0_mix_21 : decode cX0_mix 21 = .ok (.aload_n 0, 1) := by decide +kernel
theorem dX0_mix_22 : decode cX0_mix 22 = .ok (.getfield 28, 3) := by decide +kernel
theorem dX0_mix_25 : decode cX0_mix 25 = .ok (.iconst 3, 1) := by decide +kernel
theorem dX0_mix_26 : decode cX0_mix 26 = .ok (.iaload, 1) := by decide +kernel
theorem dX0_mix_27 : decode cX0_mix 27 = .ok (.istore 4, 2) := by decide +kernel
theorem dX0_mix_29 : decode cX0_mix 29 = .ok (.aload_n 0, 1) := by decide +kernel
theorem dX0_mix_30 : decode cX0_mix 30 = .ok (.getfield 28, 3) := by decide +kernel
theorem dX0_mix_33 : decode cX0_mix 33 = .ok (.iconst 4, 1) := by decide +kernel
theorem dX0_mix_34 : decode cX0_mix 34 = .ok (.iaload, 1) := by decide +kernel
theorem dX0_mix_35 : decode cX0_mix 35 = .ok (.istore 5, 2) := by decide +kernel
theorem dX0_mix_37 : decode cX0_mix 37 = .ok (.aload_n 0, 1) := by decide +kernel
theorem dX0_mix_38 : decode cX0_mix 38 = .ok (.getfield 28, 3) := by decide +kernel
theorem dX0_mix_41 : decode cX0_mix 41 = .ok (.iconst 5, 1) := by decide +kernel
theorem dX0_mix_42 : decode cX0_mix 42 = .ok (.iaload, 1) := by decide +kernel
theorem dX0_mix_43 : decode cX0_mix 43 = .ok (.istore 6, 2) := by decide +kernel
theorem dX0_mix_45 : decode cX0_mix 45 = .ok (.aload_n 0, 1) := by decide +kernel
theorem dX0_mix_46 : decode cX0_mix 46 = .ok (.getfield 28, 3) := by decide +kernel
theorem dX0_mix_49 : decode cX0_mix 49 = .ok (.bipush 6, 2) := by decide +kernel
theorem dX0_mix_51 : decode cX0_mix 51 = .ok (.iaload, 1) := by decide +kernel
theorem dX0_mix_52 : decode cX0_mix 52 = .ok (.istore 7, 2) := by decide +kernel
theorem dX0_mix_54 : decode cX0_mix 54 = .ok (.aload_n 0, 1) := by decide +kernel
theorem dX0_mix_55 : decode cX0_mix 55 = .ok (.getfield 28, 3) := by decide +kernel
theorem dX0_mix_58 : decode cX0_mix 58 = .ok (.bipush 7, 2) := by decide +kernel
theorem dX0_mix_60 : decode cX0_mix 60 = .ok (.iaload, 1) := by decide +kernel
theorem dX0_mix_61 : decode cX0_mix 61 = .ok (.istore 8, 2) := by decide +kernel
theorem dX0_mix_63 : decode cX0_mix 63 = .ok (.iconst 0, 1) := by decide +kernel
theorem dX0_mix_64 : decode cX0_mix 64 = .ok (.istore 9, 2) := by decide +kernel
theorem dX0_mix_66 : decode cX0_mix 66 = .ok (.iload 9, 2) := by decide +kernel
theorem dX0_mix_68 : decode cX0_mix 68 = .ok (.bipush 64, 2) := by decide +kernel
theorem dX0_mix_70 : decode cX0_mix 70 = .ok (.if_icmp .ge 131, 3) := by decide +kernel
theorem dX0_mix_73 : decode cX0_mix 73 = .ok (.iload 8, 2) := by decide +kernel
theorem dX0_mix_75 : decode cX0_mix 75 = .ok (.iload 5, 2) := by decide +kernel
theorem dX0_mix_77 : decode cX0_mix 77 = .ok (.bipush 6, 2) := by decide +kernel
theorem dX0_mix_79 : decode cX0_mix 79 = .ok (.invokestatic 72, 3) := by decide +kernel
theorem dX0_mix_82 : decode cX0_mix 82 = .ok (.iload 5, 2) := by decide +kernel
theorem dX0_mix_84 : decode cX0_mix 84 = .ok (.bipush 11, 2) := by decide +kernel
theorem dX0_mix_86 : decode cX0_mix 86 = .ok (.invokestatic 72, 3) := by decide +kernel
theorem dX0_mix_89 : decode cX0_mix 89 = .ok (.ixor, 1) := by decide +kernel
theorem dX0_mix_90 : decode cX0_mix 90 = .ok (.iload 5, 2) := by decide +kernel
theorem dX0_mix_92 : decode cX0_mix 92 = .ok (.bipush 25, 2) := by decide +kernel
theorem dX0_mix_94 : decode cX0_mix 94 = .ok (.invokestatic 72, 3) := by decide +kernel
theorem dX0_mix_97 : decode cX0_mix 97 = .ok (.ixor, 1) := by decide +kernel
theorem dX0_mix_98 : decode cX0_mix 98 = .ok (.iadd, 1) := by decide +kernel
theorem dX0_mix_99 : decode cX0_mix 99 = .ok (.iload 5, 2) := by decide +kernel
theorem dX0_mix_101 : decode cX0_mix 101 = .ok (.iload 6, 2) := by decide +kernel
theorem dX0_mix_103 : decode cX0_mix 103 = .ok (.iand, 1) := by decide +kernel
theorem dX0_mix_104 : decode cX0_mix 104 = .ok (.iload 5, 2) := by decide +kernel
theorem dX0_mix_106 : decode cX0_mix 106 = .ok (.iconst (-1), 1) := by decide +kernel
theorem dX0_mix_107 : decode cX0_mix 107 = .ok (.ixor, 1) := by decide +kernel
theorem dX0_mix_108 : decode cX0_mix 108 = .ok (.iload 7, 2) := by decide +kernel
theorem dX0_mix_110 : decode cX0_mix 110 = .ok (.iand, 1) := by decide +kernel
theorem dX0_mix_111 : decode cX0_mix 111 = .ok (.ixor, 1) := by decide +kernel
theorem dX0_mix_112 : decode cX0_mix 112 = .ok (.iadd, 1) := by decide +kernel
theorem dX0_mix_113 : decode cX0_mix 113 = .ok (.getstatic 76, 3) := by decide +kernel
theorem dX0_mix_116 : decode cX0_mix 116 = .ok (.iload 9, 2) := by decide +kernel
theorem dX0_mix_118 : decode cX0_mix 118 = .ok (.iaload, 1) := by decide +kernel
theorem dX0_mix_119 : decode cX0_mix 119 = .ok (.iadd, 1) := by decide +kernel
theorem dX0_mix_120 : decode cX0_mix 120 = .ok (.aload_n 0, 1) := by decide +kernel
theorem dX0_mix_121 : decode cX0_mix 121 = .ok (.getfield 21, 3) := by decide +kernel
theorem dX0_mix_124 : decode cX0_mix 124 = .ok (.iload 9, 2) := by decide +kernel
theorem dX0_mix_126 : decode cX0_mix 126 = .ok (.iaload, 1) := by decide +kernel
theorem dX0_mix_127 : decode cX0_mix 127 = .ok (.iadd, 1) := by decide +kernel
theorem dX0_mix_128 : decode cX0_mix 128 = .ok (.istore 10, 2) := by decide +kernel
theorem dX0_mix_130 : decode cX0_mix 130 = .ok (.iload_n 1, 1) := by decide +kernel
theorem dX0_mix_131 : decode cX0_mix 131 = .ok (.iconst 2, 1) := by decide +kernel
theorem dX0_mix_132 : decode cX0_mix 132 = .ok (.invokestatic 72, 3) := by decide +kernel
theorem dX0_mix_135 : decode cX0_mix 135 = .ok (.iload_n 1, 1) := by decide +kernel
theorem dX0_mix_136 : decode cX0_mix 136 = .ok (.bipush 13, 2) := by decide +kernel
theorem dX0_mix_138 : decode cX0_mix 138 = .ok (.invokestatic 72, 3) := by decide +kernel
theorem dX0_mix_141 : decode cX0_mix 141 = .ok (.ixor, 1) := by decide +kernel
theorem dX0_mix_142 : decode cX0_mix 142 = .ok (.iload_n 1, 1) := by decide +kernel
theorem dX0_mix_143 : decode cX0_mix 143 = .ok (.bipush 22, 2) := by decide +kernel
theorem dX0_mix_145 : decode cX0_mix 145 = .ok (.invokestatic 72, 3) := by decide +kernel
theorem dX0_mix_148 : decode cX0_mix 148 = .ok (.ixor, 1) := by decide +kernel
theorem dX0_mix_149 : decode cX0_mix 149 = .ok (.iload_n 1, 1) := by decide +kernel
theorem dX0_mix_150 : decode cX0_mix 150 = .ok (.iload_n 2, 1) := by decide +kernel
theorem dX0_mix_151 : decode cX0_mix 151 = .ok (.iand, 1) := by decide +kernel
theorem dX0_mix_152 : decode cX0_mix 152 = .ok (.iload_n 1, 1) := by decide +kernel
theorem dX0_mix_153 : decode cX0_mix 153 = .ok (.iload_n 3, 1) := by decide +kernel
theorem dX0_mix_154 : decode cX0_mix 154 = .ok (.iand, 1) := by decide +kernel
theorem dX0_mix_155 : decode cX0_mix 155 = .ok (.ixor, 1) := by decide +kernel
theorem dX0_mix_156 : decode cX0_mix 156 = .ok (.iload_n 2, 1) := by decide +kernel
theorem dX0_mix_157 : decode cX0_mix 157 = .ok (.iload_n 3, 1) := by decide +kernel
theorem dX0_mix_158 : decode cX0_mix 158 = .ok (.iand, 1) := by decide +kernel
theorem dX0_mix_159 : decode cX0_mix 159 = .ok (.ixor, 1) := by decide +kernel
theorem dX0_mix_160 : decode cX0_mix 160 = .ok (.iadd, 1) := by decide +kernel
theorem dX0_mix_161 : decode cX0_mix 161 = .ok (.istore 11, 2) := by decide +kernel
theorem dX0_mix_163 : decode cX0_mix 163 = .ok (.iload 7, 2) := by decide +kernel
theorem dX0_mix_165 : decode cX0_mix 165 = .ok (.istore 8, 2) := by decide +kernel
theorem dX0_mix_167 : decode cX0_mix 167 = .ok (.iload 6, 2) := by decide +kernel
theorem dX0_mix_169 : decode cX0_mix 169 = .ok (.istore 7, 2) := by decide +kernel
theorem dX0_mix_171 : decode cX0_mix 171 = .ok (.iload 5, 2) := by decide +kernel
theorem dX0_mix_173 : decode cX0_mix 173 = .ok (.istore 6, 2) := by decide +kernel
theorem dX0_mix_175 : decode cX0_mix 175 = .ok (.iload 4, 2) := by decide +kernel
theorem dX0_mix_177 : decode cX0_mix 177 = .ok (.iload 10, 2) := by decide +kernel
theorem dX0_mix_179 : decode cX0_mix 179 = .ok (.iadd, 1) := by decide +kernel
theorem dX0_mix_180 : decode cX0_mix 180 = .ok (.istore 5, 2) := by decide +kernel
theorem dX0_mix_182 : decode cX0_mix 182 = .ok (.iload_n 3, 1) := by decide +kernel
theorem dX0_mix_183 : decode cX0_mix 183 = .ok (.istore 4, 2) := by decide +kernel
theorem dX0_mix_185 : decode cX0_mix 185 = .ok (.iload_n 2, 1) := by decide +kernel
theorem dX0_mix_186 : decode cX0_mix 186 = .ok (.istore_n 3, 1) := by decide +kernel
theorem dX0_mix_187 : decode cX0_mix 187 = .ok (.iload_n 1, 1) := by decide +kernel
theorem dX0_mix_188 : decode cX0_mix 188 = .ok (.istore_n 2, 1) := by decide +kernel
theorem dX0_mix_189 : decode cX0_mix 189 = .ok (.iload 10, 2) := by decide +kernel
theorem dX0_mix_191 : decode cX0_mix 191 = .ok (.iload 11, 2) := by decide +kernel
theorem dX0_mix_193 : decode cX0_mix 193 = .ok (.iadd, 1) := by decide +kernel
theorem dX0_mix_194 : decode cX0_mix 194 = .ok (.istore_n 1, 1) := by decide +kernel
theorem dX0_mix_195 : decode cX0_mix 195 = .ok (.iinc 9 1, 3) := by decide +kernel
theorem dX0_mix_198 : decode cX0_mix 198 = .ok (.goto (-132), 3) := by decide +kernel
theorem dX0_mix_201 : decode cX0_mix 201 = .ok (.aload_n 0, 1) := by decide +kernel
theorem dX0_mix_202 : decode cX0_mix 202 = .ok (.getfield 28, 3) := by decide +kernel
theorem dX0_mix_205 : decode cX0_mix 205 = .ok (.iconst 0, 1) := by decide +kernel
theorem dX0_mix_206 : decode cX0_mix 206 = .ok (.dup2, 1) := by decide +kernel
theorem dX0_mix_207 : decode cX0_mix 207 = .ok (.iaload, 1) := by decide +kernel
theorem dX0_mix_208 : decode cX0_mix 208 = .ok (.iload_n 1, 1) := by decide +kernel
theorem dX0_mix_209 : decode cX0_mix 209 = .ok (.iadd, 1) := by decide +kernel
theorem dX0_mix_210 : decode cX0_mix 210 = .ok (.iastore, 1) := by decide +kernel
theorem dX0_mix_211 : decode cX0_mix 211 = .ok (.aload_n 0, 1) := by decide +kernel
theorem dX0_mix_212 : decode cX0_mix 212 = .ok (.getfield 28, 3) := by decide +kernel
theorem dX0_mix_215 : decode cX0_mix 215 = .ok (.iconst 1, 1) := by decide +kernel
theorem dX0_mix_216 : decode cX0_mix 216 = .ok (.dup2, 1) := by decide +kernel
theorem dX0_mix_217 : decode cX0_mix 217 = .ok (.iaload, 1) := by decide +kernel
theorem dX0_mix_218 : decode cX0_mix 218 = .ok (.iload_n 2, 1) := by decide +kernel
theorem dX0_mix_219 : decode cX0_mix 219 = .ok (.iadd, 1) := by decide +kernel
theorem dX0_mix_220 : decode cX0_mix 220 = .ok (.iastore, 1) := by decide +kernel
theorem dX0_mix_221 : decode cX0_mix 221 = .ok (.aload_n 0, 1) := by decide +kernel
theorem dX0_mix_222 : decode cX0_mix 222 = .ok (.getfield 28, 3) := by decide +kernel
theorem dX0_mix_225 : decode cX0_mix 225 = .ok (.iconst 2, 1) := by decide +kernel
theorem dX0_mix_226 : decode cX0_mix 226 = .ok (.dup2, 1) := by decide +kernel
theorem dX0_mix_227 : decode cX0_mix 227 = .ok (.iaload, 1) := by decide +kernel
theorem dX0_mix_228 : decode cX0_mix 228 = .ok (.iload_n 3, 1) := by decide +kernel
theorem dX0_mix_229 : decode cX0_mix 229 = .ok (.iadd, 1) := by decide +kernel
theorem dX0_mix_230 : decode cX0_mix 230 = .ok (.iastore, 1) := by decide +kernel
theorem dX0_mix_231 : decode cX0_mix 231 = .ok (.aload_n 0, 1) := by decide +kernel
theorem dX0_mix_232 : decode cX0_mix 232 = .ok (.getfield 28, 3) := by decide +kernel
theorem dX0_mix_235 : decode cX0_mix 235 = .ok (.iconst 3, 1) := by decide +kernel
theorem dX0_mix_236 : decode cX0_mix 236 = .ok (.dup2, 1) := by decide +kernel
theorem dX0_mix_237 : decode cX0_mix 237 = .ok (.iaload, 1) := by decide +kernel
theorem dX0_mix_238 : decode cX0_mix 238 = .ok (.iload 4, 2) := by decide +kernel
theorem dX0_mix_240 : decode cX0_mix 240 = .ok (.iadd, 1) := by decide +kernel
theorem dX0_mix_241 : decode cX0_mix 241 = .ok (.iastore, 1) := by decide +kernel
theorem dX0_mix_242 : decode cX0_mix 242 = .ok (.aload_n 0, 1) := by decide +kernel
theorem dX0_mix_243 : decode cX0_mix 243 = .ok (.getfield 28, 3) := by decide +kernel
theorem dX0_mix_246 : decode cX0_mix 246 = .ok (.iconst 4, 1) := by decide +kernel
theorem dX0_mix_247 : decode cX0_mix 247 = .ok (.dup2, 1) := by decide +kernel
theorem dX0_mix_248 : decode cX0_mix 248 = .ok (.iaload, 1) := by decide +kernel
theorem dX0_mix_249 : decode cX0_mix 249 = .ok (.iload 5, 2) := by decide +kernel
theorem dX0_mix_251 : decode cX0_mix 251 = .ok (.iadd, 1) := by decide +kernel
theorem dX0_mix_252 : decode cX0_mix 252 = .ok (.iastore, 1) := by decide +kernel
theorem dX0_mix_253 : decode cX0_mix 253 = .ok (.aload_n 0, 1) := by decide +kernel
theorem dX0_mix_254 : decode cX0_mix 254 = .ok (.getfield 28, 3) := by decide +kernel
theorem dX0_mix_257 : decode cX0_mix 257 = .ok (.iconst 5, 1) := by decide +kernel
theorem dX0_mix_258 : decode cX0_mix 258 = .ok (.dup2, 1) := by decide +kernel
theorem dX0_mix_259 : decode cX0_mix 259 = .ok (.iaload, 1) := by decide +kernel
theorem dX0_mix_260 : decode cX0_mix 260 = .ok (.iload 6, 2) := by decide +kernel
theorem dX0_mix_262 : decode cX0_mix 262 = .ok (.iadd, 1) := by decide +kernel
theorem dX0_mix_263 : decode cX0_mix 263 = .ok (.iastore, 1) := by decide +kernel
theorem dX0_mix_264 : decode cX0_mix 264 = .ok (.aload_n 0, 1) := by decide +kernel
theorem dX0_mix_265 : decode cX0_mix 265 = .ok (.getfield 28, 3) := by decide +kernel
theorem dX0_mix_268 : decode cX0_mix 268 = .ok (.bipush 6, 2) := by decide +kernel
theorem dX0_mix_270 : decode cX0_mix 270 = .ok (.dup2, 1) := by decide +kernel
theorem dX0_mix_271 : decode cX0_mix 271 = .ok (.iaload, 1) := by decide +kernel
theorem dX0_mix_272 : decode cX0_mix 272 = .ok (.iload 7, 2) := by decide +kernel
theorem dX0_mix_274 : decode cX0_mix 274 = .ok (.iadd, 1) := by decide +kernel
theorem dX0_mix_275 : decode cX0_mix 275 = .ok (.iastore, 1) := by decide +kernel
theorem dX0_mix_276 : decode cX0_mix 276 = .ok (.aload_n 0, 1) := by decide +kernel
theorem dX0_mix_277 : decode cX0_mix 277 = .ok (.getfield 28, 3) := by decide +kernel
theorem dX0_mix_280 : decode cX0_mix 280 = .ok (.bipush 7, 2) := by decide +kernel
theorem dX0_mix_282 : decode cX0_mix 282 = .ok (.dup2, 1) := by decide +kernel
theorem dX0_mix_283 : decode cX0_mix 283 = .ok (.iaload, 1) := by decide +kernel
theorem dX0_mix_284 : decode cX0_mix 284 = .ok (.iload 8, 2) := by decide +kernel
theorem dX0_mix_286 : decode cX0_mix 286 = .ok (.iadd, 1) := by decide +kernel
theorem dX0_mix_287 : decode cX0_mix 287 = .ok (.iastore, 1) := by decide +kernel
theorem dX0_mix_288 : decode cX0_mix 288 = .ok (.return_, 1) := by decide +kernel
theorem dX0_cut_0 : decode cX0_cut 0 = .ok (.aload_n 0, 1) := by decide +kernel
theorem dX0_cut_1 : decode cX0_cut 1 = .ok (.invokevirtual 31, 3) := by decide +kernel
theorem dX0_cut_4 : decode cX0_cut 4 = .ok (.aload_n 0, 1) := by decide +kernel
theorem dX0_cut_5 : decode cX0_cut 5 = .ok (.aload_n 1, 1) := by decide +kernel
theorem dX0_cut_6 : decode cX0_cut 6 = .ok (.iload_n 2, 1) := by decide +kernel
theorem dX0_cut_7 : decode cX0_cut 7 = .ok (.bipush 20, 2) := by decide +kernel
theorem dX0_cut_9 : decode cX0_cut 9 = .ok (.invokevirtual 34, 3) := by decide +kernel
theorem dX0_cut_12 : decode cX0_cut 12 = .ok (.aload_n 0, 1) := by decide +kernel
theorem dX0_cut_13 : decode cX0_cut 13 = .ok (.aload_n 3, 1) := by decide +kernel
theorem dX0_cut_14 : decode cX0_cut 14 = .ok (.iload 4, 2) := by decide +kernel
theorem dX0_cut_16 : decode cX0_cut 16 = .ok (.bipush 20, 2) := by decide +kernel
theorem dX0_cut_18 : decode cX0_cut 18 = .ok (.invokevirtual 38, 3) := by decide +kernel
theorem dX0_cut_21 : decode cX0_cut 21 = .ok (.return_, 1) := by decide +kernel
theorem dX0_addBytes_0 : decode cX0_addBytes 0 = .ok (.aload_n 1, 1) := by decide +kernel
theorem dX0_addBytes_1 : decode cX0_addBytes 1 = .ok (.iload_n 2, 1) := by decide +kernel
theorem dX0_addBytes_2 : decode cX0_addBytes 2 = .ok (.aload_n 0, 1) := by decide +kernel
theorem dX0_addBytes_3 : decode cX0_addBytes 3 = .ok (.getfield 18, 3) := by decide +kernel
theorem dX0_addBytes_6 : decode cX0_addBytes 6 = .ok (.aload_n 0, 1) := by decide +kernel
theorem dX0_addBytes_7 : decode cX0_addBytes 7 = .ok (.getfield 49, 3) := by decide +kernel
theorem dX0_addBytes_10 : decode cX0_addBytes 10 = .ok (.iload_n 3, 1) := by decide +kernel
theorem dX0_addBytes_11 : decode cX0_addBytes 11 = .ok (.invokestatic 57, 3) := by decide +kernel
theorem dX0_addBytes_14 : decode cX0_addBytes 14 = .ok (.aload_n 0, 1) := by decide +kernel
theorem dX0_addBytes_15 : decode cX0_addBytes 15 = .ok (.dup, 1) := by decide +kernel
theorem dX0_addBytes_16 : decode cX0_addBytes 16 = .ok (.getfield 49, 3) := by decide +kernel
theorem dX0_addBytes_19 : decode cX0_addBytes 19 = .ok (.iload_n 3, 1) := by decide +kernel
theorem dX0_addBytes_20 : decode cX0_addBytes 20 = .ok (.iadd, 1) := by decide +kernel
theorem dX0_addBytes_21 : decode cX0_addBytes 21 = .ok (.putfield 49, 3) := by decide +kernel
theorem dX0_addBytes_24 : decode cX0_addBytes 24 = .ok (.return_, 1) := by decide +kernel
theorem dX0_cutToHead_0 : decode cX0_cutToHead 0 = .ok (.aload_n 0, 1) := by decide +kernel
theorem dX0_cutToHead_1 : decode cX0_cutToHead 1 = .ok (.invokevirtual 31, 3) := by decide +kernel
theorem dX0_cutToHead_4 : decode cX0_cutToHead 4 = .ok (.aload_n 0, 1) := by decide +kernel
theorem dX0_cutToHead_5 : decode cX0_cutToHead 5 = .ok (.aload_n 1, 1) := by decide +kernel
theorem dX0_cutToHead_6 : decode cX0_cutToHead 6 = .ok (.iload_n 2, 1) := by decide +kernel
theorem dX0_cutToHead_7 : decode cX0_cutToHead 7 = .ok (.bipush 20, 2) := by decide +kernel
theorem dX0_cutToHead_9 : decode cX0_cutToHead 9 = .ok (.invokevirtual 34, 3) := by decide +kernel
theorem dX0_cutToHead_12 : decode cX0_cutToHead 12 = .ok (.aload_n 0, 1) := by decide +kernel
theorem dX0_cutToHead_13 : decode cX0_cutToHead 13 = .ok (.iload_n 3, 1) := by decide +kernel
theorem dX0_cutToHead_14 : decode cX0_cutToHead 14 = .ok (.i2l, 1) := by decide +kernel
theorem dX0_cutToHead_15 : decode cX0_cutToHead 15 = .ok (.iconst 1, 1) := by decide +kernel
theorem dX0_cutToHead_16 : decode cX0_cutToHead 16 = .ok (.invokevirtual 41, 3) := by decide +kernel
theorem dX0_cutToHead_19 : decode cX0_cutToHead 19 = .ok (.aload_n 0, 1) := by decide +kernel
theorem dX0_cutToHead_20 : decode cX0_cutToHead 20 = .ok (.aload 4, 2) := by decide +kernel
theorem dX0_cutToHead_22 : decode cX0_cutToHead 22 = .ok (.iload 5, 2) := by decide +kernel
theorem dX0_cutToHead_24 : decode cX0_cutToHead 24 = .ok (.bipush 20, 2) := by decide +kernel
theorem dX0_cutToHead_26 : decode cX0_cutToHead 26 = .ok (.invokevirtual 38, 3) := by decide +kernel
theorem dX0_cutToHead_29 : decode cX0_cutToHead 29 = .ok (.return_, 1) := by decide +kernel
theorem dX0_makeCode_0 : decode cX0_makeCode 0 = .ok (.aload_n 0, 1) := by decide +kernel
theorem dX0_makeCode_1 : decode cX0_makeCode 1 = .ok (.aload_n 1, 1) := by decide +kernel
theorem dX0_makeCode_2 : decode cX0_makeCode 2 = .ok (.bipush 54, 2) := by decide +kernel
theorem dX0_makeCode_4 : decode cX0_makeCode 4 = .ok (.invokevirtual 45, 3) := by decide +kernel
theorem dX0_makeCode_7 : decode cX0_makeCode 7 = .ok (.aload_n 0, 1) := by decide +kernel
theorem dX0_makeCode_8 : decode cX0_makeCode 8 = .ok (.aload_n 2, 1) := by decide +kernel
theorem dX0_makeCode_9 : decode cX0_makeCode 9 = .ok (.iconst 0, 1) := by decide +kernel
theorem dX0_makeCode_10 : decode cX0_makeCode 10 = .ok (.iload_n 3, 1) := by decide +kernel
theorem dX0_makeCode_11 : decode cX0_makeCode 11 = .ok (.invokevirtual 34, 3) := by decide +kernel
theorem dX0_makeCode_14 : decode cX0_makeCode 14 = .ok (.aload_n 0, 1) := by decide +kernel
theorem dX0_makeCode_15 : decode cX0_makeCode 15 = .ok (.aload_n 0, 1) := by decide +kernel
theorem dX0_makeCode_16 : decode cX0_makeCode 16 = .ok (.getfield 9, 3) := by decide +kernel
theorem dX0_makeCode_19 : decode cX0_makeCode 19 = .ok (.iconst 0, 1) := by decide +kernel
theorem dX0_makeCode_20 : decode cX0_makeCode 20 = .ok (.bipush 32, 2) := by decide +kernel
theorem dX0_makeCode_22 : decode cX0_makeCode 22 = .ok (.invokevirtual 38, 3) := by decide +kernel
theorem dX0_makeCode_25 : decode cX0_makeCode 25 = .ok (.aload_n 0, 1) := by decide +kernel
theorem dX0_makeCode_26 : decode cX0_makeCode 26 = .ok (.aload_n 1, 1) := by decide +kernel
theorem dX0_makeCode_27 : decode cX0_makeCode 27 = .ok (.bipush 92, 2) := by decide +kernel
theorem dX0_makeCode_29 : decode cX0_makeCode 29 = .ok (.invokevirtual 45, 3) := by decide +kernel
theorem dX0_makeCode_32 : decode cX0_makeCode 32 = .ok (.aload_n 0, 1) := by decide +kernel
theorem dX0_makeCode_33 : decode cX0_makeCode 33 = .ok (.aload_n 0, 1) := by decide +kernel
theorem dX0_makeCode_34 : decode cX0_makeCode 34 = .ok (.getfield 9, 3) := by decide +kernel
theorem dX0_makeCode_37 : decode cX0_makeCode 37 = .ok (.iconst 0, 1) := by decide +kernel
theorem dX0_makeCode_38 : decode cX0_makeCode 38 = .ok (.bipush 32, 2) := by decide +kernel
theorem dX0_makeCode_40 : decode cX0_makeCode 40 = .ok (.invokevirtual 34, 3) := by decide +kernel
theorem dX0_makeCode_43 : decode cX0_makeCode 43 = .ok (.aload_n 0, 1) := by decide +kernel
theorem dX0_makeCode_44 : decode cX0_makeCode 44 = .ok (.aload_n 0, 1) := by decide +kernel
theorem dX0_makeCode_45 : decode cX0_makeCode 45 = .ok (.getfield 9, 3) := by decide +kernel
theorem dX0_makeCode_48 : decode cX0_makeCode 48 = .ok (.iconst 0, 1) := by decide +kernel
theorem dX0_makeCode_49 : decode cX0_makeCode 49 = .ok (.bipush 32, 2) := by decide +kernel
theorem dX0_makeCode_51 : decode cX0_makeCode 51 = .ok (.invokevirtual 38, 3) := by decide +kernel
theorem dX0_makeCode_54 : decode cX0_makeCode 54 = .ok (.return_, 1) := by decide +kernel
theorem dX0_beginWithKey_0 : decode cX0_beginWithKey 0 = .ok (.iconst 0, 1) := by decide +kernel
theorem dX0_beginWithKey_1 : decode cX0_beginWithKey 1 = .ok (.istore_n 3, 1) := by decide +kernel
theorem dX0_beginWithKey_2 : decode cX0_beginWithKey 2 = .ok (.iload_n 3, 1) := by decide +kernel
theorem dX0_beginWithKey_3 : decode cX0_beginWithKey 3 = .ok (.bipush 64, 2) := by decide +kernel
theorem dX0_beginWithKey_5 : decode cX0_beginWithKey 5 = .ok (.if_icmp .ge 31, 3) := by decide +kernel
theorem dX0_beginWithKey_8 : decode cX0_beginWithKey 8 = .ok (.aload_n 0, 1) := by decide +kernel
theorem dX0_beginWithKey_9 : decode cX0_beginWithKey 9 = .ok (.getfield 18, 3) := by decide +kernel
theorem dX0_beginWithKey_12 : decode cX0_beginWithKey 12 = .ok (.iload_n 3, 1) := by decide +kernel
theorem dX0_beginWithKey_13 : decode cX0_beginWithKey 13 = .ok (.iload_n 3, 1) := by decide +kernel
theorem dX0_beginWithKey_14 : decode cX0_beginWithKey 14 = .ok (.bipush 16, 2) := by decide +kernel
theorem dX0_beginWithKey_16 : decode cX0_beginWithKey 16 = .ok (.if_icmp .ge 9, 3) := by decide +kernel
theorem dX0_beginWithKey_19 : decode cX0_beginWithKey 19 = .ok (.aload_n 1, 1) := by decide +kernel
theorem dX0_beginWithKey_20 : decode cX0_beginWithKey 20 = .ok (.iload_n 3, 1) := by decide +kernel
theorem dX0_beginWithKey_21 : decode cX0_beginWithKey 21 = .ok (.baload, 1) := by decide +kernel
theorem dX0_beginWithKey_22 : decode cX0_beginWithKey 22 = .ok (.goto 4, 3) := by decide +kernel
theorem dX0_beginWithKey_25 : decode cX0_beginWithKey 25 = .ok (.iconst 0, 1) := by decide +kernel
theorem dX0_beginWithKey_26 : decode cX0_beginWithKey 26 = .ok (.iload_n 2, 1) := by decide +kernel
theorem dX0_beginWithKey_27 : decode cX0_beginWithKey 27 = .ok (.ixor, 1) := by decide +kernel
theorem dX0_beginWithKey_28 : decode cX0_beginWithKey 28 = .ok (.i2b, 1) := by decide +kernel
theorem dX0_beginWithKey_29 : decode cX0_beginWithKey 29 = .ok (.bastore, 1) := by decide +kernel
theorem dX0_beginWithKey_30 : decode cX0_beginWithKey 30 = .ok (.iinc 3 1, 3) := by decide +kernel
theorem dX0_beginWithKey_33 : decode cX0_beginWithKey 33 = .ok (.goto (-31), 3) := by decide +kernel
theorem dX0_beginWithKey_36 : decode cX0_beginWithKey 36 = .ok (.aload_n 0, 1) := by decide +kernel
theorem dX0_beginWithKey_37 : decode cX0_beginWithKey 37 = .ok (.bipush 64, 2) := by decide +kernel
theorem dX0_beginWithKey_39 : decode cX0_beginWithKey 39 = .ok (.putfield 49, 3) := by decide +kernel
theorem dX0_beginWithKey_42 : decode cX0_beginWithKey 42 = .ok (.return_, 1) := by decide +kernel
