theorem dX4_settle_0 : decode cX4_settle 0 = .ok (.aload_n 0, 1) := by decide +kernel
theorem dX4_settle_1 : decode cX4_settle 1 = .ok (.iconst 0, 1) := by decide +kernel
theorem dX4_settle_2 : decode cX4_settle 2 = .ok (.putfield 121, 3) := by decide +kernel
theorem dX4_settle_5 : decode cX4_settle 5 = .ok (.iconst 0, 1) := by decide +kernel
theorem dX4_settle_6 : decode cX4_settle 6 = .ok (.istore_n 1, 1) := by decide +kernel
theorem dX4_settle_7 : decode cX4_settle 7 = .ok (.iconst 0, 1) := by decide +kernel
theorem dX4_settle_8 : decode cX4_settle 8 = .ok (.istore_n 2, 1) := by decide +kernel
theorem dX4_settle_9 : decode cX4_settle 9 = .ok (.iload_n 2, 1) := by decide +kernel
theorem dX4_settle_10 : decode cX4_settle 10 = .ok (.aload_n 0, 1) := by decide +kernel
theorem dX4_settle_11 : decode cX4_settle 11 = .ok (.getfield 265, 3) := by decide +kernel
theorem dX4_settle_14 : decode cX4_settle 14 = .ok (.if_icmp .ge 287, 3) := by decide +kernel
theorem dX4_settle_17 : decode cX4_settle 17 = .ok (.iconst 0, 1) := by decide +kernel
theorem dX4_settle_18 : decode cX4_settle 18 = .ok (.istore_n 3, 1) := by decide +kernel
theorem dX4_settle_19 : decode cX4_settle 19 = .ok (.iload_n 3, 1) := by decide +kernel
theorem dX4_settle_20 : decode cX4_settle 20 = .ok (.bipush 8, 2) := by decide +kernel
theorem dX4_settle_22 : decode cX4_settle 22 = .ok (.if_icmp .ge 178, 3) := by decide +kernel
theorem dX4_settle_25 : decode cX4_settle 25 = .ok (.bipush 8, 2) := by decide +kernel
theorem dX4_settle_27 : decode cX4_settle 27 = .ok (.iload_n 2, 1) := by decide +kernel
theorem dX4_settle_28 : decode cX4_settle 28 = .ok (.imul, 1) := by decide +kernel
theorem dX4_settle_29 : decode cX4_settle 29 = .ok (.iload_n 3, 1) := by decide +kernel
theorem dX4_settle_30 : decode cX4_settle 30 = .ok (.iadd, 1) := by decide +kernel
theorem dX4_settle_31 : decode cX4_settle 31 = .ok (.istore 4, 2) := by decide +kernel
theorem dX4_settle_33 : decode cX4_settle 33 = .ok (.aload_n 0, 1) := by decide +kernel
theorem dX4_settle_34 : decode cX4_settle 34 = .ok (.getfield 85, 3) := by decide +kernel
theorem dX4_settle_37 : decode cX4_settle 37 = .ok (.iload 4, 2) := by decide +kernel
theorem dX4_settle_39 : decode cX4_settle 39 = .ok (.iaload, 1) := by decide +kernel
theorem dX4_settle_40 : decode cX4_settle 40 = .ok (.aload_n 0, 1) := by decide +kernel
theorem dX4_settle_41 : decode cX4_settle 41 = .ok (.getfield 88, 3) := by decide +kernel
theorem dX4_settle_44 : decode cX4_settle 44 = .ok (.iload 4, 2) := by decide +kernel
theorem dX4_settle_46 : decode cX4_settle 46 = .ok (.iaload, 1) := by decide +kernel
theorem dX4_settle_47 : decode cX4_settle 47 = .ok (.isub, 1) := by decide +kernel
theorem dX4_settle_48 : decode cX4_settle 48 = .ok (.istore 5, 2) := by decide +kernel
theorem dX4_settle_50 : decode cX4_settle 50 = .ok (.iload 5, 2) := by decide +kernel
theorem dX4_settle_52 : decode cX4_settle 52 = .ok (.aload_n 0, 1) := by decide +kernel
theorem dX4_settle_53 : decode cX4_settle 53 = .ok (.getfield 51, 3) := by decide +kernel
theorem dX4_settle_56 : decode cX4_settle 56 = .ok (.iload_n 2, 1) := by decide +kernel
theorem dX4_settle_57 : decode cX4_settle 57 = .ok (.iaload, 1) := by decide +kernel
theorem dX4_settle_58 : decode cX4_settle 58 = .ok (.aload_n 0, 1) := by decide +kernel
theorem dX4_settle_59 : decode cX4_settle 59 = .ok (.getfield 72, 3) := by decide +kernel
theorem dX4_settle_62 : decode cX4_settle 62 = .ok (.iload_n 2, 1) := by decide +kernel
theorem dX4_settle_63 : decode cX4_settle 63 = .ok (.iaload, 1) := by decide +kernel
theorem dX4_settle_64 : decode cX4_settle 64 = .ok (.isub, 1) := by decide +kernel
theorem dX4_settle_65 : decode cX4_settle 65 = .ok (.if_icmp .ge 8, 3) := by decide +kernel
theorem dX4_settle_68 : decode cX4_settle 68 = .ok (.iload 5, 2) := by decide +kernel
theorem dX4_settle_70 : decode cX4_settle 70 = .ok (.goto 16, 3) := by decide +kernel
theorem dX4_settle_73 : decode cX4_settle 73 = .ok (.aload_n 0, 1) := by decide +kernel
theorem dX4_settle_74 : decode cX4_settle 74 = .ok (.getfield 51, 3) := by decide +kernel
theorem dX4_settle_77 : decode cX4_settle 77 = .ok (.iload_n 2, 1) := by decide +kernel
theorem dX4_settle_78 : decode cX4_settle 78 = .ok (.iaload, 1) := by decide +kernel
theorem dX4_settle_79 : decode cX4_settle 79 = .ok (.aload_n 0, 1) := by decide +kernel
theorem dX4_settle_80 : decode cX4_settle 80 = .ok (.getfield 72, 3) := by decide +kernel
theorem dX4_settle_83 : decode cX4_settle 83 = .ok (.iload_n 2, 1) := by decide +kernel
theorem dX4_settle_84 : decode cX4_settle 84 = .ok (.iaload, 1) := by decide +kernel
theorem dX4_settle_85 : decode cX4_settle 85 = .ok (.isub, 1) := by decide +kernel
theorem dX4_settle_86 : decode cX4_settle 86 = .ok (.istore 6, 2) := by decide +kernel
theorem dX4_settle_88 : decode cX4_settle 88 = .ok (.aload_n 0, 1) := by decide +kernel
theorem dX4_settle_89 : decode cX4_settle 89 = .ok (.getfield 72, 3) := by decide +kernel
theorem dX4_settle_92 : decode cX4_settle 92 = .ok (.iload_n 2, 1) := by decide +kernel
theorem dX4_settle_93 : decode cX4_settle 93 = .ok (.dup2, 1) := by decide +kernel
theorem dX4_settle_94 : decode cX4_settle 94 = .ok (.iaload, 1) := by decide +kernel
theorem dX4_settle_95 : decode cX4_settle 95 = .ok (.iload 6, 2) := by decide +kernel
theorem dX4_settle_97 : decode cX4_settle 97 = .ok (.iadd, 1) := by decide +kernel
theorem dX4_settle_98 : decode cX4_settle 98 = .ok (.iastore, 1) := by decide +kernel
theorem dX4_settle_99 : decode cX4_settle 99 = .ok (.aload_n 0, 1) := by decide +kernel
theorem dX4_settle_100 : decode cX4_settle 100 = .ok (.dup, 1) := by decide +kernel
theorem dX4_settle_101 : decode cX4_settle 101 = .ok (.getfield 268, 3) := by decide +kernel
theorem dX4_settle_104 : decode cX4_settle 104 = .ok (.iload 6, 2) := by decide +kernel
theorem dX4_settle_106 : decode cX4_settle 106 = .ok (.i2l, 1) := by decide +kernel
theorem dX4_settle_107 : decode cX4_settle 107 = .ok (.aload_n 0, 1) := by decide +kernel
theorem dX4_settle_108 : decode cX4_settle 108 = .ok (.getfield 54, 3) := by decide +kernel
theorem dX4_settle_111 : decode cX4_settle 111 = .ok (.iload_n 2, 1) := by decide +kernel
theorem dX4_settle_112 : decode cX4_settle 112 = .ok (.iaload, 1) := by decide +kernel
theorem dX4_settle_113 : decode cX4_settle 113 = .ok (.i2l, 1) := by decide +kernel
theorem dX4_settle_114 : decode cX4_settle 114 = .ok (.lmul, 1) := by decide +kernel
theorem dX4_settle_115 : decode cX4_settle 115 = .ok (.lsub, 1) := by decide +kernel
theorem dX4_settle_116 : decode cX4_settle 116 = .ok (.putfield 268, 3) := by decide +kernel
theorem dX4_settle_119 : decode cX4_settle 119 = .ok (.aload_n 0, 1) := by decide +kernel
theorem dX4_settle_120 : decode cX4_settle 120 = .ok (.dup, 1) := by decide +kernel
theorem dX4_settle_121 : decode cX4_settle 121 = .ok (.getfield 297, 3) := by decide +kernel
theorem dX4_settle_124 : decode cX4_settle 124 = .ok (.iload 6, 2) := by decide +kernel
theorem dX4_settle_126 : decode cX4_settle 126 = .ok (.i2l, 1) := by decide +kernel
theorem dX4_settle_127 : decode cX4_settle 127 = .ok (.aload_n 0, 1) := by decide +kernel
theorem dX4_settle_128 : decode cX4_settle 128 = .ok (.getfield 54, 3) := by decide +kernel
theorem dX4_settle_131 : decode cX4_settle 131 = .ok (.iload_n 2, 1) := by decide +kernel
theorem dX4_settle_132 : decode cX4_settle 132 = .ok (.iaload, 1) := by decide +kernel
theorem dX4_settle_133 : decode cX4_settle 133 = .ok (.i2l, 1) := by decide +kernel
theorem dX4_settle_134 : decode cX4_settle 134 = .ok (.lmul, 1) := by decide +kernel
theorem dX4_settle_135 : decode cX4_settle 135 = .ok (.ladd, 1) := by decide +kernel
theorem dX4_settle_136 : decode cX4_settle 136 = .ok (.putfield 297, 3) := by decide +kernel
theorem dX4_settle_139 : decode cX4_settle 139 = .ok (.aload_n 0, 1) := by decide +kernel
theorem dX4_settle_140 : decode cX4_settle 140 = .ok (.getfield 75, 3) := by decide +kernel
theorem dX4_settle_143 : decode cX4_settle 143 = .ok (.iload_n 2, 1) := by decide +kernel
theorem dX4_settle_144 : decode cX4_settle 144 = .ok (.dup2, 1) := by decide +kernel
theorem dX4_settle_145 : decode cX4_settle 145 = .ok (.iaload, 1) := by decide +kernel
theorem dX4_settle_146 : decode cX4_settle 146 = .ok (.iload 5, 2) := by decide +kernel
theorem dX4_settle_148 : decode cX4_settle 148 = .ok (.iload 6, 2) := by decide +kernel
theorem dX4_settle_150 : decode cX4_settle 150 = .ok (.isub, 1) := by decide +kernel
theorem dX4_settle_151 : decode cX4_settle 151 = .ok (.iadd, 1) := by decide +kernel
theorem dX4_settle_152 : decode cX4_settle 152 = .ok (.iastore, 1) := by decide +kernel
theorem dX4_settle_153 : decode cX4_settle 153 = .ok (.aload_n 0, 1) := by decide +kernel
theorem dX4_settle_154 : decode cX4_settle 154 = .ok (.getfield 78, 3) := by decide +kernel
theorem dX4_settle_157 : decode cX4_settle 157 = .ok (.iload_n 2, 1) := by decide +kernel
theorem dX4_settle_158 : decode cX4_settle 158 = .ok (.aload_n 0, 1) := by decide +kernel
theorem dX4_settle_159 : decode cX4_settle 159 = .ok (.getfield 78, 3) := by decide +kernel
theorem dX4_settle_162 : decode cX4_settle 162 = .ok (.iload_n 2, 1) := by decide +kernel
theorem dX4_settle_163 : decode cX4_settle 163 = .ok (.baload, 1) := by decide +kernel
theorem dX4_settle_164 : decode cX4_settle 164 = .ok (.ifCond .ne 10, 3) := by decide +kernel
theorem dX4_settle_167 : decode cX4_settle 167 = .ok (.iload 5, 2) := by decide +kernel
theorem dX4_settle_169 : decode cX4_settle 169 = .ok (.iload 6, 2) := by decide +kernel
theorem dX4_settle_171 : decode cX4_settle 171 = .ok (.if_icmp .le 7, 3) := by decide +kernel
theorem dX4_settle_174 : decode cX4_settle 174 = .ok (.iconst 1, 1) := by decide +kernel
theorem dX4_settle_175 : decode cX4_settle 175 = .ok (.goto 4, 3) := by decide +kernel
theorem dX4_settle_178 : decode cX4_settle 178 = .ok (.iconst 0, 1) := by decide +kernel
theorem dX4_settle_179 : decode cX4_settle 179 = .ok (.bastore, 1) := by decide +kernel
theorem dX4_settle_180 : decode cX4_settle 180 = .ok (.aload_n 0, 1) := by decide +kernel
theorem dX4_settle_181 : decode cX4_settle 181 = .ok (.getfield 88, 3) := by decide +kernel
theorem dX4_settle_184 : decode cX4_settle 184 = .ok (.iload 4, 2) := by decide +kernel
theorem dX4_settle_186 : decode cX4_settle 186 = .ok (.aload_n 0, 1) := by decide +kernel
theorem dX4_settle_187 : decode cX4_settle 187 = .ok (.getfield 85, 3) := by decide +kernel
theorem dX4_settle_190 : decode cX4_settle 190 = .ok (.iload 4, 2) := by decide +kernel
theorem dX4_settle_192 : decode cX4_settle 192 = .ok (.iaload, 1) := by decide +kernel
theorem dX4_settle_193 : decode cX4_settle 193 = .ok (.iastore, 1) := by decide +kernel
theorem dX4_settle_194 : decode cX4_settle 194 = .ok (.iinc 3 1, 3) := by decide +kernel
theorem dX4_settle_197 : decode cX4_settle 197 = .ok (.goto (-178), 3) := by decide +kernel
theorem dX4_settle_200 : decode cX4_settle 200 = .ok (.aload_n 0, 1) := by decide +kernel
theorem dX4_settle_201 : decode cX4_settle 201 = .ok (.getfield 255, 3) := by decide +kernel
theorem dX4_settle_204 : decode cX4_settle 204 = .ok (.aload_n 0, 1) := by decide +kernel
theorem dX4_settle_205 : decode cX4_settle 205 = .ok (.getfield 63, 3) := by decide +kernel
theorem dX4_settle_208 : decode cX4_settle 208 = .ok (.iload_n 2, 1) := by decide +kernel
theorem dX4_settle_209 : decode cX4_settle 209 = .ok (.iaload, 1) := by decide +kernel
theorem dX4_settle_210 : decode cX4_settle 210 = .ok (.bipush 7, 2) := by decide +kernel
theorem dX4_settle_212 : decode cX4_settle 212 = .ok (.iadd, 1) := by decide +kernel
theorem dX4_settle_213 : decode cX4_settle 213 = .ok (.if_icmp .le 82, 3) := by decide +kernel
theorem dX4_settle_216 : decode cX4_settle 216 = .ok (.aload_n 0, 1) := by decide +kernel
theorem dX4_settle_217 : decode cX4_settle 217 = .ok (.getfield 82, 3) := by decide +kernel
theorem dX4_settle_220 : decode cX4_settle 220 = .ok (.iload_n 2, 1) := by decide +kernel
theorem dX4_settle_221 : decode cX4_settle 221 = .ok (.baload, 1) := by decide +kernel
theorem dX4_settle_222 : decode cX4_settle 222 = .ok (.ifCond .ne 73, 3) := by decide +kernel
theorem dX4_settle_225 : decode cX4_settle 225 = .ok (.aload_n 0, 1) := by decide +kernel
theorem dX4_settle_226 : decode cX4_settle 226 = .ok (.getfield 51, 3) := by decide +kernel
theorem dX4_settle_229 : decode cX4_settle 229 = .ok (.iload_n 2, 1) := by decide +kernel
theorem dX4_settle_230 : decode cX4_settle 230 = .ok (.iaload, 1) := by decide +kernel
theorem dX4_settle_231 : decode cX4_settle 231 = .ok (.aload_n 0, 1) := by decide +kernel
theorem dX4_settle_232 : decode cX4_settle 232 = .ok (.getfield 72, 3) := by decide +kernel
theorem dX4_settle_235 : decode cX4_settle 235 = .ok (.iload_n 2, 1) := by decide +kernel
theorem dX4_settle_236 : decode cX4_settle 236 = .ok (.iaload, 1) := by decide +kernel
theorem dX4_settle_237 : decode cX4_settle 237 = .ok (.isub, 1) := by decide +kernel
theorem dX4_settle_238 : decode cX4_settle 238 = .ok (.i2l, 1) := by decide +kernel
theorem dX4_settle_239 : decode cX4_settle 239 = .ok (.aload_n 0, 1) := by decide +kernel
theorem dX4_settle_240 : decode cX4_settle 240 = .ok (.getfield 54, 3) := by decide +kernel
theorem dX4_settle_243 : decode cX4_settle 243 = .ok (.iload_n 2, 1) := by decide +kernel
theorem dX4_settle_244 : decode cX4_settle 244 = .ok (.iaload, 1) := by decide +kernel
theorem dX4_settle_245 : decode cX4_settle 245 = .ok (.i2l, 1) := by decide +kernel
theorem dX4_settle_246 : decode cX4_settle 246 = .ok (.lmul, 1) := by decide +kernel
theorem dX4_settle_247 : decode cX4_settle 247 = .ok (.lstore_n 3, 1) := by decide +kernel
theorem dX4_settle_248 : decode cX4_settle 248 = .ok (.aload_n 0, 1) := by decide +kernel
theorem dX4_settle_249 : decode cX4_settle 249 = .ok (.dup, 1) := by decide +kernel
theorem dX4_settle_250 : decode cX4_settle 250 = .ok (.getfield 268, 3) := by decide +kernel
theorem dX4_settle_253 : decode cX4_settle 253 = .ok (.lload_n 3, 1) := by decide +kernel
theorem dX4_settle_254 : decode cX4_settle 254 = .ok (.lsub, 1) := by decide +kernel
theorem dX4_settle_255 : decode cX4_settle 255 = .ok (.putfield 268, 3) := by decide +kernel
theorem dX4_settle_258 : decode cX4_settle 258 = .ok (.aload_n 0, 1) := by decide +kernel
theorem dX4_settle_259 : decode cX4_settle 259 = .ok (.getfield 44, 3) := by decide +kernel
theorem dX4_settle_262 : decode cX4_settle 262 = .ok (.aload_n 0, 1) := by decide +kernel
theorem dX4_settle_263 : decode cX4_settle 263 = .ok (.getfield 48, 3) := by decide +kernel
theorem dX4_settle_266 : decode cX4_settle 266 = .ok (.iload_n 2, 1) := by decide +kernel
theorem dX4_settle_267 : decode cX4_settle 267 = .ok (.iaload, 1) := by decide +kernel
theorem dX4_settle_268 : decode cX4_settle 268 = .ok (.dup2, 1) := by decide +kernel
theorem dX4_settle_269 : decode cX4_settle 269 = .ok (.laload, 1) := by decide +kernel
theorem dX4_settle_270 : decode cX4_settle 270 = .ok (.lload_n 3, 1) := by decide +kernel
theorem dX4_settle_271 : decode cX4_settle 271 = .ok (.ladd, 1) := by decide +kernel
theorem dX4_settle_272 : decode cX4_settle 272 = .ok (.lastore, 1) := by decide +kernel
theorem dX4_settle_273 : decode cX4_settle 273 = .ok (.aload_n 0, 1) := by decide +kernel
theorem dX4_settle_274 : decode cX4_settle 274 = .ok (.getfield 72, 3) := by decide +kernel
theorem dX4_settle_277 : decode cX4_settle 277 = .ok (.iload_n 2, 1) := by decide +kernel
theorem dX4_settle_278 : decode cX4_settle 278 = .ok (.aload_n 0, 1) := by decide +kernel
theorem dX4_settle_279 : decode cX4_settle 279 = .ok (.getfield 51, 3) := by decide +kernel
theorem dX4_settle_282 : decode cX4_settle 282 = .ok (.iload_n 2, 1) := by decide +kernel
theorem dX4_settle_283 : decode cX4_settle 283 = .ok (.iaload, 1) := by decide +kernel
theorem dX4_settle_284 : decode cX4_settle 284 = .ok (.iastore, 1) := by decide +kernel
theorem dX4_settle_285 : decode cX4_settle 285 = .ok (.aload_n 0, 1) := by decide +kernel
theorem dX4_settle_286 : decode cX4_settle 286 = .ok (.getfield 82, 3) := by decide +kernel
theorem dX4_settle_289 : decode cX4_settle 289 = .ok (.iload_n 2, 1) := by decide +kernel
theorem dX4_settle_290 : decode cX4_settle 290 = .ok (.iconst 1, 1) := by decide +kernel
theorem dX4_settle_291 : decode cX4_settle 291 = .ok (.bastore, 1) := by decide +kernel
theorem dX4_settle_292 : decode cX4_settle 292 = .ok (.iinc 1 1, 3) := by decide +kernel
theorem dX4_settle_295 : decode cX4_settle 295 = .ok (.iinc 2 1, 3) := by decide +kernel
theorem dX4_settle_298 : decode cX4_settle 298 = .ok (.goto (-289), 3) := by decide +kernel
theorem dX4_settle_301 : decode cX4_settle 301 = .ok (.iload_n 1, 1) := by decide +kernel
theorem dX4_settle_302 : decode cX4_settle 302 = .ok (.ireturn, 1) := by decide +kernel
theorem dX4_account_0 : decode cX4_account 0 = .ok (.aload_n 0, 1) := by decide +kernel
theorem dX4_account_1 : decode cX4_account 1 = .ok (.iconst 0, 1) := by decide +kernel
theorem dX4_account_2 : decode cX4_account 2 = .ok (.putfield 121, 3) := by decide +kernel
theorem dX4_account_5 : decode cX4_account 5 = .ok (.lconst 0, 1) := by decide +kernel
theorem dX4_account_6 : decode cX4_account 6 = .ok (.lstore_n 2, 1) := by decide +kernel
theorem dX4_account_7 : decode cX4_account 7 = .ok (.iconst 0, 1) := by decide +kernel
theorem dX4_account_8 : decode cX4_account 8 = .ok (.istore 4, 2) := by decide +kernel
theorem dX4_account_10 : decode cX4_account 10 = .ok (.iload 4, 2) := by decide +kernel
theorem dX4_account_12 : decode cX4_account 12 = .ok (.bipush 8, 2) := by decide +kernel
theorem dX4_account_14 : decode cX4_account 14 = .ok (.if_icmp .ge 19, 3) := by decide +kernel
theorem dX4_account_17 : decode cX4_account 17 = .ok (.lload_n 2, 1) := by decide +kernel
theorem dX4_account_18 : decode cX4_account 18 = .ok (.aload_n 0, 1) := by decide +kernel
theorem dX4_account_19 : decode cX4_account 19 = .ok (.getfield 44, 3) := by decide +kernel
theorem dX4_account_22 : decode cX4_account 22 = .ok (.iload 4, 2) := by decide +kernel
theorem dX4_account_24 : decode cX4_account 24 = .ok (.laload, 1) := by decide +kernel
theorem dX4_account_25 : decode cX4_account 25 = .ok (.ladd, 1) := by decide +kernel
theorem dX4_account_26 : decode cX4_account 26 = .ok (.lstore_n 2, 1) := by decide +kernel
theorem dX4_account_27 : decode cX4_account 27 = .ok (.iinc 4 1, 3) := by decide +kernel
theorem dX4_account_30 : decode cX4_account 30 = .ok (.goto (-20), 3) := by decide +kernel
theorem dX4_account_33 : decode cX4_account 33 = .ok (.iload_n 1, 1) := by decide +kernel
theorem dX4_account_34 : decode cX4_account 34 = .ok (.ifCond .ne 7, 3) := by decide +kernel
theorem dX4_account_37 : decode cX4_account 37 = .ok (.lload_n 2, 1) := by decide +kernel
theorem dX4_account_38 : decode cX4_account 38 = .ok (.goto 53, 3) := by decide +kernel
theorem dX4_account_41 : decode cX4_account 41 = .ok (.iload_n 1, 1) := by decide +kernel
theorem dX4_account_42 : decode cX4_account 42 = .ok (.iconst 1, 1) := by decide +kernel
theorem dX4_account_43 : decode cX4_account 43 = .ok (.if_icmp .ne 10, 3) := by decide +kernel
theorem dX4_account_46 : decode cX4_account 46 = .ok (.aload_n 0, 1) := by decide +kernel
theorem dX4_account_47 : decode cX4_account 47 = .ok (.getfield 268, 3) := by decide +kernel
theorem dX4_account_50 : decode cX4_account 50 = .ok (.goto 41, 3) := by decide +kernel
theorem dX4_account_53 : decode cX4_account 53 = .ok (.iload_n 1, 1) := by decide +kernel
theorem dX4_account_54 : decode cX4_account 54 = .ok (.iconst 2, 1) := by decide +kernel
theorem dX4_account_55 : decode cX4_account 55 = .ok (.if_icmp .ne 10, 3) := by decide +kernel
theorem dX4_account_58 : decode cX4_account 58 = .ok (.aload_n 0, 1) := by decide +kernel
theorem dX4_account_59 : decode cX4_account 59 = .ok (.getfield 297, 3) := by decide +kernel
theorem dX4_account_62 : decode cX4_account 62 = .ok (.goto 29, 3) := by decide +kernel
theorem dX4_account_65 : decode cX4_account 65 = .ok (.iload_n 1, 1) := by decide +kernel
theorem dX4_account_66 : decode cX4_account 66 = .ok (.bipush 10, 2) := by decide +kernel
theorem dX4_account_68 : decode cX4_account 68 = .ok (.bipush 17, 2) := by decide +kernel
theorem dX4_account_70 : decode cX4_account 70 = .ok (.invokestatic 259, 3) := by decide +kernel
theorem dX4_account_73 : decode cX4_account 73 = .ok (.ifCond .eq 15, 3) := by decide +kernel
theorem dX4_account_76 : decode cX4_account 76 = .ok (.aload_n 0, 1) := by decide +kernel
theorem dX4_account_77 : decode cX4_account 77 = .ok (.getfield 44, 3) := by decide +kernel
theorem dX4_account_80 : decode cX4_account 80 = .ok (.iload_n 1, 1) := by decide +kernel
theorem dX4_account_81 : decode cX4_account 81 = .ok (.bipush 10, 2) := by decide +kernel
theorem dX4_account_83 : decode cX4_account 83 = .ok (.isub, 1) := by decide +kernel
theorem dX4_account_84 : decode cX4_account 84 = .ok (.laload, 1) := by decide +kernel
theorem dX4_account_85 : decode cX4_account 85 = .ok (.goto 6, 3) := by decide +kernel
theorem dX4_account_88 : decode cX4_account 88 = .ok (.ldc2_w 300, 3) := by decide +kernel
theorem dX4_account_91 : decode cX4_account 91 = .ok (.lreturn, 1) := by decide +kernel
theorem dX4_spent_0 : decode cX4_spent 0 = .ok (.aload_n 0, 1) := by decide +kernel
theorem dX4_spent_1 : decode cX4_spent 1 = .ok (.iconst 0, 1) := by decide +kernel
theorem dX4_spent_2 : decode cX4_spent 2 = .ok (.putfield 121, 3) := by decide +kernel
theorem dX4_spent_5 : decode cX4_spent 5 = .ok (.aload_n 0, 1) := by decide +kernel
theorem dX4_spent_6 : decode cX4_spent 6 = .ok (.iload_n 1, 1) := by decide +kernel
theorem dX4_spent_7 : decode cX4_spent 7 = .ok (.iload_n 2, 1) := by decide +kernel
theorem dX4_spent_8 : decode cX4_spent 8 = .ok (.invokevirtual 274, 3) := by decide +kernel
theorem dX4_spent_11 : decode cX4_spent 11 = .ok (.ifCond .eq 31, 3) := by decide +kernel
theorem dX4_spent_14 : decode cX4_spent 14 = .ok (.aload_n 0, 1) := by decide +kernel
theorem dX4_spent_15 : decode cX4_spent 15 = .ok (.getfield 106, 3) := by decide +kernel
theorem dX4_spent_18 : decode cX4_spent 18 = .ok (.bipush 8, 2) := by decide +kernel
theorem dX4_spent_20 : decode cX4_spent 20 = .ok (.iload_n 1, 1) := by decide +kernel
theorem dX4_spent_21 : decode cX4_spent 21 = .ok (.imul, 1) := by decide +kernel
theorem dX4_spent_22 : decode cX4_spent 22 = .ok (.iload_n 2, 1) := by decide +kernel
theorem dX4_spent_23 : decode cX4_spent 23 = .ok (.iadd, 1) := by decide +kernel
theorem dX4_spent_24 : decode cX4_spent 24 = .ok (.baload, 1) := by decide +kernel
theorem dX4_spent_25 : decode cX4_spent 25 = .ok (.ifCond .eq 17, 3) := by decide +kernel
theorem dX4_spent_28 : decode cX4_spent 28 = .ok (.aload_n 0, 1) := by decide +kernel
theorem dX4_spent_29 : decode cX4_spent 29 = .ok (.getfield 109, 3) := by decide +kernel
theorem dX4_spent_32 : decode cX4_spent 32 = .ok (.bipush 8, 2) := by decide +kernel
theorem dX4_spent_34 : decode cX4_spent 34 = .ok (.iload_n 1, 1) := by decide +kernel
theorem dX4_spent_35 : decode cX4_spent 35 = .ok (.imul, 1) := by decide +kernel
theorem dX4_spent_36 : decode cX4_spent 36 = .ok (.iload_n 2, 1) := by decide +kernel
theorem dX4_spent_37 : decode cX4_spent 37 = .ok (.iadd, 1) := by decide +kernel
theorem dX4_spent_38 : decode cX4_spent 38 = .ok (.iaload, 1) := by decide +kernel
theorem dX4_spent_39 : decode cX4_spent 39 = .ok (.goto 4, 3) := by decide +kernel
theorem dX4_spent_42 : decode cX4_spent 42 = .ok (.iconst (-1), 1) := by decide +kernel
theorem dX4_spent_43 : decode cX4_spent 43 = .ok (.ireturn, 1) := by decide +kernel
theorem dX4_overspent_0 : decode cX4_overspent 0 = .ok (.aload_n 0, 1) := by decide +kernel
theorem dX4_overspent_1 : decode cX4_overspent 1 = .ok (.iconst 0, 1) := by decide +kernel
theorem dX4_overspent_2 : decode cX4_overspent 2 = .ok (.putfield 121, 3) := by decide +kernel
theorem dX4_overspent_5 : decode cX4_overspent 5 = .ok (.iload_n 1, 1) := by decide +kernel
theorem dX4_overspent_6 : decode cX4_overspent 6 = .ok (.iconst 0, 1) := by decide +kernel
theorem dX4_overspent_7 : decode cX4_overspent 7 = .ok (.aload_n 0, 1) := by decide +kernel
theorem dX4_overspent_8 : decode cX4_overspent 8 = .ok (.getfield 265, 3) := by decide +kernel
theorem dX4_overspent_11 : decode cX4_overspent 11 = .ok (.iconst 1, 1) := by decide +kernel
theorem dX4_overspent_12 : decode cX4_overspent 12 = .ok (.isub, 1) := by decide +kernel
theorem dX4_overspent_13 : decode cX4_overspent 13 = .ok (.invokestatic 259, 3) := by decide +kernel
theorem dX4_overspent_16 : decode cX4_overspent 16 = .ok (.ifCond .eq 12, 3) := by decide +kernel
theorem dX4_overspent_19 : decode cX4_overspent 19 = .ok (.aload_n 0, 1) := by decide +kernel
theorem dX4_overspent_20 : decode cX4_overspent 20 = .ok (.getfield 75, 3) := by decide +kernel
theorem dX4_overspent_23 : decode cX4_overspent 23 = .ok (.iload_n 1, 1) := by decide +kernel
theorem dX4_overspent_24 : decode cX4_overspent 24 = .ok (.iaload, 1) := by decide +kernel
theorem dX4_overspent_25 : decode cX4_overspent 25 = .ok (.goto 4, 3) := by decide +kernel
theorem dX4_overspent_28 : decode cX4_overspent 28 = .ok (.iconst (-1), 1) := by decide +kernel
theorem dX4_overspent_29 : decode cX4_overspent 29 = .ok (.ireturn, 1) := by decide +kernel
theorem dX4_minutes_0 : decode cX4_minutes 0 = .ok (.aload_n 0, 1) := by decide +kernel
theorem dX4_minutes_1 : decode cX4_minutes 1 = .ok (.iconst 0, 1) := by decide +kernel
theorem dX4_minutes_2 : decode cX4_minutes 2 = .ok (.putfield 121, 3) := by decide +kernel
theorem dX4_minutes_5 : decode cX4_minutes 5 = .ok (.iload_n 1, 1) := by decide +kernel
theorem dX4_minutes_6 : decode cX4_minutes 6 = .ok (.iconst 0, 1) := by decide +kernel
theorem dX4_minutes_7 : decode cX4_minutes 7 = .ok (.bipush 7, 2) := by decide +kernel
theorem dX4_minutes_9 : decode cX4_minutes 9 = .ok (.invokestatic 259, 3) := by decide +kernel
theorem dX4_minutes_12 : decode cX4_minutes 12 = .ok (.ifCond .eq 27, 3) := by decide +kernel
theorem dX4_minutes_15 : decode cX4_minutes 15 = .ok (.iload_n 2, 1) := by decide +kernel
theorem dX4_minutes_16 : decode cX4_minutes 16 = .ok (.iconst 0, 1) := by decide +kernel
theorem dX4_minutes_17 : decode cX4_minutes 17 = .ok (.bipush 15, 2) := by decide +kernel
theorem dX4_minutes_19 : decode cX4_minutes 19 = .ok (.invokestatic 259, 3) := by decide +kernel
theorem dX4_minutes_22 : decode cX4_minutes 22 = .ok (.ifCond .eq 17, 3) := by decide +kernel
theorem dX4_minutes_25 : decode cX4_minutes 25 = .ok (.aload_n 0, 1) := by decide +kernel
theorem dX4_minutes_26 : decode cX4_minutes 26 = .ok (.getfield 115, 3) := by decide +kernel
theorem dX4_minutes_29 : decode cX4_minutes 29 = .ok (.bipush 16, 2) := by decide +kernel
theorem dX4_minutes_31 : decode cX4_minutes 31 = .ok (.iload_n 1, 1) := by decide +kernel
theorem dX4_minutes_32 : decode cX4_minutes 32 = .ok (.imul, 1) := by decide +kernel
theorem dX4_minutes_33 : decode cX4_minutes 33 = .ok (.iload_n 2, 1) := by decide +kernel
theorem dX4_minutes_34 : decode cX4_minutes 34 = .ok (.iadd, 1) := by decide +kernel
theorem dX4_minutes_35 : decode cX4_minutes 35 = .ok (.iaload, 1) := by decide +kernel
theorem dX4_minutes_36 : decode cX4_minutes 36 = .ok (.goto 4, 3) := by decide +kernel
theorem dX4_minutes_39 : decode cX4_minutes 39 = .ok (.iconst (-1), 1) := by decide +kernel
theorem dX4_minutes_40 : decode cX4_minutes 40 = .ok (.ireturn, 1) := by decide +kernel
theorem dX4_count_0 : decode cX4_count 0 = .ok (.aload_n 0, 1) := by decide +kernel
theorem dX4_count_1 : decode cX4_count 1 = .ok (.iconst 0, 1) := by decide +kernel
theorem dX4_count_2 : decode cX4_count 2 = .ok (.putfield 121, 3) := by decide +kernel
theorem dX4_count_5 : decode cX4_count 5 = .ok (.iconst 0, 1) := by decide +kernel
theorem dX4_count_6 : decode cX4_count 6 = .ok (.istore_n 2, 1) := by decide +kernel
theorem dX4_count_7 : decode cX4_count 7 = .ok (.iconst 0, 1) := by decide +kernel
theorem dX4_count_8 : decode cX4_count 8 = .ok (.istore_n 3, 1) := by decide +kernel
theorem dX4_count_9 : decode cX4_count 9 = .ok (.iconst 0, 1) := by decide +kernel
theorem dX4_count_10 : decode cX4_count 10 = .ok (.istore 4, 2) := by decide +kernel
theorem dX4_count_12 : decode cX4_count 12 = .ok (.iconst 0, 1) := by decide +kernel
theorem dX4_count_13 : decode cX4_count 13 = .ok (.istore 5, 2) := by decide +kernel
theorem dX4_count_15 : decode cX4_count 15 = .ok (.iload 5, 2) := by decide +kernel
theorem dX4_count_17 : decode cX4_count 17 = .ok (.bipush 8, 2) := by decide +kernel
theorem dX4_count_19 : decode cX4_count 19 = .ok (.if_icmp .ge 18, 3) := by decide +kernel
theorem dX4_count_22 : decode cX4_count 22 = .ok (.iload_n 2, 1) := by decide +kernel
theorem dX4_count_23 : decode cX4_count 23 = .ok (.aload_n 0, 1) := by decide +kernel
theorem dX4_count_24 : decode cX4_count 24 = .ok (.iload 5, 2) := by decide +kernel
theorem dX4_count_26 : decode cX4_count 26 = .ok (.invokevirtual 281, 3) := by decide +kernel
theorem dX4_count_29 : decode cX4_count 29 = .ok (.iadd, 1) := by decide +kernel
theorem dX4_count_30 : decode cX4_count 30 = .ok (.istore_n 2, 1) := by decide +kernel
theorem dX4_count_31 : decode cX4_count 31 = .ok (.iinc 5 1, 3) := by decide +kernel
theorem dX4_count_34 : decode cX4_count 34 = .ok (.goto (-19), 3) := by decide +kernel
theorem dX4_count_37 : decode cX4_count 37 = .ok (.iconst 0, 1) := by decide +kernel
theorem dX4_count_38 : decode cX4_count 38 = .ok (.istore 5, 2) := by decide +kernel
theorem dX4_count_40 : decode cX4_count 40 = .ok (.iload 5, 2) := by decide +kernel
theorem dX4_count_42 : decode cX4_count 42 = .ok (.aload_n 0, 1) := by decide +kernel
theorem dX4_count_43 : decode cX4_count 43 = .ok (.getfield 265, 3) := by decide +kernel
theorem dX4_count_46 : decode cX4_count 46 = .ok (.if_icmp .ge 47, 3) := by decide +kernel
theorem dX4_count_49 : decode cX4_count 49 = .ok (.iload_n 3, 1) := by decide +kernel
theorem dX4_count_50 : decode cX4_count 50 = .ok (.aload_n 0, 1) := by decide +kernel
theorem dX4_count_51 : decode cX4_count 51 = .ok (.getfield 78, 3) := by decide +kernel
theorem dX4_count_54 : decode cX4_count 54 = .ok (.iload 5, 2) := by decide +kernel
theorem dX4_count_56 : decode cX4_count 56 = .ok (.baload, 1) := by decide +kernel
theorem dX4_count_57 : decode cX4_count 57 = .ok (.ifCond .eq 7, 3) := by decide +kernel
theorem dX4_count_60 : decode cX4_count 60 = .ok (.iconst 1, 1) := by decide +kernel
theorem dX4_count_61 : decode cX4_count 61 = .ok (.goto 4, 3) := by decide +kernel
theorem dX4_count_64 : decode cX4_count 64 = .ok (.iconst 0, 1) := by decide +kernel
theorem dX4_count_65 : decode cX4_count 65 = .ok (.iadd, 1) := by decide +kernel
theorem dX4_count_66 : decode cX4_count 66 = .ok (.istore_n 3, 1) := by decide +kernel
theorem dX4_count_67 : decode cX4_count 67 = .ok (.iload 4, 2) := by decide +kernel
theorem dX4_count_69 : decode cX4_count 69 = .ok (.aload_n 0, 1) := by decide +kernel
theorem dX4_count_70 : decode cX4_count 70 = .ok (.getfield 82, 3) := by decide +kernel
theorem dX4_count_73 : decode cX4_count 73 = .ok (.iload 5, 2) := by decide +kernel
theorem dX4_count_75 : decode cX4_count 75 = .ok (.baload, 1) := by decide +kernel
theorem dX4_count_76 : decode cX4_count 76 = .ok (.ifCond .eq 7, 3) := by decide +kernel
theorem dX4_count_79 : decode cX4_count 79 = .ok (.iconst 1, 1) := by decide +kernel
theorem dX4_count_80 : decode cX4_count 80 = .ok (.goto 4, 3) := by decide +kernel
theorem dX4_count_83 : decode cX4_count 83 = .ok (.iconst 0, 1) := by decide +kernel
theorem dX4_count_84 : decode cX4_count 84 = .ok (.iadd, 1) := by decide +kernel
theorem dX4_count_85 : decode cX4_count 85 = .ok (.istore 4, 2) := by decide +kernel
theorem dX4_count_87 : decode cX4_count 87 = .ok (.iinc 5 1, 3) := by decide +kernel
theorem dX4_count_90 : decode cX4_count 90 = .ok (.goto (-50), 3) := by decide +kernel
theorem dX4_count_93 : decode cX4_count 93 = .ok (.iload_n 1, 1) := by decide +kernel
theorem dX4_count_94 : decode cX4_count 94 = .ok (.tableswitch 60 0 5 #[38, 43, 45, 47, 50, 55], 38) := by decide +kernel
theorem dX4_count_132 : decode cX4_count 132 = .ok (.aload_n 0, 1) := by decide +kernel
theorem dX4_count_133 : decode cX4_count 133 = .ok (.getfield 265, 3) := by decide +kernel
theorem dX4_count_136 : decode cX4_count 136 = .ok (.ireturn, 1) := by decide +kernel
theorem dX4_count_137 : decode cX4_count 137 = .ok (.iload_n 2, 1) := by decide +kernel
theorem dX4_count_138 : decode cX4_count 138 = .ok (.ireturn, 1) := by decide +kernel
theorem dX4_count_139 : decode cX4_count 139 = .ok (.iload_n 3, 1) := by decide +kernel
theorem dX4_count_140 : decode cX4_count 140 = .ok (.ireturn, 1) := by decide +kernel
theorem dX4_count_141 : decode cX4_count 141 = .ok (.iload 4, 2) := by decide +kernel
theorem dX4_count_143 : decode cX4_count 143 = .ok (.ireturn, 1) := by decide +kernel
theorem dX4_count_144 : decode cX4_count 144 = .ok (.aload_n 0, 1) := by decide +kernel
theorem dX4_count_145 : decode cX4_count 145 = .ok (.getfield 255, 3) := by decide +kernel
theorem dX4_count_148 : decode cX4_count 148 = .ok (.ireturn, 1) := by decide +kernel
theorem dX4_count_149 : decode cX4_count 149 = .ok (.aload_n 0, 1) := by decide +kernel
theorem dX4_count_150 : decode cX4_count 150 = .ok (.getfield 252, 3) := by decide +kernel
theorem dX4_count_153 : decode cX4_count 153 = .ok (.ireturn, 1) := by decide +kernel
theorem dX4_count_154 : decode cX4_count 154 = .ok (.iconst (-1), 1) := by decide +kernel
theorem dX4_count_155 : decode cX4_count 155 = .ok (.ireturn, 1) := by decide +kernel
