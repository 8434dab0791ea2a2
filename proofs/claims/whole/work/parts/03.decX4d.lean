theorem dX4_block_0 : decode cX4_block 0 = .ok (.iconst 0, 1) := by decide +kernel
theorem dX4_block_1 : decode cX4_block 1 = .ok (.istore_n 2, 1) := by decide +kernel
theorem dX4_block_2 : decode cX4_block 2 = .ok (.iload_n 2, 1) := by decide +kernel
theorem dX4_block_3 : decode cX4_block 3 = .ok (.bipush 16, 2) := by decide +kernel
theorem dX4_block_5 : decode cX4_block 5 = .ok (.if_icmp .ge 79, 3) := by decide +kernel
theorem dX4_block_8 : decode cX4_block 8 = .ok (.iload_n 1, 1) := by decide +kernel
theorem dX4_block_9 : decode cX4_block 9 = .ok (.iconst 4, 1) := by decide +kernel
theorem dX4_block_10 : decode cX4_block 10 = .ok (.iload_n 2, 1) := by decide +kernel
theorem dX4_block_11 : decode cX4_block 11 = .ok (.imul, 1) := by decide +kernel
theorem dX4_block_12 : decode cX4_block 12 = .ok (.iadd, 1) := by decide +kernel
theorem dX4_block_13 : decode cX4_block 13 = .ok (.istore_n 3, 1) := by decide +kernel
theorem dX4_block_14 : decode cX4_block 14 = .ok (.aload_n 0, 1) := by decide +kernel
theorem dX4_block_15 : decode cX4_block 15 = .ok (.getfield 20, 3) := by decide +kernel
theorem dX4_block_18 : decode cX4_block 18 = .ok (.iload_n 2, 1) := by decide +kernel
theorem dX4_block_19 : decode cX4_block 19 = .ok (.aload_n 0, 1) := by decide +kernel
theorem dX4_block_20 : decode cX4_block 20 = .ok (.getfield 16, 3) := by decide +kernel
theorem dX4_block_23 : decode cX4_block 23 = .ok (.iload_n 3, 1) := by decide +kernel
theorem dX4_block_24 : decode cX4_block 24 = .ok (.baload, 1) := by decide +kernel
theorem dX4_block_25 : decode cX4_block 25 = .ok (.sipush 255, 3) := by decide +kernel
theorem dX4_block_28 : decode cX4_block 28 = .ok (.iand, 1) := by decide +kernel
theorem dX4_block_29 : decode cX4_block 29 = .ok (.bipush 24, 2) := by decide +kernel
theorem dX4_block_31 : decode cX4_block 31 = .ok (.ishl, 1) := by decide +kernel
theorem dX4_block_32 : decode cX4_block 32 = .ok (.aload_n 0, 1) := by decide +kernel
theorem dX4_block_33 : decode cX4_block 33 = .ok (.getfield 16, 3) := by decide +kernel
theorem dX4_block_36 : decode cX4_block 36 = .ok (.iload_n 3, 1) := by decide +kernel
theorem dX4_block_37 : decode cX4_block 37 = .ok (.iconst 1, 1) := by decide +kernel
theorem dX4_block_38 : decode cX4_block 38 = .ok (.iadd, 1) := by decide +kernel
theorem dX4_block_39 : decode cX4_block 39 = .ok (.baload, 1) := by decide +kernel
theorem dX4_block_40 : decode cX4_block 40 = .ok (.sipush 255, 3) := by decide +kernel
theorem dX4_block_43 : decode cX4_block 43 = .ok (.iand, 1) := by decide +kernel
theorem dX4_block_44 : decode cX4_block 44 = .ok (.bipush 16, 2) := by decide +kernel
theorem dX4_block_46 : decode cX4_block 46 = .ok (.ishl, 1) := by decide +kernel
theorem dX4_block_47 : decode cX4_block 47 = .ok (.ior, 1) := by decide +kernel
theorem dX4_block_48 : decode cX4_block 48 = .ok (.aload_n 0, 1) := by decide +kernel
theorem dX4_block_49 : decode cX4_block 49 = .ok (.getfield 16, 3) := by decide +kernel
theorem dX4_block_52 : decode cX4_block 52 = .ok (.iload_n 3, 1) := by decide +kernel
theorem dX4_block_53 : decode cX4_block 53 = .ok (.iconst 2, 1) := by decide +kernel
theorem dX4_block_54 : decode cX4_block 54 = .ok (.iadd, 1) := by decide +kernel
theorem dX4_block_55 : decode cX4_block 55 = .ok (.baload, 1) := by decide +kernel
theorem dX4_block_56 : decode cX4_block 56 = .ok (.sipush 255, 3) := by decide +kernel
theorem dX4_block_59 : decode cX4_block 59 = .ok (.iand, 1) := by decide +kernel
theorem dX4_block_60 : decode cX4_block 60 = .ok (.bipush 8, 2) := by decide +kernel
theorem dX4_block_62 : decode cX4_block 62 = .ok (.ishl, 1) := by decide +kernel
theorem dX4_block_63 : decode cX4_block 63 = .ok (.ior, 1) := by decide +kernel
theorem dX4_block_64 : decode cX4_block 64 = .ok (.aload_n 0, 1) := by decide +kernel
theorem dX4_block_65 : decode cX4_block 65 = .ok (.getfield 16, 3) := by decide +kernel
theorem dX4_block_68 : decode cX4_block 68 = .ok (.iload_n 3, 1) := by decide +kernel
theorem dX4_block_69 : decode cX4_block 69 = .ok (.iconst 3, 1) := by decide +kernel
theorem dX4_block_70 : decode cX4_block 70 = .ok (.iadd, 1) := by decide +kernel
theorem dX4_block_71 : decode cX4_block 71 = .ok (.baload, 1) := by decide +kernel
theorem dX4_block_72 : decode cX4_block 72 = .ok (.sipush 255, 3) := by decide +kernel
theorem dX4_block_75 : decode cX4_block 75 = .ok (.iand, 1) := by decide +kernel
theorem dX4_block_76 : decode cX4_block 76 = .ok (.ior, 1) := by decide +kernel
theorem dX4_block_77 : decode cX4_block 77 = .ok (.iastore, 1) := by decide +kernel
theorem dX4_block_78 : decode cX4_block 78 = .ok (.iinc 2 1, 3) := by decide +kernel
theorem dX4_block_81 : decode cX4_block 81 = .ok (.goto (-79), 3) := by decide +kernel
theorem dX4_block_84 : decode cX4_block 84 = .ok (.bipush 16, 2) := by decide +kernel
theorem dX4_block_86 : decode cX4_block 86 = .ok (.istore_n 2, 1) := by decide +kernel
theorem dX4_block_87 : decode cX4_block 87 = .ok (.iload_n 2, 1) := by decide +kernel
theorem dX4_block_88 : decode cX4_block 88 = .ok (.bipush 64, 2) := by decide +kernel
theorem dX4_block_90 : decode cX4_block 90 = .ok (.if_icmp .ge 94, 3) := by decide +kernel
theorem dX4_block_93 : decode cX4_block 93 = .ok (.aload_n 0, 1) := by decide +kernel
theorem dX4_block_94 : decode cX4_block 94 = .ok (.getfield 20, 3) := by decide +kernel
theorem dX4_block_97 : decode cX4_block 97 = .ok (.iload_n 2, 1) := by decide +kernel
theorem dX4_block_98 : decode cX4_block 98 = .ok (.iconst 2, 1) := by decide +kernel
theorem dX4_block_99 : decode cX4_block 99 = .ok (.isub, 1) := by decide +kernel
theorem dX4_block_100 : decode cX4_block 100 = .ok (.iaload, 1) := by decide +kernel
theorem dX4_block_101 : decode cX4_block 101 = .ok (.istore_n 3, 1) := by decide +kernel
theorem dX4_block_102 : decode cX4_block 102 = .ok (.aload_n 0, 1) := by decide +kernel
theorem dX4_block_103 : decode cX4_block 103 = .ok (.getfield 20, 3) := by decide +kernel
theorem dX4_block_106 : decode cX4_block 106 = .ok (.iload_n 2, 1) := by decide +kernel
theorem dX4_block_107 : decode cX4_block 107 = .ok (.bipush 15, 2) := by decide +kernel
theorem dX4_block_109 : decode cX4_block 109 = .ok (.isub, 1) := by decide +kernel
theorem dX4_block_110 : decode cX4_block 110 = .ok (.iaload, 1) := by decide +kernel
theorem dX4_block_111 : decode cX4_block 111 = .ok (.istore 4, 2) := by decide +kernel
theorem dX4_block_113 : decode cX4_block 113 = .ok (.aload_n 0, 1) := by decide +kernel
theorem dX4_block_114 : decode cX4_block 114 = .ok (.getfield 20, 3) := by decide +kernel
theorem dX4_block_117 : decode cX4_block 117 = .ok (.iload_n 2, 1) := by decide +kernel
theorem dX4_block_118 : decode cX4_block 118 = .ok (.iload_n 3, 1) := by decide +kernel
theorem dX4_block_119 : decode cX4_block 119 = .ok (.bipush 17, 2) := by decide +kernel
theorem dX4_block_121 : decode cX4_block 121 = .ok (.invokestatic 201, 3) := by decide +kernel
theorem dX4_block_124 : decode cX4_block 124 = .ok (.iload_n 3, 1) := by decide +kernel
theorem dX4_block_125 : decode cX4_block 125 = .ok (.bipush 19, 2) := by decide +kernel
theorem dX4_block_127 : decode cX4_block 127 = .ok (.invokestatic 201, 3) := by decide +kernel
theorem dX4_block_130 : decode cX4_block 130 = .ok (.ixor, 1) := by decide +kernel
theorem dX4_block_131 : decode cX4_block 131 = .ok (.iload_n 3, 1) := by decide +kernel
theorem dX4_block_132 : decode cX4_block 132 = .ok (.bipush 10, 2) := by decide +kernel
theorem dX4_block_134 : decode cX4_block 134 = .ok (.iushr, 1) := by decide +kernel
theorem dX4_block_135 : decode cX4_block 135 = .ok (.ixor, 1) := by decide +kernel
theorem dX4_block_136 : decode cX4_block 136 = .ok (.aload_n 0, 1) := by decide +kernel
theorem dX4_block_137 : decode cX4_block 137 = .ok (.getfield 20, 3) := by decide +kernel
theorem dX4_block_140 : decode cX4_block 140 = .ok (.iload_n 2, 1) := by decide +kernel
theorem dX4_block_141 : decode cX4_block 141 = .ok (.bipush 7, 2) := by decide +kernel
theorem dX4_block_143 : decode cX4_block 143 = .ok (.isub, 1) := by decide +kernel
theorem dX4_block_144 : decode cX4_block 144 = .ok (.iaload, 1) := by decide +kernel
theorem dX4_block_145 : decode cX4_block 145 = .ok (.iadd, 1) := by decide +kernel
theorem dX4_block_146 : decode cX4_block 146 = .ok (.iload 4, 2) := by decide +kernel
theorem dX4_block_148 : decode cX4_block 148 = .ok (.bipush 7, 2) := by decide +kernel
theorem dX4_block_150 : decode cX4_block 150 = .ok (.invokestatic 201, 3) := by decide +kernel
theorem dX4_block_153 : decode cX4_block 153 = .ok (.iload 4, 2) := by decide +kernel
theorem dX4_block_155 : decode cX4_block 155 = .ok (.bipush 18, 2) := by decide +kernel
theorem dX4_block_157 : decode cX4_block 157 = .ok (.invokestatic 201, 3) := by decide +kernel
theorem dX4_block_160 : decode cX4_block 160 = .ok (.ixor, 1) := by decide +kernel
theorem dX4_block_161 : decode cX4_block 161 = .ok (.iload 4, 2) := by decide +kernel
theorem dX4_block_163 : decode cX4_block 163 = .ok (.iconst 3, 1) := by decide +kernel
theorem dX4_block_164 : decode cX4_block 164 = .ok (.iushr, 1) := by decide +kernel
theorem dX4_block_165 : decode cX4_block 165 = .ok (.ixor, 1) := by decide +kernel
theorem dX4_block_166 : decode cX4_block 166 = .ok (.iadd, 1) := by decide +kernel
theorem dX4_block_167 : decode cX4_block 167 = .ok (.aload_n 0, 1) := by decide +kernel
theorem dX4_block_168 : decode cX4_block 168 = .ok (.getfield 20, 3) := by decide +kernel
theorem dX4_block_171 : decode cX4_block 171 = .ok (.iload_n 2, 1) := by decide +kernel
theorem dX4_block_172 : decode cX4_block 172 = .ok (.bipush 16, 2) := by decide +kernel
theorem dX4_block_174 : decode cX4_block 174 = .ok (.isub, 1) := by decide +kernel
theorem dX4_block_175 : decode cX4_block 175 = .ok (.iaload, 1) := by decide +kernel
theorem dX4_block_176 : decode cX4_block 176 = .ok (.iadd, 1) := by decide +kernel
theorem dX4_block_177 : decode cX4_block 177 = .ok (.iastore, 1) := by decide +kernel
theorem dX4_block_178 : decode cX4_block 178 = .ok (.iinc 2 1, 3) := by decide +kernel
theorem dX4_block_181 : decode cX4_block 181 = .ok (.goto (-94), 3) := by decide +kernel
theorem dX4_block_184 : decode cX4_block 184 = .ok (.iconst 0, 1) := by decide +kernel
theorem dX4_block_185 : decode cX4_block 185 = .ok (.istore_n 2, 1) := by decide +kernel
theorem dX4_block_186 : decode cX4_block 186 = .ok (.iload_n 2, 1) := by decide +kernel
theorem dX4_block_187 : decode cX4_block 187 = .ok (.bipush 8, 2) := by decide +kernel
theorem dX4_block_189 : decode cX4_block 189 = .ok (.if_icmp .ge 21, 3) := by decide +kernel
theorem dX4_block_192 : decode cX4_block 192 = .ok (.aload_n 0, 1) := by decide +kernel
theorem dX4_block_193 : decode cX4_block 193 = .ok (.getfield 26, 3) := by decide +kernel
theorem dX4_block_196 : decode cX4_block 196 = .ok (.iload_n 2, 1) := by decide +kernel
theorem dX4_block_197 : decode cX4_block 197 = .ok (.aload_n 0, 1) := by decide +kernel
theorem dX4_block_198 : decode cX4_block 198 = .ok (.getfield 23, 3) := by decide +kernel
theorem dX4_block_201 : decode cX4_block 201 = .ok (.iload_n 2, 1) := by decide +kernel
theorem dX4_block_202 : decode cX4_block 202 = .ok (.iaload, 1) := by decide +kernel
theorem dX4_block_203 : decode cX4_block 203 = .ok (.iastore, 1) := by decide +kernel
theorem dX4_block_204 : decode cX4_block 204 = .ok (.iinc 2 1, 3) := by decide +kernel
theorem dX4_block_207 : decode cX4_block 207 = .ok (.goto (-21), 3) := by decide +kernel
theorem dX4_block_210 : decode cX4_block 210 = .ok (.iconst 0, 1) := by decide +kernel
theorem dX4_block_211 : decode cX4_block 211 = .ok (.istore_n 2, 1) := by decide +kernel
theorem dX4_block_212 : decode cX4_block 212 = .ok (.iload_n 2, 1) := by decide +kernel
theorem dX4_block_213 : decode cX4_block 213 = .ok (.bipush 64, 2) := by decide +kernel
theorem dX4_block_215 : decode cX4_block 215 = .ok (.if_icmp .ge 200, 3) := by decide +kernel
theorem dX4_block_218 : decode cX4_block 218 = .ok (.aload_n 0, 1) := by decide +kernel
theorem dX4_block_219 : decode cX4_block 219 = .ok (.getfield 26, 3) := by decide +kernel
theorem dX4_block_222 : decode cX4_block 222 = .ok (.iconst 4, 1) := by decide +kernel
theorem dX4_block_223 : decode cX4_block 223 = .ok (.iaload, 1) := by decide +kernel
theorem dX4_block_224 : decode cX4_block 224 = .ok (.istore_n 3, 1) := by decide +kernel
theorem dX4_block_225 : decode cX4_block 225 = .ok (.aload_n 0, 1) := by decide +kernel
theorem dX4_block_226 : decode cX4_block 226 = .ok (.getfield 26, 3) := by decide +kernel
theorem dX4_block_229 : decode cX4_block 229 = .ok (.iconst 0, 1) := by decide +kernel
theorem dX4_block_230 : decode cX4_block 230 = .ok (.iaload, 1) := by decide +kernel
theorem dX4_block_231 : decode cX4_block 231 = .ok (.istore 4, 2) := by decide +kernel
theorem dX4_block_233 : decode cX4_block 233 = .ok (.aload_n 0, 1) := by decide +kernel
theorem dX4_block_234 : decode cX4_block 234 = .ok (.getfield 26, 3) := by decide +kernel
theorem dX4_block_237 : decode cX4_block 237 = .ok (.bipush 7, 2) := by decide +kernel
theorem dX4_block_239 : decode cX4_block 239 = .ok (.iaload, 1) := by decide +kernel
theorem dX4_block_240 : decode cX4_block 240 = .ok (.iload_n 3, 1) := by decide +kernel
theorem dX4_block_241 : decode cX4_block 241 = .ok (.bipush 6, 2) := by decide +kernel
theorem dX4_block_243 : decode cX4_block 243 = .ok (.invokestatic 201, 3) := by decide +kernel
theorem dX4_block_246 : decode cX4_block 246 = .ok (.iload_n 3, 1) := by decide +kernel
theorem dX4_block_247 : decode cX4_block 247 = .ok (.bipush 11, 2) := by decide +kernel
theorem dX4_block_249 : decode cX4_block 249 = .ok (.invokestatic 201, 3) := by decide +kernel
theorem dX4_block_252 : decode cX4_block 252 = .ok (.ixor, 1) := by decide +kernel
theorem dX4_block_253 : decode cX4_block 253 = .ok (.iload_n 3, 1) := by decide +kernel
theorem dX4_block_254 : decode cX4_block 254 = .ok (.bipush 25, 2) := by decide +kernel
theorem dX4_block_256 : decode cX4_block 256 = .ok (.invokestatic 201, 3) := by decide +kernel
theorem dX4_block_259 : decode cX4_block 259 = .ok (.ixor, 1) := by decide +kernel
theorem dX4_block_260 : decode cX4_block 260 = .ok (.iadd, 1) := by decide +kernel
theorem dX4_block_261 : decode cX4_block 261 = .ok (.iload_n 3, 1) := by decide +kernel
theorem dX4_block_262 : decode cX4_block 262 = .ok (.aload_n 0, 1) := by decide +kernel
theorem dX4_block_263 : decode cX4_block 263 = .ok (.getfield 26, 3) := by decide +kernel
theorem dX4_block_266 : decode cX4_block 266 = .ok (.iconst 5, 1) := by decide +kernel
theorem dX4_block_267 : decode cX4_block 267 = .ok (.iaload, 1) := by decide +kernel
theorem dX4_block_268 : decode cX4_block 268 = .ok (.iand, 1) := by decide +kernel
theorem dX4_block_269 : decode cX4_block 269 = .ok (.iload_n 3, 1) := by decide +kernel
theorem dX4_block_270 : decode cX4_block 270 = .ok (.iconst (-1), 1) := by decide +kernel
theorem dX4_block_271 : decode cX4_block 271 = .ok (.ixor, 1) := by decide +kernel
theorem dX4_block_272 : decode cX4_block 272 = .ok (.aload_n 0, 1) := by decide +kernel
theorem dX4_block_273 : decode cX4_block 273 = .ok (.getfield 26, 3) := by decide +kernel
theorem dX4_block_276 : decode cX4_block 276 = .ok (.bipush 6, 2) := by decide +kernel
theorem dX4_block_278 : decode cX4_block 278 = .ok (.iaload, 1) := by decide +kernel
theorem dX4_block_279 : decode cX4_block 279 = .ok (.iand, 1) := by decide +kernel
theorem dX4_block_280 : decode cX4_block 280 = .ok (.ixor, 1) := by decide +kernel
theorem dX4_block_281 : decode cX4_block 281 = .ok (.iadd, 1) := by decide +kernel
theorem dX4_block_282 : decode cX4_block 282 = .ok (.aload_n 0, 1) := by decide +kernel
theorem dX4_block_283 : decode cX4_block 283 = .ok (.getfield 7, 3) := by decide +kernel
theorem dX4_block_286 : decode cX4_block 286 = .ok (.iload_n 2, 1) := by decide +kernel
theorem dX4_block_287 : decode cX4_block 287 = .ok (.iaload, 1) := by decide +kernel
theorem dX4_block_288 : decode cX4_block 288 = .ok (.iadd, 1) := by decide +kernel
theorem dX4_block_289 : decode cX4_block 289 = .ok (.aload_n 0, 1) := by decide +kernel
theorem dX4_block_290 : decode cX4_block 290 = .ok (.getfield 20, 3) := by decide +kernel
theorem dX4_block_293 : decode cX4_block 293 = .ok (.iload_n 2, 1) := by decide +kernel
theorem dX4_block_294 : decode cX4_block 294 = .ok (.iaload, 1) := by decide +kernel
theorem dX4_block_295 : decode cX4_block 295 = .ok (.iadd, 1) := by decide +kernel
theorem dX4_block_296 : decode cX4_block 296 = .ok (.istore 5, 2) := by decide +kernel
theorem dX4_block_298 : decode cX4_block 298 = .ok (.iload 4, 2) := by decide +kernel
theorem dX4_block_300 : decode cX4_block 300 = .ok (.iconst 2, 1) := by decide +kernel
theorem dX4_block_301 : decode cX4_block 301 = .ok (.invokestatic 201, 3) := by decide +kernel
theorem dX4_block_304 : decode cX4_block 304 = .ok (.iload 4, 2) := by decide +kernel
theorem dX4_block_306 : decode cX4_block 306 = .ok (.bipush 13, 2) := by decide +kernel
theorem dX4_block_308 : decode cX4_block 308 = .ok (.invokestatic 201, 3) := by decide +kernel
theorem dX4_block_311 : decode cX4_block 311 = .ok (.ixor, 1) := by decide +kernel
theorem dX4_block_312 : decode cX4_block 312 = .ok (.iload 4, 2) := by decide +kernel
theorem dX4_block_314 : decode cX4_block 314 = .ok (.bipush 22, 2) := by decide +kernel
theorem dX4_block_316 : decode cX4_block 316 = .ok (.invokestatic 201, 3) := by decide +kernel
theorem dX4_block_319 : decode cX4_block 319 = .ok (.ixor, 1) := by decide +kernel
theorem dX4_block_320 : decode cX4_block 320 = .ok (.iload 4, 2) := by decide +kernel
theorem dX4_block_322 : decode cX4_block 322 = .ok (.aload_n 0, 1) := by decide +kernel
theorem dX4_block_323 : decode cX4_block 323 = .ok (.getfield 26, 3) := by decide +kernel
theorem dX4_block_326 : decode cX4_block 326 = .ok (.iconst 1, 1) := by decide +kernel
theorem dX4_block_327 : decode cX4_block 327 = .ok (.iaload, 1) := by decide +kernel
theorem dX4_block_328 : decode cX4_block 328 = .ok (.iand, 1) := by decide +kernel
theorem dX4_block_329 : decode cX4_block 329 = .ok (.iload 4, 2) := by decide +kernel
theorem dX4_block_331 : decode cX4_block 331 = .ok (.aload_n 0, 1) := by decide +kernel
theorem dX4_block_332 : decode cX4_block 332 = .ok (.getfield 26, 3) := by decide +kernel
theorem dX4_block_335 : decode cX4_block 335 = .ok (.iconst 2, 1) := by decide +kernel
theorem dX4_block_336 : decode cX4_block 336 = .ok (.iaload, 1) := by decide +kernel
theorem dX4_block_337 : decode cX4_block 337 = .ok (.iand, 1) := by decide +kernel
theorem dX4_block_338 : decode cX4_block 338 = .ok (.ixor, 1) := by decide +kernel
theorem dX4_block_339 : decode cX4_block 339 = .ok (.aload_n 0, 1) := by decide +kernel
theorem dX4_block_340 : decode cX4_block 340 = .ok (.getfield 26, 3) := by decide +kernel
theorem dX4_block_343 : decode cX4_block 343 = .ok (.iconst 1, 1) := by decide +kernel
theorem dX4_block_344 : decode cX4_block 344 = .ok (.iaload, 1) := by decide +kernel
theorem dX4_block_345 : decode cX4_block 345 = .ok (.aload_n 0, 1) := by decide +kernel
theorem dX4_block_346 : decode cX4_block 346 = .ok (.getfield 26, 3) := by decide +kernel
theorem dX4_block_349 : decode cX4_block 349 = .ok (.iconst 2, 1) := by decide +kernel
theorem dX4_block_350 : decode cX4_block 350 = .ok (.iaload, 1) := by decide +kernel
theorem dX4_block_351 : decode cX4_block 351 = .ok (.iand, 1) := by decide +kernel
theorem dX4_block_352 : decode cX4_block 352 = .ok (.ixor, 1) := by decide +kernel
theorem dX4_block_353 : decode cX4_block 353 = .ok (.iadd, 1) := by decide +kernel
theorem dX4_block_354 : decode cX4_block 354 = .ok (.istore 6, 2) := by decide +kernel
theorem dX4_block_356 : decode cX4_block 356 = .ok (.bipush 7, 2) := by decide +kernel
theorem dX4_block_358 : decode cX4_block 358 = .ok (.istore 7, 2) := by decide +kernel
theorem dX4_block_360 : decode cX4_block 360 = .ok (.iload 7, 2) := by decide +kernel
theorem dX4_block_362 : decode cX4_block 362 = .ok (.ifCond .le 25, 3) := by decide +kernel
theorem dX4_block_365 : decode cX4_block 365 = .ok (.aload_n 0, 1) := by decide +kernel
theorem dX4_block_366 : decode cX4_block 366 = .ok (.getfield 26, 3) := by decide +kernel
theorem dX4_block_369 : decode cX4_block 369 = .ok (.iload 7, 2) := by decide +kernel
theorem dX4_block_371 : decode cX4_block 371 = .ok (.aload_n 0, 1) := by decide +kernel
theorem dX4_block_372 : decode cX4_block 372 = .ok (.getfield 26, 3) := by decide +kernel
theorem dX4_block_375 : decode cX4_block 375 = .ok (.iload 7, 2) := by decide +kernel
theorem dX4_block_377 : decode cX4_block 377 = .ok (.iconst 1, 1) := by decide +kernel
theorem dX4_block_378 : decode cX4_block 378 = .ok (.isub, 1) := by decide +kernel
theorem dX4_block_379 : decode cX4_block 379 = .ok (.iaload, 1) := by decide +kernel
theorem dX4_block_380 : decode cX4_block 380 = .ok (.iastore, 1) := by decide +kernel
theorem dX4_block_381 : decode cX4_block 381 = .ok (.iinc 7 (-1), 3) := by decide +kernel
theorem dX4_block_384 : decode cX4_block 384 = .ok (.goto (-24), 3) := by decide +kernel
theorem dX4_block_387 : decode cX4_block 387 = .ok (.aload_n 0, 1) := by decide +kernel
theorem dX4_block_388 : decode cX4_block 388 = .ok (.getfield 26, 3) := by decide +kernel
theorem dX4_block_391 : decode cX4_block 391 = .ok (.iconst 4, 1) := by decide +kernel
theorem dX4_block_392 : decode cX4_block 392 = .ok (.dup2, 1) := by decide +kernel
theorem dX4_block_393 : decode cX4_block 393 = .ok (.iaload, 1) := by decide +kernel
theorem dX4_block_394 : decode cX4_block 394 = .ok (.iload 5, 2) := by decide +kernel
theorem dX4_block_396 : decode cX4_block 396 = .ok (.iadd, 1) := by decide +kernel
theorem dX4_block_397 : decode cX4_block 397 = .ok (.iastore, 1) := by decide +kernel
theorem dX4_block_398 : decode cX4_block 398 = .ok (.aload_n 0, 1) := by decide +kernel
theorem dX4_block_399 : decode cX4_block 399 = .ok (.getfield 26, 3) := by decide +kernel
theorem dX4_block_402 : decode cX4_block 402 = .ok (.iconst 0, 1) := by decide +kernel
theorem dX4_block_403 : decode cX4_block 403 = .ok (.iload 5, 2) := by decide +kernel
theorem dX4_block_405 : decode cX4_block 405 = .ok (.iload 6, 2) := by decide +kernel
theorem dX4_block_407 : decode cX4_block 407 = .ok (.iadd, 1) := by decide +kernel
theorem dX4_block_408 : decode cX4_block 408 = .ok (.iastore, 1) := by decide +kernel
theorem dX4_block_409 : decode cX4_block 409 = .ok (.iinc 2 1, 3) := by decide +kernel
theorem dX4_block_412 : decode cX4_block 412 = .ok (.goto (-200), 3) := by decide +kernel
theorem dX4_block_415 : decode cX4_block 415 = .ok (.iconst 0, 1) := by decide +kernel
theorem dX4_block_416 : decode cX4_block 416 = .ok (.istore_n 2, 1) := by decide +kernel
theorem dX4_block_417 : decode cX4_block 417 = .ok (.iload_n 2, 1) := by decide +kernel
theorem dX4_block_418 : decode cX4_block 418 = .ok (.bipush 8, 2) := by decide +kernel
theorem dX4_block_420 : decode cX4_block 420 = .ok (.if_icmp .ge 24, 3) := by decide +kernel
theorem dX4_block_423 : decode cX4_block 423 = .ok (.aload_n 0, 1) := by decide +kernel
theorem dX4_block_424 : decode cX4_block 424 = .ok (.getfield 23, 3) := by decide +kernel
theorem dX4_block_427 : decode cX4_block 427 = .ok (.iload_n 2, 1) := by decide +kernel
theorem dX4_block_428 : decode cX4_block 428 = .ok (.dup2, 1) := by decide +kernel
theorem dX4_block_429 : decode cX4_block 429 = .ok (.iaload, 1) := by decide +kernel
theorem dX4_block_430 : decode cX4_block 430 = .ok (.aload_n 0, 1) := by decide +kernel
theorem dX4_block_431 : decode cX4_block 431 = .ok (.getfield 26, 3) := by decide +kernel
theorem dX4_block_434 : decode cX4_block 434 = .ok (.iload_n 2, 1) := by decide +kernel
theorem dX4_block_435 : decode cX4_block 435 = .ok (.iaload, 1) := by decide +kernel
theorem dX4_block_436 : decode cX4_block 436 = .ok (.iadd, 1) := by decide +kernel
theorem dX4_block_437 : decode cX4_block 437 = .ok (.iastore, 1) := by decide +kernel
theorem dX4_block_438 : decode cX4_block 438 = .ok (.iinc 2 1, 3) := by decide +kernel
theorem dX4_block_441 : decode cX4_block 441 = .ok (.goto (-24), 3) := by decide +kernel
theorem dX4_block_444 : decode cX4_block 444 = .ok (.return_, 1) := by decide +kernel
theorem dX4_rot_0 : decode cX4_rot 0 = .ok (.iload_n 0, 1) := by decide +kernel
theorem dX4_rot_1 : decode cX4_rot 1 = .ok (.iload_n 1, 1) := by decide +kernel
theorem dX4_rot_2 : decode cX4_rot 2 = .ok (.iushr, 1) := by decide +kernel
theorem dX4_rot_3 : decode cX4_rot 3 = .ok (.iload_n 0, 1) := by decide +kernel
theorem dX4_rot_4 : decode cX4_rot 4 = .ok (.bipush 32, 2) := by decide +kernel
theorem dX4_rot_6 : decode cX4_rot 6 = .ok (.iload_n 1, 1) := by decide +kernel
theorem dX4_rot_7 : decode cX4_rot 7 = .ok (.isub, 1) := by decide +kernel
theorem dX4_rot_8 : decode cX4_rot 8 = .ok (.ishl, 1) := by decide +kernel
theorem dX4_rot_9 : decode cX4_rot 9 = .ok (.ior, 1) := by decide +kernel
theorem dX4_rot_10 : decode cX4_rot 10 = .ok (.ireturn, 1) := by decide +kernel
theorem dX4_cut_0 : decode cX4_cut 0 = .ok (.iconst 0, 1) := by decide +kernel
theorem dX4_cut_1 : decode cX4_cut 1 = .ok (.istore_n 1, 1) := by decide +kernel
theorem dX4_cut_2 : decode cX4_cut 2 = .ok (.iload_n 1, 1) := by decide +kernel
theorem dX4_cut_3 : decode cX4_cut 3 = .ok (.bipush 20, 2) := by decide +kernel
theorem dX4_cut_5 : decode cX4_cut 5 = .ok (.if_icmp .ge 21, 3) := by decide +kernel
theorem dX4_cut_8 : decode cX4_cut 8 = .ok (.aload_n 0, 1) := by decide +kernel
theorem dX4_cut_9 : decode cX4_cut 9 = .ok (.getfield 32, 3) := by decide +kernel
theorem dX4_cut_12 : decode cX4_cut 12 = .ok (.iload_n 1, 1) := by decide +kernel
theorem dX4_cut_13 : decode cX4_cut 13 = .ok (.aload_n 0, 1) := by decide +kernel
theorem dX4_cut_14 : decode cX4_cut 14 = .ok (.getfield 29, 3) := by decide +kernel
theorem dX4_cut_17 : decode cX4_cut 17 = .ok (.iload_n 1, 1) := by decide +kernel
theorem dX4_cut_18 : decode cX4_cut 18 = .ok (.baload, 1) := by decide +kernel
theorem dX4_cut_19 : decode cX4_cut 19 = .ok (.bastore, 1) := by decide +kernel
theorem dX4_cut_20 : decode cX4_cut 20 = .ok (.iinc 1 1, 3) := by decide +kernel
theorem dX4_cut_23 : decode cX4_cut 23 = .ok (.goto (-21), 3) := by decide +kernel
theorem dX4_cut_26 : decode cX4_cut 26 = .ok (.return_, 1) := by decide +kernel
theorem dX4_hashed_0 : decode cX4_hashed 0 = .ok (.aload_n 0, 1) := by decide +kernel
theorem dX4_hashed_1 : decode cX4_hashed 1 = .ok (.invokevirtual 217, 3) := by decide +kernel
theorem dX4_hashed_4 : decode cX4_hashed 4 = .ok (.aload_n 0, 1) := by decide +kernel
theorem dX4_hashed_5 : decode cX4_hashed 5 = .ok (.bipush 20, 2) := by decide +kernel
theorem dX4_hashed_7 : decode cX4_hashed 7 = .ok (.invokevirtual 209, 3) := by decide +kernel
theorem dX4_hashed_10 : decode cX4_hashed 10 = .ok (.aload_n 0, 1) := by decide +kernel
theorem dX4_hashed_11 : decode cX4_hashed 11 = .ok (.invokevirtual 211, 3) := by decide +kernel
theorem dX4_hashed_14 : decode cX4_hashed 14 = .ok (.return_, 1) := by decide +kernel
theorem dX4_coinToRow_0 : decode cX4_coinToRow 0 = .ok (.iconst 0, 1) := by decide +kernel
theorem dX4_coinToRow_1 : decode cX4_coinToRow 1 = .ok (.istore_n 1, 1) := by decide +kernel
theorem dX4_coinToRow_2 : decode cX4_coinToRow 2 = .ok (.iload_n 1, 1) := by decide +kernel
theorem dX4_coinToRow_3 : decode cX4_coinToRow 3 = .ok (.bipush 20, 2) := by decide +kernel
theorem dX4_coinToRow_5 : decode cX4_coinToRow 5 = .ok (.if_icmp .ge 21, 3) := by decide +kernel
theorem dX4_coinToRow_8 : decode cX4_coinToRow 8 = .ok (.aload_n 0, 1) := by decide +kernel
theorem dX4_coinToRow_9 : decode cX4_coinToRow 9 = .ok (.getfield 16, 3) := by decide +kernel
theorem dX4_coinToRow_12 : decode cX4_coinToRow 12 = .ok (.iload_n 1, 1) := by decide +kernel
theorem dX4_coinToRow_13 : decode cX4_coinToRow 13 = .ok (.aload_n 0, 1) := by decide +kernel
theorem dX4_coinToRow_14 : decode cX4_coinToRow 14 = .ok (.getfield 32, 3) := by decide +kernel
theorem dX4_coinToRow_17 : decode cX4_coinToRow 17 = .ok (.iload_n 1, 1) := by decide +kernel
theorem dX4_coinToRow_18 : decode cX4_coinToRow 18 = .ok (.baload, 1) := by decide +kernel
theorem dX4_coinToRow_19 : decode cX4_coinToRow 19 = .ok (.bastore, 1) := by decide +kernel
theorem dX4_coinToRow_20 : decode cX4_coinToRow 20 = .ok (.iinc 1 1, 3) := by decide +kernel
theorem dX4_coinToRow_23 : decode cX4_coinToRow 23 = .ok (.goto (-21), 3) := by decide +kernel
theorem dX4_coinToRow_26 : decode cX4_coinToRow 26 = .ok (.return_, 1) := by decide +kernel
theorem dX4_headed_0 : decode cX4_headed 0 = .ok (.aload_n 0, 1) := by decide +kernel
theorem dX4_headed_1 : decode cX4_headed 1 = .ok (.invokevirtual 217, 3) := by decide +kernel
theorem dX4_headed_4 : decode cX4_headed 4 = .ok (.aload_n 0, 1) := by decide +kernel
theorem dX4_headed_5 : decode cX4_headed 5 = .ok (.getfield 16, 3) := by decide +kernel
theorem dX4_headed_8 : decode cX4_headed 8 = .ok (.bipush 20, 2) := by decide +kernel
theorem dX4_headed_10 : decode cX4_headed 10 = .ok (.iload_n 1, 1) := by decide +kernel
theorem dX4_headed_11 : decode cX4_headed 11 = .ok (.i2b, 1) := by decide +kernel
theorem dX4_headed_12 : decode cX4_headed 12 = .ok (.bastore, 1) := by decide +kernel
theorem dX4_headed_13 : decode cX4_headed 13 = .ok (.aload_n 0, 1) := by decide +kernel
theorem dX4_headed_14 : decode cX4_headed 14 = .ok (.bipush 21, 2) := by decide +kernel
theorem dX4_headed_16 : decode cX4_headed 16 = .ok (.invokevirtual 209, 3) := by decide +kernel
theorem dX4_headed_19 : decode cX4_headed 19 = .ok (.aload_n 0, 1) := by decide +kernel
theorem dX4_headed_20 : decode cX4_headed 20 = .ok (.invokevirtual 211, 3) := by decide +kernel
theorem dX4_headed_23 : decode cX4_headed 23 = .ok (.return_, 1) := by decide +kernel
