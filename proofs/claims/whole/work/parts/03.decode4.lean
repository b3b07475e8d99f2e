theorem dX8_block_0 : decode cX8_block 0 = .ok (.iconst 0, 1) := by decide +kernel
theorem dX8_block_1 : decode cX8_block 1 = .ok (.istore 4, 2) := by decide +kernel
theorem dX8_block_3 : decode cX8_block 3 = .ok (.iload 4, 2) := by decide +kernel
theorem dX8_block_5 : decode cX8_block 5 = .ok (.bipush 16, 2) := by decide +kernel
theorem dX8_block_7 : decode cX8_block 7 = .ok (.if_icmp .ge 122, 3) := by decide +kernel
theorem dX8_block_10 : decode cX8_block 10 = .ok (.lconst 0, 1) := by decide +kernel
theorem dX8_block_11 : decode cX8_block 11 = .ok (.lstore 5, 2) := by decide +kernel
theorem dX8_block_13 : decode cX8_block 13 = .ok (.iconst 0, 1) := by decide +kernel
theorem dX8_block_14 : decode cX8_block 14 = .ok (.istore 7, 2) := by decide +kernel
theorem dX8_block_16 : decode cX8_block 16 = .ok (.iload 7, 2) := by decide +kernel
theorem dX8_block_18 : decode cX8_block 18 = .ok (.iconst 4, 1) := by decide +kernel
theorem dX8_block_19 : decode cX8_block 19 = .ok (.if_icmp .ge 95, 3) := by decide +kernel
theorem dX8_block_22 : decode cX8_block 22 = .ok (.iload_n 1, 1) := by decide +kernel
theorem dX8_block_23 : decode cX8_block 23 = .ok (.iconst 4, 1) := by decide +kernel
theorem dX8_block_24 : decode cX8_block 24 = .ok (.iload 4, 2) := by decide +kernel
theorem dX8_block_26 : decode cX8_block 26 = .ok (.imul, 1) := by decide +kernel
theorem dX8_block_27 : decode cX8_block 27 = .ok (.iadd, 1) := by decide +kernel
theorem dX8_block_28 : decode cX8_block 28 = .ok (.iload 7, 2) := by decide +kernel
theorem dX8_block_30 : decode cX8_block 30 = .ok (.iadd, 1) := by decide +kernel
theorem dX8_block_31 : decode cX8_block 31 = .ok (.istore 8, 2) := by decide +kernel
theorem dX8_block_33 : decode cX8_block 33 = .ok (.iload 8, 2) := by decide +kernel
theorem dX8_block_35 : decode cX8_block 35 = .ok (.iload_n 2, 1) := by decide +kernel
theorem dX8_block_36 : decode cX8_block 36 = .ok (.if_icmp .ge 17, 3) := by decide +kernel
theorem dX8_block_39 : decode cX8_block 39 = .ok (.aload_n 0, 1) := by decide +kernel
theorem dX8_block_40 : decode cX8_block 40 = .ok (.getfield 16, 3) := by decide +kernel
theorem dX8_block_43 : decode cX8_block 43 = .ok (.iload 8, 2) := by decide +kernel
theorem dX8_block_45 : decode cX8_block 45 = .ok (.baload, 1) := by decide +kernel
theorem dX8_block_46 : decode cX8_block 46 = .ok (.sipush 255, 3) := by decide +kernel
theorem dX8_block_49 : decode cX8_block 49 = .ok (.iand, 1) := by decide +kernel
theorem dX8_block_50 : decode cX8_block 50 = .ok (.goto 45, 3) := by decide +kernel
theorem dX8_block_53 : decode cX8_block 53 = .ok (.iload 8, 2) := by decide +kernel
theorem dX8_block_55 : decode cX8_block 55 = .ok (.iload_n 2, 1) := by decide +kernel
theorem dX8_block_56 : decode cX8_block 56 = .ok (.if_icmp .ne 9, 3) := by decide +kernel
theorem dX8_block_59 : decode cX8_block 59 = .ok (.sipush 128, 3) := by decide +kernel
theorem dX8_block_62 : decode cX8_block 62 = .ok (.goto 33, 3) := by decide +kernel
theorem dX8_block_65 : decode cX8_block 65 = .ok (.iload 8, 2) := by decide +kernel
theorem dX8_block_67 : decode cX8_block 67 = .ok (.iload_n 3, 1) := by decide +kernel
theorem dX8_block_68 : decode cX8_block 68 = .ok (.iconst 4, 1) := by decide +kernel
theorem dX8_block_69 : decode cX8_block 69 = .ok (.isub, 1) := by decide +kernel
theorem dX8_block_70 : decode cX8_block 70 = .ok (.if_icmp .lt 24, 3) := by decide +kernel
theorem dX8_block_73 : decode cX8_block 73 = .ok (.bipush 8, 2) := by decide +kernel
theorem dX8_block_75 : decode cX8_block 75 = .ok (.iload_n 2, 1) := by decide +kernel
theorem dX8_block_76 : decode cX8_block 76 = .ok (.imul, 1) := by decide +kernel
theorem dX8_block_77 : decode cX8_block 77 = .ok (.bipush 8, 2) := by decide +kernel
theorem dX8_block_79 : decode cX8_block 79 = .ok (.iload_n 3, 1) := by decide +kernel
theorem dX8_block_80 : decode cX8_block 80 = .ok (.iconst 1, 1) := by decide +kernel
theorem dX8_block_81 : decode cX8_block 81 = .ok (.isub, 1) := by decide +kernel
theorem dX8_block_82 : decode cX8_block 82 = .ok (.iload 8, 2) := by decide +kernel
theorem dX8_block_84 : decode cX8_block 84 = .ok (.isub, 1) := by decide +kernel
theorem dX8_block_85 : decode cX8_block 85 = .ok (.imul, 1) := by decide +kernel
theorem dX8_block_86 : decode cX8_block 86 = .ok (.ishr, 1) := by decide +kernel
theorem dX8_block_87 : decode cX8_block 87 = .ok (.sipush 255, 3) := by decide +kernel
theorem dX8_block_90 : decode cX8_block 90 = .ok (.iand, 1) := by decide +kernel
theorem dX8_block_91 : decode cX8_block 91 = .ok (.goto 4, 3) := by decide +kernel
theorem dX8_block_94 : decode cX8_block 94 = .ok (.iconst 0, 1) := by decide +kernel
theorem dX8_block_95 : decode cX8_block 95 = .ok (.istore 9, 2) := by decide +kernel
theorem dX8_block_97 : decode cX8_block 97 = .ok (.lload 5, 2) := by decide +kernel
theorem dX8_block_99 : decode cX8_block 99 = .ok (.bipush 8, 2) := by decide +kernel
theorem dX8_block_101 : decode cX8_block 101 = .ok (.lshl, 1) := by decide +kernel
theorem dX8_block_102 : decode cX8_block 102 = .ok (.iload 9, 2) := by decide +kernel
theorem dX8_block_104 : decode cX8_block 104 = .ok (.i2l, 1) := by decide +kernel
theorem dX8_block_105 : decode cX8_block 105 = .ok (.lor, 1) := by decide +kernel
theorem dX8_block_106 : decode cX8_block 106 = .ok (.lstore 5, 2) := by decide +kernel
theorem dX8_block_108 : decode cX8_block 108 = .ok (.iinc 7 1, 3) := by decide +kernel
theorem dX8_block_111 : decode cX8_block 111 = .ok (.goto (-95), 3) := by decide +kernel
theorem dX8_block_114 : decode cX8_block 114 = .ok (.aload_n 0, 1) := by decide +kernel
theorem dX8_block_115 : decode cX8_block 115 = .ok (.getfield 23, 3) := by decide +kernel
theorem dX8_block_118 : decode cX8_block 118 = .ok (.iload 4, 2) := by decide +kernel
theorem dX8_block_120 : decode cX8_block 120 = .ok (.lload 5, 2) := by decide +kernel
theorem dX8_block_122 : decode cX8_block 122 = .ok (.lastore, 1) := by decide +kernel
theorem dX8_block_123 : decode cX8_block 123 = .ok (.iinc 4 1, 3) := by decide +kernel
theorem dX8_block_126 : decode cX8_block 126 = .ok (.goto (-123), 3) := by decide +kernel
theorem dX8_block_129 : decode cX8_block 129 = .ok (.bipush 16, 2) := by decide +kernel
theorem dX8_block_131 : decode cX8_block 131 = .ok (.istore 4, 2) := by decide +kernel
theorem dX8_block_133 : decode cX8_block 133 = .ok (.iload 4, 2) := by decide +kernel
theorem dX8_block_135 : decode cX8_block 135 = .ok (.bipush 64, 2) := by decide +kernel
theorem dX8_block_137 : decode cX8_block 137 = .ok (.if_icmp .ge 137, 3) := by decide +kernel
theorem dX8_block_140 : decode cX8_block 140 = .ok (.aload_n 0, 1) := by decide +kernel
theorem dX8_block_141 : decode cX8_block 141 = .ok (.getfield 23, 3) := by decide +kernel
theorem dX8_block_144 : decode cX8_block 144 = .ok (.iload 4, 2) := by decide +kernel
theorem dX8_block_146 : decode cX8_block 146 = .ok (.bipush 15, 2) := by decide +kernel
theorem dX8_block_148 : decode cX8_block 148 = .ok (.isub, 1) := by decide +kernel
theorem dX8_block_149 : decode cX8_block 149 = .ok (.laload, 1) := by decide +kernel
theorem dX8_block_150 : decode cX8_block 150 = .ok (.bipush 7, 2) := by decide +kernel
theorem dX8_block_152 : decode cX8_block 152 = .ok (.invokestatic 117, 3) := by decide +kernel
theorem dX8_block_155 : decode cX8_block 155 = .ok (.aload_n 0, 1) := by decide +kernel
theorem dX8_block_156 : decode cX8_block 156 = .ok (.getfield 23, 3) := by decide +kernel
theorem dX8_block_159 : decode cX8_block 159 = .ok (.iload 4, 2) := by decide +kernel
theorem dX8_block_161 : decode cX8_block 161 = .ok (.bipush 15, 2) := by decide +kernel
theorem dX8_block_163 : decode cX8_block 163 = .ok (.isub, 1) := by decide +kernel
theorem dX8_block_164 : decode cX8_block 164 = .ok (.laload, 1) := by decide +kernel
theorem dX8_block_165 : decode cX8_block 165 = .ok (.bipush 18, 2) := by decide +kernel
theorem dX8_block_167 : decode cX8_block 167 = .ok (.invokestatic 117, 3) := by decide +kernel
theorem dX8_block_170 : decode cX8_block 170 = .ok (.lxor, 1) := by decide +kernel
theorem dX8_block_171 : decode cX8_block 171 = .ok (.aload_n 0, 1) := by decide +kernel
theorem dX8_block_172 : decode cX8_block 172 = .ok (.getfield 23, 3) := by decide +kernel
theorem dX8_block_175 : decode cX8_block 175 = .ok (.iload 4, 2) := by decide +kernel
theorem dX8_block_177 : decode cX8_block 177 = .ok (.bipush 15, 2) := by decide +kernel
theorem dX8_block_179 : decode cX8_block 179 = .ok (.isub, 1) := by decide +kernel
theorem dX8_block_180 : decode cX8_block 180 = .ok (.laload, 1) := by decide +kernel
theorem dX8_block_181 : decode cX8_block 181 = .ok (.iconst 3, 1) := by decide +kernel
theorem dX8_block_182 : decode cX8_block 182 = .ok (.lshr, 1) := by decide +kernel
theorem dX8_block_183 : decode cX8_block 183 = .ok (.lxor, 1) := by decide +kernel
theorem dX8_block_184 : decode cX8_block 184 = .ok (.lstore 5, 2) := by decide +kernel
theorem dX8_block_186 : decode cX8_block 186 = .ok (.aload_n 0, 1) := by decide +kernel
theorem dX8_block_187 : decode cX8_block 187 = .ok (.getfield 23, 3) := by decide +kernel
theorem dX8_block_190 : decode cX8_block 190 = .ok (.iload 4, 2) := by decide +kernel
theorem dX8_block_192 : decode cX8_block 192 = .ok (.iconst 2, 1) := by decide +kernel
theorem dX8_block_193 : decode cX8_block 193 = .ok (.isub, 1) := by decide +kernel
theorem dX8_block_194 : decode cX8_block 194 = .ok (.laload, 1) := by decide +kernel
theorem dX8_block_195 : decode cX8_block 195 = .ok (.bipush 17, 2) := by decide +kernel
theorem dX8_block_197 : decode cX8_block 197 = .ok (.invokestatic 117, 3) := by decide +kernel
theorem dX8_block_200 : decode cX8_block 200 = .ok (.aload_n 0, 1) := by decide +kernel
theorem dX8_block_201 : decode cX8_block 201 = .ok (.getfield 23, 3) := by decide +kernel
theorem dX8_block_204 : decode cX8_block 204 = .ok (.iload 4, 2) := by decide +kernel
theorem dX8_block_206 : decode cX8_block 206 = .ok (.iconst 2, 1) := by decide +kernel
theorem dX8_block_207 : decode cX8_block 207 = .ok (.isub, 1) := by decide +kernel
theorem dX8_block_208 : decode cX8_block 208 = .ok (.laload, 1) := by decide +kernel
theorem dX8_block_209 : decode cX8_block 209 = .ok (.bipush 19, 2) := by decide +kernel
theorem dX8_block_211 : decode cX8_block 211 = .ok (.invokestatic 117, 3) := by decide +kernel
theorem dX8_block_214 : decode cX8_block 214 = .ok (.lxor, 1) := by decide +kernel
theorem dX8_block_215 : decode cX8_block 215 = .ok (.aload_n 0, 1) := by decide +kernel
theorem dX8_block_216 : decode cX8_block 216 = .ok (.getfield 23, 3) := by decide +kernel
theorem dX8_block_219 : decode cX8_block 219 = .ok (.iload 4, 2) := by decide +kernel
theorem dX8_block_221 : decode cX8_block 221 = .ok (.iconst 2, 1) := by decide +kernel
theorem dX8_block_222 : decode cX8_block 222 = .ok (.isub, 1) := by decide +kernel
theorem dX8_block_223 : decode cX8_block 223 = .ok (.laload, 1) := by decide +kernel
theorem dX8_block_224 : decode cX8_block 224 = .ok (.bipush 10, 2) := by decide +kernel
theorem dX8_block_226 : decode cX8_block 226 = .ok (.lshr, 1) := by decide +kernel
theorem dX8_block_227 : decode cX8_block 227 = .ok (.lxor, 1) := by decide +kernel
theorem dX8_block_228 : decode cX8_block 228 = .ok (.lstore 7, 2) := by decide +kernel
theorem dX8_block_230 : decode cX8_block 230 = .ok (.aload_n 0, 1) := by decide +kernel
theorem dX8_block_231 : decode cX8_block 231 = .ok (.getfield 23, 3) := by decide +kernel
theorem dX8_block_234 : decode cX8_block 234 = .ok (.iload 4, 2) := by decide +kernel
theorem dX8_block_236 : decode cX8_block 236 = .ok (.aload_n 0, 1) := by decide +kernel
theorem dX8_block_237 : decode cX8_block 237 = .ok (.getfield 23, 3) := by decide +kernel
theorem dX8_block_240 : decode cX8_block 240 = .ok (.iload 4, 2) := by decide +kernel
theorem dX8_block_242 : decode cX8_block 242 = .ok (.bipush 16, 2) := by decide +kernel
theorem dX8_block_244 : decode cX8_block 244 = .ok (.isub, 1) := by decide +kernel
theorem dX8_block_245 : decode cX8_block 245 = .ok (.laload, 1) := by decide +kernel
theorem dX8_block_246 : decode cX8_block 246 = .ok (.lload 5, 2) := by decide +kernel
theorem dX8_block_248 : decode cX8_block 248 = .ok (.ladd, 1) := by decide +kernel
theorem dX8_block_249 : decode cX8_block 249 = .ok (.aload_n 0, 1) := by decide +kernel
theorem dX8_block_250 : decode cX8_block 250 = .ok (.getfield 23, 3) := by decide +kernel
theorem dX8_block_253 : decode cX8_block 253 = .ok (.iload 4, 2) := by decide +kernel
theorem dX8_block_255 : decode cX8_block 255 = .ok (.bipush 7, 2) := by decide +kernel
theorem dX8_block_257 : decode cX8_block 257 = .ok (.isub, 1) := by decide +kernel
theorem dX8_block_258 : decode cX8_block 258 = .ok (.laload, 1) := by decide +kernel
theorem dX8_block_259 : decode cX8_block 259 = .ok (.ladd, 1) := by decide +kernel
theorem dX8_block_260 : decode cX8_block 260 = .ok (.lload 7, 2) := by decide +kernel
theorem dX8_block_262 : decode cX8_block 262 = .ok (.ladd, 1) := by decide +kernel
theorem dX8_block_263 : decode cX8_block 263 = .ok (.ldc2_w 115, 3) := by decide +kernel
theorem dX8_block_266 : decode cX8_block 266 = .ok (.land, 1) := by decide +kernel
theorem dX8_block_267 : decode cX8_block 267 = .ok (.lastore, 1) := by decide +kernel
theorem dX8_block_268 : decode cX8_block 268 = .ok (.iinc 4 1, 3) := by decide +kernel
theorem dX8_block_271 : decode cX8_block 271 = .ok (.goto (-138), 3) := by decide +kernel
theorem dX8_block_274 : decode cX8_block 274 = .ok (.aload_n 0, 1) := by decide +kernel
theorem dX8_block_275 : decode cX8_block 275 = .ok (.getfield 19, 3) := by decide +kernel
theorem dX8_block_278 : decode cX8_block 278 = .ok (.iconst 0, 1) := by decide +kernel
theorem dX8_block_279 : decode cX8_block 279 = .ok (.laload, 1) := by decide +kernel
theorem dX8_block_280 : decode cX8_block 280 = .ok (.lstore 4, 2) := by decide +kernel
theorem dX8_block_282 : decode cX8_block 282 = .ok (.aload_n 0, 1) := by decide +kernel
theorem dX8_block_283 : decode cX8_block 283 = .ok (.getfield 19, 3) := by decide +kernel
theorem dX8_block_286 : decode cX8_block 286 = .ok (.iconst 1, 1) := by decide +kernel
theorem dX8_block_287 : decode cX8_block 287 = .ok (.laload, 1) := by decide +kernel
theorem dX8_block_288 : decode cX8_block 288 = .ok (.lstore 6, 2) := by decide +kernel
theorem dX8_block_290 : decode cX8_block 290 = .ok (.aload_n 0, 1) := by decide +kernel
theorem dX8_block_291 : decode cX8_block 291 = .ok (.getfield 19, 3) := by decide +kernel
theorem dX8_block_294 : decode cX8_block 294 = .ok (.iconst 2, 1) := by decide +kernel
theorem dX8_block_295 : decode cX8_block 295 = .ok (.laload, 1) := by decide +kernel
theorem dX8_block_296 : decode cX8_block 296 = .ok (.lstore 8, 2) := by decide +kernel
theorem dX8_block_298 : decode cX8_block 298 = .ok (.aload_n 0, 1) := by decide +kernel
theorem dX8_block_299 : decode cX8_block 299 = .ok (.getfield 19, 3) := by decide +kernel
theorem dX8_block_302 : decode cX8_block 302 = .ok (.iconst 3, 1) := by decide +kernel
theorem dX8_block_303 : decode cX8_block 303 = .ok (.laload, 1) := by decide +kernel
theorem dX8_block_304 : decode cX8_block 304 = .ok (.lstore 10, 2) := by decide +kernel
theorem dX8_block_306 : decode cX8_block 306 = .ok (.aload_n 0, 1) := by decide +kernel
theorem dX8_block_307 : decode cX8_block 307 = .ok (.getfield 19, 3) := by decide +kernel
theorem dX8_block_310 : decode cX8_block 310 = .ok (.iconst 4, 1) := by decide +kernel
theorem dX8_block_311 : decode cX8_block 311 = .ok (.laload, 1) := by decide +kernel
theorem dX8_block_312 : decode cX8_block 312 = .ok (.lstore 12, 2) := by decide +kernel
theorem dX8_block_314 : decode cX8_block 314 = .ok (.aload_n 0, 1) := by decide +kernel
theorem dX8_block_315 : decode cX8_block 315 = .ok (.getfield 19, 3) := by decide +kernel
theorem dX8_block_318 : decode cX8_block 318 = .ok (.iconst 5, 1) := by decide +kernel
theorem dX8_block_319 : decode cX8_block 319 = .ok (.laload, 1) := by decide +kernel
theorem dX8_block_320 : decode cX8_block 320 = .ok (.lstore 14, 2) := by decide +kernel
theorem dX8_block_322 : decode cX8_block 322 = .ok (.aload_n 0, 1) := by decide +kernel
theorem dX8_block_323 : decode cX8_block 323 = .ok (.getfield 19, 3) := by decide +kernel
theorem dX8_block_326 : decode cX8_block 326 = .ok (.bipush 6, 2) := by decide +kernel
theorem dX8_block_328 : decode cX8_block 328 = .ok (.laload, 1) := by decide +kernel
theorem dX8_block_329 : decode cX8_block 329 = .ok (.lstore 16, 2) := by decide +kernel
theorem dX8_block_331 : decode cX8_block 331 = .ok (.aload_n 0, 1) := by decide +kernel
theorem dX8_block_332 : decode cX8_block 332 = .ok (.getfield 19, 3) := by decide +kernel
theorem dX8_block_335 : decode cX8_block 335 = .ok (.bipush 7, 2) := by decide +kernel
theorem dX8_block_337 : decode cX8_block 337 = .ok (.laload, 1) := by decide +kernel
theorem dX8_block_338 : decode cX8_block 338 = .ok (.lstore 18, 2) := by decide +kernel
theorem dX8_block_340 : decode cX8_block 340 = .ok (.iconst 0, 1) := by decide +kernel
theorem dX8_block_341 : decode cX8_block 341 = .ok (.istore 20, 2) := by decide +kernel
theorem dX8_block_343 : decode cX8_block 343 = .ok (.iload 20, 2) := by decide +kernel
theorem dX8_block_345 : decode cX8_block 345 = .ok (.bipush 64, 2) := by decide +kernel
theorem dX8_block_347 : decode cX8_block 347 = .ok (.if_icmp .ge 161, 3) := by decide +kernel
theorem dX8_block_350 : decode cX8_block 350 = .ok (.lload 18, 2) := by decide +kernel
theorem dX8_block_352 : decode cX8_block 352 = .ok (.lload 12, 2) := by decide +kernel
theorem dX8_block_354 : decode cX8_block 354 = .ok (.bipush 6, 2) := by decide +kernel
theorem dX8_block_356 : decode cX8_block 356 = .ok (.invokestatic 117, 3) := by decide +kernel
theorem dX8_block_359 : decode cX8_block 359 = .ok (.lload 12, 2) := by decide +kernel
theorem dX8_block_361 : decode cX8_block 361 = .ok (.bipush 11, 2) := by decide +kernel
theorem dX8_block_363 : decode cX8_block 363 = .ok (.invokestatic 117, 3) := by decide +kernel
theorem dX8_block_366 : decode cX8_block 366 = .ok (.lxor, 1) := by decide +kernel
theorem dX8_block_367 : decode cX8_block 367 = .ok (.lload 12, 2) := by decide +kernel
theorem dX8_block_369 : decode cX8_block 369 = .ok (.bipush 25, 2) := by decide +kernel
theorem dX8_block_371 : decode cX8_block 371 = .ok (.invokestatic 117, 3) := by decide +kernel
theorem dX8_block_374 : decode cX8_block 374 = .ok (.lxor, 1) := by decide +kernel
theorem dX8_block_375 : decode cX8_block 375 = .ok (.ladd, 1) := by decide +kernel
theorem dX8_block_376 : decode cX8_block 376 = .ok (.lload 12, 2) := by decide +kernel
theorem dX8_block_378 : decode cX8_block 378 = .ok (.lload 14, 2) := by decide +kernel
theorem dX8_block_380 : decode cX8_block 380 = .ok (.land, 1) := by decide +kernel
theorem dX8_block_381 : decode cX8_block 381 = .ok (.ldc2_w 115, 3) := by decide +kernel
theorem dX8_block_384 : decode cX8_block 384 = .ok (.lload 12, 2) := by decide +kernel
theorem dX8_block_386 : decode cX8_block 386 = .ok (.lsub, 1) := by decide +kernel
theorem dX8_block_387 : decode cX8_block 387 = .ok (.lload 16, 2) := by decide +kernel
theorem dX8_block_389 : decode cX8_block 389 = .ok (.land, 1) := by decide +kernel
theorem dX8_block_390 : decode cX8_block 390 = .ok (.lor, 1) := by decide +kernel
theorem dX8_block_391 : decode cX8_block 391 = .ok (.ladd, 1) := by decide +kernel
theorem dX8_block_392 : decode cX8_block 392 = .ok (.getstatic 121, 3) := by decide +kernel
theorem dX8_block_395 : decode cX8_block 395 = .ok (.iload 20, 2) := by decide +kernel
theorem dX8_block_397 : decode cX8_block 397 = .ok (.iaload, 1) := by decide +kernel
theorem dX8_block_398 : decode cX8_block 398 = .ok (.i2l, 1) := by decide +kernel
theorem dX8_block_399 : decode cX8_block 399 = .ok (.ldc2_w 115, 3) := by decide +kernel
theorem dX8_block_402 : decode cX8_block 402 = .ok (.land, 1) := by decide +kernel
theorem dX8_block_403 : decode cX8_block 403 = .ok (.ladd, 1) := by decide +kernel
theorem dX8_block_404 : decode cX8_block 404 = .ok (.aload_n 0, 1) := by decide +kernel
theorem dX8_block_405 : decode cX8_block 405 = .ok (.getfield 23, 3) := by decide +kernel
theorem dX8_block_408 : decode cX8_block 408 = .ok (.iload 20, 2) := by decide +kernel
theorem dX8_block_410 : decode cX8_block 410 = .ok (.laload, 1) := by decide +kernel
theorem dX8_block_411 : decode cX8_block 411 = .ok (.ladd, 1) := by decide +kernel
theorem dX8_block_412 : decode cX8_block 412 = .ok (.lstore 21, 2) := by decide +kernel
theorem dX8_block_414 : decode cX8_block 414 = .ok (.lload 4, 2) := by decide +kernel
theorem dX8_block_416 : decode cX8_block 416 = .ok (.iconst 2, 1) := by decide +kernel
theorem dX8_block_417 : decode cX8_block 417 = .ok (.invokestatic 117, 3) := by decide +kernel
theorem dX8_block_420 : decode cX8_block 420 = .ok (.lload 4, 2) := by decide +kernel
theorem dX8_block_422 : decode cX8_block 422 = .ok (.bipush 13, 2) := by decide +kernel
theorem dX8_block_424 : decode cX8_block 424 = .ok (.invokestatic 117, 3) := by decide +kernel
theorem dX8_block_427 : decode cX8_block 427 = .ok (.lxor, 1) := by decide +kernel
theorem dX8_block_428 : decode cX8_block 428 = .ok (.lload 4, 2) := by decide +kernel
theorem dX8_block_430 : decode cX8_block 430 = .ok (.bipush 22, 2) := by decide +kernel
theorem dX8_block_432 : decode cX8_block 432 = .ok (.invokestatic 117, 3) := by decide +kernel
theorem dX8_block_435 : decode cX8_block 435 = .ok (.lxor, 1) := by decide +kernel
theorem dX8_block_436 : decode cX8_block 436 = .ok (.lload 4, 2) := by decide +kernel
theorem dX8_block_438 : decode cX8_block 438 = .ok (.lload 6, 2) := by decide +kernel
theorem dX8_block_440 : decode cX8_block 440 = .ok (.land, 1) := by decide +kernel
theorem dX8_block_441 : decode cX8_block 441 = .ok (.lload 4, 2) := by decide +kernel
theorem dX8_block_443 : decode cX8_block 443 = .ok (.lload 8, 2) := by decide +kernel
theorem dX8_block_445 : decode cX8_block 445 = .ok (.land, 1) := by decide +kernel
theorem dX8_block_446 : decode cX8_block 446 = .ok (.lor, 1) := by decide +kernel
theorem dX8_block_447 : decode cX8_block 447 = .ok (.lload 6, 2) := by decide +kernel
theorem dX8_block_449 : decode cX8_block 449 = .ok (.lload 8, 2) := by decide +kernel
theorem dX8_block_451 : decode cX8_block 451 = .ok (.land, 1) := by decide +kernel
theorem dX8_block_452 : decode cX8_block 452 = .ok (.lor, 1) := by decide +kernel
theorem dX8_block_453 : decode cX8_block 453 = .ok (.ladd, 1) := by decide +kernel
theorem dX8_block_454 : decode cX8_block 454 = .ok (.lstore 23, 2) := by decide +kernel
theorem dX8_block_456 : decode cX8_block 456 = .ok (.lload 16, 2) := by decide +kernel
theorem dX8_block_458 : decode cX8_block 458 = .ok (.lstore 18, 2) := by decide +kernel
theorem dX8_block_460 : decode cX8_block 460 = .ok (.lload 14, 2) := by decide +kernel
theorem dX8_block_462 : decode cX8_block 462 = .ok (.lstore 16, 2) := by decide +kernel
theorem dX8_block_464 : decode cX8_block 464 = .ok (.lload 12, 2) := by decide +kernel
theorem dX8_block_466 : decode cX8_block 466 = .ok (.lstore 14, 2) := by decide +kernel
theorem dX8_block_468 : decode cX8_block 468 = .ok (.lload 10, 2) := by decide +kernel
theorem dX8_block_470 : decode cX8_block 470 = .ok (.lload 21, 2) := by decide +kernel
theorem dX8_block_472 : decode cX8_block 472 = .ok (.ladd, 1) := by decide +kernel
theorem dX8_block_473 : decode cX8_block 473 = .ok (.ldc2_w 115, 3) := by decide +kernel
theorem dX8_block_476 : decode cX8_block 476 = .ok (.land, 1) := by decide +kernel
theorem dX8_block_477 : decode cX8_block 477 = .ok (.lstore 12, 2) := by decide +kernel
theorem dX8_block_479 : decode cX8_block 479 = .ok (.lload 8, 2) := by decide +kernel
theorem dX8_block_481 : decode cX8_block 481 = .ok (.lstore 10, 2) := by decide +kernel
theorem dX8_block_483 : decode cX8_block 483 = .ok (.lload 6, 2) := by decide +kernel
theorem dX8_block_485 : decode cX8_block 485 = .ok (.lstore 8, 2) := by decide +kernel
theorem dX8_block_487 : decode cX8_block 487 = .ok (.lload 4, 2) := by decide +kernel
theorem dX8_block_489 : decode cX8_block 489 = .ok (.lstore 6, 2) := by decide +kernel
theorem dX8_block_491 : decode cX8_block 491 = .ok (.lload 21, 2) := by decide +kernel
theorem dX8_block_493 : decode cX8_block 493 = .ok (.lload 23, 2) := by decide +kernel
theorem dX8_block_495 : decode cX8_block 495 = .ok (.ladd, 1) := by decide +kernel
theorem dX8_block_496 : decode cX8_block 496 = .ok (.ldc2_w 115, 3) := by decide +kernel
theorem dX8_block_499 : decode cX8_block 499 = .ok (.land, 1) := by decide +kernel
theorem dX8_block_500 : decode cX8_block 500 = .ok (.lstore 4, 2) := by decide +kernel
theorem dX8_block_502 : decode cX8_block 502 = .ok (.iinc 20 1, 3) := by decide +kernel
theorem dX8_block_505 : decode cX8_block 505 = .ok (.goto (-162), 3) := by decide +kernel
theorem dX8_block_508 : decode cX8_block 508 = .ok (.aload_n 0, 1) := by decide +kernel
theorem dX8_block_509 : decode cX8_block 509 = .ok (.getfield 19, 3) := by decide +kernel
theorem dX8_block_512 : decode cX8_block 512 = .ok (.iconst 0, 1) := by decide +kernel
theorem dX8_block_513 : decode cX8_block 513 = .ok (.aload_n 0, 1) := by decide +kernel
theorem dX8_block_514 : decode cX8_block 514 = .ok (.getfield 19, 3) := by decide +kernel
theorem dX8_block_517 : decode cX8_block 517 = .ok (.iconst 0, 1) := by decide +kernel
theorem dX8_block_518 : decode cX8_block 518 = .ok (.laload, 1) := by decide +kernel
theorem dX8_block_519 : decode cX8_block 519 = .ok (.lload 4, 2) := by decide +kernel
theorem dX8_block_521 : decode cX8_block 521 = .ok (.ladd, 1) := by decide +kernel
theorem dX8_block_522 : decode cX8_block 522 = .ok (.ldc2_w 115, 3) := by decide +kernel
theorem dX8_block_525 : decode cX8_block 525 = .ok (.land, 1) := by decide +kernel
theorem dX8_block_526 : decode cX8_block 526 = .ok (.lastore, 1) := by decide +kernel
theorem dX8_block_527 : decode cX8_block 527 = .ok (.aload_n 0, 1) := by decide +kernel
theorem dX8_block_528 : decode cX8_block 528 = .ok (.getfield 19, 3) := by decide +kernel
theorem dX8_block_531 : decode cX8_block 531 = .ok (.iconst 1, 1) := by decide +kernel
theorem dX8_block_532 : decode cX8_block 532 = .ok (.aload_n 0, 1) := by decide +kernel
theorem dX8_block_533 : decode cX8_block 533 = .ok (.getfield 19, 3) := by decide +kernel
theorem dX8_block_536 : decode cX8_block 536 = .ok (.iconst 1, 1) := by decide +kernel
theorem dX8_block_537 : decode cX8_block 537 = .ok (.laload, 1) := by decide +kernel
theorem dX8_block_538 : decode cX8_block 538 = .ok (.lload 6, 2) := by decide +kernel
theorem dX8_block_540 : decode cX8_block 540 = .ok (.ladd, 1) := by decide +kernel
theorem dX8_block_541 : decode cX8_block 541 = .ok (.ldc2_w 115, 3) := by decide +kernel
theorem dX8_block_544 : decode cX8_block 544 = .ok (.land, 1) := by decide +kernel
theorem dX8_block_545 : decode cX8_block 545 = .ok (.lastore, 1) := by decide +kernel
theorem dX8_block_546 : decode cX8_block 546 = .ok (.aload_n 0, 1) := by decide +kernel
theorem dX8_block_547 : decode cX8_block 547 = .ok (.getfield 19, 3) := by decide +kernel
theorem dX8_block_550 : decode cX8_block 550 = .ok (.iconst 2, 1) := by decide +kernel
theorem dX8_block_551 : decode cX8_block 551 = .ok (.aload_n 0, 1) := by decide +kernel
theorem dX8_block_552 : decode cX8_block 552 = .ok (.getfield 19, 3) := by decide +kernel
theorem dX8_block_555 : decode cX8_block 555 = .ok (.iconst 2, 1) := by decide +kernel
theorem dX8_block_556 : decode cX8_block 556 = .ok (.laload, 1) := by decide +kernel
theorem dX8_block_557 : decode cX8_block 557 = .ok (.lload 8, 2) := by decide +kernel
theorem dX8_block_559 : decode cX8_block 559 = .ok (.ladd, 1) := by decide +kernel
theorem dX8_block_560 : decode cX8_block 560 = .ok (.ldc2_w 115, 3) := by decide +kernel
theorem dX8_block_563 : decode cX8_block 563 = .ok (.land, 1) := by decide +kernel
theorem dX8_block_564 : decode cX8_block 564 = .ok (.lastore, 1) := by decide +kernel
theorem dX8_block_565 : decode cX8_block 565 = .ok (.aload_n 0, 1) := by decide +kernel
theorem dX8_block_566 : decode cX8_block 566 = .ok (.getfield 19, 3) := by decide +kernel
theorem dX8_block_569 : decode cX8_block 569 = .ok (.iconst 3, 1) := by decide +kernel
theorem dX8_block_570 : decode cX8_block 570 = .ok (.aload_n 0, 1) := by decide +kernel
theorem dX8_block_571 : decode cX8_block 571 = .ok (.getfield 19, 3) := by decide +kernel
theorem dX8_block_574 : decode cX8_block 574 = .ok (.iconst 3, 1) := by decide +kernel
theorem dX8_block_575 : decode cX8_block 575 = .ok (.laload, 1) := by decide +kernel
theorem dX8_block_576 : decode cX8_block 576 = .ok (.lload 10, 2) := by decide +kernel
theorem dX8_block_578 : decode cX8_block 578 = .ok (.ladd, 1) := by decide +kernel
theorem dX8_block_579 : decode cX8_block 579 = .ok (.ldc2_w 115, 3) := by decide +kernel
theorem dX8_block_582 : decode cX8_block 582 = .ok (.land, 1) := by decide +kernel
theorem dX8_block_583 : decode cX8_block 583 = .ok (.lastore, 1) := by decide +kernel
theorem dX8_block_584 : decode cX8_block 584 = .ok (.aload_n 0, 1) := by decide +kernel
theorem dX8_block_585 : decode cX8_block 585 = .ok (.getfield 19, 3) := by decide +kernel
theorem dX8_block_588 : decode cX8_block 588 = .ok (.iconst 4, 1) := by decide +kernel
theorem dX8_block_589 : decode cX8_block 589 = .ok (.aload_n 0, 1) := by decide +kernel
theorem dX8_block_590 : decode cX8_block 590 = .ok (.getfield 19, 3) := by decide +kernel
theorem dX8_block_593 : decode cX8_block 593 = .ok (.iconst 4, 1) := by decide +kernel
theorem dX8_block_594 : decode cX8_block 594 = .ok (.laload, 1) := by decide +kernel
theorem dX8_block_595 : decode cX8_block 595 = .ok (.lload 12, 2) := by decide +kernel
theorem dX8_block_597 : decode cX8_block 597 = .ok (.ladd, 1) := by decide +kernel
theorem dX8_block_598 : decode cX8_block 598 = .ok (.ldc2_w 115, 3) := by decide +kernel
theorem dX8_block_601 : decode cX8_block 601 = .ok (.land, 1) := by decide +kernel
theorem dX8_block_602 : decode cX8_block 602 = .ok (.lastore, 1) := by decide +kernel
theorem dX8_block_603 : decode cX8_block 603 = .ok (.aload_n 0, 1) := by decide +kernel
theorem dX8_block_604 : decode cX8_block 604 = .ok (.getfield 19, 3) := by decide +kernel
theorem dX8_block_607 : decode cX8_block 607 = .ok (.iconst 5, 1) := by decide +kernel
theorem dX8_block_608 : decode cX8_block 608 = .ok (.aload_n 0, 1) := by decide +kernel
theorem dX8_block_609 : decode cX8_block 609 = .ok (.getfield 19, 3) := by decide +kernel
theorem dX8_block_612 : decode cX8_block 612 = .ok (.iconst 5, 1) := by decide +kernel
theorem dX8_block_613 : decode cX8_block 613 = .ok (.laload, 1) := by decide +kernel
theorem dX8_block_614 : decode cX8_block 614 = .ok (.lload 14, 2) := by decide +kernel
theorem dX8_block_616 : decode cX8_block 616 = .ok (.ladd, 1) := by decide +kernel
theorem dX8_block_617 : decode cX8_block 617 = .ok (.ldc2_w 115, 3) := by decide +kernel
theorem dX8_block_620 : decode cX8_block 620 = .ok (.land, 1) := by decide +kernel
theorem dX8_block_621 : decode cX8_block 621 = .ok (.lastore, 1) := by decide +kernel
theorem dX8_block_622 : decode cX8_block 622 = .ok (.aload_n 0, 1) := by decide +kernel
theorem dX8_block_623 : decode cX8_block 623 = .ok (.getfield 19, 3) := by decide +kernel
theorem dX8_block_626 : decode cX8_block 626 = .ok (.bipush 6, 2) := by decide +kernel
theorem dX8_block_628 : decode cX8_block 628 = .ok (.aload_n 0, 1) := by decide +kernel
theorem dX8_block_629 : decode cX8_block 629 = .ok (.getfield 19, 3) := by decide +kernel
theorem dX8_block_632 : decode cX8_block 632 = .ok (.bipush 6, 2) := by decide +kernel
theorem dX8_block_634 : decode cX8_block 634 = .ok (.laload, 1) := by decide +kernel
theorem dX8_block_635 : decode cX8_block 635 = .ok (.lload 16, 2) := by decide +kernel
theorem dX8_block_637 : decode cX8_block 637 = .ok (.ladd, 1) := by decide +kernel
theorem dX8_block_638 : decode cX8_block 638 = .ok (.ldc2_w 115, 3) := by decide +kernel
theorem dX8_block_641 : decode cX8_block 641 = .ok (.land, 1) := by decide +kernel
theorem dX8_block_642 : decode cX8_block 642 = .ok (.lastore, 1) := by decide +kernel
theorem dX8_block_643 : decode cX8_block 643 = .ok (.aload_n 0, 1) := by decide +kernel
theorem dX8_block_644 : decode cX8_block 644 = .ok (.getfield 19, 3) := by decide +kernel
theorem dX8_block_647 : decode cX8_block 647 = .ok (.bipush 7, 2) := by decide +kernel
theorem dX8_block_649 : decode cX8_block 649 = .ok (.aload_n 0, 1) := by decide +kernel
theorem dX8_block_650 : decode cX8_block 650 = .ok (.getfield 19, 3) := by decide +kernel
theorem dX8_block_653 : decode cX8_block 653 = .ok (.bipush 7, 2) := by decide +kernel
theorem dX8_block_655 : decode cX8_block 655 = .ok (.laload, 1) := by decide +kernel
theorem dX8_block_656 : decode cX8_block 656 = .ok (.lload 18, 2) := by decide +kernel
theorem dX8_block_658 : decode cX8_block 658 = .ok (.ladd, 1) := by decide +kernel
theorem dX8_block_659 : decode cX8_block 659 = .ok (.ldc2_w 115, 3) := by decide +kernel
theorem dX8_block_662 : decode cX8_block 662 = .ok (.land, 1) := by decide +kernel
theorem dX8_block_663 : decode cX8_block 663 = .ok (.lastore, 1) := by decide +kernel
theorem dX8_block_664 : decode cX8_block 664 = .ok (.return_, 1) := by decide +kernel
theorem dX8_hashTo_0 : decode cX8_hashTo 0 = .ok (.iconst 0, 1) := by decide +kernel
theorem dX8_hashTo_1 : decode cX8_hashTo 1 = .ok (.istore_n 3, 1) := by decide +kernel
theorem dX8_hashTo_2 : decode cX8_hashTo 2 = .ok (.iload_n 3, 1) := by decide +kernel
theorem dX8_hashTo_3 : decode cX8_hashTo 3 = .ok (.bipush 8, 2) := by decide +kernel
theorem dX8_hashTo_5 : decode cX8_hashTo 5 = .ok (.if_icmp .ge 25, 3) := by decide +kernel
theorem dX8_hashTo_8 : decode cX8_hashTo 8 = .ok (.aload_n 0, 1) := by decide +kernel
theorem dX8_hashTo_9 : decode cX8_hashTo 9 = .ok (.getfield 19, 3) := by decide +kernel
theorem dX8_hashTo_12 : decode cX8_hashTo 12 = .ok (.iload_n 3, 1) := by decide +kernel
theorem dX8_hashTo_13 : decode cX8_hashTo 13 = .ok (.getstatic 124, 3) := by decide +kernel
theorem dX8_hashTo_16 : decode cX8_hashTo 16 = .ok (.iload_n 3, 1) := by decide +kernel
theorem dX8_hashTo_17 : decode cX8_hashTo 17 = .ok (.iaload, 1) := by decide +kernel
theorem dX8_hashTo_18 : decode cX8_hashTo 18 = .ok (.i2l, 1) := by decide +kernel
theorem dX8_hashTo_19 : decode cX8_hashTo 19 = .ok (.ldc2_w 115, 3) := by decide +kernel
theorem dX8_hashTo_22 : decode cX8_hashTo 22 = .ok (.land, 1) := by decide +kernel
theorem dX8_hashTo_23 : decode cX8_hashTo 23 = .ok (.lastore, 1) := by decide +kernel
theorem dX8_hashTo_24 : decode cX8_hashTo 24 = .ok (.iinc 3 1, 3) := by decide +kernel
theorem dX8_hashTo_27 : decode cX8_hashTo 27 = .ok (.goto (-25), 3) := by decide +kernel
theorem dX8_hashTo_30 : decode cX8_hashTo 30 = .ok (.aload_n 0, 1) := by decide +kernel
theorem dX8_hashTo_31 : decode cX8_hashTo 31 = .ok (.getfield 100, 3) := by decide +kernel
theorem dX8_hashTo_34 : decode cX8_hashTo 34 = .ok (.bipush 72, 2) := by decide +kernel
theorem dX8_hashTo_36 : decode cX8_hashTo 36 = .ok (.iadd, 1) := by decide +kernel
theorem dX8_hashTo_37 : decode cX8_hashTo 37 = .ok (.bipush 64, 2) := by decide +kernel
theorem dX8_hashTo_39 : decode cX8_hashTo 39 = .ok (.idiv, 1) := by decide +kernel
theorem dX8_hashTo_40 : decode cX8_hashTo 40 = .ok (.bipush 64, 2) := by decide +kernel
theorem dX8_hashTo_42 : decode cX8_hashTo 42 = .ok (.imul, 1) := by decide +kernel
theorem dX8_hashTo_43 : decode cX8_hashTo 43 = .ok (.istore_n 3, 1) := by decide +kernel
theorem dX8_hashTo_44 : decode cX8_hashTo 44 = .ok (.iconst 0, 1) := by decide +kernel
theorem dX8_hashTo_45 : decode cX8_hashTo 45 = .ok (.istore 4, 2) := by decide +kernel
theorem dX8_hashTo_47 : decode cX8_hashTo 47 = .ok (.iload 4, 2) := by decide +kernel
theorem dX8_hashTo_49 : decode cX8_hashTo 49 = .ok (.iload_n 3, 1) := by decide +kernel
theorem dX8_hashTo_50 : decode cX8_hashTo 50 = .ok (.if_icmp .ge 20, 3) := by decide +kernel
theorem dX8_hashTo_53 : decode cX8_hashTo 53 = .ok (.aload_n 0, 1) := by decide +kernel
theorem dX8_hashTo_54 : decode cX8_hashTo 54 = .ok (.iload 4, 2) := by decide +kernel
theorem dX8_hashTo_56 : decode cX8_hashTo 56 = .ok (.aload_n 0, 1) := by decide +kernel
theorem dX8_hashTo_57 : decode cX8_hashTo 57 = .ok (.getfield 100, 3) := by decide +kernel
theorem dX8_hashTo_60 : decode cX8_hashTo 60 = .ok (.iload_n 3, 1) := by decide +kernel
theorem dX8_hashTo_61 : decode cX8_hashTo 61 = .ok (.invokevirtual 127, 3) := by decide +kernel
theorem dX8_hashTo_64 : decode cX8_hashTo 64 = .ok (.iinc 4 64, 3) := by decide +kernel
theorem dX8_hashTo_67 : decode cX8_hashTo 67 = .ok (.goto (-20), 3) := by decide +kernel
theorem dX8_hashTo_70 : decode cX8_hashTo 70 = .ok (.iconst 0, 1) := by decide +kernel
theorem dX8_hashTo_71 : decode cX8_hashTo 71 = .ok (.istore 4, 2) := by decide +kernel
theorem dX8_hashTo_73 : decode cX8_hashTo 73 = .ok (.iload 4, 2) := by decide +kernel
theorem dX8_hashTo_75 : decode cX8_hashTo 75 = .ok (.bipush 32, 2) := by decide +kernel
theorem dX8_hashTo_77 : decode cX8_hashTo 77 = .ok (.if_icmp .ge 37, 3) := by decide +kernel
theorem dX8_hashTo_80 : decode cX8_hashTo 80 = .ok (.aload_n 1, 1) := by decide +kernel
theorem dX8_hashTo_81 : decode cX8_hashTo 81 = .ok (.iload_n 2, 1) := by decide +kernel
theorem dX8_hashTo_82 : decode cX8_hashTo 82 = .ok (.iload 4, 2) := by decide +kernel
theorem dX8_hashTo_84 : decode cX8_hashTo 84 = .ok (.iadd, 1) := by decide +kernel
theorem dX8_hashTo_85 : decode cX8_hashTo 85 = .ok (.aload_n 0, 1) := by decide +kernel
theorem dX8_hashTo_86 : decode cX8_hashTo 86 = .ok (.getfield 19, 3) := by decide +kernel
theorem dX8_hashTo_89 : decode cX8_hashTo 89 = .ok (.iload 4, 2) := by decide +kernel
theorem dX8_hashTo_91 : decode cX8_hashTo 91 = .ok (.iconst 4, 1) := by decide +kernel
theorem dX8_hashTo_92 : decode cX8_hashTo 92 = .ok (.idiv, 1) := by decide +kernel
theorem dX8_hashTo_93 : decode cX8_hashTo 93 = .ok (.laload, 1) := by decide +kernel
theorem dX8_hashTo_94 : decode cX8_hashTo 94 = .ok (.bipush 24, 2) := by decide +kernel
theorem dX8_hashTo_96 : decode cX8_hashTo 96 = .ok (.bipush 8, 2) := by decide +kernel
theorem dX8_hashTo_98 : decode cX8_hashTo 98 = .ok (.iload 4, 2) := by decide +kernel
theorem dX8_hashTo_100 : decode cX8_hashTo 100 = .ok (.iconst 4, 1) := by decide +kernel
theorem dX8_hashTo_101 : decode cX8_hashTo 101 = .ok (.irem, 1) := by decide +kernel
theorem dX8_hashTo_102 : decode cX8_hashTo 102 = .ok (.imul, 1) := by decide +kernel
theorem dX8_hashTo_103 : decode cX8_hashTo 103 = .ok (.isub, 1) := by decide +kernel
theorem dX8_hashTo_104 : decode cX8_hashTo 104 = .ok (.lshr, 1) := by decide +kernel
theorem dX8_hashTo_105 : decode cX8_hashTo 105 = .ok (.l2i, 1) := by decide +kernel
theorem dX8_hashTo_106 : decode cX8_hashTo 106 = .ok (.i2b, 1) := by decide +kernel
theorem dX8_hashTo_107 : decode cX8_hashTo 107 = .ok (.bastore, 1) := by decide +kernel
theorem dX8_hashTo_108 : decode cX8_hashTo 108 = .ok (.iinc 4 1, 3) := by decide +kernel
theorem dX8_hashTo_111 : decode cX8_hashTo 111 = .ok (.goto (-38), 3) := by decide +kernel
theorem dX8_hashTo_114 : decode cX8_hashTo 114 = .ok (.return_, 1) := by decide +kernel
theorem dX8_macTo_0 : decode cX8_macTo 0 = .ok (.aload_n 0, 1) := by decide +kernel
theorem dX8_macTo_1 : decode cX8_macTo 1 = .ok (.iconst 0, 1) := by decide +kernel
theorem dX8_macTo_2 : decode cX8_macTo 2 = .ok (.putfield 100, 3) := by decide +kernel
theorem dX8_macTo_5 : decode cX8_macTo 5 = .ok (.iconst 0, 1) := by decide +kernel
theorem dX8_macTo_6 : decode cX8_macTo 6 = .ok (.istore_n 3, 1) := by decide +kernel
theorem dX8_macTo_7 : decode cX8_macTo 7 = .ok (.iload_n 3, 1) := by decide +kernel
theorem dX8_macTo_8 : decode cX8_macTo 8 = .ok (.bipush 64, 2) := by decide +kernel
theorem dX8_macTo_10 : decode cX8_macTo 10 = .ok (.if_icmp .ge 32, 3) := by decide +kernel
theorem dX8_macTo_13 : decode cX8_macTo 13 = .ok (.aload_n 0, 1) := by decide +kernel
theorem dX8_macTo_14 : decode cX8_macTo 14 = .ok (.iload_n 3, 1) := by decide +kernel
theorem dX8_macTo_15 : decode cX8_macTo 15 = .ok (.bipush 32, 2) := by decide +kernel
theorem dX8_macTo_17 : decode cX8_macTo 17 = .ok (.if_icmp .ge 12, 3) := by decide +kernel
theorem dX8_macTo_20 : decode cX8_macTo 20 = .ok (.aload_n 0, 1) := by decide +kernel
theorem dX8_macTo_21 : decode cX8_macTo 21 = .ok (.getfield 29, 3) := by decide +kernel
theorem dX8_macTo_24 : decode cX8_macTo 24 = .ok (.iload_n 3, 1) := by decide +kernel
theorem dX8_macTo_25 : decode cX8_macTo 25 = .ok (.baload, 1) := by decide +kernel
theorem dX8_macTo_26 : decode cX8_macTo 26 = .ok (.goto 4, 3) := by decide +kernel
theorem dX8_macTo_29 : decode cX8_macTo 29 = .ok (.iconst 0, 1) := by decide +kernel
theorem dX8_macTo_30 : decode cX8_macTo 30 = .ok (.bipush 54, 2) := by decide +kernel
theorem dX8_macTo_32 : decode cX8_macTo 32 = .ok (.ixor, 1) := by decide +kernel
theorem dX8_macTo_33 : decode cX8_macTo 33 = .ok (.invokevirtual 104, 3) := by decide +kernel
theorem dX8_macTo_36 : decode cX8_macTo 36 = .ok (.iinc 3 1, 3) := by decide +kernel
theorem dX8_macTo_39 : decode cX8_macTo 39 = .ok (.goto (-32), 3) := by decide +kernel
theorem dX8_macTo_42 : decode cX8_macTo 42 = .ok (.aload_n 0, 1) := by decide +kernel
theorem dX8_macTo_43 : decode cX8_macTo 43 = .ok (.aload_n 0, 1) := by decide +kernel
theorem dX8_macTo_44 : decode cX8_macTo 44 = .ok (.getfield 32, 3) := by decide +kernel
theorem dX8_macTo_47 : decode cX8_macTo 47 = .ok (.iconst 0, 1) := by decide +kernel
theorem dX8_macTo_48 : decode cX8_macTo 48 = .ok (.aload_n 0, 1) := by decide +kernel
theorem dX8_macTo_49 : decode cX8_macTo 49 = .ok (.getfield 131, 3) := by decide +kernel
theorem dX8_macTo_52 : decode cX8_macTo 52 = .ok (.invokevirtual 134, 3) := by decide +kernel
theorem dX8_macTo_55 : decode cX8_macTo 55 = .ok (.aload_n 0, 1) := by decide +kernel
theorem dX8_macTo_56 : decode cX8_macTo 56 = .ok (.aload_n 0, 1) := by decide +kernel
theorem dX8_macTo_57 : decode cX8_macTo 57 = .ok (.getfield 26, 3) := by decide +kernel
theorem dX8_macTo_60 : decode cX8_macTo 60 = .ok (.iconst 0, 1) := by decide +kernel
theorem dX8_macTo_61 : decode cX8_macTo 61 = .ok (.invokevirtual 111, 3) := by decide +kernel
theorem dX8_macTo_64 : decode cX8_macTo 64 = .ok (.aload_n 0, 1) := by decide +kernel
theorem dX8_macTo_65 : decode cX8_macTo 65 = .ok (.iconst 0, 1) := by decide +kernel
theorem dX8_macTo_66 : decode cX8_macTo 66 = .ok (.putfield 100, 3) := by decide +kernel
theorem dX8_macTo_69 : decode cX8_macTo 69 = .ok (.iconst 0, 1) := by decide +kernel
theorem dX8_macTo_70 : decode cX8_macTo 70 = .ok (.istore_n 3, 1) := by decide +kernel
theorem dX8_macTo_71 : decode cX8_macTo 71 = .ok (.iload_n 3, 1) := by decide +kernel
theorem dX8_macTo_72 : decode cX8_macTo 72 = .ok (.bipush 64, 2) := by decide +kernel
theorem dX8_macTo_74 : decode cX8_macTo 74 = .ok (.if_icmp .ge 32, 3) := by decide +kernel
theorem dX8_macTo_77 : decode cX8_macTo 77 = .ok (.aload_n 0, 1) := by decide +kernel
theorem dX8_macTo_78 : decode cX8_macTo 78 = .ok (.iload_n 3, 1) := by decide +kernel
theorem dX8_macTo_79 : decode cX8_macTo 79 = .ok (.bipush 32, 2) := by decide +kernel
theorem dX8_macTo_81 : decode cX8_macTo 81 = .ok (.if_icmp .ge 12, 3) := by decide +kernel
theorem dX8_macTo_84 : decode cX8_macTo 84 = .ok (.aload_n 0, 1) := by decide +kernel
theorem dX8_macTo_85 : decode cX8_macTo 85 = .ok (.getfield 29, 3) := by decide +kernel
theorem dX8_macTo_88 : decode cX8_macTo 88 = .ok (.iload_n 3, 1) := by decide +kernel
theorem dX8_macTo_89 : decode cX8_macTo 89 = .ok (.baload, 1) := by decide +kernel
theorem dX8_macTo_90 : decode cX8_macTo 90 = .ok (.goto 4, 3) := by decide +kernel
theorem dX8_macTo_93 : decode cX8_macTo 93 = .ok (.iconst 0, 1) := by decide +kernel
theorem dX8_macTo_94 : decode cX8_macTo 94 = .ok (.bipush 92, 2) := by decide +kernel
theorem dX8_macTo_96 : decode cX8_macTo 96 = .ok (.ixor, 1) := by decide +kernel
theorem dX8_macTo_97 : decode cX8_macTo 97 = .ok (.invokevirtual 104, 3) := by decide +kernel
theorem dX8_macTo_100 : decode cX8_macTo 100 = .ok (.iinc 3 1, 3) := by decide +kernel
theorem dX8_macTo_103 : decode cX8_macTo 103 = .ok (.goto (-32), 3) := by decide +kernel
theorem dX8_macTo_106 : decode cX8_macTo 106 = .ok (.aload_n 0, 1) := by decide +kernel
theorem dX8_macTo_107 : decode cX8_macTo 107 = .ok (.aload_n 0, 1) := by decide +kernel
theorem dX8_macTo_108 : decode cX8_macTo 108 = .ok (.getfield 26, 3) := by decide +kernel
theorem dX8_macTo_111 : decode cX8_macTo 111 = .ok (.iconst 0, 1) := by decide +kernel
theorem dX8_macTo_112 : decode cX8_macTo 112 = .ok (.bipush 32, 2) := by decide +kernel
theorem dX8_macTo_114 : decode cX8_macTo 114 = .ok (.invokevirtual 134, 3) := by decide +kernel
theorem dX8_macTo_117 : decode cX8_macTo 117 = .ok (.aload_n 0, 1) := by decide +kernel
theorem dX8_macTo_118 : decode cX8_macTo 118 = .ok (.aload_n 1, 1) := by decide +kernel
theorem dX8_macTo_119 : decode cX8_macTo 119 = .ok (.iload_n 2, 1) := by decide +kernel
theorem dX8_macTo_120 : decode cX8_macTo 120 = .ok (.invokevirtual 111, 3) := by decide +kernel
theorem dX8_macTo_123 : decode cX8_macTo 123 = .ok (.return_, 1) := by decide +kernel
theorem dX8_macSeed_0 : decode cX8_macSeed 0 = .ok (.iconst 0, 1) := by decide +kernel
theorem dX8_macSeed_1 : decode cX8_macSeed 1 = .ok (.istore_n 2, 1) := by decide +kernel
theorem dX8_macSeed_2 : decode cX8_macSeed 2 = .ok (.iload_n 2, 1) := by decide +kernel
theorem dX8_macSeed_3 : decode cX8_macSeed 3 = .ok (.bipush 32, 2) := by decide +kernel
theorem dX8_macSeed_5 : decode cX8_macSeed 5 = .ok (.if_icmp .ge 21, 3) := by decide +kernel
theorem dX8_macSeed_8 : decode cX8_macSeed 8 = .ok (.aload_n 0, 1) := by decide +kernel
theorem dX8_macSeed_9 : decode cX8_macSeed 9 = .ok (.getfield 29, 3) := by decide +kernel
theorem dX8_macSeed_12 : decode cX8_macSeed 12 = .ok (.iload_n 2, 1) := by decide +kernel
theorem dX8_macSeed_13 : decode cX8_macSeed 13 = .ok (.aload_n 0, 1) := by decide +kernel
theorem dX8_macSeed_14 : decode cX8_macSeed 14 = .ok (.getfield 35, 3) := by decide +kernel
theorem dX8_macSeed_17 : decode cX8_macSeed 17 = .ok (.iload_n 2, 1) := by decide +kernel
theorem dX8_macSeed_18 : decode cX8_macSeed 18 = .ok (.baload, 1) := by decide +kernel
theorem dX8_macSeed_19 : decode cX8_macSeed 19 = .ok (.bastore, 1) := by decide +kernel
theorem dX8_macSeed_20 : decode cX8_macSeed 20 = .ok (.iinc 2 1, 3) := by decide +kernel
theorem dX8_macSeed_23 : decode cX8_macSeed 23 = .ok (.goto (-21), 3) := by decide +kernel
theorem dX8_macSeed_26 : decode cX8_macSeed 26 = .ok (.aload_n 0, 1) := by decide +kernel
theorem dX8_macSeed_27 : decode cX8_macSeed 27 = .ok (.getfield 32, 3) := by decide +kernel
theorem dX8_macSeed_30 : decode cX8_macSeed 30 = .ok (.iconst 0, 1) := by decide +kernel
theorem dX8_macSeed_31 : decode cX8_macSeed 31 = .ok (.iload_n 1, 1) := by decide +kernel
theorem dX8_macSeed_32 : decode cX8_macSeed 32 = .ok (.i2b, 1) := by decide +kernel
theorem dX8_macSeed_33 : decode cX8_macSeed 33 = .ok (.bastore, 1) := by decide +kernel
theorem dX8_macSeed_34 : decode cX8_macSeed 34 = .ok (.aload_n 0, 1) := by decide +kernel
theorem dX8_macSeed_35 : decode cX8_macSeed 35 = .ok (.iconst 1, 1) := by decide +kernel
theorem dX8_macSeed_36 : decode cX8_macSeed 36 = .ok (.putfield 131, 3) := by decide +kernel
theorem dX8_macSeed_39 : decode cX8_macSeed 39 = .ok (.return_, 1) := by decide +kernel
theorem dX8_same_0 : decode cX8_same 0 = .ok (.iconst 0, 1) := by decide +kernel
theorem dX8_same_1 : decode cX8_same 1 = .ok (.istore 4, 2) := by decide +kernel
theorem dX8_same_3 : decode cX8_same 3 = .ok (.iload 4, 2) := by decide +kernel
theorem dX8_same_5 : decode cX8_same 5 = .ok (.bipush 32, 2) := by decide +kernel
theorem dX8_same_7 : decode cX8_same 7 = .ok (.if_icmp .ge 26, 3) := by decide +kernel
theorem dX8_same_10 : decode cX8_same 10 = .ok (.aload_n 0, 1) := by decide +kernel
theorem dX8_same_11 : decode cX8_same 11 = .ok (.iload_n 1, 1) := by decide +kernel
theorem dX8_same_12 : decode cX8_same 12 = .ok (.iload 4, 2) := by decide +kernel
theorem dX8_same_14 : decode cX8_same 14 = .ok (.iadd, 1) := by decide +kernel
theorem dX8_same_15 : decode cX8_same 15 = .ok (.baload, 1) := by decide +kernel
theorem dX8_same_16 : decode cX8_same 16 = .ok (.aload_n 2, 1) := by decide +kernel
theorem dX8_same_17 : decode cX8_same 17 = .ok (.iload_n 3, 1) := by decide +kernel
theorem dX8_same_18 : decode cX8_same 18 = .ok (.iload 4, 2) := by decide +kernel
theorem dX8_same_20 : decode cX8_same 20 = .ok (.iadd, 1) := by decide +kernel
theorem dX8_same_21 : decode cX8_same 21 = .ok (.baload, 1) := by decide +kernel
theorem dX8_same_22 : decode cX8_same 22 = .ok (.if_icmp .eq 5, 3) := by decide +kernel
theorem dX8_same_25 : decode cX8_same 25 = .ok (.iconst 0, 1) := by decide +kernel
theorem dX8_same_26 : decode cX8_same 26 = .ok (.ireturn, 1) := by decide +kernel
theorem dX8_same_27 : decode cX8_same 27 = .ok (.iinc 4 1, 3) := by decide +kernel
theorem dX8_same_30 : decode cX8_same 30 = .ok (.goto (-27), 3) := by decide +kernel
theorem dX8_same_33 : decode cX8_same 33 = .ok (.iconst 1, 1) := by decide +kernel
theorem dX8_same_34 : decode cX8_same 34 = .ok (.ireturn, 1) := by decide +kernel
theorem dX8_tapeHash_0 : decode cX8_tapeHash 0 = .ok (.aload_n 0, 1) := by decide +kernel
theorem dX8_tapeHash_1 : decode cX8_tapeHash 1 = .ok (.iconst 0, 1) := by decide +kernel
theorem dX8_tapeHash_2 : decode cX8_tapeHash 2 = .ok (.putfield 100, 3) := by decide +kernel
theorem dX8_tapeHash_5 : decode cX8_tapeHash 5 = .ok (.aload_n 0, 1) := by decide +kernel
theorem dX8_tapeHash_6 : decode cX8_tapeHash 6 = .ok (.aload_n 0, 1) := by decide +kernel
theorem dX8_tapeHash_7 : decode cX8_tapeHash 7 = .ok (.getfield 9, 3) := by decide +kernel
theorem dX8_tapeHash_10 : decode cX8_tapeHash 10 = .ok (.iconst 0, 1) := by decide +kernel
theorem dX8_tapeHash_11 : decode cX8_tapeHash 11 = .ok (.aload_n 0, 1) := by decide +kernel
theorem dX8_tapeHash_12 : decode cX8_tapeHash 12 = .ok (.getfield 137, 3) := by decide +kernel
theorem dX8_tapeHash_15 : decode cX8_tapeHash 15 = .ok (.invokevirtual 134, 3) := by decide +kernel
theorem dX8_tapeHash_18 : decode cX8_tapeHash 18 = .ok (.aload_n 0, 1) := by decide +kernel
theorem dX8_tapeHash_19 : decode cX8_tapeHash 19 = .ok (.aload_n 1, 1) := by decide +kernel
theorem dX8_tapeHash_20 : decode cX8_tapeHash 20 = .ok (.iload_n 2, 1) := by decide +kernel
theorem dX8_tapeHash_21 : decode cX8_tapeHash 21 = .ok (.invokevirtual 111, 3) := by decide +kernel
theorem dX8_tapeHash_24 : decode cX8_tapeHash 24 = .ok (.return_, 1) := by decide +kernel
theorem dX8_put_0 : decode cX8_put 0 = .ok (.bipush 24, 2) := by decide +kernel
theorem dX8_put_2 : decode cX8_put 2 = .ok (.istore_n 2, 1) := by decide +kernel
theorem dX8_put_3 : decode cX8_put 3 = .ok (.iload_n 2, 1) := by decide +kernel
theorem dX8_put_4 : decode cX8_put 4 = .ok (.ifCond .lt 32, 3) := by decide +kernel
theorem dX8_put_7 : decode cX8_put 7 = .ok (.aload_n 0, 1) := by decide +kernel
theorem dX8_put_8 : decode cX8_put 8 = .ok (.getfield 9, 3) := by decide +kernel
theorem dX8_put_11 : decode cX8_put 11 = .ok (.aload_n 0, 1) := by decide +kernel
theorem dX8_put_12 : decode cX8_put 12 = .ok (.getfield 137, 3) := by decide +kernel
theorem dX8_put_15 : decode cX8_put 15 = .ok (.iload_n 1, 1) := by decide +kernel
theorem dX8_put_16 : decode cX8_put 16 = .ok (.iload_n 2, 1) := by decide +kernel
theorem dX8_put_17 : decode cX8_put 17 = .ok (.ishr, 1) := by decide +kernel
theorem dX8_put_18 : decode cX8_put 18 = .ok (.i2b, 1) := by decide +kernel
theorem dX8_put_19 : decode cX8_put 19 = .ok (.bastore, 1) := by decide +kernel
theorem dX8_put_20 : decode cX8_put 20 = .ok (.aload_n 0, 1) := by decide +kernel
theorem dX8_put_21 : decode cX8_put 21 = .ok (.dup, 1) := by decide +kernel
theorem dX8_put_22 : decode cX8_put 22 = .ok (.getfield 137, 3) := by decide +kernel
theorem dX8_put_25 : decode cX8_put 25 = .ok (.iconst 1, 1) := by decide +kernel
theorem dX8_put_26 : decode cX8_put 26 = .ok (.iadd, 1) := by decide +kernel
theorem dX8_put_27 : decode cX8_put 27 = .ok (.putfield 137, 3) := by decide +kernel
theorem dX8_put_30 : decode cX8_put 30 = .ok (.iinc 2 (-8), 3) := by decide +kernel
theorem dX8_put_33 : decode cX8_put 33 = .ok (.goto (-30), 3) := by decide +kernel
theorem dX8_put_36 : decode cX8_put 36 = .ok (.return_, 1) := by decide +kernel
theorem dX8_feed_0 : decode cX8_feed 0 = .ok (.aload_n 0, 1) := by decide +kernel
theorem dX8_feed_1 : decode cX8_feed 1 = .ok (.getfield 137, 3) := by decide +kernel
theorem dX8_feed_4 : decode cX8_feed 4 = .ok (.bipush 20, 2) := by decide +kernel
theorem dX8_feed_6 : decode cX8_feed 6 = .ok (.iadd, 1) := by decide +kernel
theorem dX8_feed_7 : decode cX8_feed 7 = .ok (.sipush 400, 3) := by decide +kernel
theorem dX8_feed_10 : decode cX8_feed 10 = .ok (.if_icmp .le 6, 3) := by decide +kernel
theorem dX8_feed_13 : decode cX8_feed 13 = .ok (.bipush (-3), 2) := by decide +kernel
theorem dX8_feed_15 : decode cX8_feed 15 = .ok (.ireturn, 1) := by decide +kernel
theorem dX8_feed_16 : decode cX8_feed 16 = .ok (.aload_n 0, 1) := by decide +kernel
theorem dX8_feed_17 : decode cX8_feed 17 = .ok (.iload_n 1, 1) := by decide +kernel
theorem dX8_feed_18 : decode cX8_feed 18 = .ok (.invokevirtual 140, 3) := by decide +kernel
theorem dX8_feed_21 : decode cX8_feed 21 = .ok (.aload_n 0, 1) := by decide +kernel
theorem dX8_feed_22 : decode cX8_feed 22 = .ok (.iload_n 2, 1) := by decide +kernel
theorem dX8_feed_23 : decode cX8_feed 23 = .ok (.invokevirtual 140, 3) := by decide +kernel
theorem dX8_feed_26 : decode cX8_feed 26 = .ok (.aload_n 0, 1) := by decide +kernel
theorem dX8_feed_27 : decode cX8_feed 27 = .ok (.iload_n 3, 1) := by decide +kernel
theorem dX8_feed_28 : decode cX8_feed 28 = .ok (.invokevirtual 140, 3) := by decide +kernel
theorem dX8_feed_31 : decode cX8_feed 31 = .ok (.aload_n 0, 1) := by decide +kernel
theorem dX8_feed_32 : decode cX8_feed 32 = .ok (.iload 4, 2) := by decide +kernel
theorem dX8_feed_34 : decode cX8_feed 34 = .ok (.invokevirtual 140, 3) := by decide +kernel
theorem dX8_feed_37 : decode cX8_feed 37 = .ok (.aload_n 0, 1) := by decide +kernel
theorem dX8_feed_38 : decode cX8_feed 38 = .ok (.iload 5, 2) := by decide +kernel
theorem dX8_feed_40 : decode cX8_feed 40 = .ok (.invokevirtual 140, 3) := by decide +kernel
theorem dX8_feed_43 : decode cX8_feed 43 = .ok (.aload_n 0, 1) := by decide +kernel
theorem dX8_feed_44 : decode cX8_feed 44 = .ok (.getfield 137, 3) := by decide +kernel
theorem dX8_feed_47 : decode cX8_feed 47 = .ok (.ireturn, 1) := by decide +kernel
theorem dX8_end_0 : decode cX8_end 0 = .ok (.iload_n 1, 1) := by decide +kernel
theorem dX8_end_1 : decode cX8_end 1 = .ok (.ifCond .lt 11, 3) := by decide +kernel
theorem dX8_end_4 : decode cX8_end 4 = .ok (.iload_n 1, 1) := by decide +kernel
theorem dX8_end_5 : decode cX8_end 5 = .ok (.aload_n 0, 1) := by decide +kernel
theorem dX8_end_6 : decode cX8_end 6 = .ok (.getfield 137, 3) := by decide +kernel
theorem dX8_end_9 : decode cX8_end 9 = .ok (.if_icmp .le 5, 3) := by decide +kernel
theorem dX8_end_12 : decode cX8_end 12 = .ok (.iconst (-1), 1) := by decide +kernel
theorem dX8_end_13 : decode cX8_end 13 = .ok (.ireturn, 1) := by decide +kernel
theorem dX8_end_14 : decode cX8_end 14 = .ok (.aload_n 0, 1) := by decide +kernel
theorem dX8_end_15 : decode cX8_end 15 = .ok (.iload_n 1, 1) := by decide +kernel
theorem dX8_end_16 : decode cX8_end 16 = .ok (.putfield 137, 3) := by decide +kernel
theorem dX8_end_19 : decode cX8_end 19 = .ok (.iload_n 1, 1) := by decide +kernel
theorem dX8_end_20 : decode cX8_end 20 = .ok (.ireturn, 1) := by decide +kernel
theorem dX8_octet_0 : decode cX8_octet 0 = .ok (.iload_n 1, 1) := by decide +kernel
theorem dX8_octet_1 : decode cX8_octet 1 = .ok (.iconst (-1), 1) := by decide +kernel
theorem dX8_octet_2 : decode cX8_octet 2 = .ok (.if_icmp .ne 8, 3) := by decide +kernel
theorem dX8_octet_5 : decode cX8_octet 5 = .ok (.aload_n 0, 1) := by decide +kernel
theorem dX8_octet_6 : decode cX8_octet 6 = .ok (.getfield 143, 3) := by decide +kernel
theorem dX8_octet_9 : decode cX8_octet 9 = .ok (.ireturn, 1) := by decide +kernel
theorem dX8_octet_10 : decode cX8_octet 10 = .ok (.iload_n 1, 1) := by decide +kernel
theorem dX8_octet_11 : decode cX8_octet 11 = .ok (.ifCond .lt 11, 3) := by decide +kernel
theorem dX8_octet_14 : decode cX8_octet 14 = .ok (.iload_n 1, 1) := by decide +kernel
theorem dX8_octet_15 : decode cX8_octet 15 = .ok (.aload_n 0, 1) := by decide +kernel
theorem dX8_octet_16 : decode cX8_octet 16 = .ok (.getfield 143, 3) := by decide +kernel
theorem dX8_octet_19 : decode cX8_octet 19 = .ok (.if_icmp .lt 8, 3) := by decide +kernel
theorem dX8_octet_22 : decode cX8_octet 22 = .ok (.bipush (-2), 2) := by decide +kernel
theorem dX8_octet_24 : decode cX8_octet 24 = .ok (.goto 13, 3) := by decide +kernel
theorem dX8_octet_27 : decode cX8_octet 27 = .ok (.aload_n 0, 1) := by decide +kernel
theorem dX8_octet_28 : decode cX8_octet 28 = .ok (.getfield 13, 3) := by decide +kernel
theorem dX8_octet_31 : decode cX8_octet 31 = .ok (.iload_n 1, 1) := by decide +kernel
theorem dX8_octet_32 : decode cX8_octet 32 = .ok (.baload, 1) := by decide +kernel
theorem dX8_octet_33 : decode cX8_octet 33 = .ok (.sipush 255, 3) := by decide +kernel
theorem dX8_octet_36 : decode cX8_octet 36 = .ok (.iand, 1) := by decide +kernel
theorem dX8_octet_37 : decode cX8_octet 37 = .ok (.ireturn, 1) := by decide +kernel
theorem dX8_back_0 : decode cX8_back 0 = .ok (.aload_n 0, 1) := by decide +kernel
theorem dX8_back_1 : decode cX8_back 1 = .ok (.getfield 137, 3) := by decide +kernel
theorem dX8_back_4 : decode cX8_back 4 = .ok (.aload_n 0, 1) := by decide +kernel
theorem dX8_back_5 : decode cX8_back 5 = .ok (.getfield 143, 3) := by decide +kernel
theorem dX8_back_8 : decode cX8_back 8 = .ok (.iadd, 1) := by decide +kernel
theorem dX8_back_9 : decode cX8_back 9 = .ok (.sipush 400, 3) := by decide +kernel
theorem dX8_back_12 : decode cX8_back 12 = .ok (.if_icmp .le 6, 3) := by decide +kernel
theorem dX8_back_15 : decode cX8_back 15 = .ok (.bipush (-3), 2) := by decide +kernel
theorem dX8_back_17 : decode cX8_back 17 = .ok (.ireturn, 1) := by decide +kernel
theorem dX8_back_18 : decode cX8_back 18 = .ok (.iconst 0, 1) := by decide +kernel
theorem dX8_back_19 : decode cX8_back 19 = .ok (.istore_n 1, 1) := by decide +kernel
theorem dX8_back_20 : decode cX8_back 20 = .ok (.iload_n 1, 1) := by decide +kernel
theorem dX8_back_21 : decode cX8_back 21 = .ok (.aload_n 0, 1) := by decide +kernel
theorem dX8_back_22 : decode cX8_back 22 = .ok (.getfield 143, 3) := by decide +kernel
theorem dX8_back_25 : decode cX8_back 25 = .ok (.if_icmp .ge 26, 3) := by decide +kernel
theorem dX8_back_28 : decode cX8_back 28 = .ok (.aload_n 0, 1) := by decide +kernel
theorem dX8_back_29 : decode cX8_back 29 = .ok (.getfield 9, 3) := by decide +kernel
theorem dX8_back_32 : decode cX8_back 32 = .ok (.aload_n 0, 1) := by decide +kernel
theorem dX8_back_33 : decode cX8_back 33 = .ok (.getfield 137, 3) := by decide +kernel
theorem dX8_back_36 : decode cX8_back 36 = .ok (.iload_n 1, 1) := by decide +kernel
theorem dX8_back_37 : decode cX8_back 37 = .ok (.iadd, 1) := by decide +kernel
theorem dX8_back_38 : decode cX8_back 38 = .ok (.aload_n 0, 1) := by decide +kernel
theorem dX8_back_39 : decode cX8_back 39 = .ok (.getfield 13, 3) := by decide +kernel
theorem dX8_back_42 : decode cX8_back 42 = .ok (.iload_n 1, 1) := by decide +kernel
theorem dX8_back_43 : decode cX8_back 43 = .ok (.baload, 1) := by decide +kernel
theorem dX8_back_44 : decode cX8_back 44 = .ok (.bastore, 1) := by decide +kernel
theorem dX8_back_45 : decode cX8_back 45 = .ok (.iinc 1 1, 3) := by decide +kernel
theorem dX8_back_48 : decode cX8_back 48 = .ok (.goto (-28), 3) := by decide +kernel
theorem dX8_back_51 : decode cX8_back 51 = .ok (.aload_n 0, 1) := by decide +kernel
theorem dX8_back_52 : decode cX8_back 52 = .ok (.dup, 1) := by decide +kernel
theorem dX8_back_53 : decode cX8_back 53 = .ok (.getfield 137, 3) := by decide +kernel
theorem dX8_back_56 : decode cX8_back 56 = .ok (.aload_n 0, 1) := by decide +kernel
theorem dX8_back_57 : decode cX8_back 57 = .ok (.getfield 143, 3) := by decide +kernel
theorem dX8_back_60 : decode cX8_back 60 = .ok (.iadd, 1) := by decide +kernel
theorem dX8_back_61 : decode cX8_back 61 = .ok (.putfield 137, 3) := by decide +kernel
theorem dX8_back_64 : decode cX8_back 64 = .ok (.aload_n 0, 1) := by decide +kernel
theorem dX8_back_65 : decode cX8_back 65 = .ok (.getfield 137, 3) := by decide +kernel
theorem dX8_back_68 : decode cX8_back 68 = .ok (.ireturn, 1) := by decide +kernel
theorem dX8_told_0 : decode cX8_told 0 = .ok (.aload_n 0, 1) := by decide +kernel
theorem dX8_told_1 : decode cX8_told 1 = .ok (.bipush 32, 2) := by decide +kernel
theorem dX8_told_3 : decode cX8_told 3 = .ok (.putfield 143, 3) := by decide +kernel
theorem dX8_told_6 : decode cX8_told 6 = .ok (.bipush 32, 2) := by decide +kernel
theorem dX8_told_8 : decode cX8_told 8 = .ok (.ireturn, 1) := by decide +kernel
theorem dX8_hash_0 : decode cX8_hash 0 = .ok (.aload_n 0, 1) := by decide +kernel
theorem dX8_hash_1 : decode cX8_hash 1 = .ok (.aload_n 0, 1) := by decide +kernel
theorem dX8_hash_2 : decode cX8_hash 2 = .ok (.getfield 13, 3) := by decide +kernel
theorem dX8_hash_5 : decode cX8_hash 5 = .ok (.iconst 0, 1) := by decide +kernel
theorem dX8_hash_6 : decode cX8_hash 6 = .ok (.invokevirtual 146, 3) := by decide +kernel
theorem dX8_hash_9 : decode cX8_hash 9 = .ok (.aload_n 0, 1) := by decide +kernel
theorem dX8_hash_10 : decode cX8_hash 10 = .ok (.iconst 0, 1) := by decide +kernel
theorem dX8_hash_11 : decode cX8_hash 11 = .ok (.putfield 137, 3) := by decide +kernel
theorem dX8_hash_14 : decode cX8_hash 14 = .ok (.aload_n 0, 1) := by decide +kernel
theorem dX8_hash_15 : decode cX8_hash 15 = .ok (.invokevirtual 149, 3) := by decide +kernel
theorem dX8_hash_18 : decode cX8_hash 18 = .ok (.ireturn, 1) := by decide +kernel
theorem dX8_key_0 : decode cX8_key 0 = .ok (.aload_n 0, 1) := by decide +kernel
theorem dX8_key_1 : decode cX8_key 1 = .ok (.aload_n 0, 1) := by decide +kernel
theorem dX8_key_2 : decode cX8_key 2 = .ok (.getfield 38, 3) := by decide +kernel
theorem dX8_key_5 : decode cX8_key 5 = .ok (.iconst 0, 1) := by decide +kernel
theorem dX8_key_6 : decode cX8_key 6 = .ok (.invokevirtual 146, 3) := by decide +kernel
theorem dX8_key_9 : decode cX8_key 9 = .ok (.aload_n 0, 1) := by decide +kernel
theorem dX8_key_10 : decode cX8_key 10 = .ok (.iconst 0, 1) := by decide +kernel
theorem dX8_key_11 : decode cX8_key 11 = .ok (.putfield 137, 3) := by decide +kernel
theorem dX8_key_14 : decode cX8_key 14 = .ok (.iconst 0, 1) := by decide +kernel
theorem dX8_key_15 : decode cX8_key 15 = .ok (.ireturn, 1) := by decide +kernel
theorem dX8_change_0 : decode cX8_change 0 = .ok (.iconst 0, 1) := by decide +kernel
theorem dX8_change_1 : decode cX8_change 1 = .ok (.istore_n 1, 1) := by decide +kernel
theorem dX8_change_2 : decode cX8_change 2 = .ok (.iload_n 1, 1) := by decide +kernel
theorem dX8_change_3 : decode cX8_change 3 = .ok (.iconst 4, 1) := by decide +kernel
theorem dX8_change_4 : decode cX8_change 4 = .ok (.if_icmp .ge 38, 3) := by decide +kernel
theorem dX8_change_7 : decode cX8_change 7 = .ok (.aload_n 0, 1) := by decide +kernel
theorem dX8_change_8 : decode cX8_change 8 = .ok (.getfield 57, 3) := by decide +kernel
theorem dX8_change_11 : decode cX8_change 11 = .ok (.iload_n 1, 1) := by decide +kernel
theorem dX8_change_12 : decode cX8_change 12 = .ok (.aload_n 0, 1) := by decide +kernel
theorem dX8_change_13 : decode cX8_change 13 = .ok (.getfield 57, 3) := by decide +kernel
theorem dX8_change_16 : decode cX8_change 16 = .ok (.iload_n 1, 1) := by decide +kernel
theorem dX8_change_17 : decode cX8_change 17 = .ok (.baload, 1) := by decide +kernel
theorem dX8_change_18 : decode cX8_change 18 = .ok (.ifCond .ne 12, 3) := by decide +kernel
theorem dX8_change_21 : decode cX8_change 21 = .ok (.aload_n 0, 1) := by decide +kernel
theorem dX8_change_22 : decode cX8_change 22 = .ok (.getfield 54, 3) := by decide +kernel
theorem dX8_change_25 : decode cX8_change 25 = .ok (.iload_n 1, 1) := by decide +kernel
theorem dX8_change_26 : decode cX8_change 26 = .ok (.baload, 1) := by decide +kernel
theorem dX8_change_27 : decode cX8_change 27 = .ok (.ifCond .eq 7, 3) := by decide +kernel
theorem dX8_change_30 : decode cX8_change 30 = .ok (.iconst 1, 1) := by decide +kernel
theorem dX8_change_31 : decode cX8_change 31 = .ok (.goto 4, 3) := by decide +kernel
theorem dX8_change_34 : decode cX8_change 34 = .ok (.iconst 0, 1) := by decide +kernel
theorem dX8_change_35 : decode cX8_change 35 = .ok (.bastore, 1) := by decide +kernel
theorem dX8_change_36 : decode cX8_change 36 = .ok (.iinc 1 1, 3) := by decide +kernel
theorem dX8_change_39 : decode cX8_change 39 = .ok (.goto (-37), 3) := by decide +kernel
theorem dX8_change_42 : decode cX8_change 42 = .ok (.return_, 1) := by decide +kernel
theorem dX8_extend_0 : decode cX8_extend 0 = .ok (.iload_n 1, 1) := by decide +kernel
theorem dX8_extend_1 : decode cX8_extend 1 = .ok (.ifCond .lt 13, 3) := by decide +kernel
theorem dX8_extend_4 : decode cX8_extend 4 = .ok (.iload_n 1, 1) := by decide +kernel
theorem dX8_extend_5 : decode cX8_extend 5 = .ok (.bipush 8, 2) := by decide +kernel
theorem dX8_extend_7 : decode cX8_extend 7 = .ok (.if_icmp .ge 7, 3) := by decide +kernel
theorem dX8_extend_10 : decode cX8_extend 10 = .ok (.iconst 1, 1) := by decide +kernel
theorem dX8_extend_11 : decode cX8_extend 11 = .ok (.goto 4, 3) := by decide +kernel
theorem dX8_extend_14 : decode cX8_extend 14 = .ok (.iconst 0, 1) := by decide +kernel
theorem dX8_extend_15 : decode cX8_extend 15 = .ok (.istore_n 2, 1) := by decide +kernel
theorem dX8_extend_16 : decode cX8_extend 16 = .ok (.iload_n 2, 1) := by decide +kernel
theorem dX8_extend_17 : decode cX8_extend 17 = .ok (.ifCond .eq 58, 3) := by decide +kernel
theorem dX8_extend_20 : decode cX8_extend 20 = .ok (.aload_n 0, 1) := by decide +kernel
theorem dX8_extend_21 : decode cX8_extend 21 = .ok (.aload_n 0, 1) := by decide +kernel
theorem dX8_extend_22 : decode cX8_extend 22 = .ok (.getfield 29, 3) := by decide +kernel
theorem dX8_extend_25 : decode cX8_extend 25 = .ok (.iconst 0, 1) := by decide +kernel
theorem dX8_extend_26 : decode cX8_extend 26 = .ok (.invokevirtual 146, 3) := by decide +kernel
theorem dX8_extend_29 : decode cX8_extend 29 = .ok (.aload_n 0, 1) := by decide +kernel
theorem dX8_extend_30 : decode cX8_extend 30 = .ok (.iconst 0, 1) := by decide +kernel
theorem dX8_extend_31 : decode cX8_extend 31 = .ok (.putfield 100, 3) := by decide +kernel
theorem dX8_extend_34 : decode cX8_extend 34 = .ok (.aload_n 0, 1) := by decide +kernel
theorem dX8_extend_35 : decode cX8_extend 35 = .ok (.aload_n 0, 1) := by decide +kernel
theorem dX8_extend_36 : decode cX8_extend 36 = .ok (.getfield 44, 3) := by decide +kernel
theorem dX8_extend_39 : decode cX8_extend 39 = .ok (.bipush 32, 2) := by decide +kernel
theorem dX8_extend_41 : decode cX8_extend 41 = .ok (.iload_n 1, 1) := by decide +kernel
theorem dX8_extend_42 : decode cX8_extend 42 = .ok (.imul, 1) := by decide +kernel
theorem dX8_extend_43 : decode cX8_extend 43 = .ok (.bipush 32, 2) := by decide +kernel
theorem dX8_extend_45 : decode cX8_extend 45 = .ok (.invokevirtual 134, 3) := by decide +kernel
theorem dX8_extend_48 : decode cX8_extend 48 = .ok (.aload_n 0, 1) := by decide +kernel
theorem dX8_extend_49 : decode cX8_extend 49 = .ok (.aload_n 0, 1) := by decide +kernel
theorem dX8_extend_50 : decode cX8_extend 50 = .ok (.getfield 29, 3) := by decide +kernel
theorem dX8_extend_53 : decode cX8_extend 53 = .ok (.iconst 0, 1) := by decide +kernel
theorem dX8_extend_54 : decode cX8_extend 54 = .ok (.bipush 32, 2) := by decide +kernel
theorem dX8_extend_56 : decode cX8_extend 56 = .ok (.invokevirtual 134, 3) := by decide +kernel
theorem dX8_extend_59 : decode cX8_extend 59 = .ok (.aload_n 0, 1) := by decide +kernel
theorem dX8_extend_60 : decode cX8_extend 60 = .ok (.aload_n 0, 1) := by decide +kernel
theorem dX8_extend_61 : decode cX8_extend 61 = .ok (.getfield 44, 3) := by decide +kernel
theorem dX8_extend_64 : decode cX8_extend 64 = .ok (.bipush 32, 2) := by decide +kernel
theorem dX8_extend_66 : decode cX8_extend 66 = .ok (.iload_n 1, 1) := by decide +kernel
theorem dX8_extend_67 : decode cX8_extend 67 = .ok (.imul, 1) := by decide +kernel
theorem dX8_extend_68 : decode cX8_extend 68 = .ok (.invokevirtual 111, 3) := by decide +kernel
theorem dX8_extend_71 : decode cX8_extend 71 = .ok (.aload_n 0, 1) := by decide +kernel
theorem dX8_extend_72 : decode cX8_extend 72 = .ok (.invokevirtual 153, 3) := by decide +kernel
theorem dX8_extend_75 : decode cX8_extend 75 = .ok (.aload_n 0, 1) := by decide +kernel
theorem dX8_extend_76 : decode cX8_extend 76 = .ok (.iconst 0, 1) := by decide +kernel
theorem dX8_extend_77 : decode cX8_extend 77 = .ok (.putfield 137, 3) := by decide +kernel
theorem dX8_extend_80 : decode cX8_extend 80 = .ok (.iload_n 2, 1) := by decide +kernel
theorem dX8_extend_81 : decode cX8_extend 81 = .ok (.ifCond .eq 7, 3) := by decide +kernel
theorem dX8_extend_84 : decode cX8_extend 84 = .ok (.iconst 0, 1) := by decide +kernel
theorem dX8_extend_85 : decode cX8_extend 85 = .ok (.goto 4, 3) := by decide +kernel
theorem dX8_extend_88 : decode cX8_extend 88 = .ok (.iconst (-1), 1) := by decide +kernel
theorem dX8_extend_89 : decode cX8_extend 89 = .ok (.ireturn, 1) := by decide +kernel
theorem dX8_reset_0 : decode cX8_reset 0 = .ok (.iload_n 1, 1) := by decide +kernel
theorem dX8_reset_1 : decode cX8_reset 1 = .ok (.bipush 6, 2) := by decide +kernel
theorem dX8_reset_3 : decode cX8_reset 3 = .ok (.if_icmp .eq 11, 3) := by decide +kernel
theorem dX8_reset_6 : decode cX8_reset 6 = .ok (.iload_n 1, 1) := by decide +kernel
theorem dX8_reset_7 : decode cX8_reset 7 = .ok (.bipush 7, 2) := by decide +kernel
theorem dX8_reset_9 : decode cX8_reset 9 = .ok (.if_icmp .eq 5, 3) := by decide +kernel
theorem dX8_reset_12 : decode cX8_reset 12 = .ok (.iconst (-1), 1) := by decide +kernel
theorem dX8_reset_13 : decode cX8_reset 13 = .ok (.ireturn, 1) := by decide +kernel
theorem dX8_reset_14 : decode cX8_reset 14 = .ok (.iconst 0, 1) := by decide +kernel
theorem dX8_reset_15 : decode cX8_reset 15 = .ok (.istore_n 2, 1) := by decide +kernel
theorem dX8_reset_16 : decode cX8_reset 16 = .ok (.iload_n 2, 1) := by decide +kernel
theorem dX8_reset_17 : decode cX8_reset 17 = .ok (.bipush 32, 2) := by decide +kernel
theorem dX8_reset_19 : decode cX8_reset 19 = .ok (.if_icmp .ge 21, 3) := by decide +kernel
theorem dX8_reset_22 : decode cX8_reset 22 = .ok (.aload_n 0, 1) := by decide +kernel
theorem dX8_reset_23 : decode cX8_reset 23 = .ok (.getfield 44, 3) := by decide +kernel
theorem dX8_reset_26 : decode cX8_reset 26 = .ok (.bipush 32, 2) := by decide +kernel
theorem dX8_reset_28 : decode cX8_reset 28 = .ok (.iload_n 1, 1) := by decide +kernel
theorem dX8_reset_29 : decode cX8_reset 29 = .ok (.imul, 1) := by decide +kernel
theorem dX8_reset_30 : decode cX8_reset 30 = .ok (.iload_n 2, 1) := by decide +kernel
theorem dX8_reset_31 : decode cX8_reset 31 = .ok (.iadd, 1) := by decide +kernel
theorem dX8_reset_32 : decode cX8_reset 32 = .ok (.iconst 0, 1) := by decide +kernel
theorem dX8_reset_33 : decode cX8_reset 33 = .ok (.bastore, 1) := by decide +kernel
theorem dX8_reset_34 : decode cX8_reset 34 = .ok (.iinc 2 1, 3) := by decide +kernel
theorem dX8_reset_37 : decode cX8_reset 37 = .ok (.goto (-21), 3) := by decide +kernel
theorem dX8_reset_40 : decode cX8_reset 40 = .ok (.aload_n 0, 1) := by decide +kernel
theorem dX8_reset_41 : decode cX8_reset 41 = .ok (.invokevirtual 153, 3) := by decide +kernel
theorem dX8_reset_44 : decode cX8_reset 44 = .ok (.iconst 0, 1) := by decide +kernel
theorem dX8_reset_45 : decode cX8_reset 45 = .ok (.ireturn, 1) := by decide +kernel
theorem dX8_stateTo_0 : decode cX8_stateTo 0 = .ok (.aload_n 0, 1) := by decide +kernel
theorem dX8_stateTo_1 : decode cX8_stateTo 1 = .ok (.iconst 0, 1) := by decide +kernel
theorem dX8_stateTo_2 : decode cX8_stateTo 2 = .ok (.putfield 100, 3) := by decide +kernel
theorem dX8_stateTo_5 : decode cX8_stateTo 5 = .ok (.iconst 0, 1) := by decide +kernel
theorem dX8_stateTo_6 : decode cX8_stateTo 6 = .ok (.istore 4, 2) := by decide +kernel
theorem dX8_stateTo_8 : decode cX8_stateTo 8 = .ok (.iload 4, 2) := by decide +kernel
theorem dX8_stateTo_10 : decode cX8_stateTo 10 = .ok (.bipush 8, 2) := by decide +kernel
theorem dX8_stateTo_12 : decode cX8_stateTo 12 = .ok (.if_icmp .ge 34, 3) := by decide +kernel
theorem dX8_stateTo_15 : decode cX8_stateTo 15 = .ok (.iload_n 1, 1) := by decide +kernel
theorem dX8_stateTo_16 : decode cX8_stateTo 16 = .ok (.iload 4, 2) := by decide +kernel
theorem dX8_stateTo_18 : decode cX8_stateTo 18 = .ok (.ishr, 1) := by decide +kernel
theorem dX8_stateTo_19 : decode cX8_stateTo 19 = .ok (.iconst 1, 1) := by decide +kernel
theorem dX8_stateTo_20 : decode cX8_stateTo 20 = .ok (.iand, 1) := by decide +kernel
theorem dX8_stateTo_21 : decode cX8_stateTo 21 = .ok (.iconst 1, 1) := by decide +kernel
theorem dX8_stateTo_22 : decode cX8_stateTo 22 = .ok (.if_icmp .ne 18, 3) := by decide +kernel
theorem dX8_stateTo_25 : decode cX8_stateTo 25 = .ok (.aload_n 0, 1) := by decide +kernel
theorem dX8_stateTo_26 : decode cX8_stateTo 26 = .ok (.aload_n 0, 1) := by decide +kernel
theorem dX8_stateTo_27 : decode cX8_stateTo 27 = .ok (.getfield 44, 3) := by decide +kernel
theorem dX8_stateTo_30 : decode cX8_stateTo 30 = .ok (.bipush 32, 2) := by decide +kernel
theorem dX8_stateTo_32 : decode cX8_stateTo 32 = .ok (.iload 4, 2) := by decide +kernel
theorem dX8_stateTo_34 : decode cX8_stateTo 34 = .ok (.imul, 1) := by decide +kernel
theorem dX8_stateTo_35 : decode cX8_stateTo 35 = .ok (.bipush 32, 2) := by decide +kernel
theorem dX8_stateTo_37 : decode cX8_stateTo 37 = .ok (.invokevirtual 134, 3) := by decide +kernel
theorem dX8_stateTo_40 : decode cX8_stateTo 40 = .ok (.iinc 4 1, 3) := by decide +kernel
theorem dX8_stateTo_43 : decode cX8_stateTo 43 = .ok (.goto (-35), 3) := by decide +kernel
theorem dX8_stateTo_46 : decode cX8_stateTo 46 = .ok (.aload_n 0, 1) := by decide +kernel
theorem dX8_stateTo_47 : decode cX8_stateTo 47 = .ok (.aload_n 2, 1) := by decide +kernel
theorem dX8_stateTo_48 : decode cX8_stateTo 48 = .ok (.iload_n 3, 1) := by decide +kernel
theorem dX8_stateTo_49 : decode cX8_stateTo 49 = .ok (.invokevirtual 111, 3) := by decide +kernel
theorem dX8_stateTo_52 : decode cX8_stateTo 52 = .ok (.return_, 1) := by decide +kernel
theorem dX8_state_0 : decode cX8_state 0 = .ok (.aload_n 0, 1) := by decide +kernel
theorem dX8_state_1 : decode cX8_state 1 = .ok (.iload_n 1, 1) := by decide +kernel
theorem dX8_state_2 : decode cX8_state 2 = .ok (.aload_n 0, 1) := by decide +kernel
theorem dX8_state_3 : decode cX8_state 3 = .ok (.getfield 13, 3) := by decide +kernel
theorem dX8_state_6 : decode cX8_state 6 = .ok (.iconst 0, 1) := by decide +kernel
theorem dX8_state_7 : decode cX8_state 7 = .ok (.invokevirtual 156, 3) := by decide +kernel
theorem dX8_state_10 : decode cX8_state 10 = .ok (.aload_n 0, 1) := by decide +kernel
theorem dX8_state_11 : decode cX8_state 11 = .ok (.invokevirtual 149, 3) := by decide +kernel
theorem dX8_state_14 : decode cX8_state 14 = .ok (.ireturn, 1) := by decide +kernel
theorem dX8_tell_0 : decode cX8_tell 0 = .ok (.aload_n 0, 1) := by decide +kernel
theorem dX8_tell_1 : decode cX8_tell 1 = .ok (.getfield 13, 3) := by decide +kernel
theorem dX8_tell_4 : decode cX8_tell 4 = .ok (.aload_n 0, 1) := by decide +kernel
theorem dX8_tell_5 : decode cX8_tell 5 = .ok (.getfield 143, 3) := by decide +kernel
theorem dX8_tell_8 : decode cX8_tell 8 = .ok (.iload_n 1, 1) := by decide +kernel
theorem dX8_tell_9 : decode cX8_tell 9 = .ok (.i2b, 1) := by decide +kernel
theorem dX8_tell_10 : decode cX8_tell 10 = .ok (.bastore, 1) := by decide +kernel
theorem dX8_tell_11 : decode cX8_tell 11 = .ok (.aload_n 0, 1) := by decide +kernel
theorem dX8_tell_12 : decode cX8_tell 12 = .ok (.dup, 1) := by decide +kernel
theorem dX8_tell_13 : decode cX8_tell 13 = .ok (.getfield 143, 3) := by decide +kernel
theorem dX8_tell_16 : decode cX8_tell 16 = .ok (.iconst 1, 1) := by decide +kernel
theorem dX8_tell_17 : decode cX8_tell 17 = .ok (.iadd, 1) := by decide +kernel
theorem dX8_tell_18 : decode cX8_tell 18 = .ok (.putfield 143, 3) := by decide +kernel
theorem dX8_tell_21 : decode cX8_tell 21 = .ok (.return_, 1) := by decide +kernel
theorem dX8_tellWord_0 : decode cX8_tellWord 0 = .ok (.bipush 24, 2) := by decide +kernel
theorem dX8_tellWord_2 : decode cX8_tellWord 2 = .ok (.istore_n 2, 1) := by decide +kernel
theorem dX8_tellWord_3 : decode cX8_tellWord 3 = .ok (.iload_n 2, 1) := by decide +kernel
theorem dX8_tellWord_4 : decode cX8_tellWord 4 = .ok (.ifCond .lt 16, 3) := by decide +kernel
theorem dX8_tellWord_7 : decode cX8_tellWord 7 = .ok (.aload_n 0, 1) := by decide +kernel
theorem dX8_tellWord_8 : decode cX8_tellWord 8 = .ok (.iload_n 1, 1) := by decide +kernel
theorem dX8_tellWord_9 : decode cX8_tellWord 9 = .ok (.iload_n 2, 1) := by decide +kernel
theorem dX8_tellWord_10 : decode cX8_tellWord 10 = .ok (.ishr, 1) := by decide +kernel
theorem dX8_tellWord_11 : decode cX8_tellWord 11 = .ok (.invokevirtual 160, 3) := by decide +kernel
theorem dX8_tellWord_14 : decode cX8_tellWord 14 = .ok (.iinc 2 (-8), 3) := by decide +kernel
theorem dX8_tellWord_17 : decode cX8_tellWord 17 = .ok (.goto (-14), 3) := by decide +kernel
theorem dX8_tellWord_20 : decode cX8_tellWord 20 = .ok (.return_, 1) := by decide +kernel
theorem dX8_quote_0 : decode cX8_quote 0 = .ok (.aload_n 0, 1) := by decide +kernel
theorem dX8_quote_1 : decode cX8_quote 1 = .ok (.getfield 137, 3) := by decide +kernel
theorem dX8_quote_4 : decode cX8_quote 4 = .ok (.istore_n 2, 1) := by decide +kernel
theorem dX8_quote_5 : decode cX8_quote 5 = .ok (.aload_n 0, 1) := by decide +kernel
theorem dX8_quote_6 : decode cX8_quote 6 = .ok (.iconst 0, 1) := by decide +kernel
theorem dX8_quote_7 : decode cX8_quote 7 = .ok (.putfield 137, 3) := by decide +kernel
theorem dX8_quote_10 : decode cX8_quote 10 = .ok (.iload_n 2, 1) := by decide +kernel
theorem dX8_quote_11 : decode cX8_quote 11 = .ok (.bipush 32, 2) := by decide +kernel
theorem dX8_quote_13 : decode cX8_quote 13 = .ok (.if_icmp .le 5, 3) := by decide +kernel
theorem dX8_quote_16 : decode cX8_quote 16 = .ok (.iconst (-1), 1) := by decide +kernel
theorem dX8_quote_17 : decode cX8_quote 17 = .ok (.ireturn, 1) := by decide +kernel
theorem dX8_quote_18 : decode cX8_quote 18 = .ok (.aload_n 0, 1) := by decide +kernel
theorem dX8_quote_19 : decode cX8_quote 19 = .ok (.iconst 0, 1) := by decide +kernel
theorem dX8_quote_20 : decode cX8_quote 20 = .ok (.putfield 143, 3) := by decide +kernel
theorem dX8_quote_23 : decode cX8_quote 23 = .ok (.aload_n 0, 1) := by decide +kernel
theorem dX8_quote_24 : decode cX8_quote 24 = .ok (.bipush 81, 2) := by decide +kernel
theorem dX8_quote_26 : decode cX8_quote 26 = .ok (.invokevirtual 160, 3) := by decide +kernel
theorem dX8_quote_29 : decode cX8_quote 29 = .ok (.aload_n 0, 1) := by decide +kernel
theorem dX8_quote_30 : decode cX8_quote 30 = .ok (.iload_n 1, 1) := by decide +kernel
theorem dX8_quote_31 : decode cX8_quote 31 = .ok (.invokevirtual 160, 3) := by decide +kernel
theorem dX8_quote_34 : decode cX8_quote 34 = .ok (.aload_n 0, 1) := by decide +kernel
theorem dX8_quote_35 : decode cX8_quote 35 = .ok (.iload_n 1, 1) := by decide +kernel
theorem dX8_quote_36 : decode cX8_quote 36 = .ok (.aload_n 0, 1) := by decide +kernel
theorem dX8_quote_37 : decode cX8_quote 37 = .ok (.getfield 13, 3) := by decide +kernel
theorem dX8_quote_40 : decode cX8_quote 40 = .ok (.iconst 2, 1) := by decide +kernel
theorem dX8_quote_41 : decode cX8_quote 41 = .ok (.invokevirtual 156, 3) := by decide +kernel
theorem dX8_quote_44 : decode cX8_quote 44 = .ok (.aload_n 0, 1) := by decide +kernel
theorem dX8_quote_45 : decode cX8_quote 45 = .ok (.dup, 1) := by decide +kernel
theorem dX8_quote_46 : decode cX8_quote 46 = .ok (.getfield 143, 3) := by decide +kernel
theorem dX8_quote_49 : decode cX8_quote 49 = .ok (.bipush 32, 2) := by decide +kernel
theorem dX8_quote_51 : decode cX8_quote 51 = .ok (.iadd, 1) := by decide +kernel
theorem dX8_quote_52 : decode cX8_quote 52 = .ok (.putfield 143, 3) := by decide +kernel
theorem dX8_quote_55 : decode cX8_quote 55 = .ok (.aload_n 0, 1) := by decide +kernel
theorem dX8_quote_56 : decode cX8_quote 56 = .ok (.aload_n 0, 1) := by decide +kernel
theorem dX8_quote_57 : decode cX8_quote 57 = .ok (.getfield 163, 3) := by decide +kernel
theorem dX8_quote_60 : decode cX8_quote 60 = .ok (.invokevirtual 166, 3) := by decide +kernel
theorem dX8_quote_63 : decode cX8_quote 63 = .ok (.aload_n 0, 1) := by decide +kernel
theorem dX8_quote_64 : decode cX8_quote 64 = .ok (.aload_n 0, 1) := by decide +kernel
theorem dX8_quote_65 : decode cX8_quote 65 = .ok (.getfield 169, 3) := by decide +kernel
theorem dX8_quote_68 : decode cX8_quote 68 = .ok (.invokevirtual 166, 3) := by decide +kernel
theorem dX8_quote_71 : decode cX8_quote 71 = .ok (.iconst 0, 1) := by decide +kernel
theorem dX8_quote_72 : decode cX8_quote 72 = .ok (.istore_n 3, 1) := by decide +kernel
theorem dX8_quote_73 : decode cX8_quote 73 = .ok (.iload_n 3, 1) := by decide +kernel
theorem dX8_quote_74 : decode cX8_quote 74 = .ok (.iload_n 2, 1) := by decide +kernel
theorem dX8_quote_75 : decode cX8_quote 75 = .ok (.if_icmp .ge 19, 3) := by decide +kernel
theorem dX8_quote_78 : decode cX8_quote 78 = .ok (.aload_n 0, 1) := by decide +kernel
theorem dX8_quote_79 : decode cX8_quote 79 = .ok (.aload_n 0, 1) := by decide +kernel
theorem dX8_quote_80 : decode cX8_quote 80 = .ok (.getfield 9, 3) := by decide +kernel
theorem dX8_quote_83 : decode cX8_quote 83 = .ok (.iload_n 3, 1) := by decide +kernel
theorem dX8_quote_84 : decode cX8_quote 84 = .ok (.baload, 1) := by decide +kernel
theorem dX8_quote_85 : decode cX8_quote 85 = .ok (.invokevirtual 160, 3) := by decide +kernel
theorem dX8_quote_88 : decode cX8_quote 88 = .ok (.iinc 3 1, 3) := by decide +kernel
theorem dX8_quote_91 : decode cX8_quote 91 = .ok (.goto (-18), 3) := by decide +kernel
theorem dX8_quote_94 : decode cX8_quote 94 = .ok (.aload_n 0, 1) := by decide +kernel
theorem dX8_quote_95 : decode cX8_quote 95 = .ok (.bipush 81, 2) := by decide +kernel
theorem dX8_quote_97 : decode cX8_quote 97 = .ok (.invokevirtual 172, 3) := by decide +kernel
theorem dX8_quote_100 : decode cX8_quote 100 = .ok (.aload_n 0, 1) := by decide +kernel
theorem dX8_quote_101 : decode cX8_quote 101 = .ok (.aload_n 0, 1) := by decide +kernel
theorem dX8_quote_102 : decode cX8_quote 102 = .ok (.getfield 29, 3) := by decide +kernel
theorem dX8_quote_105 : decode cX8_quote 105 = .ok (.iconst 0, 1) := by decide +kernel
theorem dX8_quote_106 : decode cX8_quote 106 = .ok (.invokevirtual 175, 3) := by decide +kernel
theorem dX8_quote_109 : decode cX8_quote 109 = .ok (.aload_n 0, 1) := by decide +kernel
theorem dX8_quote_110 : decode cX8_quote 110 = .ok (.aload_n 0, 1) := by decide +kernel
theorem dX8_quote_111 : decode cX8_quote 111 = .ok (.getfield 143, 3) := by decide +kernel
theorem dX8_quote_114 : decode cX8_quote 114 = .ok (.putfield 131, 3) := by decide +kernel
theorem dX8_quote_117 : decode cX8_quote 117 = .ok (.iconst 0, 1) := by decide +kernel
theorem dX8_quote_118 : decode cX8_quote 118 = .ok (.istore_n 3, 1) := by decide +kernel
theorem dX8_quote_119 : decode cX8_quote 119 = .ok (.iload_n 3, 1) := by decide +kernel
theorem dX8_quote_120 : decode cX8_quote 120 = .ok (.aload_n 0, 1) := by decide +kernel
theorem dX8_quote_121 : decode cX8_quote 121 = .ok (.getfield 143, 3) := by decide +kernel
theorem dX8_quote_124 : decode cX8_quote 124 = .ok (.if_icmp .ge 21, 3) := by decide +kernel
theorem dX8_quote_127 : decode cX8_quote 127 = .ok (.aload_n 0, 1) := by decide +kernel
theorem dX8_quote_128 : decode cX8_quote 128 = .ok (.getfield 32, 3) := by decide +kernel
theorem dX8_quote_131 : decode cX8_quote 131 = .ok (.iload_n 3, 1) := by decide +kernel
theorem dX8_quote_132 : decode cX8_quote 132 = .ok (.aload_n 0, 1) := by decide +kernel
theorem dX8_quote_133 : decode cX8_quote 133 = .ok (.getfield 13, 3) := by decide +kernel
theorem dX8_quote_136 : decode cX8_quote 136 = .ok (.iload_n 3, 1) := by decide +kernel
theorem dX8_quote_137 : decode cX8_quote 137 = .ok (.baload, 1) := by decide +kernel
theorem dX8_quote_138 : decode cX8_quote 138 = .ok (.bastore, 1) := by decide +kernel
theorem dX8_quote_139 : decode cX8_quote 139 = .ok (.iinc 3 1, 3) := by decide +kernel
theorem dX8_quote_142 : decode cX8_quote 142 = .ok (.goto (-23), 3) := by decide +kernel
theorem dX8_quote_145 : decode cX8_quote 145 = .ok (.aload_n 0, 1) := by decide +kernel
theorem dX8_quote_146 : decode cX8_quote 146 = .ok (.aload_n 0, 1) := by decide +kernel
theorem dX8_quote_147 : decode cX8_quote 147 = .ok (.getfield 13, 3) := by decide +kernel
theorem dX8_quote_150 : decode cX8_quote 150 = .ok (.aload_n 0, 1) := by decide +kernel
theorem dX8_quote_151 : decode cX8_quote 151 = .ok (.getfield 143, 3) := by decide +kernel
theorem dX8_quote_154 : decode cX8_quote 154 = .ok (.invokevirtual 175, 3) := by decide +kernel
theorem dX8_quote_157 : decode cX8_quote 157 = .ok (.aload_n 0, 1) := by decide +kernel
theorem dX8_quote_158 : decode cX8_quote 158 = .ok (.dup, 1) := by decide +kernel
theorem dX8_quote_159 : decode cX8_quote 159 = .ok (.getfield 143, 3) := by decide +kernel
theorem dX8_quote_162 : decode cX8_quote 162 = .ok (.bipush 32, 2) := by decide +kernel
theorem dX8_quote_164 : decode cX8_quote 164 = .ok (.iadd, 1) := by decide +kernel
theorem dX8_quote_165 : decode cX8_quote 165 = .ok (.putfield 143, 3) := by decide +kernel
theorem dX8_quote_168 : decode cX8_quote 168 = .ok (.aload_n 0, 1) := by decide +kernel
theorem dX8_quote_169 : decode cX8_quote 169 = .ok (.getfield 143, 3) := by decide +kernel
theorem dX8_quote_172 : decode cX8_quote 172 = .ok (.ireturn, 1) := by decide +kernel
theorem dX8_isSession_0 : decode cX8_isSession 0 = .ok (.iload_n 0, 1) := by decide +kernel
theorem dX8_isSession_1 : decode cX8_isSession 1 = .ok (.ifCond .lt 12, 3) := by decide +kernel
theorem dX8_isSession_4 : decode cX8_isSession 4 = .ok (.iload_n 0, 1) := by decide +kernel
theorem dX8_isSession_5 : decode cX8_isSession 5 = .ok (.iconst 4, 1) := by decide +kernel
theorem dX8_isSession_6 : decode cX8_isSession 6 = .ok (.if_icmp .ge 7, 3) := by decide +kernel
theorem dX8_isSession_9 : decode cX8_isSession 9 = .ok (.iconst 1, 1) := by decide +kernel
theorem dX8_isSession_10 : decode cX8_isSession 10 = .ok (.goto 4, 3) := by decide +kernel
theorem dX8_isSession_13 : decode cX8_isSession 13 = .ok (.iconst 0, 1) := by decide +kernel
theorem dX8_isSession_14 : decode cX8_isSession 14 = .ok (.ireturn, 1) := by decide +kernel
theorem dX8_opened_0 : decode cX8_opened 0 = .ok (.iload_n 1, 1) := by decide +kernel
theorem dX8_opened_1 : decode cX8_opened 1 = .ok (.invokestatic 178, 3) := by decide +kernel
theorem dX8_opened_4 : decode cX8_opened 4 = .ok (.ifCond .eq 16, 3) := by decide +kernel
theorem dX8_opened_7 : decode cX8_opened 7 = .ok (.aload_n 0, 1) := by decide +kernel
theorem dX8_opened_8 : decode cX8_opened 8 = .ok (.getfield 47, 3) := by decide +kernel
theorem dX8_opened_11 : decode cX8_opened 11 = .ok (.iload_n 1, 1) := by decide +kernel
theorem dX8_opened_12 : decode cX8_opened 12 = .ok (.baload, 1) := by decide +kernel
theorem dX8_opened_13 : decode cX8_opened 13 = .ok (.ifCond .eq 7, 3) := by decide +kernel
theorem dX8_opened_16 : decode cX8_opened 16 = .ok (.iconst 1, 1) := by decide +kernel
theorem dX8_opened_17 : decode cX8_opened 17 = .ok (.goto 4, 3) := by decide +kernel
theorem dX8_opened_20 : decode cX8_opened 20 = .ok (.iconst 0, 1) := by decide +kernel
theorem dX8_opened_21 : decode cX8_opened 21 = .ok (.ireturn, 1) := by decide +kernel
theorem dX8_open_0 : decode cX8_open 0 = .ok (.iload_n 1, 1) := by decide +kernel
theorem dX8_open_1 : decode cX8_open 1 = .ok (.invokestatic 178, 3) := by decide +kernel
theorem dX8_open_4 : decode cX8_open 4 = .ok (.ifCond .ne 5, 3) := by decide +kernel
theorem dX8_open_7 : decode cX8_open 7 = .ok (.iconst (-1), 1) := by decide +kernel
theorem dX8_open_8 : decode cX8_open 8 = .ok (.ireturn, 1) := by decide +kernel
theorem dX8_open_9 : decode cX8_open 9 = .ok (.aload_n 0, 1) := by decide +kernel
theorem dX8_open_10 : decode cX8_open 10 = .ok (.getfield 47, 3) := by decide +kernel
theorem dX8_open_13 : decode cX8_open 13 = .ok (.iload_n 1, 1) := by decide +kernel
theorem dX8_open_14 : decode cX8_open 14 = .ok (.iconst 1, 1) := by decide +kernel
theorem dX8_open_15 : decode cX8_open 15 = .ok (.bastore, 1) := by decide +kernel
theorem dX8_open_16 : decode cX8_open 16 = .ok (.iconst 0, 1) := by decide +kernel
theorem dX8_open_17 : decode cX8_open 17 = .ok (.istore_n 2, 1) := by decide +kernel
theorem dX8_open_18 : decode cX8_open 18 = .ok (.iload_n 2, 1) := by decide +kernel
theorem dX8_open_19 : decode cX8_open 19 = .ok (.bipush 32, 2) := by decide +kernel
theorem dX8_open_21 : decode cX8_open 21 = .ok (.if_icmp .ge 21, 3) := by decide +kernel
theorem dX8_open_24 : decode cX8_open 24 = .ok (.aload_n 0, 1) := by decide +kernel
theorem dX8_open_25 : decode cX8_open 25 = .ok (.getfield 51, 3) := by decide +kernel
theorem dX8_open_28 : decode cX8_open 28 = .ok (.bipush 32, 2) := by decide +kernel
theorem dX8_open_30 : decode cX8_open 30 = .ok (.iload_n 1, 1) := by decide +kernel
theorem dX8_open_31 : decode cX8_open 31 = .ok (.imul, 1) := by decide +kernel
theorem dX8_open_32 : decode cX8_open 32 = .ok (.iload_n 2, 1) := by decide +kernel
theorem dX8_open_33 : decode cX8_open 33 = .ok (.iadd, 1) := by decide +kernel
theorem dX8_open_34 : decode cX8_open 34 = .ok (.iconst 0, 1) := by decide +kernel
theorem dX8_open_35 : decode cX8_open 35 = .ok (.bastore, 1) := by decide +kernel
theorem dX8_open_36 : decode cX8_open 36 = .ok (.iinc 2 1, 3) := by decide +kernel
theorem dX8_open_39 : decode cX8_open 39 = .ok (.goto (-21), 3) := by decide +kernel
theorem dX8_open_42 : decode cX8_open 42 = .ok (.aload_n 0, 1) := by decide +kernel
theorem dX8_open_43 : decode cX8_open 43 = .ok (.getfield 54, 3) := by decide +kernel
theorem dX8_open_46 : decode cX8_open 46 = .ok (.iload_n 1, 1) := by decide +kernel
theorem dX8_open_47 : decode cX8_open 47 = .ok (.iconst 0, 1) := by decide +kernel
theorem dX8_open_48 : decode cX8_open 48 = .ok (.bastore, 1) := by decide +kernel
theorem dX8_open_49 : decode cX8_open 49 = .ok (.aload_n 0, 1) := by decide +kernel
theorem dX8_open_50 : decode cX8_open 50 = .ok (.getfield 57, 3) := by decide +kernel
theorem dX8_open_53 : decode cX8_open 53 = .ok (.iload_n 1, 1) := by decide +kernel
theorem dX8_open_54 : decode cX8_open 54 = .ok (.iconst 0, 1) := by decide +kernel
theorem dX8_open_55 : decode cX8_open 55 = .ok (.bastore, 1) := by decide +kernel
theorem dX8_open_56 : decode cX8_open 56 = .ok (.aload_n 0, 1) := by decide +kernel
theorem dX8_open_57 : decode cX8_open 57 = .ok (.getfield 60, 3) := by decide +kernel
theorem dX8_open_60 : decode cX8_open 60 = .ok (.iload_n 1, 1) := by decide +kernel
theorem dX8_open_61 : decode cX8_open 61 = .ok (.iconst 0, 1) := by decide +kernel
theorem dX8_open_62 : decode cX8_open 62 = .ok (.bastore, 1) := by decide +kernel
theorem dX8_open_63 : decode cX8_open 63 = .ok (.aload_n 0, 1) := by decide +kernel
theorem dX8_open_64 : decode cX8_open 64 = .ok (.getfield 63, 3) := by decide +kernel
theorem dX8_open_67 : decode cX8_open 67 = .ok (.iload_n 1, 1) := by decide +kernel
theorem dX8_open_68 : decode cX8_open 68 = .ok (.iconst 0, 1) := by decide +kernel
theorem dX8_open_69 : decode cX8_open 69 = .ok (.bastore, 1) := by decide +kernel
theorem dX8_open_70 : decode cX8_open 70 = .ok (.aload_n 0, 1) := by decide +kernel
theorem dX8_open_71 : decode cX8_open 71 = .ok (.getfield 66, 3) := by decide +kernel
theorem dX8_open_74 : decode cX8_open 74 = .ok (.iload_n 1, 1) := by decide +kernel
theorem dX8_open_75 : decode cX8_open 75 = .ok (.iconst 0, 1) := by decide +kernel
theorem dX8_open_76 : decode cX8_open 76 = .ok (.iastore, 1) := by decide +kernel
theorem dX8_open_77 : decode cX8_open 77 = .ok (.iconst 0, 1) := by decide +kernel
theorem dX8_open_78 : decode cX8_open 78 = .ok (.ireturn, 1) := by decide +kernel
theorem dX8_begin_0 : decode cX8_begin 0 = .ok (.aload_n 0, 1) := by decide +kernel
theorem dX8_begin_1 : decode cX8_begin 1 = .ok (.iconst 0, 1) := by decide +kernel
theorem dX8_begin_2 : decode cX8_begin 2 = .ok (.putfield 100, 3) := by decide +kernel
theorem dX8_begin_5 : decode cX8_begin 5 = .ok (.aload_n 0, 1) := by decide +kernel
theorem dX8_begin_6 : decode cX8_begin 6 = .ok (.aload_n 0, 1) := by decide +kernel
theorem dX8_begin_7 : decode cX8_begin 7 = .ok (.getfield 51, 3) := by decide +kernel
theorem dX8_begin_10 : decode cX8_begin 10 = .ok (.bipush 32, 2) := by decide +kernel
theorem dX8_begin_12 : decode cX8_begin 12 = .ok (.iload_n 1, 1) := by decide +kernel
theorem dX8_begin_13 : decode cX8_begin 13 = .ok (.imul, 1) := by decide +kernel
theorem dX8_begin_14 : decode cX8_begin 14 = .ok (.bipush 32, 2) := by decide +kernel
theorem dX8_begin_16 : decode cX8_begin 16 = .ok (.invokevirtual 134, 3) := by decide +kernel
theorem dX8_begin_19 : decode cX8_begin 19 = .ok (.aload_n 0, 1) := by decide +kernel
theorem dX8_begin_20 : decode cX8_begin 20 = .ok (.iload_n 2, 1) := by decide +kernel
theorem dX8_begin_21 : decode cX8_begin 21 = .ok (.invokevirtual 104, 3) := by decide +kernel
theorem dX8_begin_24 : decode cX8_begin 24 = .ok (.return_, 1) := by decide +kernel
