theorem dX2_accuse_8 : decode cX2_accuse 8 = .ok (.iload_n 1, 1) := by decide +kernel
theorem dX2_accuse_9 : decode cX2_accuse 9 = .ok (.iconst 2, 1) := by decide +kernel
theorem dX2_accuse_10 : decode cX2_accuse 10 = .ok (.if_icmp .eq 11, 3) := by decide +kernel
theorem dX2_accuse_13 : decode cX2_accuse 13 = .ok (.aload_n 0, 1) := by decide +kernel
theorem dX2_accuse_14 : decode cX2_accuse 14 = .ok (.iload_n 3, 1) := by decide +kernel
theorem dX2_accuse_15 : decode cX2_accuse 15 = .ok (.invokevirtual 150, 3) := by decide +kernel
theorem dX2_accuse_18 : decode cX2_accuse 18 = .ok (.ifCond .eq 18, 3) := by decide +kernel
theorem dX2_accuse_21 : decode cX2_accuse 21 = .ok (.iload 4, 2) := by decide +kernel
theorem dX2_accuse_23 : decode cX2_accuse 23 = .ok (.iconst (-1), 1) := by decide +kernel
theorem dX2_accuse_24 : decode cX2_accuse 24 = .ok (.if_icmp .eq 16, 3) := by decide +kernel
theorem dX2_accuse_27 : decode cX2_accuse 27 = .ok (.aload_n 0, 1) := by decide +kernel
theorem dX2_accuse_28 : decode cX2_accuse 28 = .ok (.iload 4, 2) := by decide +kernel
theorem dX2_accuse_30 : decode cX2_accuse 30 = .ok (.invokevirtual 121, 3) := by decide +kernel
theorem dX2_accuse_33 : decode cX2_accuse 33 = .ok (.ifCond .ne 7, 3) := by decide +kernel
theorem dX2_accuse_36 : decode cX2_accuse 36 = .ok (.ldc2_w 124, 3) := by decide +kernel
theorem dX2_accuse_39 : decode cX2_accuse 39 = .ok (.lreturn, 1) := by decide +kernel
theorem dX2_accuse_40 : decode cX2_accuse 40 = .ok (.iload_n 1, 1) := by decide +kernel
theorem dX2_accuse_41 : decode cX2_accuse 41 = .ok (.i2l, 1) := by decide +kernel
theorem dX2_accuse_42 : decode cX2_accuse 42 = .ok (.lconst 0, 1) := by decide +kernel
theorem dX2_accuse_43 : decode cX2_accuse 43 = .ok (.ldc2_w 91, 3) := by decide +kernel
theorem dX2_accuse_46 : decode cX2_accuse 46 = .ok (.invokestatic 117, 3) := by decide +kernel
theorem dX2_accuse_49 : decode cX2_accuse 49 = .ok (.ifCond .ne 7, 3) := by decide +kernel
theorem dX2_accuse_52 : decode cX2_accuse 52 = .ok (.ldc2_w 126, 3) := by decide +kernel
theorem dX2_accuse_55 : decode cX2_accuse 55 = .ok (.lreturn, 1) := by decide +kernel
theorem dX2_accuse_56 : decode cX2_accuse 56 = .ok (.aload_n 0, 1) := by decide +kernel
theorem dX2_accuse_57 : decode cX2_accuse 57 = .ok (.iload_n 1, 1) := by decide +kernel
theorem dX2_accuse_58 : decode cX2_accuse 58 = .ok (.iload_n 2, 1) := by decide +kernel
theorem dX2_accuse_59 : decode cX2_accuse 59 = .ok (.iload_n 1, 1) := by decide +kernel
theorem dX2_accuse_60 : decode cX2_accuse 60 = .ok (.iconst 2, 1) := by decide +kernel
theorem dX2_accuse_61 : decode cX2_accuse 61 = .ok (.if_icmp .ne 7, 3) := by decide +kernel
theorem dX2_accuse_64 : decode cX2_accuse 64 = .ok (.iload_n 2, 1) := by decide +kernel
theorem dX2_accuse_65 : decode cX2_accuse 65 = .ok (.goto 4, 3) := by decide +kernel
theorem dX2_accuse_68 : decode cX2_accuse 68 = .ok (.iload_n 3, 1) := by decide +kernel
theorem dX2_accuse_69 : decode cX2_accuse 69 = .ok (.invokevirtual 153, 3) := by decide +kernel
theorem dX2_accuse_72 : decode cX2_accuse 72 = .ok (.ifCond .ne 7, 3) := by decide +kernel
theorem dX2_accuse_75 : decode cX2_accuse 75 = .ok (.ldc2_w 156, 3) := by decide +kernel
theorem dX2_accuse_78 : decode cX2_accuse 78 = .ok (.lreturn, 1) := by decide +kernel
theorem dX2_accuse_79 : decode cX2_accuse 79 = .ok (.aload_n 0, 1) := by decide +kernel
theorem dX2_accuse_80 : decode cX2_accuse 80 = .ok (.getfield 30, 3) := by decide +kernel
theorem dX2_accuse_83 : decode cX2_accuse 83 = .ok (.iload_n 2, 1) := by decide +kernel
theorem dX2_accuse_84 : decode cX2_accuse 84 = .ok (.iaload, 1) := by decide +kernel
theorem dX2_accuse_85 : decode cX2_accuse 85 = .ok (.istore 5, 2) := by decide +kernel
theorem dX2_accuse_87 : decode cX2_accuse 87 = .ok (.iload_n 1, 1) := by decide +kernel
theorem dX2_accuse_88 : decode cX2_accuse 88 = .ok (.ifCond .le 18, 3) := by decide +kernel
theorem dX2_accuse_91 : decode cX2_accuse 91 = .ok (.aload_n 0, 1) := by decide +kernel
theorem dX2_accuse_92 : decode cX2_accuse 92 = .ok (.getfield 82, 3) := by decide +kernel
theorem dX2_accuse_95 : decode cX2_accuse 95 = .ok (.iload 5, 2) := by decide +kernel
theorem dX2_accuse_97 : decode cX2_accuse 97 = .ok (.iconst 2, 1) := by decide +kernel
theorem dX2_accuse_98 : decode cX2_accuse 98 = .ok (.iadd, 1) := by decide +kernel
theorem dX2_accuse_99 : decode cX2_accuse 99 = .ok (.if_icmp .ge 7, 3) := by decide +kernel
theorem dX2_accuse_102 : decode cX2_accuse 102 = .ok (.ldc2_w 158, 3) := by decide +kernel
theorem dX2_accuse_105 : decode cX2_accuse 105 = .ok (.lreturn, 1) := by decide +kernel
theorem dX2_accuse_106 : decode cX2_accuse 106 = .ok (.aload_n 0, 1) := by decide +kernel
theorem dX2_accuse_107 : decode cX2_accuse 107 = .ok (.getfield 82, 3) := by decide +kernel
theorem dX2_accuse_110 : decode cX2_accuse 110 = .ok (.iload 5, 2) := by decide +kernel
theorem dX2_accuse_112 : decode cX2_accuse 112 = .ok (.aload_n 0, 1) := by decide +kernel
theorem dX2_accuse_113 : decode cX2_accuse 113 = .ok (.getfield 48, 3) := by decide +kernel
theorem dX2_accuse_116 : decode cX2_accuse 116 = .ok (.iadd, 1) := by decide +kernel
theorem dX2_accuse_117 : decode cX2_accuse 117 = .ok (.if_icmp .le 7, 3) := by decide +kernel
theorem dX2_accuse_120 : decode cX2_accuse 120 = .ok (.ldc2_w 160, 3) := by decide +kernel
theorem dX2_accuse_123 : decode cX2_accuse 123 = .ok (.lreturn, 1) := by decide +kernel
theorem dX2_accuse_124 : decode cX2_accuse 124 = .ok (.aload_n 0, 1) := by decide +kernel
theorem dX2_accuse_125 : decode cX2_accuse 125 = .ok (.getfield 26, 3) := by decide +kernel
theorem dX2_accuse_128 : decode cX2_accuse 128 = .ok (.iload_n 2, 1) := by decide +kernel
theorem dX2_accuse_129 : decode cX2_accuse 129 = .ok (.iaload, 1) := by decide +kernel
theorem dX2_accuse_130 : decode cX2_accuse 130 = .ok (.istore 6, 2) := by decide +kernel
theorem dX2_accuse_132 : decode cX2_accuse 132 = .ok (.bipush 8, 2) := by decide +kernel
theorem dX2_accuse_134 : decode cX2_accuse 134 = .ok (.iload 5, 2) := by decide +kernel
theorem dX2_accuse_136 : decode cX2_accuse 136 = .ok (.imul, 1) := by decide +kernel
theorem dX2_accuse_137 : decode cX2_accuse 137 = .ok (.iload 6, 2) := by decide +kernel
theorem dX2_accuse_139 : decode cX2_accuse 139 = .ok (.iadd, 1) := by decide +kernel
theorem dX2_accuse_140 : decode cX2_accuse 140 = .ok (.iconst 3, 1) := by decide +kernel
theorem dX2_accuse_141 : decode cX2_accuse 141 = .ok (.imul, 1) := by decide +kernel
theorem dX2_accuse_142 : decode cX2_accuse 142 = .ok (.iload_n 1, 1) := by decide +kernel
theorem dX2_accuse_143 : decode cX2_accuse 143 = .ok (.iadd, 1) := by decide +kernel
theorem dX2_accuse_144 : decode cX2_accuse 144 = .ok (.istore 7, 2) := by decide +kernel
theorem dX2_accuse_146 : decode cX2_accuse 146 = .ok (.aload_n 0, 1) := by decide +kernel
theorem dX2_accuse_147 : decode cX2_accuse 147 = .ok (.getfield 73, 3) := by decide +kernel
theorem dX2_accuse_150 : decode cX2_accuse 150 = .ok (.iload 7, 2) := by decide +kernel
theorem dX2_accuse_152 : decode cX2_accuse 152 = .ok (.baload, 1) := by decide +kernel
theorem dX2_accuse_153 : decode cX2_accuse 153 = .ok (.ifCond .eq 7, 3) := by decide +kernel
theorem dX2_accuse_156 : decode cX2_accuse 156 = .ok (.ldc2_w 162, 3) := by decide +kernel
theorem dX2_accuse_159 : decode cX2_accuse 159 = .ok (.lreturn, 1) := by decide +kernel
theorem dX2_accuse_160 : decode cX2_accuse 160 = .ok (.aload_n 0, 1) := by decide +kernel
theorem dX2_accuse_161 : decode cX2_accuse 161 = .ok (.getfield 73, 3) := by decide +kernel
theorem dX2_accuse_164 : decode cX2_accuse 164 = .ok (.iload 7, 2) := by decide +kernel
theorem dX2_accuse_166 : decode cX2_accuse 166 = .ok (.iconst 1, 1) := by decide +kernel
theorem dX2_accuse_167 : decode cX2_accuse 167 = .ok (.bastore, 1) := by decide +kernel
theorem dX2_accuse_168 : decode cX2_accuse 168 = .ok (.aload_n 0, 1) := by decide +kernel
theorem dX2_accuse_169 : decode cX2_accuse 169 = .ok (.getfield 7, 3) := by decide +kernel
theorem dX2_accuse_172 : decode cX2_accuse 172 = .ok (.iload 6, 2) := by decide +kernel
theorem dX2_accuse_174 : decode cX2_accuse 174 = .ok (.laload, 1) := by decide +kernel
theorem dX2_accuse_175 : decode cX2_accuse 175 = .ok (.aload_n 0, 1) := by decide +kernel
theorem dX2_accuse_176 : decode cX2_accuse 176 = .ok (.getfield 45, 3) := by decide +kernel
theorem dX2_accuse_179 : decode cX2_accuse 179 = .ok (.iload_n 1, 1) := by decide +kernel
theorem dX2_accuse_180 : decode cX2_accuse 180 = .ok (.iaload, 1) := by decide +kernel
theorem dX2_accuse_181 : decode cX2_accuse 181 = .ok (.i2l, 1) := by decide +kernel
theorem dX2_accuse_182 : decode cX2_accuse 182 = .ok (.lmul, 1) := by decide +kernel
theorem dX2_accuse_183 : decode cX2_accuse 183 = .ok (.ldc2_w 128, 3) := by decide +kernel
theorem dX2_accuse_186 : decode cX2_accuse 186 = .ok (.ldiv, 1) := by decide +kernel
theorem dX2_accuse_187 : decode cX2_accuse 187 = .ok (.lstore 8, 2) := by decide +kernel
theorem dX2_accuse_189 : decode cX2_accuse 189 = .ok (.aload_n 0, 1) := by decide +kernel
theorem dX2_accuse_190 : decode cX2_accuse 190 = .ok (.getfield 7, 3) := by decide +kernel
theorem dX2_accuse_193 : decode cX2_accuse 193 = .ok (.iload 6, 2) := by decide +kernel
theorem dX2_accuse_195 : decode cX2_accuse 195 = .ok (.dup2, 1) := by decide +kernel
theorem dX2_accuse_196 : decode cX2_accuse 196 = .ok (.laload, 1) := by decide +kernel
theorem dX2_accuse_197 : decode cX2_accuse 197 = .ok (.lload 8, 2) := by decide +kernel
theorem dX2_accuse_199 : decode cX2_accuse 199 = .ok (.lsub, 1) := by decide +kernel
theorem dX2_accuse_200 : decode cX2_accuse 200 = .ok (.lastore, 1) := by decide +kernel
theorem dX2_accuse_201 : decode cX2_accuse 201 = .ok (.iload 4, 2) := by decide +kernel
theorem dX2_accuse_203 : decode cX2_accuse 203 = .ok (.iconst (-1), 1) := by decide +kernel
theorem dX2_accuse_204 : decode cX2_accuse 204 = .ok (.if_icmp .ne 7, 3) := by decide +kernel
theorem dX2_accuse_207 : decode cX2_accuse 207 = .ok (.lconst 0, 1) := by decide +kernel
theorem dX2_accuse_208 : decode cX2_accuse 208 = .ok (.goto 9, 3) := by decide +kernel
theorem dX2_accuse_211 : decode cX2_accuse 211 = .ok (.lload 8, 2) := by decide +kernel
theorem dX2_accuse_213 : decode cX2_accuse 213 = .ok (.ldc2_w 164, 3) := by decide +kernel
theorem dX2_accuse_216 : decode cX2_accuse 216 = .ok (.ldiv, 1) := by decide +kernel
theorem dX2_accuse_217 : decode cX2_accuse 217 = .ok (.lstore 10, 2) := by decide +kernel
theorem dX2_accuse_219 : decode cX2_accuse 219 = .ok (.iload 4, 2) := by decide +kernel
theorem dX2_accuse_221 : decode cX2_accuse 221 = .ok (.iconst (-1), 1) := by decide +kernel
theorem dX2_accuse_222 : decode cX2_accuse 222 = .ok (.if_icmp .eq 15, 3) := by decide +kernel
theorem dX2_accuse_225 : decode cX2_accuse 225 = .ok (.aload_n 0, 1) := by decide +kernel
theorem dX2_accuse_226 : decode cX2_accuse 226 = .ok (.getfield 13, 3) := by decide +kernel
theorem dX2_accuse_229 : decode cX2_accuse 229 = .ok (.iload 4, 2) := by decide +kernel
theorem dX2_accuse_231 : decode cX2_accuse 231 = .ok (.dup2, 1) := by decide +kernel
theorem dX2_accuse_232 : decode cX2_accuse 232 = .ok (.laload, 1) := by decide +kernel
theorem dX2_accuse_233 : decode cX2_accuse 233 = .ok (.lload 10, 2) := by decide +kernel
theorem dX2_accuse_235 : decode cX2_accuse 235 = .ok (.ladd, 1) := by decide +kernel
theorem dX2_accuse_236 : decode cX2_accuse 236 = .ok (.lastore, 1) := by decide +kernel
theorem dX2_accuse_237 : decode cX2_accuse 237 = .ok (.aload_n 0, 1) := by decide +kernel
theorem dX2_accuse_238 : decode cX2_accuse 238 = .ok (.dup, 1) := by decide +kernel
theorem dX2_accuse_239 : decode cX2_accuse 239 = .ok (.getfield 166, 3) := by decide +kernel
theorem dX2_accuse_242 : decode cX2_accuse 242 = .ok (.lload 8, 2) := by decide +kernel
theorem dX2_accuse_244 : decode cX2_accuse 244 = .ok (.lload 10, 2) := by decide +kernel
theorem dX2_accuse_246 : decode cX2_accuse 246 = .ok (.lsub, 1) := by decide +kernel
theorem dX2_accuse_247 : decode cX2_accuse 247 = .ok (.ladd, 1) := by decide +kernel
theorem dX2_accuse_248 : decode cX2_accuse 248 = .ok (.putfield 166, 3) := by decide +kernel
theorem dX2_accuse_251 : decode cX2_accuse 251 = .ok (.aload_n 0, 1) := by decide +kernel
theorem dX2_accuse_252 : decode cX2_accuse 252 = .ok (.getfield 16, 3) := by decide +kernel
theorem dX2_accuse_255 : decode cX2_accuse 255 = .ok (.iload 6, 2) := by decide +kernel
theorem dX2_accuse_257 : decode cX2_accuse 257 = .ok (.aload_n 0, 1) := by decide +kernel
theorem dX2_accuse_258 : decode cX2_accuse 258 = .ok (.getfield 16, 3) := by decide +kernel
theorem dX2_accuse_261 : decode cX2_accuse 261 = .ok (.iload 6, 2) := by decide +kernel
theorem dX2_accuse_263 : decode cX2_accuse 263 = .ok (.baload, 1) := by decide +kernel
theorem dX2_accuse_264 : decode cX2_accuse 264 = .ok (.ifCond .ne 18, 3) := by decide +kernel
theorem dX2_accuse_267 : decode cX2_accuse 267 = .ok (.aload_n 0, 1) := by decide +kernel
theorem dX2_accuse_268 : decode cX2_accuse 268 = .ok (.getfield 7, 3) := by decide +kernel
theorem dX2_accuse_271 : decode cX2_accuse 271 = .ok (.iload 6, 2) := by decide +kernel
theorem dX2_accuse_273 : decode cX2_accuse 273 = .ok (.laload, 1) := by decide +kernel
theorem dX2_accuse_274 : decode cX2_accuse 274 = .ok (.aload_n 0, 1) := by decide +kernel
theorem dX2_accuse_275 : decode cX2_accuse 275 = .ok (.getfield 132, 3) := by decide +kernel
theorem dX2_accuse_278 : decode cX2_accuse 278 = .ok (.lcmp, 1) := by decide +kernel
theorem dX2_accuse_279 : decode cX2_accuse 279 = .ok (.ifCond .ge 7, 3) := by decide +kernel
theorem dX2_accuse_282 : decode cX2_accuse 282 = .ok (.iconst 1, 1) := by decide +kernel
theorem dX2_accuse_283 : decode cX2_accuse 283 = .ok (.goto 4, 3) := by decide +kernel
theorem dX2_accuse_286 : decode cX2_accuse 286 = .ok (.iconst 0, 1) := by decide +kernel
theorem dX2_accuse_287 : decode cX2_accuse 287 = .ok (.bastore, 1) := by decide +kernel
theorem dX2_accuse_288 : decode cX2_accuse 288 = .ok (.aload_n 0, 1) := by decide +kernel
theorem dX2_accuse_289 : decode cX2_accuse 289 = .ok (.getfield 52, 3) := by decide +kernel
theorem dX2_accuse_292 : decode cX2_accuse 292 = .ok (.aload_n 0, 1) := by decide +kernel
theorem dX2_accuse_293 : decode cX2_accuse 293 = .ok (.getfield 169, 3) := by decide +kernel
theorem dX2_accuse_296 : decode cX2_accuse 296 = .ok (.iload_n 1, 1) := by decide +kernel
theorem dX2_accuse_297 : decode cX2_accuse 297 = .ok (.iastore, 1) := by decide +kernel
theorem dX2_accuse_298 : decode cX2_accuse 298 = .ok (.aload_n 0, 1) := by decide +kernel
theorem dX2_accuse_299 : decode cX2_accuse 299 = .ok (.getfield 55, 3) := by decide +kernel
theorem dX2_accuse_302 : decode cX2_accuse 302 = .ok (.aload_n 0, 1) := by decide +kernel
theorem dX2_accuse_303 : decode cX2_accuse 303 = .ok (.getfield 169, 3) := by decide +kernel
theorem dX2_accuse_306 : decode cX2_accuse 306 = .ok (.iload_n 1, 1) := by decide +kernel
theorem dX2_accuse_307 : decode cX2_accuse 307 = .ok (.ifCond .ne 12, 3) := by decide +kernel
theorem dX2_accuse_310 : decode cX2_accuse 310 = .ok (.iload_n 3, 1) := by decide +kernel
theorem dX2_accuse_311 : decode cX2_accuse 311 = .ok (.iload_n 2, 1) := by decide +kernel
theorem dX2_accuse_312 : decode cX2_accuse 312 = .ok (.if_icmp .ge 7, 3) := by decide +kernel
theorem dX2_accuse_315 : decode cX2_accuse 315 = .ok (.iload_n 3, 1) := by decide +kernel
theorem dX2_accuse_316 : decode cX2_accuse 316 = .ok (.goto 4, 3) := by decide +kernel
theorem dX2_accuse_319 : decode cX2_accuse 319 = .ok (.iload_n 2, 1) := by decide +kernel
theorem dX2_accuse_320 : decode cX2_accuse 320 = .ok (.iastore, 1) := by decide +kernel
theorem dX2_accuse_321 : decode cX2_accuse 321 = .ok (.aload_n 0, 1) := by decide +kernel
theorem dX2_accuse_322 : decode cX2_accuse 322 = .ok (.getfield 58, 3) := by decide +kernel
theorem dX2_accuse_325 : decode cX2_accuse 325 = .ok (.aload_n 0, 1) := by decide +kernel
theorem dX2_accuse_326 : decode cX2_accuse 326 = .ok (.getfield 169, 3) := by decide +kernel
theorem dX2_accuse_329 : decode cX2_accuse 329 = .ok (.iload_n 1, 1) := by decide +kernel
theorem dX2_accuse_330 : decode cX2_accuse 330 = .ok (.iconst 2, 1) := by decide +kernel
theorem dX2_accuse_331 : decode cX2_accuse 331 = .ok (.if_icmp .ne 7, 3) := by decide +kernel
theorem dX2_accuse_334 : decode cX2_accuse 334 = .ok (.iconst (-1), 1) := by decide +kernel
theorem dX2_accuse_335 : decode cX2_accuse 335 = .ok (.goto 17, 3) := by decide +kernel
theorem dX2_accuse_338 : decode cX2_accuse 338 = .ok (.iload_n 1, 1) := by decide +kernel
theorem dX2_accuse_339 : decode cX2_accuse 339 = .ok (.ifCond .ne 12, 3) := by decide +kernel
theorem dX2_accuse_342 : decode cX2_accuse 342 = .ok (.iload_n 3, 1) := by decide +kernel
theorem dX2_accuse_343 : decode cX2_accuse 343 = .ok (.iload_n 2, 1) := by decide +kernel
theorem dX2_accuse_344 : decode cX2_accuse 344 = .ok (.if_icmp .ge 7, 3) := by decide +kernel
theorem dX2_accuse_347 : decode cX2_accuse 347 = .ok (.iload_n 2, 1) := by decide +kernel
theorem dX2_accuse_348 : decode cX2_accuse 348 = .ok (.goto 4, 3) := by decide +kernel
theorem dX2_accuse_351 : decode cX2_accuse 351 = .ok (.iload_n 3, 1) := by decide +kernel
theorem dX2_accuse_352 : decode cX2_accuse 352 = .ok (.iastore, 1) := by decide +kernel
theorem dX2_accuse_353 : decode cX2_accuse 353 = .ok (.aload_n 0, 1) := by decide +kernel
theorem dX2_accuse_354 : decode cX2_accuse 354 = .ok (.getfield 61, 3) := by decide +kernel
theorem dX2_accuse_357 : decode cX2_accuse 357 = .ok (.aload_n 0, 1) := by decide +kernel
theorem dX2_accuse_358 : decode cX2_accuse 358 = .ok (.getfield 169, 3) := by decide +kernel
theorem dX2_accuse_361 : decode cX2_accuse 361 = .ok (.iload 4, 2) := by decide +kernel
theorem dX2_accuse_363 : decode cX2_accuse 363 = .ok (.iastore, 1) := by decide +kernel
theorem dX2_accuse_364 : decode cX2_accuse 364 = .ok (.aload_n 0, 1) := by decide +kernel
theorem dX2_accuse_365 : decode cX2_accuse 365 = .ok (.getfield 64, 3) := by decide +kernel
theorem dX2_accuse_368 : decode cX2_accuse 368 = .ok (.aload_n 0, 1) := by decide +kernel
theorem dX2_accuse_369 : decode cX2_accuse 369 = .ok (.getfield 169, 3) := by decide +kernel
theorem dX2_accuse_372 : decode cX2_accuse 372 = .ok (.aload_n 0, 1) := by decide +kernel
theorem dX2_accuse_373 : decode cX2_accuse 373 = .ok (.getfield 82, 3) := by decide +kernel
theorem dX2_accuse_376 : decode cX2_accuse 376 = .ok (.iastore, 1) := by decide +kernel
theorem dX2_accuse_377 : decode cX2_accuse 377 = .ok (.aload_n 0, 1) := by decide +kernel
theorem dX2_accuse_378 : decode cX2_accuse 378 = .ok (.getfield 67, 3) := by decide +kernel
theorem dX2_accuse_381 : decode cX2_accuse 381 = .ok (.aload_n 0, 1) := by decide +kernel
theorem dX2_accuse_382 : decode cX2_accuse 382 = .ok (.getfield 169, 3) := by decide +kernel
theorem dX2_accuse_385 : decode cX2_accuse 385 = .ok (.lload 8, 2) := by decide +kernel
theorem dX2_accuse_387 : decode cX2_accuse 387 = .ok (.lastore, 1) := by decide +kernel
theorem dX2_accuse_388 : decode cX2_accuse 388 = .ok (.aload_n 0, 1) := by decide +kernel
theorem dX2_accuse_389 : decode cX2_accuse 389 = .ok (.getfield 70, 3) := by decide +kernel
theorem dX2_accuse_392 : decode cX2_accuse 392 = .ok (.aload_n 0, 1) := by decide +kernel
theorem dX2_accuse_393 : decode cX2_accuse 393 = .ok (.getfield 169, 3) := by decide +kernel
theorem dX2_accuse_396 : decode cX2_accuse 396 = .ok (.lload 10, 2) := by decide +kernel
theorem dX2_accuse_398 : decode cX2_accuse 398 = .ok (.lastore, 1) := by decide +kernel
theorem dX2_accuse_399 : decode cX2_accuse 399 = .ok (.aload_n 0, 1) := by decide +kernel
theorem dX2_accuse_400 : decode cX2_accuse 400 = .ok (.dup, 1) := by decide +kernel
theorem dX2_accuse_401 : decode cX2_accuse 401 = .ok (.getfield 169, 3) := by decide +kernel
theorem dX2_accuse_404 : decode cX2_accuse 404 = .ok (.iconst 1, 1) := by decide +kernel
theorem dX2_accuse_405 : decode cX2_accuse 405 = .ok (.iadd, 1) := by decide +kernel
theorem dX2_accuse_406 : decode cX2_accuse 406 = .ok (.putfield 169, 3) := by decide +kernel
theorem dX2_accuse_409 : decode cX2_accuse 409 = .ok (.lload 8, 2) := by decide +kernel
theorem dX2_accuse_411 : decode cX2_accuse 411 = .ok (.lreturn, 1) := by decide +kernel
theorem dX2_about_0 : decode cX2_about 0 = .ok (.iload_n 1, 1) := by decide +kernel
theorem dX2_about_1 : decode cX2_about 1 = .ok (.tableswitch 95 0 9 #[55, 61, 67, 73, 79, 95, 95, 95, 84, 90], 55) := by decide +kernel
theorem dX2_about_56 : decode cX2_about 56 = .ok (.aload_n 0, 1) := by decide +kernel
theorem dX2_about_57 : decode cX2_about 57 = .ok (.getfield 82, 3) := by decide +kernel
theorem dX2_about_60 : decode cX2_about 60 = .ok (.i2l, 1) := by decide +kernel
theorem dX2_about_61 : decode cX2_about 61 = .ok (.lreturn, 1) := by decide +kernel
theorem dX2_about_62 : decode cX2_about 62 = .ok (.aload_n 0, 1) := by decide +kernel
theorem dX2_about_63 : decode cX2_about 63 = .ok (.getfield 76, 3) := by decide +kernel
theorem dX2_about_66 : decode cX2_about 66 = .ok (.i2l, 1) := by decide +kernel
theorem dX2_about_67 : decode cX2_about 67 = .ok (.lreturn, 1) := by decide +kernel
theorem dX2_about_68 : decode cX2_about 68 = .ok (.aload_n 0, 1) := by decide +kernel
theorem dX2_about_69 : decode cX2_about 69 = .ok (.getfield 79, 3) := by decide +kernel
theorem dX2_about_72 : decode cX2_about 72 = .ok (.i2l, 1) := by decide +kernel
theorem dX2_about_73 : decode cX2_about 73 = .ok (.lreturn, 1) := by decide +kernel
theorem dX2_about_74 : decode cX2_about 74 = .ok (.aload_n 0, 1) := by decide +kernel
theorem dX2_about_75 : decode cX2_about 75 = .ok (.getfield 169, 3) := by decide +kernel
theorem dX2_about_78 : decode cX2_about 78 = .ok (.i2l, 1) := by decide +kernel
theorem dX2_about_79 : decode cX2_about 79 = .ok (.lreturn, 1) := by decide +kernel
theorem dX2_about_80 : decode cX2_about 80 = .ok (.aload_n 0, 1) := by decide +kernel
theorem dX2_about_81 : decode cX2_about 81 = .ok (.getfield 166, 3) := by decide +kernel
theorem dX2_about_84 : decode cX2_about 84 = .ok (.lreturn, 1) := by decide +kernel
theorem dX2_about_85 : decode cX2_about 85 = .ok (.aload_n 0, 1) := by decide +kernel
theorem dX2_about_86 : decode cX2_about 86 = .ok (.getfield 48, 3) := by decide +kernel
theorem dX2_about_89 : decode cX2_about 89 = .ok (.i2l, 1) := by decide +kernel
theorem dX2_about_90 : decode cX2_about 90 = .ok (.lreturn, 1) := by decide +kernel
theorem dX2_about_91 : decode cX2_about 91 = .ok (.aload_n 0, 1) := by decide +kernel
theorem dX2_about_92 : decode cX2_about 92 = .ok (.getfield 132, 3) := by decide +kernel
theorem dX2_about_95 : decode cX2_about 95 = .ok (.lreturn, 1) := by decide +kernel
theorem dX2_about_96 : decode cX2_about 96 = .ok (.iload_n 1, 1) := by decide +kernel
theorem dX2_about_97 : decode cX2_about 97 = .ok (.iconst 5, 1) := by decide +kernel
theorem dX2_about_98 : decode cX2_about 98 = .ok (.if_icmp .lt 21, 3) := by decide +kernel
theorem dX2_about_101 : decode cX2_about 101 = .ok (.iload_n 1, 1) := by decide +kernel
theorem dX2_about_102 : decode cX2_about 102 = .ok (.bipush 7, 2) := by decide +kernel
theorem dX2_about_104 : decode cX2_about 104 = .ok (.if_icmp .gt 15, 3) := by decide +kernel
theorem dX2_about_107 : decode cX2_about 107 = .ok (.aload_n 0, 1) := by decide +kernel
theorem dX2_about_108 : decode cX2_about 108 = .ok (.getfield 45, 3) := by decide +kernel
theorem dX2_about_111 : decode cX2_about 111 = .ok (.iload_n 1, 1) := by decide +kernel
theorem dX2_about_112 : decode cX2_about 112 = .ok (.iconst 5, 1) := by decide +kernel
theorem dX2_about_113 : decode cX2_about 113 = .ok (.isub, 1) := by decide +kernel
theorem dX2_about_114 : decode cX2_about 114 = .ok (.iaload, 1) := by decide +kernel
theorem dX2_about_115 : decode cX2_about 115 = .ok (.i2l, 1) := by decide +kernel
theorem dX2_about_116 : decode cX2_about 116 = .ok (.goto 6, 3) := by decide +kernel
theorem dX2_about_119 : decode cX2_about 119 = .ok (.ldc2_w 126, 3) := by decide +kernel
theorem dX2_about_122 : decode cX2_about 122 = .ok (.lreturn, 1) := by decide +kernel
set_option maxRecDepth 20000 in
theorem ggX2_holds_X2_isNode : GoodIn wsX2_holds wsX2_isNode := goodIn_r _ [13, 14, 15, 16, 17, 18, 19, 20, 21, 22, 23, 24, 25, 26, 27, 28, 29, 30, 31, 32, 33, 34, 35, 36, 37, 38, 39, 40, 41] (by decide +kernel) (by decide +kernel)
set_option maxRecDepth 20000 in
theorem gX2_holds_X2_isNode : GoodIn wsX2_holds (wsV RX2 121 RX2 yX2_isNode wsX2_isNode) := goodIn_app (goodIn_of _ (by decide +kernel)) ggX2_holds_X2_isNode
theorem dX2_holds_0 : decode cX2_holds 0 = .ok (.aload_n 0, 1) := by decide +kernel
theorem dX2_holds_1 : decode cX2_holds 1 = .ok (.iload_n 1, 1) := by decide +kernel
theorem dX2_holds_2 : decode cX2_holds 2 = .ok (.invokevirtual 121, 3) := by decide +kernel
theorem dX2_holds_5 : decode cX2_holds 5 = .ok (.ifCond .ne 7, 3) := by decide +kernel
theorem dX2_holds_8 : decode cX2_holds 8 = .ok (.ldc2_w 124, 3) := by decide +kernel
theorem dX2_holds_11 : decode cX2_holds 11 = .ok (.lreturn, 1) := by decide +kernel
theorem dX2_holds_12 : decode cX2_holds 12 = .ok (.iload_n 2, 1) := by decide +kernel
theorem dX2_holds_13 : decode cX2_holds 13 = .ok (.ifCond .ne 10, 3) := by decide +kernel
theorem dX2_holds_16 : decode cX2_holds 16 = .ok (.aload_n 0, 1) := by decide +kernel
theorem dX2_holds_17 : decode cX2_holds 17 = .ok (.getfield 7, 3) := by decide +kernel
theorem dX2_holds_20 : decode cX2_holds 20 = .ok (.iload_n 1, 1) := by decide +kernel
theorem dX2_holds_21 : decode cX2_holds 21 = .ok (.laload, 1) := by decide +kernel
theorem dX2_holds_22 : decode cX2_holds 22 = .ok (.lreturn, 1) := by decide +kernel
theorem dX2_holds_23 : decode cX2_holds 23 = .ok (.iload_n 2, 1) := by decide +kernel
theorem dX2_holds_24 : decode cX2_holds 24 = .ok (.iconst 1, 1) := by decide +kernel
theorem dX2_holds_25 : decode cX2_holds 25 = .ok (.if_icmp .ne 10, 3) := by decide +kernel
theorem dX2_holds_28 : decode cX2_holds 28 = .ok (.aload_n 0, 1) := by decide +kernel
theorem dX2_holds_29 : decode cX2_holds 29 = .ok (.getfield 13, 3) := by decide +kernel
theorem dX2_holds_32 : decode cX2_holds 32 = .ok (.iload_n 1, 1) := by decide +kernel
theorem dX2_holds_33 : decode cX2_holds 33 = .ok (.laload, 1) := by decide +kernel
theorem dX2_holds_34 : decode cX2_holds 34 = .ok (.lreturn, 1) := by decide +kernel
theorem dX2_holds_35 : decode cX2_holds 35 = .ok (.iload_n 2, 1) := by decide +kernel
theorem dX2_holds_36 : decode cX2_holds 36 = .ok (.iconst 2, 1) := by decide +kernel
theorem dX2_holds_37 : decode cX2_holds 37 = .ok (.if_icmp .ne 18, 3) := by decide +kernel
theorem dX2_holds_40 : decode cX2_holds 40 = .ok (.aload_n 0, 1) := by decide +kernel
theorem dX2_holds_41 : decode cX2_holds 41 = .ok (.getfield 16, 3) := by decide +kernel
theorem dX2_holds_44 : decode cX2_holds 44 = .ok (.iload_n 1, 1) := by decide +kernel
theorem dX2_holds_45 : decode cX2_holds 45 = .ok (.baload, 1) := by decide +kernel
theorem dX2_holds_46 : decode cX2_holds 46 = .ok (.ifCond .eq 7, 3) := by decide +kernel
theorem dX2_holds_49 : decode cX2_holds 49 = .ok (.lconst 1, 1) := by decide +kernel
theorem dX2_holds_50 : decode cX2_holds 50 = .ok (.goto 4, 3) := by decide +kernel
theorem dX2_holds_53 : decode cX2_holds 53 = .ok (.lconst 0, 1) := by decide +kernel
theorem dX2_holds_54 : decode cX2_holds 54 = .ok (.lreturn, 1) := by decide +kernel
theorem dX2_holds_55 : decode cX2_holds 55 = .ok (.iload_n 2, 1) := by decide +kernel
theorem dX2_holds_56 : decode cX2_holds 56 = .ok (.iconst 3, 1) := by decide +kernel
theorem dX2_holds_57 : decode cX2_holds 57 = .ok (.if_icmp .eq 7, 3) := by decide +kernel
theorem dX2_holds_60 : decode cX2_holds 60 = .ok (.ldc2_w 126, 3) := by decide +kernel
theorem dX2_holds_63 : decode cX2_holds 63 = .ok (.lreturn, 1) := by decide +kernel
theorem dX2_holds_64 : decode cX2_holds 64 = .ok (.iconst 0, 1) := by decide +kernel
theorem dX2_holds_65 : decode cX2_holds 65 = .ok (.istore_n 3, 1) := by decide +kernel
theorem dX2_holds_66 : decode cX2_holds 66 = .ok (.iconst 0, 1) := by decide +kernel
theorem dX2_holds_67 : decode cX2_holds 67 = .ok (.istore 4, 2) := by decide +kernel
theorem dX2_holds_69 : decode cX2_holds 69 = .ok (.iload 4, 2) := by decide +kernel
theorem dX2_holds_71 : decode cX2_holds 71 = .ok (.aload_n 0, 1) := by decide +kernel
theorem dX2_holds_72 : decode cX2_holds 72 = .ok (.getfield 169, 3) := by decide +kernel
theorem dX2_holds_75 : decode cX2_holds 75 = .ok (.if_icmp .ge 33, 3) := by decide +kernel
theorem dX2_holds_78 : decode cX2_holds 78 = .ok (.iload_n 3, 1) := by decide +kernel
theorem dX2_holds_79 : decode cX2_holds 79 = .ok (.aload_n 0, 1) := by decide +kernel
theorem dX2_holds_80 : decode cX2_holds 80 = .ok (.getfield 26, 3) := by decide +kernel
theorem dX2_holds_83 : decode cX2_holds 83 = .ok (.aload_n 0, 1) := by decide +kernel
theorem dX2_holds_84 : decode cX2_holds 84 = .ok (.getfield 55, 3) := by decide +kernel
theorem dX2_holds_87 : decode cX2_holds 87 = .ok (.iload 4, 2) := by decide +kernel
theorem dX2_holds_89 : decode cX2_holds 89 = .ok (.iaload, 1) := by decide +kernel
theorem dX2_holds_90 : decode cX2_holds 90 = .ok (.iaload, 1) := by decide +kernel
theorem dX2_holds_91 : decode cX2_holds 91 = .ok (.iload_n 1, 1) := by decide +kernel
theorem dX2_holds_92 : decode cX2_holds 92 = .ok (.if_icmp .ne 7, 3) := by decide +kernel
theorem dX2_holds_95 : decode cX2_holds 95 = .ok (.iconst 1, 1) := by decide +kernel
theorem dX2_holds_96 : decode cX2_holds 96 = .ok (.goto 4, 3) := by decide +kernel
theorem dX2_holds_99 : decode cX2_holds 99 = .ok (.iconst 0, 1) := by decide +kernel
theorem dX2_holds_100 : decode cX2_holds 100 = .ok (.iadd, 1) := by decide +kernel
theorem dX2_holds_101 : decode cX2_holds 101 = .ok (.istore_n 3, 1) := by decide +kernel
theorem dX2_holds_102 : decode cX2_holds 102 = .ok (.iinc 4 1, 3) := by decide +kernel
theorem dX2_holds_105 : decode cX2_holds 105 = .ok (.goto (-36), 3) := by decide +kernel
theorem dX2_holds_108 : decode cX2_holds 108 = .ok (.iload_n 3, 1) := by decide +kernel
theorem dX2_holds_109 : decode cX2_holds 109 = .ok (.i2l, 1) := by decide +kernel
theorem dX2_holds_110 : decode cX2_holds 110 = .ok (.lreturn, 1) := by decide +kernel
set_option maxRecDepth 20000 in
theorem ggX2_said_X2_isVote : GoodIn wsX2_said wsX2_isVote := goodIn_r _ [10, 11, 12, 13, 14, 15, 16, 17, 18, 19, 20, 21, 22, 23, 24, 25, 26, 27, 28, 29, 30, 31, 32, 33, 34, 35, 36, 37, 38] (by decide +kernel) (by decide +kernel)
set_option maxRecDepth 20000 in
theorem gX2_said_X2_isVote : GoodIn wsX2_said (wsV RX2 150 RX2 yX2_isVote wsX2_isVote) := goodIn_app (goodIn_of _ (by decide +kernel)) ggX2_said_X2_isVote
theorem dX2_said_0 : decode cX2_said 0 = .ok (.aload_n 0, 1) := by decide +kernel
theorem dX2_said_1 : decode cX2_said 1 = .ok (.iload_n 1, 1) := by decide +kernel
theorem dX2_said_2 : decode cX2_said 2 = .ok (.invokevirtual 150, 3) := by decide +kernel
theorem dX2_said_5 : decode cX2_said 5 = .ok (.ifCond .ne 6, 3) := by decide +kernel
theorem dX2_said_8 : decode cX2_said 8 = .ok (.bipush (-101), 2) := by decide +kernel
theorem dX2_said_10 : decode cX2_said 10 = .ok (.ireturn, 1) := by decide +kernel
theorem dX2_said_11 : decode cX2_said 11 = .ok (.iload_n 2, 1) := by decide +kernel
theorem dX2_said_12 : decode cX2_said 12 = .ok (.tableswitch 71 0 4 #[36, 43, 50, 57, 64], 36) := by decide +kernel
theorem dX2_said_48 : decode cX2_said 48 = .ok (.aload_n 0, 1) := by decide +kernel
theorem dX2_said_49 : decode cX2_said 49 = .ok (.getfield 26, 3) := by decide +kernel
theorem dX2_said_52 : decode cX2_said 52 = .ok (.iload_n 1, 1) := by decide +kernel
theorem dX2_said_53 : decode cX2_said 53 = .ok (.iaload, 1) := by decide +kernel
theorem dX2_said_54 : decode cX2_said 54 = .ok (.ireturn, 1) := by decide +kernel
theorem dX2_said_55 : decode cX2_said 55 = .ok (.aload_n 0, 1) := by decide +kernel
theorem dX2_said_56 : decode cX2_said 56 = .ok (.getfield 30, 3) := by decide +kernel
theorem dX2_said_59 : decode cX2_said 59 = .ok (.iload_n 1, 1) := by decide +kernel
theorem dX2_said_60 : decode cX2_said 60 = .ok (.iaload, 1) := by decide +kernel
theorem dX2_said_61 : decode cX2_said 61 = .ok (.ireturn, 1) := by decide +kernel
theorem dX2_said_62 : decode cX2_said 62 = .ok (.aload_n 0, 1) := by decide +kernel
theorem dX2_said_63 : decode cX2_said 63 = .ok (.getfield 33, 3) := by decide +kernel
theorem dX2_said_66 : decode cX2_said 66 = .ok (.iload_n 1, 1) := by decide +kernel
theorem dX2_said_67 : decode cX2_said 67 = .ok (.iaload, 1) := by decide +kernel
theorem dX2_said_68 : decode cX2_said 68 = .ok (.ireturn, 1) := by decide +kernel
theorem dX2_said_69 : decode cX2_said 69 = .ok (.aload_n 0, 1) := by decide +kernel
theorem dX2_said_70 : decode cX2_said 70 = .ok (.getfield 36, 3) := by decide +kernel
theorem dX2_said_73 : decode cX2_said 73 = .ok (.iload_n 1, 1) := by decide +kernel
theorem dX2_said_74 : decode cX2_said 74 = .ok (.iaload, 1) := by decide +kernel
theorem dX2_said_75 : decode cX2_said 75 = .ok (.ireturn, 1) := by decide +kernel
theorem dX2_said_76 : decode cX2_said 76 = .ok (.aload_n 0, 1) := by decide +kernel
theorem dX2_said_77 : decode cX2_said 77 = .ok (.getfield 39, 3) := by decide +kernel
theorem dX2_said_80 : decode cX2_said 80 = .ok (.iload_n 1, 1) := by decide +kernel
theorem dX2_said_81 : decode cX2_said 81 = .ok (.iaload, 1) := by decide +kernel
theorem dX2_said_82 : decode cX2_said 82 = .ok (.ireturn, 1) := by decide +kernel
theorem dX2_said_83 : decode cX2_said 83 = .ok (.bipush (-102), 2) := by decide +kernel
theorem dX2_said_85 : decode cX2_said 85 = .ok (.ireturn, 1) := by decide +kernel
set_option maxRecDepth 20000 in
theorem ggX2_weight_X2_isNode : GoodIn wsX2_weight wsX2_isNode := goodIn_r _ [9, 10, 16, 17, 18, 19, 20, 21, 22, 23, 24, 25, 26, 27, 28, 29, 30, 31, 32, 33, 34, 35, 36, 37, 38, 39, 40, 41, 42] (by decide +kernel) (by decide +kernel)
set_option maxRecDepth 20000 in
theorem gX2_weight_X2_isNode : GoodIn wsX2_weight (wsV RX2 121 RX2 yX2_isNode wsX2_isNode) := goodIn_app (goodIn_of _ (by decide +kernel)) ggX2_weight_X2_isNode
set_option maxRecDepth 20000 in
theorem ggX2_weight_X2_isHeight : GoodIn wsX2_weight wsX2_isHeight := goodIn_r _ [14, 15, 16, 17, 18, 19, 20, 21, 22, 23, 24, 25, 26, 27, 28, 29, 30, 31, 32, 33, 34, 35, 36, 37, 38, 39, 40, 41, 42] (by decide +kernel) (by decide +kernel)
set_option maxRecDepth 20000 in
theorem gX2_weight_X2_isHeight : GoodIn wsX2_weight (wsV RX2 172 RX2 yX2_isHeight wsX2_isHeight) := goodIn_app (goodIn_of _ (by decide +kernel)) ggX2_weight_X2_isHeight
theorem dX2_weight_0 : decode cX2_weight 0 = .ok (.iload_n 2, 1) := by decide +kernel
theorem dX2_weight_1 : decode cX2_weight 1 = .ok (.iconst (-1), 1) := by decide +kernel
theorem dX2_weight_2 : decode cX2_weight 2 = .ok (.if_icmp .eq 15, 3) := by decide +kernel
theorem dX2_weight_5 : decode cX2_weight 5 = .ok (.aload_n 0, 1) := by decide +kernel
theorem dX2_weight_6 : decode cX2_weight 6 = .ok (.iload_n 2, 1) := by decide +kernel
theorem dX2_weight_7 : decode cX2_weight 7 = .ok (.invokevirtual 121, 3) := by decide +kernel
theorem dX2_weight_10 : decode cX2_weight 10 = .ok (.ifCond .ne 7, 3) := by decide +kernel
theorem dX2_weight_13 : decode cX2_weight 13 = .ok (.ldc2_w 124, 3) := by decide +kernel
theorem dX2_weight_16 : decode cX2_weight 16 = .ok (.lreturn, 1) := by decide +kernel
theorem dX2_weight_17 : decode cX2_weight 17 = .ok (.aload_n 0, 1) := by decide +kernel
theorem dX2_weight_18 : decode cX2_weight 18 = .ok (.iload_n 1, 1) := by decide +kernel
theorem dX2_weight_19 : decode cX2_weight 19 = .ok (.invokevirtual 172, 3) := by decide +kernel
theorem dX2_weight_22 : decode cX2_weight 22 = .ok (.ifCond .ne 7, 3) := by decide +kernel
theorem dX2_weight_25 : decode cX2_weight 25 = .ok (.ldc2_w 126, 3) := by decide +kernel
theorem dX2_weight_28 : decode cX2_weight 28 = .ok (.lreturn, 1) := by decide +kernel
theorem dX2_weight_29 : decode cX2_weight 29 = .ok (.iload_n 2, 1) := by decide +kernel
theorem dX2_weight_30 : decode cX2_weight 30 = .ok (.iconst (-1), 1) := by decide +kernel
theorem dX2_weight_31 : decode cX2_weight 31 = .ok (.if_icmp .ne 12, 3) := by decide +kernel
theorem dX2_weight_34 : decode cX2_weight 34 = .ok (.aload_n 0, 1) := by decide +kernel
theorem dX2_weight_35 : decode cX2_weight 35 = .ok (.getfield 23, 3) := by decide +kernel
theorem dX2_weight_38 : decode cX2_weight 38 = .ok (.iload_n 1, 1) := by decide +kernel
theorem dX2_weight_39 : decode cX2_weight 39 = .ok (.laload, 1) := by decide +kernel
theorem dX2_weight_40 : decode cX2_weight 40 = .ok (.goto 14, 3) := by decide +kernel
theorem dX2_weight_43 : decode cX2_weight 43 = .ok (.aload_n 0, 1) := by decide +kernel
theorem dX2_weight_44 : decode cX2_weight 44 = .ok (.getfield 20, 3) := by decide +kernel
theorem dX2_weight_47 : decode cX2_weight 47 = .ok (.bipush 8, 2) := by decide +kernel
theorem dX2_weight_49 : decode cX2_weight 49 = .ok (.iload_n 1, 1) := by decide +kernel
theorem dX2_weight_50 : decode cX2_weight 50 = .ok (.imul, 1) := by decide +kernel
theorem dX2_weight_51 : decode cX2_weight 51 = .ok (.iload_n 2, 1) := by decide +kernel
theorem dX2_weight_52 : decode cX2_weight 52 = .ok (.iadd, 1) := by decide +kernel
theorem dX2_weight_53 : decode cX2_weight 53 = .ok (.laload, 1) := by decide +kernel
theorem dX2_weight_54 : decode cX2_weight 54 = .ok (.lreturn, 1) := by decide +kernel
set_option maxRecDepth 20000 in
theorem ggX2_backed_X2_isHeight : GoodIn wsX2_backed wsX2_isHeight := goodIn_r _ [9, 10, 22, 23, 24, 25, 26, 27, 28, 29, 30, 31, 32, 33, 34, 35, 36, 37, 38, 39, 40, 41, 42, 43, 44, 45, 46, 47, 48] (by decide +kernel) (by decide +kernel)
set_option maxRecDepth 20000 in
theorem gX2_backed_X2_isHeight : GoodIn wsX2_backed (wsV RX2 172 RX2 yX2_isHeight wsX2_isHeight) := goodIn_app (goodIn_of _ (by decide +kernel)) ggX2_backed_X2_isHeight
set_option maxRecDepth 20000 in
theorem ggX2_backed_X2_in : GoodIn wsX2_backed wsX2_in := goodIn_r _ [13] (by decide +kernel) (by decide +kernel)
set_option maxRecDepth 20000 in
theorem gX2_backed_X2_in : GoodIn wsX2_backed (va_wsS RX2 117 yX2_in wsX2_in) := goodIn_app (goodIn_of _ (by decide +kernel)) ggX2_backed_X2_in
set_option maxRecDepth 20000 in
theorem ggX2_backed_X2_place : GoodIn wsX2_backed wsX2_place := goodIn_r _ [16] (by decide +kernel) (by decide +kernel)
set_option maxRecDepth 20000 in
theorem gX2_backed_X2_place : GoodIn wsX2_backed (va_wsS RX2 93 yX2_place wsX2_place) := goodIn_app (goodIn_of _ (by decide +kernel)) ggX2_backed_X2_place
set_option maxRecDepth 20000 in
theorem ggX2_backed_X2_weightOf : GoodIn wsX2_backed wsX2_weightOf := goodIn_r _ [20, 21, 22, 23, 24, 25, 26, 27, 28, 29, 30, 31, 32, 33, 34, 35, 36, 37, 38, 39, 40, 41, 42, 43, 44, 45, 46, 47, 48] (by decide +kernel) (by decide +kernel)
set_option maxRecDepth 20000 in
theorem gX2_backed_X2_weightOf : GoodIn wsX2_backed (wsV RX2 87 RX2 yX2_weightOf wsX2_weightOf) := goodIn_app (goodIn_of _ (by decide +kernel)) ggX2_backed_X2_weightOf
theorem dX2_backed_0 : decode cX2_backed 0 = .ok (.aload_n 0, 1) := by decide +kernel
theorem dX2_backed_1 : decode cX2_backed 1 = .ok (.iload_n 1, 1) := by decide +kernel
theorem dX2_backed_2 : decode cX2_backed 2 = .ok (.invokevirtual 172, 3) := by decide +kernel
theorem dX2_backed_5 : decode cX2_backed 5 = .ok (.ifCond .eq 38, 3) := by decide +kernel
theorem dX2_backed_8 : decode cX2_backed 8 = .ok (.iload_n 2, 1) := by decide +kernel
theorem dX2_backed_9 : decode cX2_backed 9 = .ok (.i2l, 1) := by decide +kernel
theorem dX2_backed_10 : decode cX2_backed 10 = .ok (.lconst 0, 1) := by decide +kernel
theorem dX2_backed_11 : decode cX2_backed 11 = .ok (.ldc2_w 136, 3) := by decide +kernel
theorem dX2_backed_14 : decode cX2_backed 14 = .ok (.invokestatic 117, 3) := by decide +kernel
theorem dX2_backed_17 : decode cX2_backed 17 = .ok (.ifCond .eq 26, 3) := by decide +kernel
theorem dX2_backed_20 : decode cX2_backed 20 = .ok (.iload_n 3, 1) := by decide +kernel
theorem dX2_backed_21 : decode cX2_backed 21 = .ok (.i2l, 1) := by decide +kernel
theorem dX2_backed_22 : decode cX2_backed 22 = .ok (.lconst 0, 1) := by decide +kernel
theorem dX2_backed_23 : decode cX2_backed 23 = .ok (.lconst 1, 1) := by decide +kernel
theorem dX2_backed_24 : decode cX2_backed 24 = .ok (.invokestatic 117, 3) := by decide +kernel
theorem dX2_backed_27 : decode cX2_backed 27 = .ok (.ifCond .eq 16, 3) := by decide +kernel
theorem dX2_backed_30 : decode cX2_backed 30 = .ok (.iload 4, 2) := by decide +kernel
theorem dX2_backed_32 : decode cX2_backed 32 = .ok (.i2l, 1) := by decide +kernel
theorem dX2_backed_33 : decode cX2_backed 33 = .ok (.lconst 0, 1) := by decide +kernel
theorem dX2_backed_34 : decode cX2_backed 34 = .ok (.ldc2_w 138, 3) := by decide +kernel
theorem dX2_backed_37 : decode cX2_backed 37 = .ok (.invokestatic 117, 3) := by decide +kernel
theorem dX2_backed_40 : decode cX2_backed 40 = .ok (.ifCond .ne 7, 3) := by decide +kernel
theorem dX2_backed_43 : decode cX2_backed 43 = .ok (.ldc2_w 126, 3) := by decide +kernel
theorem dX2_backed_46 : decode cX2_backed 46 = .ok (.lreturn, 1) := by decide +kernel
theorem dX2_backed_47 : decode cX2_backed 47 = .ok (.aload_n 0, 1) := by decide +kernel
theorem dX2_backed_48 : decode cX2_backed 48 = .ok (.iload_n 1, 1) := by decide +kernel
theorem dX2_backed_49 : decode cX2_backed 49 = .ok (.aload_n 0, 1) := by decide +kernel
theorem dX2_backed_50 : decode cX2_backed 50 = .ok (.getfield 42, 3) := by decide +kernel
theorem dX2_backed_53 : decode cX2_backed 53 = .ok (.iload_n 1, 1) := by decide +kernel
theorem dX2_backed_54 : decode cX2_backed 54 = .ok (.iload_n 2, 1) := by decide +kernel
theorem dX2_backed_55 : decode cX2_backed 55 = .ok (.iload_n 3, 1) := by decide +kernel
theorem dX2_backed_56 : decode cX2_backed 56 = .ok (.iload 4, 2) := by decide +kernel
theorem dX2_backed_58 : decode cX2_backed 58 = .ok (.invokestatic 93, 3) := by decide +kernel
theorem dX2_backed_61 : decode cX2_backed 61 = .ok (.iaload, 1) := by decide +kernel
theorem dX2_backed_62 : decode cX2_backed 62 = .ok (.invokevirtual 87, 3) := by decide +kernel
theorem dX2_backed_65 : decode cX2_backed 65 = .ok (.lreturn, 1) := by decide +kernel
set_option maxRecDepth 20000 in
theorem ggX2_certain_X2_isHeight : GoodIn wsX2_certain wsX2_isHeight := goodIn_r _ [5, 6, 27, 28, 29, 30, 31, 32, 33, 34, 35, 36, 37, 38, 39, 40, 41, 42, 43, 44, 45, 46, 47, 48, 49, 50, 51, 52, 53] (by decide +kernel) (by decide +kernel)
set_option maxRecDepth 20000 in
theorem gX2_certain_X2_isHeight : GoodIn wsX2_certain (wsV RX2 172 RX2 yX2_isHeight wsX2_isHeight) := goodIn_app (goodIn_of _ (by decide +kernel)) ggX2_certain_X2_isHeight
set_option maxRecDepth 20000 in
theorem ggX2_certain_X2_isCertain : GoodIn wsX2_certain wsX2_isCertain := goodIn_r _ [10, 11, 12, 13, 4, 14, 15, 16, 17, 18, 19, 20, 21, 22, 23, 24, 25, 26, 27, 28, 29, 30, 31, 32, 33, 34, 35, 36, 37, 38, 39, 40, 41, 42, 43, 44, 45, 46, 47, 48, 49, 50, 51, 52, 53] (by decide +kernel) (by decide +kernel)
set_option maxRecDepth 20000 in
theorem gX2_certain_X2_isCertain : GoodIn wsX2_certain (wsV RX2 175 RX2 yX2_isCertain wsX2_isCertain) := goodIn_app (goodIn_of _ (by decide +kernel)) ggX2_certain_X2_isCertain
theorem dX2_certain_0 : decode cX2_certain 0 = .ok (.aload_n 0, 1) := by decide +kernel
theorem dX2_certain_1 : decode cX2_certain 1 = .ok (.iload_n 1, 1) := by decide +kernel
theorem dX2_certain_2 : decode cX2_certain 2 = .ok (.invokevirtual 172, 3) := by decide +kernel
theorem dX2_certain_5 : decode cX2_certain 5 = .ok (.ifCond .ne 6, 3) := by decide +kernel
theorem dX2_certain_8 : decode cX2_certain 8 = .ok (.bipush (-102), 2) := by decide +kernel
theorem dX2_certain_10 : decode cX2_certain 10 = .ok (.ireturn, 1) := by decide +kernel
theorem dX2_certain_11 : decode cX2_certain 11 = .ok (.iload_n 2, 1) := by decide +kernel
theorem dX2_certain_12 : decode cX2_certain 12 = .ok (.istore_n 3, 1) := by decide +kernel
theorem dX2_certain_13 : decode cX2_certain 13 = .ok (.iconst 1, 1) := by decide +kernel
theorem dX2_certain_14 : decode cX2_certain 14 = .ok (.istore 4, 2) := by decide +kernel
theorem dX2_certain_16 : decode cX2_certain 16 = .ok (.iload 4, 2) := by decide +kernel
theorem dX2_certain_18 : decode cX2_certain 18 = .ok (.bipush 10, 2) := by decide +kernel
theorem dX2_certain_20 : decode cX2_certain 20 = .ok (.if_icmp .ge 33, 3) := by decide +kernel
theorem dX2_certain_23 : decode cX2_certain 23 = .ok (.iload_n 2, 1) := by decide +kernel
theorem dX2_certain_24 : decode cX2_certain 24 = .ok (.ifCond .lt 29, 3) := by decide +kernel
theorem dX2_certain_27 : decode cX2_certain 27 = .ok (.aload_n 0, 1) := by decide +kernel
theorem dX2_certain_28 : decode cX2_certain 28 = .ok (.iload_n 1, 1) := by decide +kernel
theorem dX2_certain_29 : decode cX2_certain 29 = .ok (.iload 4, 2) := by decide +kernel
theorem dX2_certain_31 : decode cX2_certain 31 = .ok (.invokevirtual 175, 3) := by decide +kernel
theorem dX2_certain_34 : decode cX2_certain 34 = .ok (.ifCond .eq 13, 3) := by decide +kernel
theorem dX2_certain_37 : decode cX2_certain 37 = .ok (.iload_n 3, 1) := by decide +kernel
theorem dX2_certain_38 : decode cX2_certain 38 = .ok (.ifCond .ne 6, 3) := by decide +kernel
theorem dX2_certain_41 : decode cX2_certain 41 = .ok (.iload 4, 2) := by decide +kernel
theorem dX2_certain_43 : decode cX2_certain 43 = .ok (.ireturn, 1) := by decide +kernel
theorem dX2_certain_44 : decode cX2_certain 44 = .ok (.iinc 3 (-1), 3) := by decide +kernel
theorem dX2_certain_47 : decode cX2_certain 47 = .ok (.iinc 4 1, 3) := by decide +kernel
theorem dX2_certain_50 : decode cX2_certain 50 = .ok (.goto (-34), 3) := by decide +kernel
theorem dX2_certain_53 : decode cX2_certain 53 = .ok (.iconst (-1), 1) := by decide +kernel
theorem dX2_certain_54 : decode cX2_certain 54 = .ok (.ireturn, 1) := by decide +kernel
set_option maxRecDepth 20000 in
theorem ggX2_counts_X2_isBreak : GoodIn wsX2_counts wsX2_isBreak := goodIn_r _ [6, 7, 8, 9, 5, 10, 11, 1, 12, 13, 14, 15, 16, 17, 18, 19, 20, 21, 22, 23, 24, 25, 26, 27, 28, 29, 30, 31, 32, 33, 34, 35, 36, 37, 38, 39, 40, 41, 42, 43, 44, 45, 46, 47, 48, 49, 50, 51, 52, 53, 54, 55, 56, 57, 58, 59, 60, 61, 62, 63, 64, 65, 66, 67, 68, 69] (by decide +kernel) (by decide +kernel)
set_option maxRecDepth 20000 in
theorem gX2_counts_X2_isBreak : GoodIn wsX2_counts (wsV RX2 153 RX2 yX2_isBreak wsX2_isBreak) := goodIn_app (goodIn_of _ (by decide +kernel)) ggX2_counts_X2_isBreak
theorem dX2_counts_0 : decode cX2_counts 0 = .ok (.aload_n 0, 1) := by decide +kernel
theorem dX2_counts_1 : decode cX2_counts 1 = .ok (.getfield 30, 3) := by decide +kernel
theorem dX2_counts_4 : decode cX2_counts 4 = .ok (.iload_n 3, 1) := by decide +kernel
theorem dX2_counts_5 : decode cX2_counts 5 = .ok (.iaload, 1) := by decide +kernel
theorem dX2_counts_6 : decode cX2_counts 6 = .ok (.iload_n 1, 1) := by decide +kernel
theorem dX2_counts_7 : decode cX2_counts 7 = .ok (.if_icmp .ne 39, 3) := by decide +kernel
theorem dX2_counts_10 : decode cX2_counts 10 = .ok (.aload_n 0, 1) := by decide +kernel
theorem dX2_counts_11 : decode cX2_counts 11 = .ok (.getfield 30, 3) := by decide +kernel
theorem dX2_counts_14 : decode cX2_counts 14 = .ok (.iload 4, 2) := by decide +kernel
theorem dX2_counts_16 : decode cX2_counts 16 = .ok (.iaload, 1) := by decide +kernel
theorem dX2_counts_17 : decode cX2_counts 17 = .ok (.iload_n 1, 1) := by decide +kernel
theorem dX2_counts_18 : decode cX2_counts 18 = .ok (.if_icmp .ne 28, 3) := by decide +kernel
theorem dX2_counts_21 : decode cX2_counts 21 = .ok (.iload_n 2, 1) := by decide +kernel
theorem dX2_counts_22 : decode cX2_counts 22 = .ok (.ifCond .ne 9, 3) := by decide +kernel
theorem dX2_counts_25 : decode cX2_counts 25 = .ok (.iload_n 3, 1) := by decide +kernel
theorem dX2_counts_26 : decode cX2_counts 26 = .ok (.iload 4, 2) := by decide +kernel
theorem dX2_counts_28 : decode cX2_counts 28 = .ok (.if_icmp .ge 18, 3) := by decide +kernel
theorem dX2_counts_31 : decode cX2_counts 31 = .ok (.aload_n 0, 1) := by decide +kernel
theorem dX2_counts_32 : decode cX2_counts 32 = .ok (.iload_n 2, 1) := by decide +kernel
theorem dX2_counts_33 : decode cX2_counts 33 = .ok (.iload_n 3, 1) := by decide +kernel
theorem dX2_counts_34 : decode cX2_counts 34 = .ok (.iload 4, 2) := by decide +kernel
theorem dX2_counts_36 : decode cX2_counts 36 = .ok (.invokevirtual 153, 3) := by decide +kernel
theorem dX2_counts_39 : decode cX2_counts 39 = .ok (.ifCond .eq 7, 3) := by decide +kernel
theorem dX2_counts_42 : decode cX2_counts 42 = .ok (.iconst 1, 1) := by decide +kernel
theorem dX2_counts_43 : decode cX2_counts 43 = .ok (.goto 4, 3) := by decide +kernel
theorem dX2_counts_46 : decode cX2_counts 46 = .ok (.iconst 0, 1) := by decide +kernel
theorem dX2_counts_47 : decode cX2_counts 47 = .ok (.ireturn, 1) := by decide +kernel
set_option maxRecDepth 20000 in
theorem ggX2_breaks_X2_isHeight : GoodIn wsX2_breaks wsX2_isHeight := goodIn_r _ [8, 9, 56, 57, 58, 59, 60, 61, 62, 63, 64, 65, 66, 67, 68, 69, 70, 71, 72, 73, 74, 75, 76, 77, 78, 79, 80, 81, 82] (by decide +kernel) (by decide +kernel)
set_option maxRecDepth 20000 in
theorem gX2_breaks_X2_isHeight : GoodIn wsX2_breaks (wsV RX2 172 RX2 yX2_isHeight wsX2_isHeight) := goodIn_app (goodIn_of _ (by decide +kernel)) ggX2_breaks_X2_isHeight
set_option maxRecDepth 20000 in
theorem ggX2_breaks_X2_in : GoodIn wsX2_breaks wsX2_in := goodIn_r _ [12] (by decide +kernel) (by decide +kernel)
set_option maxRecDepth 20000 in
theorem gX2_breaks_X2_in : GoodIn wsX2_breaks (va_wsS RX2 117 yX2_in wsX2_in) := goodIn_app (goodIn_of _ (by decide +kernel)) ggX2_breaks_X2_in
set_option maxRecDepth 20000 in
theorem ggX2_breaks_X2_counts : GoodIn wsX2_breaks wsX2_counts := goodIn_r _ [16, 3, 17, 18, 19, 7, 20, 21, 22, 23, 24, 25, 26, 27, 28, 29, 30, 31, 32, 33, 34, 35, 36, 37, 38, 39, 40, 41, 42, 43, 44, 45, 1, 46, 47, 48, 49, 50, 51, 52, 53, 54, 55, 56, 57, 58, 59, 60, 61, 62, 63, 64, 65, 66, 67, 68, 69, 70, 71, 72, 73, 74, 75, 76, 77, 78, 79, 80, 81, 82] (by decide +kernel) (by decide +kernel)
set_option maxRecDepth 20000 in
theorem gX2_breaks_X2_counts : GoodIn wsX2_breaks (wsV RX2 178 RX2 yX2_counts wsX2_counts) := goodIn_app (goodIn_of _ (by decide +kernel)) ggX2_breaks_X2_counts
theorem dX2_breaks_0 : decode cX2_breaks 0 = .ok (.aload_n 0, 1) := by decide +kernel
theorem dX2_breaks_1 : decode cX2_breaks 1 = .ok (.iload_n 1, 1) := by decide +kernel
theorem dX2_breaks_2 : decode cX2_breaks 2 = .ok (.invokevirtual 172, 3) := by decide +kernel
theorem dX2_breaks_5 : decode cX2_breaks 5 = .ok (.ifCond .eq 15, 3) := by decide +kernel
theorem dX2_breaks_8 : decode cX2_breaks 8 = .ok (.iload_n 2, 1) := by decide +kernel
theorem dX2_breaks_9 : decode cX2_breaks 9 = .ok (.i2l, 1) := by decide +kernel
theorem dX2_breaks_10 : decode cX2_breaks 10 = .ok (.lconst 0, 1) := by decide +kernel
theorem dX2_breaks_11 : decode cX2_breaks 11 = .ok (.ldc2_w 91, 3) := by decide +kernel
theorem dX2_breaks_14 : decode cX2_breaks 14 = .ok (.invokestatic 117, 3) := by decide +kernel
theorem dX2_breaks_17 : decode cX2_breaks 17 = .ok (.ifCond .ne 6, 3) := by decide +kernel
theorem dX2_breaks_20 : decode cX2_breaks 20 = .ok (.bipush (-102), 2) := by decide +kernel
theorem dX2_breaks_22 : decode cX2_breaks 22 = .ok (.ireturn, 1) := by decide +kernel
theorem dX2_breaks_23 : decode cX2_breaks 23 = .ok (.iconst 0, 1) := by decide +kernel
theorem dX2_breaks_24 : decode cX2_breaks 24 = .ok (.istore_n 3, 1) := by decide +kernel
theorem dX2_breaks_25 : decode cX2_breaks 25 = .ok (.iconst 0, 1) := by decide +kernel
theorem dX2_breaks_26 : decode cX2_breaks 26 = .ok (.istore 4, 2) := by decide +kernel
theorem dX2_breaks_28 : decode cX2_breaks 28 = .ok (.iload 4, 2) := by decide +kernel
theorem dX2_breaks_30 : decode cX2_breaks 30 = .ok (.aload_n 0, 1) := by decide +kernel
theorem dX2_breaks_31 : decode cX2_breaks 31 = .ok (.getfield 79, 3) := by decide +kernel
theorem dX2_breaks_34 : decode cX2_breaks 34 = .ok (.if_icmp .ge 59, 3) := by decide +kernel
theorem dX2_breaks_37 : decode cX2_breaks 37 = .ok (.iconst 0, 1) := by decide +kernel
theorem dX2_breaks_38 : decode cX2_breaks 38 = .ok (.istore 5, 2) := by decide +kernel
theorem dX2_breaks_40 : decode cX2_breaks 40 = .ok (.iload 5, 2) := by decide +kernel
theorem dX2_breaks_42 : decode cX2_breaks 42 = .ok (.aload_n 0, 1) := by decide +kernel
theorem dX2_breaks_43 : decode cX2_breaks 43 = .ok (.getfield 79, 3) := by decide +kernel
theorem dX2_breaks_46 : decode cX2_breaks 46 = .ok (.if_icmp .ge 41, 3) := by decide +kernel
theorem dX2_breaks_49 : decode cX2_breaks 49 = .ok (.aload_n 0, 1) := by decide +kernel
theorem dX2_breaks_50 : decode cX2_breaks 50 = .ok (.getfield 30, 3) := by decide +kernel
theorem dX2_breaks_53 : decode cX2_breaks 53 = .ok (.iload 4, 2) := by decide +kernel
theorem dX2_breaks_55 : decode cX2_breaks 55 = .ok (.iaload, 1) := by decide +kernel
theorem dX2_breaks_56 : decode cX2_breaks 56 = .ok (.iload_n 1, 1) := by decide +kernel
theorem dX2_breaks_57 : decode cX2_breaks 57 = .ok (.if_icmp .ne 30, 3) := by decide +kernel
theorem dX2_breaks_60 : decode cX2_breaks 60 = .ok (.iload_n 3, 1) := by decide +kernel
theorem dX2_breaks_61 : decode cX2_breaks 61 = .ok (.aload_n 0, 1) := by decide +kernel
theorem dX2_breaks_62 : decode cX2_breaks 62 = .ok (.iload_n 1, 1) := by decide +kernel
theorem dX2_breaks_63 : decode cX2_breaks 63 = .ok (.iload_n 2, 1) := by decide +kernel
theorem dX2_breaks_64 : decode cX2_breaks 64 = .ok (.iload 4, 2) := by decide +kernel
theorem dX2_breaks_66 : decode cX2_breaks 66 = .ok (.iload 5, 2) := by decide +kernel
theorem dX2_breaks_68 : decode cX2_breaks 68 = .ok (.invokevirtual 178, 3) := by decide +kernel
theorem dX2_breaks_71 : decode cX2_breaks 71 = .ok (.ifCond .eq 7, 3) := by decide +kernel
theorem dX2_breaks_74 : decode cX2_breaks 74 = .ok (.iconst 1, 1) := by decide +kernel
theorem dX2_breaks_75 : decode cX2_breaks 75 = .ok (.goto 4, 3) := by decide +kernel
theorem dX2_breaks_78 : decode cX2_breaks 78 = .ok (.iconst 0, 1) := by decide +kernel
theorem dX2_breaks_79 : decode cX2_breaks 79 = .ok (.iadd, 1) := by decide +kernel
theorem dX2_breaks_80 : decode cX2_breaks 80 = .ok (.istore_n 3, 1) := by decide +kernel
theorem dX2_breaks_81 : decode cX2_breaks 81 = .ok (.iinc 5 1, 3) := by decide +kernel
theorem dX2_breaks_84 : decode cX2_breaks 84 = .ok (.goto (-44), 3) := by decide +kernel
theorem dX2_breaks_87 : decode cX2_breaks 87 = .ok (.iinc 4 1, 3) := by decide +kernel
theorem dX2_breaks_90 : decode cX2_breaks 90 = .ok (.goto (-62), 3) := by decide +kernel
theorem dX2_breaks_93 : decode cX2_breaks 93 = .ok (.iload_n 3, 1) := by decide +kernel
theorem dX2_breaks_94 : decode cX2_breaks 94 = .ok (.ireturn, 1) := by decide +kernel
set_option maxRecDepth 20000 in
theorem ggX2_broken_X2_isHeight : GoodIn wsX2_broken wsX2_isHeight := goodIn_r _ [8, 9, 56, 57, 58, 59, 60, 61, 62, 63, 64, 65, 66, 67, 68, 69, 70, 71, 72, 73, 74, 75, 76, 77, 78, 79, 80, 81, 82] (by decide +kernel) (by decide +kernel)
set_option maxRecDepth 20000 in
theorem gX2_broken_X2_isHeight : GoodIn wsX2_broken (wsV RX2 172 RX2 yX2_isHeight wsX2_isHeight) := goodIn_app (goodIn_of _ (by decide +kernel)) ggX2_broken_X2_isHeight
set_option maxRecDepth 20000 in
theorem ggX2_broken_X2_in : GoodIn wsX2_broken wsX2_in := goodIn_r _ [12] (by decide +kernel) (by decide +kernel)
set_option maxRecDepth 20000 in
theorem gX2_broken_X2_in : GoodIn wsX2_broken (va_wsS RX2 117 yX2_in wsX2_in) := goodIn_app (goodIn_of _ (by decide +kernel)) ggX2_broken_X2_in
set_option maxRecDepth 20000 in
theorem ggX2_broken_X2_counts : GoodIn wsX2_broken wsX2_counts := goodIn_r _ [16, 3, 17, 18, 19, 7, 20, 21, 22, 23, 24, 25, 26, 27, 28, 29, 30, 31, 32, 33, 34, 35, 36, 37, 38, 39, 40, 41, 42, 43, 44, 45, 1, 46, 47, 48, 49, 50, 51, 52, 53, 54, 55, 56, 57, 58, 59, 60, 61, 62, 63, 64, 65, 66, 67, 68, 69, 70, 71, 72, 73, 74, 75, 76, 77, 78, 79, 80, 81, 82] (by decide +kernel) (by decide +kernel)
set_option maxRecDepth 20000 in
theorem gX2_broken_X2_counts : GoodIn wsX2_broken (wsV RX2 178 RX2 yX2_counts wsX2_counts) := goodIn_app (goodIn_of _ (by decide +kernel)) ggX2_broken_X2_counts
theorem dX2_broken_0 : decode cX2_broken 0 = .ok (.aload_n 0, 1) := by decide +kernel
theorem dX2_broken_1 : decode cX2_broken 1 = .ok (.iload_n 1, 1) := by decide +kernel
theorem dX2_broken_2 : decode cX2_broken 2 = .ok (.invokevirtual 172, 3) := by decide +kernel
theorem dX2_broken_5 : decode cX2_broken 5 = .ok (.ifCond .eq 26, 3) := by decide +kernel
theorem dX2_broken_8 : decode cX2_broken 8 = .ok (.iload_n 2, 1) := by decide +kernel
