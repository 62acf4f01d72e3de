theorem dL_lots_0 : decode cL_lots 0 = .ok (.iload_n 3, 1) := by decide +kernel
theorem dL_lots_1 : decode cL_lots 1 = .ok (.ifCond .ne 96, 3) := by decide +kernel
theorem dL_lots_4 : decode cL_lots 4 = .ok (.iconst 1, 1) := by decide +kernel
theorem dL_lots_5 : decode cL_lots 5 = .ok (.iload 4, 2) := by decide +kernel
theorem dL_lots_7 : decode cL_lots 7 = .ok (.iload 4, 2) := by decide +kernel
theorem dL_lots_9 : decode cL_lots 9 = .ok (.iconst 3, 1) := by decide +kernel
theorem dL_lots_10 : decode cL_lots 10 = .ok (.irem, 1) := by decide +kernel
theorem dL_lots_11 : decode cL_lots 11 = .ok (.ifCond .ne 9, 3) := by decide +kernel
theorem dL_lots_14 : decode cL_lots 14 = .ok (.sipush 999, 3) := by decide +kernel
theorem dL_lots_17 : decode cL_lots 17 = .ok (.goto 5, 3) := by decide +kernel
theorem dL_lots_20 : decode cL_lots 20 = .ok (.bipush 120, 2) := by decide +kernel
theorem dL_lots_22 : decode cL_lots 22 = .ok (.irem, 1) := by decide +kernel
theorem dL_lots_23 : decode cL_lots 23 = .ok (.iadd, 1) := by decide +kernel
theorem dL_lots_24 : decode cL_lots 24 = .ok (.istore 5, 2) := by decide +kernel
theorem dL_lots_26 : decode cL_lots 26 = .ok (.bipush 60, 2) := by decide +kernel
theorem dL_lots_28 : decode cL_lots 28 = .ok (.iload 4, 2) := by decide +kernel
theorem dL_lots_30 : decode cL_lots 30 = .ok (.sipush 999, 3) := by decide +kernel
theorem dL_lots_33 : decode cL_lots 33 = .ok (.idiv, 1) := by decide +kernel
theorem dL_lots_34 : decode cL_lots 34 = .ok (.bipush 41, 2) := by decide +kernel
theorem dL_lots_36 : decode cL_lots 36 = .ok (.irem, 1) := by decide +kernel
theorem dL_lots_37 : decode cL_lots 37 = .ok (.iadd, 1) := by decide +kernel
theorem dL_lots_38 : decode cL_lots 38 = .ok (.istore 6, 2) := by decide +kernel
theorem dL_lots_40 : decode cL_lots 40 = .ok (.aload_n 1, 1) := by decide +kernel
theorem dL_lots_41 : decode cL_lots 41 = .ok (.bipush 6, 2) := by decide +kernel
theorem dL_lots_43 : decode cL_lots 43 = .ok (.iaload, 1) := by decide +kernel
theorem dL_lots_44 : decode cL_lots 44 = .ok (.bipush 12, 2) := by decide +kernel
theorem dL_lots_46 : decode cL_lots 46 = .ok (.if_icmp .ne 22, 3) := by decide +kernel
theorem dL_lots_49 : decode cL_lots 49 = .ok (.aload_n 0, 1) := by decide +kernel
theorem dL_lots_50 : decode cL_lots 50 = .ok (.iload 5, 2) := by decide +kernel
theorem dL_lots_52 : decode cL_lots 52 = .ok (.iload 6, 2) := by decide +kernel
theorem dL_lots_54 : decode cL_lots 54 = .ok (.invokevirtual 31, 3) := by decide +kernel
theorem dL_lots_57 : decode cL_lots 57 = .ok (.ldc 37, 2) := by decide +kernel
theorem dL_lots_59 : decode cL_lots 59 = .ok (.if_icmp .ne 7, 3) := by decide +kernel
theorem dL_lots_62 : decode cL_lots 62 = .ok (.iconst 1, 1) := by decide +kernel
theorem dL_lots_63 : decode cL_lots 63 = .ok (.goto 4, 3) := by decide +kernel
theorem dL_lots_66 : decode cL_lots 66 = .ok (.iconst 0, 1) := by decide +kernel
theorem dL_lots_67 : decode cL_lots 67 = .ok (.ireturn, 1) := by decide +kernel
theorem dL_lots_68 : decode cL_lots 68 = .ok (.aload_n 0, 1) := by decide +kernel
theorem dL_lots_69 : decode cL_lots 69 = .ok (.iload 5, 2) := by decide +kernel
theorem dL_lots_71 : decode cL_lots 71 = .ok (.iload 6, 2) := by decide +kernel
theorem dL_lots_73 : decode cL_lots 73 = .ok (.invokevirtual 31, 3) := by decide +kernel
theorem dL_lots_76 : decode cL_lots 76 = .ok (.aload_n 1, 1) := by decide +kernel
theorem dL_lots_77 : decode cL_lots 77 = .ok (.aload_n 2, 1) := by decide +kernel
theorem dL_lots_78 : decode cL_lots 78 = .ok (.iload 5, 2) := by decide +kernel
theorem dL_lots_80 : decode cL_lots 80 = .ok (.iload 6, 2) := by decide +kernel
theorem dL_lots_82 : decode cL_lots 82 = .ok (.aload_n 1, 1) := by decide +kernel
theorem dL_lots_83 : decode cL_lots 83 = .ok (.iconst 0, 1) := by decide +kernel
theorem dL_lots_84 : decode cL_lots 84 = .ok (.iaload, 1) := by decide +kernel
theorem dL_lots_85 : decode cL_lots 85 = .ok (.invokestatic 38, 3) := by decide +kernel
theorem dL_lots_88 : decode cL_lots 88 = .ok (.if_icmp .ne 7, 3) := by decide +kernel
theorem dL_lots_91 : decode cL_lots 91 = .ok (.iconst 1, 1) := by decide +kernel
theorem dL_lots_92 : decode cL_lots 92 = .ok (.goto 4, 3) := by decide +kernel
theorem dL_lots_95 : decode cL_lots 95 = .ok (.iconst 0, 1) := by decide +kernel
theorem dL_lots_96 : decode cL_lots 96 = .ok (.ireturn, 1) := by decide +kernel
theorem dL_lots_97 : decode cL_lots 97 = .ok (.aload_n 1, 1) := by decide +kernel
theorem dL_lots_98 : decode cL_lots 98 = .ok (.bipush 6, 2) := by decide +kernel
theorem dL_lots_100 : decode cL_lots 100 = .ok (.iaload, 1) := by decide +kernel
theorem dL_lots_101 : decode cL_lots 101 = .ok (.ifCond .ne 49, 3) := by decide +kernel
theorem dL_lots_104 : decode cL_lots 104 = .ok (.aload_n 0, 1) := by decide +kernel
theorem dL_lots_105 : decode cL_lots 105 = .ok (.aload_n 1, 1) := by decide +kernel
theorem dL_lots_106 : decode cL_lots 106 = .ok (.iconst 5, 1) := by decide +kernel
theorem dL_lots_107 : decode cL_lots 107 = .ok (.iaload, 1) := by decide +kernel
theorem dL_lots_108 : decode cL_lots 108 = .ok (.iconst 1, 1) := by decide +kernel
theorem dL_lots_109 : decode cL_lots 109 = .ok (.invokevirtual 41, 3) := by decide +kernel
theorem dL_lots_112 : decode cL_lots 112 = .ok (.ldc 44, 2) := by decide +kernel
theorem dL_lots_114 : decode cL_lots 114 = .ok (.if_icmp .ne 34, 3) := by decide +kernel
theorem dL_lots_117 : decode cL_lots 117 = .ok (.aload_n 0, 1) := by decide +kernel
theorem dL_lots_118 : decode cL_lots 118 = .ok (.aload_n 1, 1) := by decide +kernel
theorem dL_lots_119 : decode cL_lots 119 = .ok (.iconst 5, 1) := by decide +kernel
theorem dL_lots_120 : decode cL_lots 120 = .ok (.iaload, 1) := by decide +kernel
theorem dL_lots_121 : decode cL_lots 121 = .ok (.invokevirtual 45, 3) := by decide +kernel
theorem dL_lots_124 : decode cL_lots 124 = .ok (.ldc 44, 2) := by decide +kernel
theorem dL_lots_126 : decode cL_lots 126 = .ok (.if_icmp .ne 22, 3) := by decide +kernel
theorem dL_lots_129 : decode cL_lots 129 = .ok (.aload_n 0, 1) := by decide +kernel
theorem dL_lots_130 : decode cL_lots 130 = .ok (.aload_n 1, 1) := by decide +kernel
theorem dL_lots_131 : decode cL_lots 131 = .ok (.iconst 5, 1) := by decide +kernel
theorem dL_lots_132 : decode cL_lots 132 = .ok (.iaload, 1) := by decide +kernel
theorem dL_lots_133 : decode cL_lots 133 = .ok (.iconst 1, 1) := by decide +kernel
theorem dL_lots_134 : decode cL_lots 134 = .ok (.iconst 0, 1) := by decide +kernel
theorem dL_lots_135 : decode cL_lots 135 = .ok (.iconst 1, 1) := by decide +kernel
theorem dL_lots_136 : decode cL_lots 136 = .ok (.invokevirtual 47, 3) := by decide +kernel
theorem dL_lots_139 : decode cL_lots 139 = .ok (.ldc 44, 2) := by decide +kernel
theorem dL_lots_141 : decode cL_lots 141 = .ok (.if_icmp .ne 7, 3) := by decide +kernel
theorem dL_lots_144 : decode cL_lots 144 = .ok (.iconst 1, 1) := by decide +kernel
theorem dL_lots_145 : decode cL_lots 145 = .ok (.goto 4, 3) := by decide +kernel
theorem dL_lots_148 : decode cL_lots 148 = .ok (.iconst 0, 1) := by decide +kernel
theorem dL_lots_149 : decode cL_lots 149 = .ok (.ireturn, 1) := by decide +kernel
theorem dL_lots_150 : decode cL_lots 150 = .ok (.iload 4, 2) := by decide +kernel
theorem dL_lots_152 : decode cL_lots 152 = .ok (.aload_n 1, 1) := by decide +kernel
theorem dL_lots_153 : decode cL_lots 153 = .ok (.bipush 6, 2) := by decide +kernel
theorem dL_lots_155 : decode cL_lots 155 = .ok (.iaload, 1) := by decide +kernel
theorem dL_lots_156 : decode cL_lots 156 = .ok (.irem, 1) := by decide +kernel
theorem dL_lots_157 : decode cL_lots 157 = .ok (.istore 5, 2) := by decide +kernel
theorem dL_lots_159 : decode cL_lots 159 = .ok (.aload_n 2, 1) := by decide +kernel
theorem dL_lots_160 : decode cL_lots 160 = .ok (.iconst 4, 1) := by decide +kernel
theorem dL_lots_161 : decode cL_lots 161 = .ok (.iload 5, 2) := by decide +kernel
theorem dL_lots_163 : decode cL_lots 163 = .ok (.imul, 1) := by decide +kernel
theorem dL_lots_164 : decode cL_lots 164 = .ok (.iaload, 1) := by decide +kernel
theorem dL_lots_165 : decode cL_lots 165 = .ok (.istore 6, 2) := by decide +kernel
theorem dL_lots_167 : decode cL_lots 167 = .ok (.iload_n 3, 1) := by decide +kernel
theorem dL_lots_168 : decode cL_lots 168 = .ok (.iconst 1, 1) := by decide +kernel
theorem dL_lots_169 : decode cL_lots 169 = .ok (.if_icmp .ne 132, 3) := by decide +kernel
theorem dL_lots_172 : decode cL_lots 172 = .ok (.iconst 1, 1) := by decide +kernel
theorem dL_lots_173 : decode cL_lots 173 = .ok (.iload 4, 2) := by decide +kernel
theorem dL_lots_175 : decode cL_lots 175 = .ok (.bipush 12, 2) := by decide +kernel
theorem dL_lots_177 : decode cL_lots 177 = .ok (.idiv, 1) := by decide +kernel
theorem dL_lots_178 : decode cL_lots 178 = .ok (.aload_n 2, 1) := by decide +kernel
theorem dL_lots_179 : decode cL_lots 179 = .ok (.iconst 4, 1) := by decide +kernel
theorem dL_lots_180 : decode cL_lots 180 = .ok (.iload 5, 2) := by decide +kernel
theorem dL_lots_182 : decode cL_lots 182 = .ok (.imul, 1) := by decide +kernel
theorem dL_lots_183 : decode cL_lots 183 = .ok (.iconst 1, 1) := by decide +kernel
theorem dL_lots_184 : decode cL_lots 184 = .ok (.iadd, 1) := by decide +kernel
theorem dL_lots_185 : decode cL_lots 185 = .ok (.iaload, 1) := by decide +kernel
theorem dL_lots_186 : decode cL_lots 186 = .ok (.iconst 1, 1) := by decide +kernel
theorem dL_lots_187 : decode cL_lots 187 = .ok (.iadd, 1) := by decide +kernel
theorem dL_lots_188 : decode cL_lots 188 = .ok (.irem, 1) := by decide +kernel
theorem dL_lots_189 : decode cL_lots 189 = .ok (.iadd, 1) := by decide +kernel
theorem dL_lots_190 : decode cL_lots 190 = .ok (.istore 7, 2) := by decide +kernel
theorem dL_lots_192 : decode cL_lots 192 = .ok (.iload 7, 2) := by decide +kernel
theorem dL_lots_194 : decode cL_lots 194 = .ok (.aload_n 2, 1) := by decide +kernel
theorem dL_lots_195 : decode cL_lots 195 = .ok (.iconst 4, 1) := by decide +kernel
theorem dL_lots_196 : decode cL_lots 196 = .ok (.iload 5, 2) := by decide +kernel
theorem dL_lots_198 : decode cL_lots 198 = .ok (.imul, 1) := by decide +kernel
theorem dL_lots_199 : decode cL_lots 199 = .ok (.iconst 1, 1) := by decide +kernel
theorem dL_lots_200 : decode cL_lots 200 = .ok (.iadd, 1) := by decide +kernel
theorem dL_lots_201 : decode cL_lots 201 = .ok (.iaload, 1) := by decide +kernel
theorem dL_lots_202 : decode cL_lots 202 = .ok (.if_icmp .lt 22, 3) := by decide +kernel
theorem dL_lots_205 : decode cL_lots 205 = .ok (.aload_n 0, 1) := by decide +kernel
theorem dL_lots_206 : decode cL_lots 206 = .ok (.iload 6, 2) := by decide +kernel
theorem dL_lots_208 : decode cL_lots 208 = .ok (.iload 7, 2) := by decide +kernel
theorem dL_lots_210 : decode cL_lots 210 = .ok (.invokevirtual 41, 3) := by decide +kernel
theorem dL_lots_213 : decode cL_lots 213 = .ok (.ldc 51, 2) := by decide +kernel
theorem dL_lots_215 : decode cL_lots 215 = .ok (.if_icmp .ne 7, 3) := by decide +kernel
theorem dL_lots_218 : decode cL_lots 218 = .ok (.iconst 1, 1) := by decide +kernel
theorem dL_lots_219 : decode cL_lots 219 = .ok (.goto 4, 3) := by decide +kernel
theorem dL_lots_222 : decode cL_lots 222 = .ok (.iconst 0, 1) := by decide +kernel
theorem dL_lots_223 : decode cL_lots 223 = .ok (.ireturn, 1) := by decide +kernel
theorem dL_lots_224 : decode cL_lots 224 = .ok (.aload_n 1, 1) := by decide +kernel
theorem dL_lots_225 : decode cL_lots 225 = .ok (.bipush 6, 2) := by decide +kernel
theorem dL_lots_227 : decode cL_lots 227 = .ok (.iaload, 1) := by decide +kernel
theorem dL_lots_228 : decode cL_lots 228 = .ok (.bipush 12, 2) := by decide +kernel
theorem dL_lots_230 : decode cL_lots 230 = .ok (.if_icmp .ne 22, 3) := by decide +kernel
theorem dL_lots_233 : decode cL_lots 233 = .ok (.aload_n 0, 1) := by decide +kernel
theorem dL_lots_234 : decode cL_lots 234 = .ok (.iload 6, 2) := by decide +kernel
theorem dL_lots_236 : decode cL_lots 236 = .ok (.iload 7, 2) := by decide +kernel
theorem dL_lots_238 : decode cL_lots 238 = .ok (.invokevirtual 41, 3) := by decide +kernel
theorem dL_lots_241 : decode cL_lots 241 = .ok (.ldc 37, 2) := by decide +kernel
theorem dL_lots_243 : decode cL_lots 243 = .ok (.if_icmp .ne 7, 3) := by decide +kernel
theorem dL_lots_246 : decode cL_lots 246 = .ok (.iconst 1, 1) := by decide +kernel
theorem dL_lots_247 : decode cL_lots 247 = .ok (.goto 4, 3) := by decide +kernel
theorem dL_lots_250 : decode cL_lots 250 = .ok (.iconst 0, 1) := by decide +kernel
theorem dL_lots_251 : decode cL_lots 251 = .ok (.ireturn, 1) := by decide +kernel
theorem dL_lots_252 : decode cL_lots 252 = .ok (.aload_n 1, 1) := by decide +kernel
theorem dL_lots_253 : decode cL_lots 253 = .ok (.aload_n 2, 1) := by decide +kernel
theorem dL_lots_254 : decode cL_lots 254 = .ok (.iload 6, 2) := by decide +kernel
theorem dL_lots_256 : decode cL_lots 256 = .ok (.iload 7, 2) := by decide +kernel
theorem dL_lots_258 : decode cL_lots 258 = .ok (.invokestatic 52, 3) := by decide +kernel
theorem dL_lots_261 : decode cL_lots 261 = .ok (.aload_n 0, 1) := by decide +kernel
theorem dL_lots_262 : decode cL_lots 262 = .ok (.iload 6, 2) := by decide +kernel
theorem dL_lots_264 : decode cL_lots 264 = .ok (.iload 7, 2) := by decide +kernel
theorem dL_lots_266 : decode cL_lots 266 = .ok (.invokevirtual 41, 3) := by decide +kernel
theorem dL_lots_269 : decode cL_lots 269 = .ok (.aload_n 1, 1) := by decide +kernel
theorem dL_lots_270 : decode cL_lots 270 = .ok (.aload_n 2, 1) := by decide +kernel
theorem dL_lots_271 : decode cL_lots 271 = .ok (.iload 7, 2) := by decide +kernel
theorem dL_lots_273 : decode cL_lots 273 = .ok (.aload_n 2, 1) := by decide +kernel
theorem dL_lots_274 : decode cL_lots 274 = .ok (.iconst 4, 1) := by decide +kernel
theorem dL_lots_275 : decode cL_lots 275 = .ok (.iload 5, 2) := by decide +kernel
theorem dL_lots_277 : decode cL_lots 277 = .ok (.imul, 1) := by decide +kernel
theorem dL_lots_278 : decode cL_lots 278 = .ok (.iconst 2, 1) := by decide +kernel
theorem dL_lots_279 : decode cL_lots 279 = .ok (.iadd, 1) := by decide +kernel
theorem dL_lots_280 : decode cL_lots 280 = .ok (.iaload, 1) := by decide +kernel
theorem dL_lots_281 : decode cL_lots 281 = .ok (.aload_n 2, 1) := by decide +kernel
theorem dL_lots_282 : decode cL_lots 282 = .ok (.iconst 4, 1) := by decide +kernel
theorem dL_lots_283 : decode cL_lots 283 = .ok (.iload 5, 2) := by decide +kernel
theorem dL_lots_285 : decode cL_lots 285 = .ok (.imul, 1) := by decide +kernel
theorem dL_lots_286 : decode cL_lots 286 = .ok (.iconst 3, 1) := by decide +kernel
theorem dL_lots_287 : decode cL_lots 287 = .ok (.iadd, 1) := by decide +kernel
theorem dL_lots_288 : decode cL_lots 288 = .ok (.iaload, 1) := by decide +kernel
theorem dL_lots_289 : decode cL_lots 289 = .ok (.invokestatic 38, 3) := by decide +kernel
theorem dL_lots_292 : decode cL_lots 292 = .ok (.if_icmp .ne 7, 3) := by decide +kernel
theorem dL_lots_295 : decode cL_lots 295 = .ok (.iconst 1, 1) := by decide +kernel
theorem dL_lots_296 : decode cL_lots 296 = .ok (.goto 4, 3) := by decide +kernel
theorem dL_lots_299 : decode cL_lots 299 = .ok (.iconst 0, 1) := by decide +kernel
theorem dL_lots_300 : decode cL_lots 300 = .ok (.ireturn, 1) := by decide +kernel
theorem dL_lots_301 : decode cL_lots 301 = .ok (.iload_n 3, 1) := by decide +kernel
theorem dL_lots_302 : decode cL_lots 302 = .ok (.iconst 2, 1) := by decide +kernel
theorem dL_lots_303 : decode cL_lots 303 = .ok (.if_icmp .ne 95, 3) := by decide +kernel
theorem dL_lots_306 : decode cL_lots 306 = .ok (.aload_n 2, 1) := by decide +kernel
theorem dL_lots_307 : decode cL_lots 307 = .ok (.iconst 4, 1) := by decide +kernel
theorem dL_lots_308 : decode cL_lots 308 = .ok (.iload 5, 2) := by decide +kernel
theorem dL_lots_310 : decode cL_lots 310 = .ok (.imul, 1) := by decide +kernel
theorem dL_lots_311 : decode cL_lots 311 = .ok (.iconst 1, 1) := by decide +kernel
theorem dL_lots_312 : decode cL_lots 312 = .ok (.iadd, 1) := by decide +kernel
theorem dL_lots_313 : decode cL_lots 313 = .ok (.iaload, 1) := by decide +kernel
theorem dL_lots_314 : decode cL_lots 314 = .ok (.iconst 1, 1) := by decide +kernel
theorem dL_lots_315 : decode cL_lots 315 = .ok (.if_icmp .ne 20, 3) := by decide +kernel
theorem dL_lots_318 : decode cL_lots 318 = .ok (.aload_n 0, 1) := by decide +kernel
theorem dL_lots_319 : decode cL_lots 319 = .ok (.iload 6, 2) := by decide +kernel
theorem dL_lots_321 : decode cL_lots 321 = .ok (.invokevirtual 45, 3) := by decide +kernel
theorem dL_lots_324 : decode cL_lots 324 = .ok (.ldc 51, 2) := by decide +kernel
theorem dL_lots_326 : decode cL_lots 326 = .ok (.if_icmp .ne 7, 3) := by decide +kernel
theorem dL_lots_329 : decode cL_lots 329 = .ok (.iconst 1, 1) := by decide +kernel
theorem dL_lots_330 : decode cL_lots 330 = .ok (.goto 4, 3) := by decide +kernel
theorem dL_lots_333 : decode cL_lots 333 = .ok (.iconst 0, 1) := by decide +kernel
theorem dL_lots_334 : decode cL_lots 334 = .ok (.ireturn, 1) := by decide +kernel
theorem dL_lots_335 : decode cL_lots 335 = .ok (.aload_n 2, 1) := by decide +kernel
theorem dL_lots_336 : decode cL_lots 336 = .ok (.iconst 4, 1) := by decide +kernel
theorem dL_lots_337 : decode cL_lots 337 = .ok (.iload 5, 2) := by decide +kernel
theorem dL_lots_339 : decode cL_lots 339 = .ok (.imul, 1) := by decide +kernel
theorem dL_lots_340 : decode cL_lots 340 = .ok (.iconst 1, 1) := by decide +kernel
theorem dL_lots_341 : decode cL_lots 341 = .ok (.iadd, 1) := by decide +kernel
theorem dL_lots_342 : decode cL_lots 342 = .ok (.dup2, 1) := by decide +kernel
theorem dL_lots_343 : decode cL_lots 343 = .ok (.iaload, 1) := by decide +kernel
theorem dL_lots_344 : decode cL_lots 344 = .ok (.iconst 1, 1) := by decide +kernel
theorem dL_lots_345 : decode cL_lots 345 = .ok (.isub, 1) := by decide +kernel
theorem dL_lots_346 : decode cL_lots 346 = .ok (.iastore, 1) := by decide +kernel
theorem dL_lots_347 : decode cL_lots 347 = .ok (.aload_n 2, 1) := by decide +kernel
theorem dL_lots_348 : decode cL_lots 348 = .ok (.iconst 4, 1) := by decide +kernel
theorem dL_lots_349 : decode cL_lots 349 = .ok (.iload 5, 2) := by decide +kernel
theorem dL_lots_351 : decode cL_lots 351 = .ok (.imul, 1) := by decide +kernel
theorem dL_lots_352 : decode cL_lots 352 = .ok (.iconst 2, 1) := by decide +kernel
theorem dL_lots_353 : decode cL_lots 353 = .ok (.iadd, 1) := by decide +kernel
theorem dL_lots_354 : decode cL_lots 354 = .ok (.aload_n 2, 1) := by decide +kernel
theorem dL_lots_355 : decode cL_lots 355 = .ok (.iload 5, 2) := by decide +kernel
theorem dL_lots_357 : decode cL_lots 357 = .ok (.aload_n 1, 1) := by decide +kernel
theorem dL_lots_358 : decode cL_lots 358 = .ok (.iconst 0, 1) := by decide +kernel
theorem dL_lots_359 : decode cL_lots 359 = .ok (.iaload, 1) := by decide +kernel
theorem dL_lots_360 : decode cL_lots 360 = .ok (.invokestatic 9, 3) := by decide +kernel
theorem dL_lots_363 : decode cL_lots 363 = .ok (.iastore, 1) := by decide +kernel
theorem dL_lots_364 : decode cL_lots 364 = .ok (.aload_n 2, 1) := by decide +kernel
