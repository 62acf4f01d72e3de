theorem dL_isSo_0 : decode cL_isSo 0 = .ok (.iconst 1, 1) := by decide +kernel
theorem dL_isSo_1 : decode cL_isSo 1 = .ok (.istore 4, 2) := by decide +kernel
theorem dL_isSo_3 : decode cL_isSo 3 = .ok (.iconst 0, 1) := by decide +kernel
theorem dL_isSo_4 : decode cL_isSo 4 = .ok (.istore 5, 2) := by decide +kernel
theorem dL_isSo_6 : decode cL_isSo 6 = .ok (.iconst 0, 1) := by decide +kernel
theorem dL_isSo_7 : decode cL_isSo 7 = .ok (.istore 6, 2) := by decide +kernel
theorem dL_isSo_9 : decode cL_isSo 9 = .ok (.iconst 0, 1) := by decide +kernel
theorem dL_isSo_10 : decode cL_isSo 10 = .ok (.istore 7, 2) := by decide +kernel
theorem dL_isSo_12 : decode cL_isSo 12 = .ok (.iload 7, 2) := by decide +kernel
theorem dL_isSo_14 : decode cL_isSo 14 = .ok (.aload_n 1, 1) := by decide +kernel
theorem dL_isSo_15 : decode cL_isSo 15 = .ok (.bipush 6, 2) := by decide +kernel
theorem dL_isSo_17 : decode cL_isSo 17 = .ok (.iaload, 1) := by decide +kernel
theorem dL_isSo_18 : decode cL_isSo 18 = .ok (.if_icmp .ge 298, 3) := by decide +kernel
theorem dL_isSo_21 : decode cL_isSo 21 = .ok (.iload 4, 2) := by decide +kernel
theorem dL_isSo_23 : decode cL_isSo 23 = .ok (.ifCond .eq 293, 3) := by decide +kernel
theorem dL_isSo_26 : decode cL_isSo 26 = .ok (.aload_n 2, 1) := by decide +kernel
theorem dL_isSo_27 : decode cL_isSo 27 = .ok (.iconst 4, 1) := by decide +kernel
theorem dL_isSo_28 : decode cL_isSo 28 = .ok (.iload 7, 2) := by decide +kernel
theorem dL_isSo_30 : decode cL_isSo 30 = .ok (.imul, 1) := by decide +kernel
theorem dL_isSo_31 : decode cL_isSo 31 = .ok (.iaload, 1) := by decide +kernel
theorem dL_isSo_32 : decode cL_isSo 32 = .ok (.istore 8, 2) := by decide +kernel
theorem dL_isSo_34 : decode cL_isSo 34 = .ok (.aload_n 2, 1) := by decide +kernel
theorem dL_isSo_35 : decode cL_isSo 35 = .ok (.iload 7, 2) := by decide +kernel
theorem dL_isSo_37 : decode cL_isSo 37 = .ok (.aload_n 1, 1) := by decide +kernel
theorem dL_isSo_38 : decode cL_isSo 38 = .ok (.iconst 0, 1) := by decide +kernel
theorem dL_isSo_39 : decode cL_isSo 39 = .ok (.iaload, 1) := by decide +kernel
theorem dL_isSo_40 : decode cL_isSo 40 = .ok (.invokestatic 9, 3) := by decide +kernel
theorem dL_isSo_43 : decode cL_isSo 43 = .ok (.istore 9, 2) := by decide +kernel
theorem dL_isSo_45 : decode cL_isSo 45 = .ok (.aload_n 1, 1) := by decide +kernel
theorem dL_isSo_46 : decode cL_isSo 46 = .ok (.iconst 0, 1) := by decide +kernel
theorem dL_isSo_47 : decode cL_isSo 47 = .ok (.iaload, 1) := by decide +kernel
theorem dL_isSo_48 : decode cL_isSo 48 = .ok (.aload_n 2, 1) := by decide +kernel
theorem dL_isSo_49 : decode cL_isSo 49 = .ok (.iconst 4, 1) := by decide +kernel
theorem dL_isSo_50 : decode cL_isSo 50 = .ok (.iload 7, 2) := by decide +kernel
theorem dL_isSo_52 : decode cL_isSo 52 = .ok (.imul, 1) := by decide +kernel
theorem dL_isSo_53 : decode cL_isSo 53 = .ok (.iconst 3, 1) := by decide +kernel
theorem dL_isSo_54 : decode cL_isSo 54 = .ok (.iadd, 1) := by decide +kernel
theorem dL_isSo_55 : decode cL_isSo 55 = .ok (.iaload, 1) := by decide +kernel
theorem dL_isSo_56 : decode cL_isSo 56 = .ok (.isub, 1) := by decide +kernel
theorem dL_isSo_57 : decode cL_isSo 57 = .ok (.iconst 3, 1) := by decide +kernel
theorem dL_isSo_58 : decode cL_isSo 58 = .ok (.isub, 1) := by decide +kernel
theorem dL_isSo_59 : decode cL_isSo 59 = .ok (.istore 10, 2) := by decide +kernel
theorem dL_isSo_61 : decode cL_isSo 61 = .ok (.iload 5, 2) := by decide +kernel
theorem dL_isSo_63 : decode cL_isSo 63 = .ok (.aload_n 2, 1) := by decide +kernel
theorem dL_isSo_64 : decode cL_isSo 64 = .ok (.iconst 4, 1) := by decide +kernel
theorem dL_isSo_65 : decode cL_isSo 65 = .ok (.iload 7, 2) := by decide +kernel
theorem dL_isSo_67 : decode cL_isSo 67 = .ok (.imul, 1) := by decide +kernel
theorem dL_isSo_68 : decode cL_isSo 68 = .ok (.iconst 1, 1) := by decide +kernel
theorem dL_isSo_69 : decode cL_isSo 69 = .ok (.iadd, 1) := by decide +kernel
theorem dL_isSo_70 : decode cL_isSo 70 = .ok (.iaload, 1) := by decide +kernel
theorem dL_isSo_71 : decode cL_isSo 71 = .ok (.iadd, 1) := by decide +kernel
theorem dL_isSo_72 : decode cL_isSo 72 = .ok (.istore 5, 2) := by decide +kernel
theorem dL_isSo_74 : decode cL_isSo 74 = .ok (.iload 6, 2) := by decide +kernel
theorem dL_isSo_76 : decode cL_isSo 76 = .ok (.iload 9, 2) := by decide +kernel
theorem dL_isSo_78 : decode cL_isSo 78 = .ok (.bipush 69, 2) := by decide +kernel
theorem dL_isSo_80 : decode cL_isSo 80 = .ok (.if_icmp .le 14, 3) := by decide +kernel
theorem dL_isSo_83 : decode cL_isSo 83 = .ok (.aload_n 2, 1) := by decide +kernel
theorem dL_isSo_84 : decode cL_isSo 84 = .ok (.iconst 4, 1) := by decide +kernel
theorem dL_isSo_85 : decode cL_isSo 85 = .ok (.iload 7, 2) := by decide +kernel
theorem dL_isSo_87 : decode cL_isSo 87 = .ok (.imul, 1) := by decide +kernel
theorem dL_isSo_88 : decode cL_isSo 88 = .ok (.iconst 1, 1) := by decide +kernel
theorem dL_isSo_89 : decode cL_isSo 89 = .ok (.iadd, 1) := by decide +kernel
theorem dL_isSo_90 : decode cL_isSo 90 = .ok (.iaload, 1) := by decide +kernel
theorem dL_isSo_91 : decode cL_isSo 91 = .ok (.goto 4, 3) := by decide +kernel
theorem dL_isSo_94 : decode cL_isSo 94 = .ok (.iconst 0, 1) := by decide +kernel
theorem dL_isSo_95 : decode cL_isSo 95 = .ok (.iadd, 1) := by decide +kernel
theorem dL_isSo_96 : decode cL_isSo 96 = .ok (.istore 6, 2) := by decide +kernel
theorem dL_isSo_98 : decode cL_isSo 98 = .ok (.aload_n 0, 1) := by decide +kernel
theorem dL_isSo_99 : decode cL_isSo 99 = .ok (.iload 7, 2) := by decide +kernel
theorem dL_isSo_101 : decode cL_isSo 101 = .ok (.invokevirtual 94, 3) := by decide +kernel
theorem dL_isSo_104 : decode cL_isSo 104 = .ok (.iload 8, 2) := by decide +kernel
theorem dL_isSo_106 : decode cL_isSo 106 = .ok (.if_icmp .ne 143, 3) := by decide +kernel
theorem dL_isSo_109 : decode cL_isSo 109 = .ok (.aload_n 0, 1) := by decide +kernel
theorem dL_isSo_110 : decode cL_isSo 110 = .ok (.iload 8, 2) := by decide +kernel
theorem dL_isSo_112 : decode cL_isSo 112 = .ok (.iconst 0, 1) := by decide +kernel
theorem dL_isSo_113 : decode cL_isSo 113 = .ok (.invokevirtual 97, 3) := by decide +kernel
theorem dL_isSo_116 : decode cL_isSo 116 = .ok (.aload_n 2, 1) := by decide +kernel
theorem dL_isSo_117 : decode cL_isSo 117 = .ok (.iconst 4, 1) := by decide +kernel
theorem dL_isSo_118 : decode cL_isSo 118 = .ok (.iload 7, 2) := by decide +kernel
theorem dL_isSo_120 : decode cL_isSo 120 = .ok (.imul, 1) := by decide +kernel
theorem dL_isSo_121 : decode cL_isSo 121 = .ok (.iconst 1, 1) := by decide +kernel
theorem dL_isSo_122 : decode cL_isSo 122 = .ok (.iadd, 1) := by decide +kernel
theorem dL_isSo_123 : decode cL_isSo 123 = .ok (.iaload, 1) := by decide +kernel
theorem dL_isSo_124 : decode cL_isSo 124 = .ok (.if_icmp .ne 125, 3) := by decide +kernel
theorem dL_isSo_127 : decode cL_isSo 127 = .ok (.aload_n 0, 1) := by decide +kernel
theorem dL_isSo_128 : decode cL_isSo 128 = .ok (.iload 8, 2) := by decide +kernel
theorem dL_isSo_130 : decode cL_isSo 130 = .ok (.iconst 1, 1) := by decide +kernel
theorem dL_isSo_131 : decode cL_isSo 131 = .ok (.invokevirtual 97, 3) := by decide +kernel
theorem dL_isSo_134 : decode cL_isSo 134 = .ok (.aload_n 2, 1) := by decide +kernel
theorem dL_isSo_135 : decode cL_isSo 135 = .ok (.iconst 4, 1) := by decide +kernel
theorem dL_isSo_136 : decode cL_isSo 136 = .ok (.iload 7, 2) := by decide +kernel
theorem dL_isSo_138 : decode cL_isSo 138 = .ok (.imul, 1) := by decide +kernel
theorem dL_isSo_139 : decode cL_isSo 139 = .ok (.iconst 2, 1) := by decide +kernel
theorem dL_isSo_140 : decode cL_isSo 140 = .ok (.iadd, 1) := by decide +kernel
theorem dL_isSo_141 : decode cL_isSo 141 = .ok (.iaload, 1) := by decide +kernel
theorem dL_isSo_142 : decode cL_isSo 142 = .ok (.if_icmp .ne 107, 3) := by decide +kernel
theorem dL_isSo_145 : decode cL_isSo 145 = .ok (.aload_n 0, 1) := by decide +kernel
theorem dL_isSo_146 : decode cL_isSo 146 = .ok (.iload 8, 2) := by decide +kernel
theorem dL_isSo_148 : decode cL_isSo 148 = .ok (.iconst 2, 1) := by decide +kernel
theorem dL_isSo_149 : decode cL_isSo 149 = .ok (.invokevirtual 97, 3) := by decide +kernel
theorem dL_isSo_152 : decode cL_isSo 152 = .ok (.aload_n 2, 1) := by decide +kernel
theorem dL_isSo_153 : decode cL_isSo 153 = .ok (.iconst 4, 1) := by decide +kernel
theorem dL_isSo_154 : decode cL_isSo 154 = .ok (.iload 7, 2) := by decide +kernel
theorem dL_isSo_156 : decode cL_isSo 156 = .ok (.imul, 1) := by decide +kernel
theorem dL_isSo_157 : decode cL_isSo 157 = .ok (.iconst 3, 1) := by decide +kernel
theorem dL_isSo_158 : decode cL_isSo 158 = .ok (.iadd, 1) := by decide +kernel
theorem dL_isSo_159 : decode cL_isSo 159 = .ok (.iaload, 1) := by decide +kernel
theorem dL_isSo_160 : decode cL_isSo 160 = .ok (.if_icmp .ne 89, 3) := by decide +kernel
theorem dL_isSo_163 : decode cL_isSo 163 = .ok (.aload_n 0, 1) := by decide +kernel
theorem dL_isSo_164 : decode cL_isSo 164 = .ok (.iload 8, 2) := by decide +kernel
theorem dL_isSo_166 : decode cL_isSo 166 = .ok (.iconst 3, 1) := by decide +kernel
theorem dL_isSo_167 : decode cL_isSo 167 = .ok (.invokevirtual 97, 3) := by decide +kernel
theorem dL_isSo_170 : decode cL_isSo 170 = .ok (.iload 9, 2) := by decide +kernel
theorem dL_isSo_172 : decode cL_isSo 172 = .ok (.if_icmp .ne 77, 3) := by decide +kernel
theorem dL_isSo_175 : decode cL_isSo 175 = .ok (.aload_n 0, 1) := by decide +kernel
theorem dL_isSo_176 : decode cL_isSo 176 = .ok (.iload 8, 2) := by decide +kernel
theorem dL_isSo_178 : decode cL_isSo 178 = .ok (.iconst 4, 1) := by decide +kernel
theorem dL_isSo_179 : decode cL_isSo 179 = .ok (.invokevirtual 97, 3) := by decide +kernel
theorem dL_isSo_182 : decode cL_isSo 182 = .ok (.aload_n 1, 1) := by decide +kernel
theorem dL_isSo_183 : decode cL_isSo 183 = .ok (.bipush 13, 2) := by decide +kernel
theorem dL_isSo_185 : decode cL_isSo 185 = .ok (.iload 9, 2) := by decide +kernel
theorem dL_isSo_187 : decode cL_isSo 187 = .ok (.invokestatic 19, 3) := by decide +kernel
theorem dL_isSo_190 : decode cL_isSo 190 = .ok (.iadd, 1) := by decide +kernel
theorem dL_isSo_191 : decode cL_isSo 191 = .ok (.iaload, 1) := by decide +kernel
theorem dL_isSo_192 : decode cL_isSo 192 = .ok (.if_icmp .ne 57, 3) := by decide +kernel
theorem dL_isSo_195 : decode cL_isSo 195 = .ok (.aload_n 0, 1) := by decide +kernel
theorem dL_isSo_196 : decode cL_isSo 196 = .ok (.iload 8, 2) := by decide +kernel
theorem dL_isSo_198 : decode cL_isSo 198 = .ok (.iconst 5, 1) := by decide +kernel
theorem dL_isSo_199 : decode cL_isSo 199 = .ok (.invokevirtual 97, 3) := by decide +kernel
theorem dL_isSo_202 : decode cL_isSo 202 = .ok (.iload 10, 2) := by decide +kernel
theorem dL_isSo_204 : decode cL_isSo 204 = .ok (.ifCond .le 8, 3) := by decide +kernel
theorem dL_isSo_207 : decode cL_isSo 207 = .ok (.iload 10, 2) := by decide +kernel
theorem dL_isSo_209 : decode cL_isSo 209 = .ok (.goto 4, 3) := by decide +kernel
theorem dL_isSo_212 : decode cL_isSo 212 = .ok (.iconst 0, 1) := by decide +kernel
theorem dL_isSo_213 : decode cL_isSo 213 = .ok (.if_icmp .ne 36, 3) := by decide +kernel
theorem dL_isSo_216 : decode cL_isSo 216 = .ok (.aload_n 0, 1) := by decide +kernel
theorem dL_isSo_217 : decode cL_isSo 217 = .ok (.iload 8, 2) := by decide +kernel
theorem dL_isSo_219 : decode cL_isSo 219 = .ok (.bipush 6, 2) := by decide +kernel
theorem dL_isSo_221 : decode cL_isSo 221 = .ok (.invokevirtual 97, 3) := by decide +kernel
theorem dL_isSo_224 : decode cL_isSo 224 = .ok (.iload 9, 2) := by decide +kernel
theorem dL_isSo_226 : decode cL_isSo 226 = .ok (.invokestatic 19, 3) := by decide +kernel
theorem dL_isSo_229 : decode cL_isSo 229 = .ok (.if_icmp .ne 20, 3) := by decide +kernel
theorem dL_isSo_232 : decode cL_isSo 232 = .ok (.aload_n 0, 1) := by decide +kernel
theorem dL_isSo_233 : decode cL_isSo 233 = .ok (.iload 8, 2) := by decide +kernel
theorem dL_isSo_235 : decode cL_isSo 235 = .ok (.bipush 7, 2) := by decide +kernel
theorem dL_isSo_237 : decode cL_isSo 237 = .ok (.invokevirtual 97, 3) := by decide +kernel
theorem dL_isSo_240 : decode cL_isSo 240 = .ok (.ldc 44, 2) := by decide +kernel
theorem dL_isSo_242 : decode cL_isSo 242 = .ok (.if_icmp .ne 7, 3) := by decide +kernel
theorem dL_isSo_245 : decode cL_isSo 245 = .ok (.iconst 1, 1) := by decide +kernel
theorem dL_isSo_246 : decode cL_isSo 246 = .ok (.goto 4, 3) := by decide +kernel
theorem dL_isSo_249 : decode cL_isSo 249 = .ok (.iconst 0, 1) := by decide +kernel
theorem dL_isSo_250 : decode cL_isSo 250 = .ok (.istore 4, 2) := by decide +kernel
theorem dL_isSo_252 : decode cL_isSo 252 = .ok (.iload 4, 2) := by decide +kernel
theorem dL_isSo_254 : decode cL_isSo 254 = .ok (.ifCond .eq 53, 3) := by decide +kernel
theorem dL_isSo_257 : decode cL_isSo 257 = .ok (.iload 8, 2) := by decide +kernel
theorem dL_isSo_259 : decode cL_isSo 259 = .ok (.aload_n 0, 1) := by decide +kernel
theorem dL_isSo_260 : decode cL_isSo 260 = .ok (.bipush 9, 2) := by decide +kernel
theorem dL_isSo_262 : decode cL_isSo 262 = .ok (.invokevirtual 100, 3) := by decide +kernel
theorem dL_isSo_265 : decode cL_isSo 265 = .ok (.if_icmp .ge 42, 3) := by decide +kernel
theorem dL_isSo_268 : decode cL_isSo 268 = .ok (.iload 7, 2) := by decide +kernel
theorem dL_isSo_270 : decode cL_isSo 270 = .ok (.ifCond .eq 16, 3) := by decide +kernel
theorem dL_isSo_273 : decode cL_isSo 273 = .ok (.iload 8, 2) := by decide +kernel
theorem dL_isSo_275 : decode cL_isSo 275 = .ok (.aload_n 0, 1) := by decide +kernel
theorem dL_isSo_276 : decode cL_isSo 276 = .ok (.iload 7, 2) := by decide +kernel
theorem dL_isSo_278 : decode cL_isSo 278 = .ok (.iconst 1, 1) := by decide +kernel
theorem dL_isSo_279 : decode cL_isSo 279 = .ok (.isub, 1) := by decide +kernel
theorem dL_isSo_280 : decode cL_isSo 280 = .ok (.invokevirtual 94, 3) := by decide +kernel
theorem dL_isSo_283 : decode cL_isSo 283 = .ok (.if_icmp .le 24, 3) := by decide +kernel
theorem dL_isSo_286 : decode cL_isSo 286 = .ok (.aload_n 0, 1) := by decide +kernel
theorem dL_isSo_287 : decode cL_isSo 287 = .ok (.iload 8, 2) := by decide +kernel
theorem dL_isSo_289 : decode cL_isSo 289 = .ok (.iconst 1, 1) := by decide +kernel
theorem dL_isSo_290 : decode cL_isSo 290 = .ok (.invokevirtual 97, 3) := by decide +kernel
theorem dL_isSo_293 : decode cL_isSo 293 = .ok (.aload_n 0, 1) := by decide +kernel
theorem dL_isSo_294 : decode cL_isSo 294 = .ok (.iload 8, 2) := by decide +kernel
theorem dL_isSo_296 : decode cL_isSo 296 = .ok (.iconst 3, 1) := by decide +kernel
theorem dL_isSo_297 : decode cL_isSo 297 = .ok (.invokevirtual 97, 3) := by decide +kernel
theorem dL_isSo_300 : decode cL_isSo 300 = .ok (.if_icmp .lt 7, 3) := by decide +kernel
theorem dL_isSo_303 : decode cL_isSo 303 = .ok (.iconst 1, 1) := by decide +kernel
theorem dL_isSo_304 : decode cL_isSo 304 = .ok (.goto 4, 3) := by decide +kernel
theorem dL_isSo_307 : decode cL_isSo 307 = .ok (.iconst 0, 1) := by decide +kernel
theorem dL_isSo_308 : decode cL_isSo 308 = .ok (.istore 4, 2) := by decide +kernel
theorem dL_isSo_310 : decode cL_isSo 310 = .ok (.iinc 7 1, 3) := by decide +kernel
theorem dL_isSo_313 : decode cL_isSo 313 = .ok (.goto (-301), 3) := by decide +kernel
theorem dL_isSo_316 : decode cL_isSo 316 = .ok (.iconst 0, 1) := by decide +kernel
theorem dL_isSo_317 : decode cL_isSo 317 = .ok (.istore 7, 2) := by decide +kernel
theorem dL_isSo_319 : decode cL_isSo 319 = .ok (.iload 7, 2) := by decide +kernel
theorem dL_isSo_321 : decode cL_isSo 321 = .ok (.aload_n 1, 1) := by decide +kernel
theorem dL_isSo_322 : decode cL_isSo 322 = .ok (.bipush 7, 2) := by decide +kernel
theorem dL_isSo_324 : decode cL_isSo 324 = .ok (.iaload, 1) := by decide +kernel
theorem dL_isSo_325 : decode cL_isSo 325 = .ok (.if_icmp .ge 101, 3) := by decide +kernel
theorem dL_isSo_328 : decode cL_isSo 328 = .ok (.iload 4, 2) := by decide +kernel
theorem dL_isSo_330 : decode cL_isSo 330 = .ok (.ifCond .eq 96, 3) := by decide +kernel
theorem dL_isSo_333 : decode cL_isSo 333 = .ok (.aload_n 0, 1) := by decide +kernel
theorem dL_isSo_334 : decode cL_isSo 334 = .ok (.iload 7, 2) := by decide +kernel
theorem dL_isSo_336 : decode cL_isSo 336 = .ok (.iconst 0, 1) := by decide +kernel
theorem dL_isSo_337 : decode cL_isSo 337 = .ok (.invokevirtual 103, 3) := by decide +kernel
theorem dL_isSo_340 : decode cL_isSo 340 = .ok (.aload_n 3, 1) := by decide +kernel
theorem dL_isSo_341 : decode cL_isSo 341 = .ok (.iconst 2, 1) := by decide +kernel
theorem dL_isSo_342 : decode cL_isSo 342 = .ok (.iload 7, 2) := by decide +kernel
theorem dL_isSo_344 : decode cL_isSo 344 = .ok (.imul, 1) := by decide +kernel
