theorem dL_below_0 : decode cL_below 0 = .ok (.iload_n 0, 1) := by decide +kernel
theorem dL_below_1 : decode cL_below 1 = .ok (.ldc 7, 2) := by decide +kernel
theorem dL_below_3 : decode cL_below 3 = .ok (.iand, 1) := by decide +kernel
theorem dL_below_4 : decode cL_below 4 = .ok (.iload_n 1, 1) := by decide +kernel
theorem dL_below_5 : decode cL_below 5 = .ok (.irem, 1) := by decide +kernel
theorem dL_below_6 : decode cL_below 6 = .ok (.ireturn, 1) := by decide +kernel
theorem dL_cell_0 : decode cL_cell 0 = .ok (.iload_n 1, 1) := by decide +kernel
theorem dL_cell_1 : decode cL_cell 1 = .ok (.aload_n 0, 1) := by decide +kernel
theorem dL_cell_2 : decode cL_cell 2 = .ok (.arraylength, 1) := by decide +kernel
theorem dL_cell_3 : decode cL_cell 3 = .ok (.if_icmp .ge 9, 3) := by decide +kernel
theorem dL_cell_6 : decode cL_cell 6 = .ok (.aload_n 0, 1) := by decide +kernel
theorem dL_cell_7 : decode cL_cell 7 = .ok (.iload_n 1, 1) := by decide +kernel
theorem dL_cell_8 : decode cL_cell 8 = .ok (.iaload, 1) := by decide +kernel
theorem dL_cell_9 : decode cL_cell 9 = .ok (.goto 9, 3) := by decide +kernel
theorem dL_cell_12 : decode cL_cell 12 = .ok (.ldc 8, 2) := by decide +kernel
theorem dL_cell_14 : decode cL_cell 14 = .ok (.iload_n 1, 1) := by decide +kernel
theorem dL_cell_15 : decode cL_cell 15 = .ok (.iconst 3, 1) := by decide +kernel
theorem dL_cell_16 : decode cL_cell 16 = .ok (.iadd, 1) := by decide +kernel
theorem dL_cell_17 : decode cL_cell 17 = .ok (.imul, 1) := by decide +kernel
theorem dL_cell_18 : decode cL_cell 18 = .ok (.ireturn, 1) := by decide +kernel
theorem dL_law_0 : decode cL_law 0 = .ok (.new 9, 3) := by decide +kernel
theorem dL_law_3 : decode cL_law 3 = .ok (.dup, 1) := by decide +kernel
theorem dL_law_4 : decode cL_law 4 = .ok (.invokespecial 11, 3) := by decide +kernel
theorem dL_law_7 : decode cL_law 7 = .ok (.astore_n 1, 1) := by decide +kernel
theorem dL_law_8 : decode cL_law 8 = .ok (.aload_n 1, 1) := by decide +kernel
theorem dL_law_9 : decode cL_law 9 = .ok (.bipush 100, 2) := by decide +kernel
theorem dL_law_11 : decode cL_law 11 = .ok (.bipush 100, 2) := by decide +kernel
theorem dL_law_13 : decode cL_law 13 = .ok (.bipush 100, 2) := by decide +kernel
theorem dL_law_15 : decode cL_law 15 = .ok (.aload_n 0, 1) := by decide +kernel
theorem dL_law_16 : decode cL_law 16 = .ok (.iconst 0, 1) := by decide +kernel
theorem dL_law_17 : decode cL_law 17 = .ok (.invokestatic 12, 3) := by decide +kernel
theorem dL_law_20 : decode cL_law 20 = .ok (.iconst 5, 1) := by decide +kernel
theorem dL_law_21 : decode cL_law 21 = .ok (.invokestatic 18, 3) := by decide +kernel
theorem dL_law_24 : decode cL_law 24 = .ok (.aload_n 0, 1) := by decide +kernel
theorem dL_law_25 : decode cL_law 25 = .ok (.iconst 1, 1) := by decide +kernel
theorem dL_law_26 : decode cL_law 26 = .ok (.invokestatic 12, 3) := by decide +kernel
theorem dL_law_29 : decode cL_law 29 = .ok (.bipush 10, 2) := by decide +kernel
theorem dL_law_31 : decode cL_law 31 = .ok (.invokestatic 18, 3) := by decide +kernel
theorem dL_law_34 : decode cL_law 34 = .ok (.aload_n 0, 1) := by decide +kernel
theorem dL_law_35 : decode cL_law 35 = .ok (.iconst 2, 1) := by decide +kernel
theorem dL_law_36 : decode cL_law 36 = .ok (.invokestatic 12, 3) := by decide +kernel
theorem dL_law_39 : decode cL_law 39 = .ok (.bipush 6, 2) := by decide +kernel
theorem dL_law_41 : decode cL_law 41 = .ok (.invokestatic 18, 3) := by decide +kernel
theorem dL_law_44 : decode cL_law 44 = .ok (.invokevirtual 22, 3) := by decide +kernel
theorem dL_law_47 : decode cL_law 47 = .ok (.pop, 1) := by decide +kernel
theorem dL_law_48 : decode cL_law 48 = .ok (.aload_n 1, 1) := by decide +kernel
theorem dL_law_49 : decode cL_law 49 = .ok (.bipush 60, 2) := by decide +kernel
theorem dL_law_51 : decode cL_law 51 = .ok (.bipush 60, 2) := by decide +kernel
theorem dL_law_53 : decode cL_law 53 = .ok (.bipush 90, 2) := by decide +kernel
theorem dL_law_55 : decode cL_law 55 = .ok (.iconst 0, 1) := by decide +kernel
theorem dL_law_56 : decode cL_law 56 = .ok (.aload_n 0, 1) := by decide +kernel
theorem dL_law_57 : decode cL_law 57 = .ok (.iconst 3, 1) := by decide +kernel
theorem dL_law_58 : decode cL_law 58 = .ok (.invokestatic 12, 3) := by decide +kernel
theorem dL_law_61 : decode cL_law 61 = .ok (.bipush 10, 2) := by decide +kernel
theorem dL_law_63 : decode cL_law 63 = .ok (.invokestatic 18, 3) := by decide +kernel
theorem dL_law_66 : decode cL_law 66 = .ok (.aload_n 0, 1) := by decide +kernel
theorem dL_law_67 : decode cL_law 67 = .ok (.iconst 4, 1) := by decide +kernel
theorem dL_law_68 : decode cL_law 68 = .ok (.invokestatic 12, 3) := by decide +kernel
theorem dL_law_71 : decode cL_law 71 = .ok (.bipush 6, 2) := by decide +kernel
theorem dL_law_73 : decode cL_law 73 = .ok (.invokestatic 18, 3) := by decide +kernel
theorem dL_law_76 : decode cL_law 76 = .ok (.invokevirtual 22, 3) := by decide +kernel
theorem dL_law_79 : decode cL_law 79 = .ok (.pop, 1) := by decide +kernel
theorem dL_law_80 : decode cL_law 80 = .ok (.aload_n 1, 1) := by decide +kernel
theorem dL_law_81 : decode cL_law 81 = .ok (.bipush 100, 2) := by decide +kernel
theorem dL_law_83 : decode cL_law 83 = .ok (.bipush 100, 2) := by decide +kernel
theorem dL_law_85 : decode cL_law 85 = .ok (.invokevirtual 26, 3) := by decide +kernel
theorem dL_law_88 : decode cL_law 88 = .ok (.pop, 1) := by decide +kernel
theorem dL_law_89 : decode cL_law 89 = .ok (.aload_n 1, 1) := by decide +kernel
theorem dL_law_90 : decode cL_law 90 = .ok (.bipush 60, 2) := by decide +kernel
theorem dL_law_92 : decode cL_law 92 = .ok (.aload_n 0, 1) := by decide +kernel
theorem dL_law_93 : decode cL_law 93 = .ok (.iconst 5, 1) := by decide +kernel
theorem dL_law_94 : decode cL_law 94 = .ok (.invokestatic 12, 3) := by decide +kernel
theorem dL_law_97 : decode cL_law 97 = .ok (.bipush 90, 2) := by decide +kernel
theorem dL_law_99 : decode cL_law 99 = .ok (.invokestatic 18, 3) := by decide +kernel
theorem dL_law_102 : decode cL_law 102 = .ok (.iadd, 1) := by decide +kernel
theorem dL_law_103 : decode cL_law 103 = .ok (.bipush 60, 2) := by decide +kernel
theorem dL_law_105 : decode cL_law 105 = .ok (.aload_n 0, 1) := by decide +kernel
theorem dL_law_106 : decode cL_law 106 = .ok (.bipush 6, 2) := by decide +kernel
theorem dL_law_108 : decode cL_law 108 = .ok (.invokestatic 12, 3) := by decide +kernel
theorem dL_law_111 : decode cL_law 111 = .ok (.bipush 90, 2) := by decide +kernel
theorem dL_law_113 : decode cL_law 113 = .ok (.invokestatic 18, 3) := by decide +kernel
theorem dL_law_116 : decode cL_law 116 = .ok (.iadd, 1) := by decide +kernel
theorem dL_law_117 : decode cL_law 117 = .ok (.invokevirtual 26, 3) := by decide +kernel
theorem dL_law_120 : decode cL_law 120 = .ok (.pop, 1) := by decide +kernel
theorem dL_law_121 : decode cL_law 121 = .ok (.iconst 0, 1) := by decide +kernel
theorem dL_law_122 : decode cL_law 122 = .ok (.istore_n 2, 1) := by decide +kernel
theorem dL_law_123 : decode cL_law 123 = .ok (.iload_n 2, 1) := by decide +kernel
theorem dL_law_124 : decode cL_law 124 = .ok (.iconst 5, 1) := by decide +kernel
theorem dL_law_125 : decode cL_law 125 = .ok (.if_icmp .ge 77, 3) := by decide +kernel
theorem dL_law_128 : decode cL_law 128 = .ok (.aload_n 1, 1) := by decide +kernel
theorem dL_law_129 : decode cL_law 129 = .ok (.iload_n 2, 1) := by decide +kernel
theorem dL_law_130 : decode cL_law 130 = .ok (.iconst 2, 1) := by decide +kernel
theorem dL_law_131 : decode cL_law 131 = .ok (.irem, 1) := by decide +kernel
theorem dL_law_132 : decode cL_law 132 = .ok (.iconst 1, 1) := by decide +kernel
theorem dL_law_133 : decode cL_law 133 = .ok (.aload_n 0, 1) := by decide +kernel
theorem dL_law_134 : decode cL_law 134 = .ok (.iload_n 2, 1) := by decide +kernel
theorem dL_law_135 : decode cL_law 135 = .ok (.invokestatic 12, 3) := by decide +kernel
theorem dL_law_138 : decode cL_law 138 = .ok (.bipush 12, 2) := by decide +kernel
theorem dL_law_140 : decode cL_law 140 = .ok (.invokestatic 18, 3) := by decide +kernel
theorem dL_law_143 : decode cL_law 143 = .ok (.iadd, 1) := by decide +kernel
theorem dL_law_144 : decode cL_law 144 = .ok (.iconst 5, 1) := by decide +kernel
theorem dL_law_145 : decode cL_law 145 = .ok (.aload_n 0, 1) := by decide +kernel
theorem dL_law_146 : decode cL_law 146 = .ok (.iload_n 2, 1) := by decide +kernel
theorem dL_law_147 : decode cL_law 147 = .ok (.iconst 2, 1) := by decide +kernel
theorem dL_law_148 : decode cL_law 148 = .ok (.iadd, 1) := by decide +kernel
theorem dL_law_149 : decode cL_law 149 = .ok (.invokestatic 12, 3) := by decide +kernel
theorem dL_law_152 : decode cL_law 152 = .ok (.bipush 16, 2) := by decide +kernel
theorem dL_law_154 : decode cL_law 154 = .ok (.invokestatic 18, 3) := by decide +kernel
theorem dL_law_157 : decode cL_law 157 = .ok (.iadd, 1) := by decide +kernel
theorem dL_law_158 : decode cL_law 158 = .ok (.bipush 10, 2) := by decide +kernel
theorem dL_law_160 : decode cL_law 160 = .ok (.aload_n 0, 1) := by decide +kernel
theorem dL_law_161 : decode cL_law 161 = .ok (.iload_n 2, 1) := by decide +kernel
theorem dL_law_162 : decode cL_law 162 = .ok (.iconst 4, 1) := by decide +kernel
theorem dL_law_163 : decode cL_law 163 = .ok (.iadd, 1) := by decide +kernel
theorem dL_law_164 : decode cL_law 164 = .ok (.invokestatic 12, 3) := by decide +kernel
theorem dL_law_167 : decode cL_law 167 = .ok (.bipush 60, 2) := by decide +kernel
theorem dL_law_169 : decode cL_law 169 = .ok (.invokestatic 18, 3) := by decide +kernel
theorem dL_law_172 : decode cL_law 172 = .ok (.iadd, 1) := by decide +kernel
theorem dL_law_173 : decode cL_law 173 = .ok (.iconst 1, 1) := by decide +kernel
theorem dL_law_174 : decode cL_law 174 = .ok (.aload_n 0, 1) := by decide +kernel
theorem dL_law_175 : decode cL_law 175 = .ok (.iload_n 2, 1) := by decide +kernel
theorem dL_law_176 : decode cL_law 176 = .ok (.bipush 6, 2) := by decide +kernel
theorem dL_law_178 : decode cL_law 178 = .ok (.iadd, 1) := by decide +kernel
theorem dL_law_179 : decode cL_law 179 = .ok (.invokestatic 12, 3) := by decide +kernel
theorem dL_law_182 : decode cL_law 182 = .ok (.iconst 5, 1) := by decide +kernel
theorem dL_law_183 : decode cL_law 183 = .ok (.invokestatic 18, 3) := by decide +kernel
theorem dL_law_186 : decode cL_law 186 = .ok (.iadd, 1) := by decide +kernel
theorem dL_law_187 : decode cL_law 187 = .ok (.invokevirtual 29, 3) := by decide +kernel
theorem dL_law_190 : decode cL_law 190 = .ok (.iload_n 2, 1) := by decide +kernel
theorem dL_law_191 : decode cL_law 191 = .ok (.if_icmp .eq 5, 3) := by decide +kernel
theorem dL_law_194 : decode cL_law 194 = .ok (.iconst 0, 1) := by decide +kernel
theorem dL_law_195 : decode cL_law 195 = .ok (.ireturn, 1) := by decide +kernel
theorem dL_law_196 : decode cL_law 196 = .ok (.iinc 2 1, 3) := by decide +kernel
theorem dL_law_199 : decode cL_law 199 = .ok (.goto (-76), 3) := by decide +kernel
theorem dL_law_202 : decode cL_law 202 = .ok (.iconst 0, 1) := by decide +kernel
theorem dL_law_203 : decode cL_law 203 = .ok (.istore_n 2, 1) := by decide +kernel
theorem dL_law_204 : decode cL_law 204 = .ok (.iload_n 2, 1) := by decide +kernel
theorem dL_law_205 : decode cL_law 205 = .ok (.iconst 3, 1) := by decide +kernel
theorem dL_law_206 : decode cL_law 206 = .ok (.if_icmp .ge 119, 3) := by decide +kernel
theorem dL_law_209 : decode cL_law 209 = .ok (.aload_n 1, 1) := by decide +kernel
theorem dL_law_210 : decode cL_law 210 = .ok (.bipush 70, 2) := by decide +kernel
theorem dL_law_212 : decode cL_law 212 = .ok (.aload_n 0, 1) := by decide +kernel
theorem dL_law_213 : decode cL_law 213 = .ok (.iload_n 2, 1) := by decide +kernel
theorem dL_law_214 : decode cL_law 214 = .ok (.bipush 7, 2) := by decide +kernel
theorem dL_law_216 : decode cL_law 216 = .ok (.iadd, 1) := by decide +kernel
theorem dL_law_217 : decode cL_law 217 = .ok (.invokestatic 12, 3) := by decide +kernel
theorem dL_law_220 : decode cL_law 220 = .ok (.bipush 60, 2) := by decide +kernel
theorem dL_law_222 : decode cL_law 222 = .ok (.invokestatic 18, 3) := by decide +kernel
theorem dL_law_225 : decode cL_law 225 = .ok (.iadd, 1) := by decide +kernel
theorem dL_law_226 : decode cL_law 226 = .ok (.bipush 70, 2) := by decide +kernel
theorem dL_law_228 : decode cL_law 228 = .ok (.aload_n 0, 1) := by decide +kernel
theorem dL_law_229 : decode cL_law 229 = .ok (.iload_n 2, 1) := by decide +kernel
theorem dL_law_230 : decode cL_law 230 = .ok (.bipush 9, 2) := by decide +kernel
theorem dL_law_232 : decode cL_law 232 = .ok (.iadd, 1) := by decide +kernel
theorem dL_law_233 : decode cL_law 233 = .ok (.invokestatic 12, 3) := by decide +kernel
theorem dL_law_236 : decode cL_law 236 = .ok (.bipush 60, 2) := by decide +kernel
theorem dL_law_238 : decode cL_law 238 = .ok (.invokestatic 18, 3) := by decide +kernel
theorem dL_law_241 : decode cL_law 241 = .ok (.iadd, 1) := by decide +kernel
theorem dL_law_242 : decode cL_law 242 = .ok (.iconst 1, 1) := by decide +kernel
theorem dL_law_243 : decode cL_law 243 = .ok (.aload_n 0, 1) := by decide +kernel
theorem dL_law_244 : decode cL_law 244 = .ok (.iload_n 2, 1) := by decide +kernel
theorem dL_law_245 : decode cL_law 245 = .ok (.iconst 1, 1) := by decide +kernel
theorem dL_law_246 : decode cL_law 246 = .ok (.iadd, 1) := by decide +kernel
theorem dL_law_247 : decode cL_law 247 = .ok (.invokestatic 12, 3) := by decide +kernel
theorem dL_law_250 : decode cL_law 250 = .ok (.bipush 20, 2) := by decide +kernel
theorem dL_law_252 : decode cL_law 252 = .ok (.invokestatic 18, 3) := by decide +kernel
theorem dL_law_255 : decode cL_law 255 = .ok (.iadd, 1) := by decide +kernel
theorem dL_law_256 : decode cL_law 256 = .ok (.invokevirtual 33, 3) := by decide +kernel
theorem dL_law_259 : decode cL_law 259 = .ok (.iload_n 2, 1) := by decide +kernel
theorem dL_law_260 : decode cL_law 260 = .ok (.if_icmp .ne 57, 3) := by decide +kernel
theorem dL_law_263 : decode cL_law 263 = .ok (.aload_n 1, 1) := by decide +kernel
theorem dL_law_264 : decode cL_law 264 = .ok (.bipush 70, 2) := by decide +kernel
theorem dL_law_266 : decode cL_law 266 = .ok (.aload_n 0, 1) := by decide +kernel
theorem dL_law_267 : decode cL_law 267 = .ok (.iload_n 2, 1) := by decide +kernel
theorem dL_law_268 : decode cL_law 268 = .ok (.bipush 8, 2) := by decide +kernel
theorem dL_law_270 : decode cL_law 270 = .ok (.iadd, 1) := by decide +kernel
theorem dL_law_271 : decode cL_law 271 = .ok (.invokestatic 12, 3) := by decide +kernel
theorem dL_law_274 : decode cL_law 274 = .ok (.bipush 60, 2) := by decide +kernel
theorem dL_law_276 : decode cL_law 276 = .ok (.invokestatic 18, 3) := by decide +kernel
theorem dL_law_279 : decode cL_law 279 = .ok (.iadd, 1) := by decide +kernel
theorem dL_law_280 : decode cL_law 280 = .ok (.bipush 70, 2) := by decide +kernel
theorem dL_law_282 : decode cL_law 282 = .ok (.aload_n 0, 1) := by decide +kernel
theorem dL_law_283 : decode cL_law 283 = .ok (.iload_n 2, 1) := by decide +kernel
theorem dL_law_284 : decode cL_law 284 = .ok (.bipush 10, 2) := by decide +kernel
theorem dL_law_286 : decode cL_law 286 = .ok (.iadd, 1) := by decide +kernel
theorem dL_law_287 : decode cL_law 287 = .ok (.invokestatic 12, 3) := by decide +kernel
theorem dL_law_290 : decode cL_law 290 = .ok (.bipush 60, 2) := by decide +kernel
theorem dL_law_292 : decode cL_law 292 = .ok (.invokestatic 18, 3) := by decide +kernel
theorem dL_law_295 : decode cL_law 295 = .ok (.iadd, 1) := by decide +kernel
theorem dL_law_296 : decode cL_law 296 = .ok (.iconst 1, 1) := by decide +kernel
theorem dL_law_297 : decode cL_law 297 = .ok (.aload_n 0, 1) := by decide +kernel
theorem dL_law_298 : decode cL_law 298 = .ok (.iload_n 2, 1) := by decide +kernel
theorem dL_law_299 : decode cL_law 299 = .ok (.iconst 2, 1) := by decide +kernel
theorem dL_law_300 : decode cL_law 300 = .ok (.iadd, 1) := by decide +kernel
theorem dL_law_301 : decode cL_law 301 = .ok (.invokestatic 12, 3) := by decide +kernel
theorem dL_law_304 : decode cL_law 304 = .ok (.bipush 99, 2) := by decide +kernel
theorem dL_law_306 : decode cL_law 306 = .ok (.invokestatic 18, 3) := by decide +kernel
theorem dL_law_309 : decode cL_law 309 = .ok (.iadd, 1) := by decide +kernel
theorem dL_law_310 : decode cL_law 310 = .ok (.invokevirtual 37, 3) := by decide +kernel
theorem dL_law_313 : decode cL_law 313 = .ok (.iload_n 2, 1) := by decide +kernel
theorem dL_law_314 : decode cL_law 314 = .ok (.if_icmp .eq 5, 3) := by decide +kernel
theorem dL_law_317 : decode cL_law 317 = .ok (.iconst 0, 1) := by decide +kernel
theorem dL_law_318 : decode cL_law 318 = .ok (.ireturn, 1) := by decide +kernel
theorem dL_law_319 : decode cL_law 319 = .ok (.iinc 2 1, 3) := by decide +kernel
theorem dL_law_322 : decode cL_law 322 = .ok (.goto (-118), 3) := by decide +kernel
theorem dL_law_325 : decode cL_law 325 = .ok (.iconst 0, 1) := by decide +kernel
theorem dL_law_326 : decode cL_law 326 = .ok (.istore_n 2, 1) := by decide +kernel
theorem dL_law_327 : decode cL_law 327 = .ok (.iconst 0, 1) := by decide +kernel
theorem dL_law_328 : decode cL_law 328 = .ok (.istore_n 3, 1) := by decide +kernel
theorem dL_law_329 : decode cL_law 329 = .ok (.iconst 0, 1) := by decide +kernel
theorem dL_law_330 : decode cL_law 330 = .ok (.istore 4, 2) := by decide +kernel
theorem dL_law_332 : decode cL_law 332 = .ok (.iconst 0, 1) := by decide +kernel
theorem dL_law_333 : decode cL_law 333 = .ok (.istore 5, 2) := by decide +kernel
theorem dL_law_335 : decode cL_law 335 = .ok (.iload 5, 2) := by decide +kernel
theorem dL_law_337 : decode cL_law 337 = .ok (.iconst 5, 1) := by decide +kernel
theorem dL_law_338 : decode cL_law 338 = .ok (.if_icmp .ge 21, 3) := by decide +kernel
theorem dL_law_341 : decode cL_law 341 = .ok (.iload 4, 2) := by decide +kernel
theorem dL_law_343 : decode cL_law 343 = .ok (.aload_n 1, 1) := by decide +kernel
theorem dL_law_344 : decode cL_law 344 = .ok (.iload 5, 2) := by decide +kernel
theorem dL_law_346 : decode cL_law 346 = .ok (.iconst 1, 1) := by decide +kernel
theorem dL_law_347 : decode cL_law 347 = .ok (.invokevirtual 40, 3) := by decide +kernel
theorem dL_law_350 : decode cL_law 350 = .ok (.iadd, 1) := by decide +kernel
theorem dL_law_351 : decode cL_law 351 = .ok (.istore 4, 2) := by decide +kernel
theorem dL_law_353 : decode cL_law 353 = .ok (.iinc 5 1, 3) := by decide +kernel
theorem dL_law_356 : decode cL_law 356 = .ok (.goto (-21), 3) := by decide +kernel
theorem dL_law_359 : decode cL_law 359 = .ok (.iconst 0, 1) := by decide +kernel
theorem dL_law_360 : decode cL_law 360 = .ok (.istore 5, 2) := by decide +kernel
theorem dL_law_362 : decode cL_law 362 = .ok (.iload 5, 2) := by decide +kernel
theorem dL_law_364 : decode cL_law 364 = .ok (.bipush 40, 2) := by decide +kernel
theorem dL_law_366 : decode cL_law 366 = .ok (.if_icmp .ge 249, 3) := by decide +kernel
theorem dL_law_369 : decode cL_law 369 = .ok (.aload_n 0, 1) := by decide +kernel
theorem dL_law_370 : decode cL_law 370 = .ok (.iload 5, 2) := by decide +kernel
theorem dL_law_372 : decode cL_law 372 = .ok (.bipush 16, 2) := by decide +kernel
theorem dL_law_374 : decode cL_law 374 = .ok (.irem, 1) := by decide +kernel
theorem dL_law_375 : decode cL_law 375 = .ok (.invokestatic 12, 3) := by decide +kernel
theorem dL_law_378 : decode cL_law 378 = .ok (.bipush 31, 2) := by decide +kernel
theorem dL_law_380 : decode cL_law 380 = .ok (.iload 5, 2) := by decide +kernel
theorem dL_law_382 : decode cL_law 382 = .ok (.imul, 1) := by decide +kernel
theorem dL_law_383 : decode cL_law 383 = .ok (.iadd, 1) := by decide +kernel
theorem dL_law_384 : decode cL_law 384 = .ok (.istore 6, 2) := by decide +kernel
theorem dL_law_386 : decode cL_law 386 = .ok (.aload_n 0, 1) := by decide +kernel
theorem dL_law_387 : decode cL_law 387 = .ok (.bipush 7, 2) := by decide +kernel
theorem dL_law_389 : decode cL_law 389 = .ok (.iload 5, 2) := by decide +kernel
theorem dL_law_391 : decode cL_law 391 = .ok (.imul, 1) := by decide +kernel
theorem dL_law_392 : decode cL_law 392 = .ok (.iconst 3, 1) := by decide +kernel
theorem dL_law_393 : decode cL_law 393 = .ok (.iadd, 1) := by decide +kernel
theorem dL_law_394 : decode cL_law 394 = .ok (.bipush 16, 2) := by decide +kernel
theorem dL_law_396 : decode cL_law 396 = .ok (.irem, 1) := by decide +kernel
theorem dL_law_397 : decode cL_law 397 = .ok (.invokestatic 12, 3) := by decide +kernel
theorem dL_law_400 : decode cL_law 400 = .ok (.iconst 5, 1) := by decide +kernel
theorem dL_law_401 : decode cL_law 401 = .ok (.iload 5, 2) := by decide +kernel
theorem dL_law_403 : decode cL_law 403 = .ok (.imul, 1) := by decide +kernel
theorem dL_law_404 : decode cL_law 404 = .ok (.iadd, 1) := by decide +kernel
theorem dL_law_405 : decode cL_law 405 = .ok (.istore 7, 2) := by decide +kernel
theorem dL_law_407 : decode cL_law 407 = .ok (.iload 6, 2) := by decide +kernel
theorem dL_law_409 : decode cL_law 409 = .ok (.iconst 4, 1) := by decide +kernel
theorem dL_law_410 : decode cL_law 410 = .ok (.invokestatic 18, 3) := by decide +kernel
theorem dL_law_413 : decode cL_law 413 = .ok (.ifCond .ne 110, 3) := by decide +kernel
theorem dL_law_416 : decode cL_law 416 = .ok (.iload_n 2, 1) := by decide +kernel
theorem dL_law_417 : decode cL_law 417 = .ok (.bipush 12, 2) := by decide +kernel
theorem dL_law_419 : decode cL_law 419 = .ok (.if_icmp .ge 104, 3) := by decide +kernel
theorem dL_law_422 : decode cL_law 422 = .ok (.iconst 1, 1) := by decide +kernel
theorem dL_law_423 : decode cL_law 423 = .ok (.iload 7, 2) := by decide +kernel
theorem dL_law_425 : decode cL_law 425 = .ok (.bipush 99, 2) := by decide +kernel
theorem dL_law_427 : decode cL_law 427 = .ok (.invokestatic 18, 3) := by decide +kernel
theorem dL_law_430 : decode cL_law 430 = .ok (.iadd, 1) := by decide +kernel
theorem dL_law_431 : decode cL_law 431 = .ok (.istore 8, 2) := by decide +kernel
theorem dL_law_433 : decode cL_law 433 = .ok (.aload_n 1, 1) := by decide +kernel
theorem dL_law_434 : decode cL_law 434 = .ok (.iload 7, 2) := by decide +kernel
theorem dL_law_436 : decode cL_law 436 = .ok (.iconst 4, 1) := by decide +kernel
theorem dL_law_437 : decode cL_law 437 = .ok (.invokestatic 18, 3) := by decide +kernel
theorem dL_law_440 : decode cL_law 440 = .ok (.ifCond .le 7, 3) := by decide +kernel
theorem dL_law_443 : decode cL_law 443 = .ok (.iconst 1, 1) := by decide +kernel
theorem dL_law_444 : decode cL_law 444 = .ok (.goto 4, 3) := by decide +kernel
theorem dL_law_447 : decode cL_law 447 = .ok (.iconst 0, 1) := by decide +kernel
theorem dL_law_448 : decode cL_law 448 = .ok (.bipush 40, 2) := by decide +kernel
theorem dL_law_450 : decode cL_law 450 = .ok (.iload 6, 2) := by decide +kernel
theorem dL_law_452 : decode cL_law 452 = .ok (.bipush 120, 2) := by decide +kernel
theorem dL_law_454 : decode cL_law 454 = .ok (.invokestatic 18, 3) := by decide +kernel
theorem dL_law_457 : decode cL_law 457 = .ok (.iadd, 1) := by decide +kernel
theorem dL_law_458 : decode cL_law 458 = .ok (.bipush 40, 2) := by decide +kernel
theorem dL_law_460 : decode cL_law 460 = .ok (.iload 7, 2) := by decide +kernel
theorem dL_law_462 : decode cL_law 462 = .ok (.bipush 120, 2) := by decide +kernel
theorem dL_law_464 : decode cL_law 464 = .ok (.invokestatic 18, 3) := by decide +kernel
theorem dL_law_467 : decode cL_law 467 = .ok (.iadd, 1) := by decide +kernel
theorem dL_law_468 : decode cL_law 468 = .ok (.iload 6, 2) := by decide +kernel
theorem dL_law_470 : decode cL_law 470 = .ok (.bipush 120, 2) := by decide +kernel
theorem dL_law_472 : decode cL_law 472 = .ok (.idiv, 1) := by decide +kernel
theorem dL_law_473 : decode cL_law 473 = .ok (.bipush 11, 2) := by decide +kernel
theorem dL_law_475 : decode cL_law 475 = .ok (.invokestatic 18, 3) := by decide +kernel
theorem dL_law_478 : decode cL_law 478 = .ok (.iconst 5, 1) := by decide +kernel
theorem dL_law_479 : decode cL_law 479 = .ok (.isub, 1) := by decide +kernel
theorem dL_law_480 : decode cL_law 480 = .ok (.iload 7, 2) := by decide +kernel
theorem dL_law_482 : decode cL_law 482 = .ok (.bipush 120, 2) := by decide +kernel
theorem dL_law_484 : decode cL_law 484 = .ok (.idiv, 1) := by decide +kernel
theorem dL_law_485 : decode cL_law 485 = .ok (.bipush 11, 2) := by decide +kernel
theorem dL_law_487 : decode cL_law 487 = .ok (.invokestatic 18, 3) := by decide +kernel
theorem dL_law_490 : decode cL_law 490 = .ok (.iconst 5, 1) := by decide +kernel
theorem dL_law_491 : decode cL_law 491 = .ok (.isub, 1) := by decide +kernel
theorem dL_law_492 : decode cL_law 492 = .ok (.iconst 1, 1) := by decide +kernel
theorem dL_law_493 : decode cL_law 493 = .ok (.iload 6, 2) := by decide +kernel
theorem dL_law_495 : decode cL_law 495 = .ok (.bipush 9, 2) := by decide +kernel
theorem dL_law_497 : decode cL_law 497 = .ok (.invokestatic 18, 3) := by decide +kernel
theorem dL_law_500 : decode cL_law 500 = .ok (.iadd, 1) := by decide +kernel
theorem dL_law_501 : decode cL_law 501 = .ok (.iload 8, 2) := by decide +kernel
theorem dL_law_503 : decode cL_law 503 = .ok (.invokevirtual 43, 3) := by decide +kernel
theorem dL_law_506 : decode cL_law 506 = .ok (.iload_n 2, 1) := by decide +kernel
theorem dL_law_507 : decode cL_law 507 = .ok (.if_icmp .eq 5, 3) := by decide +kernel
theorem dL_law_510 : decode cL_law 510 = .ok (.iconst 0, 1) := by decide +kernel
theorem dL_law_511 : decode cL_law 511 = .ok (.ireturn, 1) := by decide +kernel
theorem dL_law_512 : decode cL_law 512 = .ok (.iinc 2 1, 3) := by decide +kernel
theorem dL_law_515 : decode cL_law 515 = .ok (.iload_n 3, 1) := by decide +kernel
theorem dL_law_516 : decode cL_law 516 = .ok (.iload 8, 2) := by decide +kernel
theorem dL_law_518 : decode cL_law 518 = .ok (.iadd, 1) := by decide +kernel
theorem dL_law_519 : decode cL_law 519 = .ok (.istore_n 3, 1) := by decide +kernel
theorem dL_law_520 : decode cL_law 520 = .ok (.goto 26, 3) := by decide +kernel
theorem dL_law_523 : decode cL_law 523 = .ok (.iload 4, 2) := by decide +kernel
theorem dL_law_525 : decode cL_law 525 = .ok (.aload_n 1, 1) := by decide +kernel
theorem dL_law_526 : decode cL_law 526 = .ok (.iload 6, 2) := by decide +kernel
theorem dL_law_528 : decode cL_law 528 = .ok (.bipush 6, 2) := by decide +kernel
theorem dL_law_530 : decode cL_law 530 = .ok (.invokestatic 18, 3) := by decide +kernel
theorem dL_law_533 : decode cL_law 533 = .ok (.iload 6, 2) := by decide +kernel
theorem dL_law_535 : decode cL_law 535 = .ok (.bipush 6, 2) := by decide +kernel
theorem dL_law_537 : decode cL_law 537 = .ok (.idiv, 1) := by decide +kernel
theorem dL_law_538 : decode cL_law 538 = .ok (.iload 7, 2) := by decide +kernel
theorem dL_law_540 : decode cL_law 540 = .ok (.invokestatic 47, 3) := by decide +kernel
theorem dL_law_543 : decode cL_law 543 = .ok (.iadd, 1) := by decide +kernel
theorem dL_law_544 : decode cL_law 544 = .ok (.istore 4, 2) := by decide +kernel
theorem dL_law_546 : decode cL_law 546 = .ok (.aload_n 1, 1) := by decide +kernel
theorem dL_law_547 : decode cL_law 547 = .ok (.iconst 0, 1) := by decide +kernel
theorem dL_law_548 : decode cL_law 548 = .ok (.invokevirtual 51, 3) := by decide +kernel
theorem dL_law_551 : decode cL_law 551 = .ok (.istore 8, 2) := by decide +kernel
theorem dL_law_553 : decode cL_law 553 = .ok (.aload_n 1, 1) := by decide +kernel
theorem dL_law_554 : decode cL_law 554 = .ok (.bipush 19, 2) := by decide +kernel
theorem dL_law_556 : decode cL_law 556 = .ok (.invokevirtual 51, 3) := by decide +kernel
theorem dL_law_559 : decode cL_law 559 = .ok (.istore 9, 2) := by decide +kernel
theorem dL_law_561 : decode cL_law 561 = .ok (.iconst 1, 1) := by decide +kernel
theorem dL_law_562 : decode cL_law 562 = .ok (.iload 7, 2) := by decide +kernel
theorem dL_law_564 : decode cL_law 564 = .ok (.iconst 3, 1) := by decide +kernel
theorem dL_law_565 : decode cL_law 565 = .ok (.invokestatic 18, 3) := by decide +kernel
theorem dL_law_568 : decode cL_law 568 = .ok (.iadd, 1) := by decide +kernel
theorem dL_law_569 : decode cL_law 569 = .ok (.istore 10, 2) := by decide +kernel
theorem dL_law_571 : decode cL_law 571 = .ok (.aload_n 1, 1) := by decide +kernel
theorem dL_law_572 : decode cL_law 572 = .ok (.iload 10, 2) := by decide +kernel
theorem dL_law_574 : decode cL_law 574 = .ok (.invokevirtual 55, 3) := by decide +kernel
theorem dL_law_577 : decode cL_law 577 = .ok (.iload 8, 2) := by decide +kernel
theorem dL_law_579 : decode cL_law 579 = .ok (.iload 10, 2) := by decide +kernel
theorem dL_law_581 : decode cL_law 581 = .ok (.iadd, 1) := by decide +kernel
theorem dL_law_582 : decode cL_law 582 = .ok (.if_icmp .ne 25, 3) := by decide +kernel
theorem dL_law_585 : decode cL_law 585 = .ok (.aload_n 1, 1) := by decide +kernel
theorem dL_law_586 : decode cL_law 586 = .ok (.bipush 19, 2) := by decide +kernel
theorem dL_law_588 : decode cL_law 588 = .ok (.invokevirtual 51, 3) := by decide +kernel
theorem dL_law_591 : decode cL_law 591 = .ok (.iload 9, 2) := by decide +kernel
theorem dL_law_593 : decode cL_law 593 = .ok (.if_icmp .lt 14, 3) := by decide +kernel
theorem dL_law_596 : decode cL_law 596 = .ok (.aload_n 1, 1) := by decide +kernel
theorem dL_law_597 : decode cL_law 597 = .ok (.iload_n 2, 1) := by decide +kernel
theorem dL_law_598 : decode cL_law 598 = .ok (.iload_n 3, 1) := by decide +kernel
theorem dL_law_599 : decode cL_law 599 = .ok (.iload 4, 2) := by decide +kernel
theorem dL_law_601 : decode cL_law 601 = .ok (.invokestatic 58, 3) := by decide +kernel
theorem dL_law_604 : decode cL_law 604 = .ok (.ifCond .ne 5, 3) := by decide +kernel
theorem dL_law_607 : decode cL_law 607 = .ok (.iconst 0, 1) := by decide +kernel
theorem dL_law_608 : decode cL_law 608 = .ok (.ireturn, 1) := by decide +kernel
theorem dL_law_609 : decode cL_law 609 = .ok (.iinc 5 1, 3) := by decide +kernel
theorem dL_law_612 : decode cL_law 612 = .ok (.goto (-250), 3) := by decide +kernel
theorem dL_law_615 : decode cL_law 615 = .ok (.aload_n 1, 1) := by decide +kernel
theorem dL_law_616 : decode cL_law 616 = .ok (.invokevirtual 62, 3) := by decide +kernel
theorem dL_law_619 : decode cL_law 619 = .ok (.lstore 5, 2) := by decide +kernel
theorem dL_law_621 : decode cL_law 621 = .ok (.aload_n 1, 1) := by decide +kernel
theorem dL_law_622 : decode cL_law 622 = .ok (.invokevirtual 66, 3) := by decide +kernel
theorem dL_law_625 : decode cL_law 625 = .ok (.dconst 0, 1) := by decide +kernel
theorem dL_law_626 : decode cL_law 626 = .ok (.dcmp .g, 1) := by decide +kernel
theorem dL_law_627 : decode cL_law 627 = .ok (.ifCond .lt 48, 3) := by decide +kernel
theorem dL_law_630 : decode cL_law 630 = .ok (.aload_n 1, 1) := by decide +kernel
theorem dL_law_631 : decode cL_law 631 = .ok (.invokevirtual 66, 3) := by decide +kernel
theorem dL_law_634 : decode cL_law 634 = .ok (.dconst 1, 1) := by decide +kernel
theorem dL_law_635 : decode cL_law 635 = .ok (.dcmp .l, 1) := by decide +kernel
theorem dL_law_636 : decode cL_law 636 = .ok (.ifCond .gt 39, 3) := by decide +kernel
theorem dL_law_639 : decode cL_law 639 = .ok (.aload_n 1, 1) := by decide +kernel
theorem dL_law_640 : decode cL_law 640 = .ok (.iconst 4, 1) := by decide +kernel
theorem dL_law_641 : decode cL_law 641 = .ok (.invokevirtual 51, 3) := by decide +kernel
theorem dL_law_644 : decode cL_law 644 = .ok (.ifCond .le 12, 3) := by decide +kernel
theorem dL_law_647 : decode cL_law 647 = .ok (.aload_n 1, 1) := by decide +kernel
theorem dL_law_648 : decode cL_law 648 = .ok (.iconst 0, 1) := by decide +kernel
theorem dL_law_649 : decode cL_law 649 = .ok (.invokevirtual 70, 3) := by decide +kernel
theorem dL_law_652 : decode cL_law 652 = .ok (.iconst (-1), 1) := by decide +kernel
theorem dL_law_653 : decode cL_law 653 = .ok (.if_icmp .lt 22, 3) := by decide +kernel
theorem dL_law_656 : decode cL_law 656 = .ok (.aload_n 1, 1) := by decide +kernel
theorem dL_law_657 : decode cL_law 657 = .ok (.iconst 0, 1) := by decide +kernel
theorem dL_law_658 : decode cL_law 658 = .ok (.invokevirtual 73, 3) := by decide +kernel
theorem dL_law_661 : decode cL_law 661 = .ok (.iconst (-1), 1) := by decide +kernel
theorem dL_law_662 : decode cL_law 662 = .ok (.if_icmp .lt 13, 3) := by decide +kernel
theorem dL_law_665 : decode cL_law 665 = .ok (.aload_n 1, 1) := by decide +kernel
theorem dL_law_666 : decode cL_law 666 = .ok (.invokevirtual 62, 3) := by decide +kernel
theorem dL_law_669 : decode cL_law 669 = .ok (.lload 5, 2) := by decide +kernel
theorem dL_law_671 : decode cL_law 671 = .ok (.lcmp, 1) := by decide +kernel
theorem dL_law_672 : decode cL_law 672 = .ok (.ifCond .eq 5, 3) := by decide +kernel
theorem dL_law_675 : decode cL_law 675 = .ok (.iconst 0, 1) := by decide +kernel
theorem dL_law_676 : decode cL_law 676 = .ok (.ireturn, 1) := by decide +kernel
theorem dL_law_677 : decode cL_law 677 = .ok (.aload_n 1, 1) := by decide +kernel
theorem dL_law_678 : decode cL_law 678 = .ok (.invokevirtual 76, 3) := by decide +kernel
theorem dL_law_681 : decode cL_law 681 = .ok (.iconst 1, 1) := by decide +kernel
theorem dL_law_682 : decode cL_law 682 = .ok (.if_icmp .ne 14, 3) := by decide +kernel
theorem dL_law_685 : decode cL_law 685 = .ok (.aload_n 1, 1) := by decide +kernel
theorem dL_law_686 : decode cL_law 686 = .ok (.invokevirtual 80, 3) := by decide +kernel
theorem dL_law_689 : decode cL_law 689 = .ok (.ifCond .eq 7, 3) := by decide +kernel
theorem dL_law_692 : decode cL_law 692 = .ok (.iconst 1, 1) := by decide +kernel
theorem dL_law_693 : decode cL_law 693 = .ok (.goto 4, 3) := by decide +kernel
theorem dL_law_696 : decode cL_law 696 = .ok (.iconst 0, 1) := by decide +kernel
theorem dL_law_697 : decode cL_law 697 = .ok (.ireturn, 1) := by decide +kernel
theorem dL_acted_0 : decode cL_acted 0 = .ok (.iload_n 3, 1) := by decide +kernel
theorem dL_acted_1 : decode cL_acted 1 = .ok (.iconst 5, 1) := by decide +kernel
theorem dL_acted_2 : decode cL_acted 2 = .ok (.invokestatic 18, 3) := by decide +kernel
theorem dL_acted_5 : decode cL_acted 5 = .ok (.istore 4, 2) := by decide +kernel
theorem dL_acted_7 : decode cL_acted 7 = .ok (.aload_n 0, 1) := by decide +kernel
theorem dL_acted_8 : decode cL_acted 8 = .ok (.iconst 4, 1) := by decide +kernel
theorem dL_acted_9 : decode cL_acted 9 = .ok (.invokevirtual 51, 3) := by decide +kernel
theorem dL_acted_12 : decode cL_acted 12 = .ok (.istore 5, 2) := by decide +kernel
theorem dL_acted_14 : decode cL_acted 14 = .ok (.aload_n 0, 1) := by decide +kernel
theorem dL_acted_15 : decode cL_acted 15 = .ok (.iload 4, 2) := by decide +kernel
theorem dL_acted_17 : decode cL_acted 17 = .ok (.iconst 1, 1) := by decide +kernel
theorem dL_acted_18 : decode cL_acted 18 = .ok (.invokevirtual 40, 3) := by decide +kernel
theorem dL_acted_21 : decode cL_acted 21 = .ok (.istore 6, 2) := by decide +kernel
theorem dL_acted_23 : decode cL_acted 23 = .ok (.iload_n 1, 1) := by decide +kernel
theorem dL_acted_24 : decode cL_acted 24 = .ok (.iconst 3, 1) := by decide +kernel
theorem dL_acted_25 : decode cL_acted 25 = .ok (.if_icmp .ge 24, 3) := by decide +kernel
theorem dL_acted_28 : decode cL_acted 28 = .ok (.iload 5, 2) := by decide +kernel
theorem dL_acted_30 : decode cL_acted 30 = .ok (.ifCond .le 19, 3) := by decide +kernel
theorem dL_acted_33 : decode cL_acted 33 = .ok (.aload_n 0, 1) := by decide +kernel
theorem dL_acted_34 : decode cL_acted 34 = .ok (.iload 4, 2) := by decide +kernel
theorem dL_acted_36 : decode cL_acted 36 = .ok (.iload_n 2, 1) := by decide +kernel
theorem dL_acted_37 : decode cL_acted 37 = .ok (.iload 5, 2) := by decide +kernel
theorem dL_acted_39 : decode cL_acted 39 = .ok (.invokestatic 18, 3) := by decide +kernel
theorem dL_acted_42 : decode cL_acted 42 = .ok (.invokevirtual 84, 3) := by decide +kernel
theorem dL_acted_45 : decode cL_acted 45 = .ok (.pop, 1) := by decide +kernel
theorem dL_acted_46 : decode cL_acted 46 = .ok (.goto 64, 3) := by decide +kernel
theorem dL_acted_49 : decode cL_acted 49 = .ok (.iload_n 1, 1) := by decide +kernel
theorem dL_acted_50 : decode cL_acted 50 = .ok (.iconst 3, 1) := by decide +kernel
theorem dL_acted_51 : decode cL_acted 51 = .ok (.if_icmp .ne 24, 3) := by decide +kernel
theorem dL_acted_54 : decode cL_acted 54 = .ok (.iload 5, 2) := by decide +kernel
theorem dL_acted_56 : decode cL_acted 56 = .ok (.ifCond .le 19, 3) := by decide +kernel
theorem dL_acted_59 : decode cL_acted 59 = .ok (.aload_n 0, 1) := by decide +kernel
theorem dL_acted_60 : decode cL_acted 60 = .ok (.iload 4, 2) := by decide +kernel
theorem dL_acted_62 : decode cL_acted 62 = .ok (.iload_n 2, 1) := by decide +kernel
theorem dL_acted_63 : decode cL_acted 63 = .ok (.iload 5, 2) := by decide +kernel
theorem dL_acted_65 : decode cL_acted 65 = .ok (.invokestatic 18, 3) := by decide +kernel
theorem dL_acted_68 : decode cL_acted 68 = .ok (.invokevirtual 87, 3) := by decide +kernel
theorem dL_acted_71 : decode cL_acted 71 = .ok (.pop, 1) := by decide +kernel
theorem dL_acted_72 : decode cL_acted 72 = .ok (.goto 38, 3) := by decide +kernel
theorem dL_acted_75 : decode cL_acted 75 = .ok (.iload_n 1, 1) := by decide +kernel
theorem dL_acted_76 : decode cL_acted 76 = .ok (.iconst 4, 1) := by decide +kernel
theorem dL_acted_77 : decode cL_acted 77 = .ok (.if_icmp .ne 13, 3) := by decide +kernel
theorem dL_acted_80 : decode cL_acted 80 = .ok (.aload_n 0, 1) := by decide +kernel
theorem dL_acted_81 : decode cL_acted 81 = .ok (.iload 4, 2) := by decide +kernel
theorem dL_acted_83 : decode cL_acted 83 = .ok (.invokevirtual 90, 3) := by decide +kernel
theorem dL_acted_86 : decode cL_acted 86 = .ok (.pop, 1) := by decide +kernel
theorem dL_acted_87 : decode cL_acted 87 = .ok (.goto 23, 3) := by decide +kernel
theorem dL_acted_90 : decode cL_acted 90 = .ok (.iload_n 1, 1) := by decide +kernel
theorem dL_acted_91 : decode cL_acted 91 = .ok (.iconst 5, 1) := by decide +kernel
theorem dL_acted_92 : decode cL_acted 92 = .ok (.if_icmp .ne 18, 3) := by decide +kernel
theorem dL_acted_95 : decode cL_acted 95 = .ok (.aload_n 0, 1) := by decide +kernel
theorem dL_acted_96 : decode cL_acted 96 = .ok (.iload 4, 2) := by decide +kernel
theorem dL_acted_98 : decode cL_acted 98 = .ok (.iconst 1, 1) := by decide +kernel
theorem dL_acted_99 : decode cL_acted 99 = .ok (.iload_n 2, 1) := by decide +kernel
theorem dL_acted_100 : decode cL_acted 100 = .ok (.bipush 12, 2) := by decide +kernel
theorem dL_acted_102 : decode cL_acted 102 = .ok (.invokestatic 18, 3) := by decide +kernel
theorem dL_acted_105 : decode cL_acted 105 = .ok (.iadd, 1) := by decide +kernel
theorem dL_acted_106 : decode cL_acted 106 = .ok (.invokevirtual 93, 3) := by decide +kernel
theorem dL_acted_109 : decode cL_acted 109 = .ok (.pop, 1) := by decide +kernel
theorem dL_acted_110 : decode cL_acted 110 = .ok (.goto 16, 3) := by decide +kernel
theorem dL_acted_113 : decode cL_acted 113 = .ok (.astore 7, 2) := by decide +kernel
theorem dL_acted_115 : decode cL_acted 115 = .ok (.aload_n 0, 1) := by decide +kernel
theorem dL_acted_116 : decode cL_acted 116 = .ok (.iload 4, 2) := by decide +kernel
theorem dL_acted_118 : decode cL_acted 118 = .ok (.iconst 1, 1) := by decide +kernel
theorem dL_acted_119 : decode cL_acted 119 = .ok (.invokevirtual 40, 3) := by decide +kernel
theorem dL_acted_122 : decode cL_acted 122 = .ok (.iload 6, 2) := by decide +kernel
theorem dL_acted_124 : decode cL_acted 124 = .ok (.isub, 1) := by decide +kernel
theorem dL_acted_125 : decode cL_acted 125 = .ok (.ireturn, 1) := by decide +kernel
theorem dL_acted_126 : decode cL_acted 126 = .ok (.aload_n 0, 1) := by decide +kernel
theorem dL_acted_127 : decode cL_acted 127 = .ok (.iload 4, 2) := by decide +kernel
theorem dL_acted_129 : decode cL_acted 129 = .ok (.iconst 1, 1) := by decide +kernel
theorem dL_acted_130 : decode cL_acted 130 = .ok (.invokevirtual 40, 3) := by decide +kernel
theorem dL_acted_133 : decode cL_acted 133 = .ok (.iload 6, 2) := by decide +kernel
theorem dL_acted_135 : decode cL_acted 135 = .ok (.isub, 1) := by decide +kernel
theorem dL_acted_136 : decode cL_acted 136 = .ok (.ireturn, 1) := by decide +kernel
theorem dL_isWell_0 : decode cL_isWell 0 = .ok (.iconst 0, 1) := by decide +kernel
theorem dL_isWell_1 : decode cL_isWell 1 = .ok (.istore 4, 2) := by decide +kernel
theorem dL_isWell_3 : decode cL_isWell 3 = .ok (.iconst 0, 1) := by decide +kernel
theorem dL_isWell_4 : decode cL_isWell 4 = .ok (.istore 5, 2) := by decide +kernel
theorem dL_isWell_6 : decode cL_isWell 6 = .ok (.iconst 0, 1) := by decide +kernel
theorem dL_isWell_7 : decode cL_isWell 7 = .ok (.istore 6, 2) := by decide +kernel
theorem dL_isWell_9 : decode cL_isWell 9 = .ok (.iconst 0, 1) := by decide +kernel
theorem dL_isWell_10 : decode cL_isWell 10 = .ok (.istore 7, 2) := by decide +kernel
theorem dL_isWell_12 : decode cL_isWell 12 = .ok (.iload 7, 2) := by decide +kernel
theorem dL_isWell_14 : decode cL_isWell 14 = .ok (.iconst 2, 1) := by decide +kernel
theorem dL_isWell_15 : decode cL_isWell 15 = .ok (.if_icmp .ge 48, 3) := by decide +kernel
theorem dL_isWell_18 : decode cL_isWell 18 = .ok (.iload 4, 2) := by decide +kernel
theorem dL_isWell_20 : decode cL_isWell 20 = .ok (.aload_n 0, 1) := by decide +kernel
theorem dL_isWell_21 : decode cL_isWell 21 = .ok (.iload 7, 2) := by decide +kernel
theorem dL_isWell_23 : decode cL_isWell 23 = .ok (.bipush 7, 2) := by decide +kernel
theorem dL_isWell_25 : decode cL_isWell 25 = .ok (.invokevirtual 98, 3) := by decide +kernel
theorem dL_isWell_28 : decode cL_isWell 28 = .ok (.iadd, 1) := by decide +kernel
theorem dL_isWell_29 : decode cL_isWell 29 = .ok (.istore 4, 2) := by decide +kernel
theorem dL_isWell_31 : decode cL_isWell 31 = .ok (.iload 5, 2) := by decide +kernel
theorem dL_isWell_33 : decode cL_isWell 33 = .ok (.aload_n 0, 1) := by decide +kernel
theorem dL_isWell_34 : decode cL_isWell 34 = .ok (.iload 7, 2) := by decide +kernel
theorem dL_isWell_36 : decode cL_isWell 36 = .ok (.bipush 8, 2) := by decide +kernel
theorem dL_isWell_38 : decode cL_isWell 38 = .ok (.invokevirtual 98, 3) := by decide +kernel
theorem dL_isWell_41 : decode cL_isWell 41 = .ok (.iadd, 1) := by decide +kernel
theorem dL_isWell_42 : decode cL_isWell 42 = .ok (.istore 5, 2) := by decide +kernel
theorem dL_isWell_44 : decode cL_isWell 44 = .ok (.iload 6, 2) := by decide +kernel
theorem dL_isWell_46 : decode cL_isWell 46 = .ok (.aload_n 0, 1) := by decide +kernel
theorem dL_isWell_47 : decode cL_isWell 47 = .ok (.iload 7, 2) := by decide +kernel
theorem dL_isWell_49 : decode cL_isWell 49 = .ok (.bipush 9, 2) := by decide +kernel
theorem dL_isWell_51 : decode cL_isWell 51 = .ok (.invokevirtual 98, 3) := by decide +kernel
theorem dL_isWell_54 : decode cL_isWell 54 = .ok (.iadd, 1) := by decide +kernel
theorem dL_isWell_55 : decode cL_isWell 55 = .ok (.istore 6, 2) := by decide +kernel
theorem dL_isWell_57 : decode cL_isWell 57 = .ok (.iinc 7 1, 3) := by decide +kernel
theorem dL_isWell_60 : decode cL_isWell 60 = .ok (.goto (-48), 3) := by decide +kernel
theorem dL_isWell_63 : decode cL_isWell 63 = .ok (.iconst 0, 1) := by decide +kernel
theorem dL_isWell_64 : decode cL_isWell 64 = .ok (.istore 7, 2) := by decide +kernel
theorem dL_isWell_66 : decode cL_isWell 66 = .ok (.iconst 0, 1) := by decide +kernel
theorem dL_isWell_67 : decode cL_isWell 67 = .ok (.istore 8, 2) := by decide +kernel
theorem dL_isWell_69 : decode cL_isWell 69 = .ok (.iload 8, 2) := by decide +kernel
theorem dL_isWell_71 : decode cL_isWell 71 = .ok (.aload_n 0, 1) := by decide +kernel
theorem dL_isWell_72 : decode cL_isWell 72 = .ok (.iconst 4, 1) := by decide +kernel
theorem dL_isWell_73 : decode cL_isWell 73 = .ok (.invokevirtual 51, 3) := by decide +kernel
theorem dL_isWell_76 : decode cL_isWell 76 = .ok (.if_icmp .ge 95, 3) := by decide +kernel
theorem dL_isWell_79 : decode cL_isWell 79 = .ok (.iload 7, 2) := by decide +kernel
theorem dL_isWell_81 : decode cL_isWell 81 = .ok (.aload_n 0, 1) := by decide +kernel
theorem dL_isWell_82 : decode cL_isWell 82 = .ok (.iload 8, 2) := by decide +kernel
theorem dL_isWell_84 : decode cL_isWell 84 = .ok (.bipush 6, 2) := by decide +kernel
theorem dL_isWell_86 : decode cL_isWell 86 = .ok (.invokevirtual 101, 3) := by decide +kernel
theorem dL_isWell_89 : decode cL_isWell 89 = .ok (.iadd, 1) := by decide +kernel
theorem dL_isWell_90 : decode cL_isWell 90 = .ok (.istore 7, 2) := by decide +kernel
theorem dL_isWell_92 : decode cL_isWell 92 = .ok (.aload_n 0, 1) := by decide +kernel
theorem dL_isWell_93 : decode cL_isWell 93 = .ok (.iload 8, 2) := by decide +kernel
theorem dL_isWell_95 : decode cL_isWell 95 = .ok (.iconst 0, 1) := by decide +kernel
theorem dL_isWell_96 : decode cL_isWell 96 = .ok (.invokevirtual 101, 3) := by decide +kernel
theorem dL_isWell_99 : decode cL_isWell 99 = .ok (.ifCond .lt 64, 3) := by decide +kernel
theorem dL_isWell_102 : decode cL_isWell 102 = .ok (.aload_n 0, 1) := by decide +kernel
theorem dL_isWell_103 : decode cL_isWell 103 = .ok (.iload 8, 2) := by decide +kernel
theorem dL_isWell_105 : decode cL_isWell 105 = .ok (.iconst 0, 1) := by decide +kernel
theorem dL_isWell_106 : decode cL_isWell 106 = .ok (.invokevirtual 101, 3) := by decide +kernel
theorem dL_isWell_109 : decode cL_isWell 109 = .ok (.sipush 199, 3) := by decide +kernel
theorem dL_isWell_112 : decode cL_isWell 112 = .ok (.if_icmp .gt 51, 3) := by decide +kernel
theorem dL_isWell_115 : decode cL_isWell 115 = .ok (.aload_n 0, 1) := by decide +kernel
theorem dL_isWell_116 : decode cL_isWell 116 = .ok (.iload 8, 2) := by decide +kernel
theorem dL_isWell_118 : decode cL_isWell 118 = .ok (.iconst 1, 1) := by decide +kernel
theorem dL_isWell_119 : decode cL_isWell 119 = .ok (.invokevirtual 101, 3) := by decide +kernel
theorem dL_isWell_122 : decode cL_isWell 122 = .ok (.ifCond .lt 41, 3) := by decide +kernel
theorem dL_isWell_125 : decode cL_isWell 125 = .ok (.aload_n 0, 1) := by decide +kernel
theorem dL_isWell_126 : decode cL_isWell 126 = .ok (.iload 8, 2) := by decide +kernel
theorem dL_isWell_128 : decode cL_isWell 128 = .ok (.iconst 1, 1) := by decide +kernel
theorem dL_isWell_129 : decode cL_isWell 129 = .ok (.invokevirtual 101, 3) := by decide +kernel
theorem dL_isWell_132 : decode cL_isWell 132 = .ok (.sipush 199, 3) := by decide +kernel
theorem dL_isWell_135 : decode cL_isWell 135 = .ok (.if_icmp .gt 28, 3) := by decide +kernel
theorem dL_isWell_138 : decode cL_isWell 138 = .ok (.aload_n 0, 1) := by decide +kernel
theorem dL_isWell_139 : decode cL_isWell 139 = .ok (.iload 8, 2) := by decide +kernel
theorem dL_isWell_141 : decode cL_isWell 141 = .ok (.bipush 9, 2) := by decide +kernel
theorem dL_isWell_143 : decode cL_isWell 143 = .ok (.invokevirtual 101, 3) := by decide +kernel
theorem dL_isWell_146 : decode cL_isWell 146 = .ok (.bipush 6, 2) := by decide +kernel
theorem dL_isWell_148 : decode cL_isWell 148 = .ok (.if_icmp .le 17, 3) := by decide +kernel
theorem dL_isWell_151 : decode cL_isWell 151 = .ok (.aload_n 0, 1) := by decide +kernel
theorem dL_isWell_152 : decode cL_isWell 152 = .ok (.iload 8, 2) := by decide +kernel
theorem dL_isWell_154 : decode cL_isWell 154 = .ok (.bipush 7, 2) := by decide +kernel
theorem dL_isWell_156 : decode cL_isWell 156 = .ok (.invokevirtual 101, 3) := by decide +kernel
theorem dL_isWell_159 : decode cL_isWell 159 = .ok (.iconst 1, 1) := by decide +kernel
theorem dL_isWell_160 : decode cL_isWell 160 = .ok (.if_icmp .ne 5, 3) := by decide +kernel
theorem dL_isWell_163 : decode cL_isWell 163 = .ok (.iconst 0, 1) := by decide +kernel
theorem dL_isWell_164 : decode cL_isWell 164 = .ok (.ireturn, 1) := by decide +kernel
theorem dL_isWell_165 : decode cL_isWell 165 = .ok (.iinc 8 1, 3) := by decide +kernel
theorem dL_isWell_168 : decode cL_isWell 168 = .ok (.goto (-99), 3) := by decide +kernel
theorem dL_isWell_171 : decode cL_isWell 171 = .ok (.iconst 0, 1) := by decide +kernel
theorem dL_isWell_172 : decode cL_isWell 172 = .ok (.istore 8, 2) := by decide +kernel
theorem dL_isWell_174 : decode cL_isWell 174 = .ok (.iconst 0, 1) := by decide +kernel
theorem dL_isWell_175 : decode cL_isWell 175 = .ok (.istore 9, 2) := by decide +kernel
theorem dL_isWell_177 : decode cL_isWell 177 = .ok (.iload 9, 2) := by decide +kernel
theorem dL_isWell_179 : decode cL_isWell 179 = .ok (.iload_n 1, 1) := by decide +kernel
theorem dL_isWell_180 : decode cL_isWell 180 = .ok (.if_icmp .ge 21, 3) := by decide +kernel
theorem dL_isWell_183 : decode cL_isWell 183 = .ok (.iload 8, 2) := by decide +kernel
theorem dL_isWell_185 : decode cL_isWell 185 = .ok (.aload_n 0, 1) := by decide +kernel
theorem dL_isWell_186 : decode cL_isWell 186 = .ok (.iload 9, 2) := by decide +kernel
theorem dL_isWell_188 : decode cL_isWell 188 = .ok (.iconst 5, 1) := by decide +kernel
theorem dL_isWell_189 : decode cL_isWell 189 = .ok (.invokevirtual 104, 3) := by decide +kernel
theorem dL_isWell_192 : decode cL_isWell 192 = .ok (.iadd, 1) := by decide +kernel
theorem dL_isWell_193 : decode cL_isWell 193 = .ok (.istore 8, 2) := by decide +kernel
theorem dL_isWell_195 : decode cL_isWell 195 = .ok (.iinc 9 1, 3) := by decide +kernel
theorem dL_isWell_198 : decode cL_isWell 198 = .ok (.goto (-21), 3) := by decide +kernel
theorem dL_isWell_201 : decode cL_isWell 201 = .ok (.iconst 0, 1) := by decide +kernel
theorem dL_isWell_202 : decode cL_isWell 202 = .ok (.istore 9, 2) := by decide +kernel
theorem dL_isWell_204 : decode cL_isWell 204 = .ok (.iconst 0, 1) := by decide +kernel
theorem dL_isWell_205 : decode cL_isWell 205 = .ok (.istore 10, 2) := by decide +kernel
theorem dL_isWell_207 : decode cL_isWell 207 = .ok (.iconst 0, 1) := by decide +kernel
theorem dL_isWell_208 : decode cL_isWell 208 = .ok (.istore 11, 2) := by decide +kernel
theorem dL_isWell_210 : decode cL_isWell 210 = .ok (.iload 11, 2) := by decide +kernel
theorem dL_isWell_212 : decode cL_isWell 212 = .ok (.iconst 5, 1) := by decide +kernel
theorem dL_isWell_213 : decode cL_isWell 213 = .ok (.if_icmp .ge 34, 3) := by decide +kernel
theorem dL_isWell_216 : decode cL_isWell 216 = .ok (.iload 9, 2) := by decide +kernel
theorem dL_isWell_218 : decode cL_isWell 218 = .ok (.aload_n 0, 1) := by decide +kernel
theorem dL_isWell_219 : decode cL_isWell 219 = .ok (.iload 11, 2) := by decide +kernel
theorem dL_isWell_221 : decode cL_isWell 221 = .ok (.iconst 1, 1) := by decide +kernel
theorem dL_isWell_222 : decode cL_isWell 222 = .ok (.invokevirtual 40, 3) := by decide +kernel
theorem dL_isWell_225 : decode cL_isWell 225 = .ok (.iadd, 1) := by decide +kernel
theorem dL_isWell_226 : decode cL_isWell 226 = .ok (.istore 9, 2) := by decide +kernel
theorem dL_isWell_228 : decode cL_isWell 228 = .ok (.iload 10, 2) := by decide +kernel
theorem dL_isWell_230 : decode cL_isWell 230 = .ok (.aload_n 0, 1) := by decide +kernel
theorem dL_isWell_231 : decode cL_isWell 231 = .ok (.iload 11, 2) := by decide +kernel
theorem dL_isWell_233 : decode cL_isWell 233 = .ok (.bipush 9, 2) := by decide +kernel
theorem dL_isWell_235 : decode cL_isWell 235 = .ok (.invokevirtual 40, 3) := by decide +kernel
theorem dL_isWell_238 : decode cL_isWell 238 = .ok (.iadd, 1) := by decide +kernel
theorem dL_isWell_239 : decode cL_isWell 239 = .ok (.istore 10, 2) := by decide +kernel
theorem dL_isWell_241 : decode cL_isWell 241 = .ok (.iinc 11 1, 3) := by decide +kernel
theorem dL_isWell_244 : decode cL_isWell 244 = .ok (.goto (-34), 3) := by decide +kernel
theorem dL_isWell_247 : decode cL_isWell 247 = .ok (.iload 9, 2) := by decide +kernel
theorem dL_isWell_249 : decode cL_isWell 249 = .ok (.iload_n 3, 1) := by decide +kernel
theorem dL_isWell_250 : decode cL_isWell 250 = .ok (.aload_n 0, 1) := by decide +kernel
theorem dL_isWell_251 : decode cL_isWell 251 = .ok (.bipush 15, 2) := by decide +kernel
theorem dL_isWell_253 : decode cL_isWell 253 = .ok (.invokevirtual 51, 3) := by decide +kernel
theorem dL_isWell_256 : decode cL_isWell 256 = .ok (.isub, 1) := by decide +kernel
theorem dL_isWell_257 : decode cL_isWell 257 = .ok (.if_icmp .ne 38, 3) := by decide +kernel
theorem dL_isWell_260 : decode cL_isWell 260 = .ok (.iload 10, 2) := by decide +kernel
theorem dL_isWell_262 : decode cL_isWell 262 = .ok (.aload_n 0, 1) := by decide +kernel
theorem dL_isWell_263 : decode cL_isWell 263 = .ok (.bipush 13, 2) := by decide +kernel
theorem dL_isWell_265 : decode cL_isWell 265 = .ok (.invokevirtual 51, 3) := by decide +kernel
theorem dL_isWell_268 : decode cL_isWell 268 = .ok (.if_icmp .ne 27, 3) := by decide +kernel
theorem dL_isWell_271 : decode cL_isWell 271 = .ok (.aload_n 0, 1) := by decide +kernel
theorem dL_isWell_272 : decode cL_isWell 272 = .ok (.bipush 14, 2) := by decide +kernel
theorem dL_isWell_274 : decode cL_isWell 274 = .ok (.invokevirtual 51, 3) := by decide +kernel
theorem dL_isWell_277 : decode cL_isWell 277 = .ok (.iload 10, 2) := by decide +kernel
theorem dL_isWell_279 : decode cL_isWell 279 = .ok (.if_icmp .lt 16, 3) := by decide +kernel
theorem dL_isWell_282 : decode cL_isWell 282 = .ok (.iload 8, 2) := by decide +kernel
theorem dL_isWell_284 : decode cL_isWell 284 = .ok (.iload_n 2, 1) := by decide +kernel
theorem dL_isWell_285 : decode cL_isWell 285 = .ok (.iload 10, 2) := by decide +kernel
theorem dL_isWell_287 : decode cL_isWell 287 = .ok (.isub, 1) := by decide +kernel
theorem dL_isWell_288 : decode cL_isWell 288 = .ok (.if_icmp .gt 7, 3) := by decide +kernel
theorem dL_isWell_291 : decode cL_isWell 291 = .ok (.iconst 1, 1) := by decide +kernel
theorem dL_isWell_292 : decode cL_isWell 292 = .ok (.goto 4, 3) := by decide +kernel
theorem dL_isWell_295 : decode cL_isWell 295 = .ok (.iconst 0, 1) := by decide +kernel
theorem dL_isWell_296 : decode cL_isWell 296 = .ok (.istore 11, 2) := by decide +kernel
theorem dL_isWell_298 : decode cL_isWell 298 = .ok (.iload 11, 2) := by decide +kernel
theorem dL_isWell_300 : decode cL_isWell 300 = .ok (.ifCond .eq 87, 3) := by decide +kernel
theorem dL_isWell_303 : decode cL_isWell 303 = .ok (.iload 4, 2) := by decide +kernel
theorem dL_isWell_305 : decode cL_isWell 305 = .ok (.iload 5, 2) := by decide +kernel
theorem dL_isWell_307 : decode cL_isWell 307 = .ok (.iload 6, 2) := by decide +kernel
theorem dL_isWell_309 : decode cL_isWell 309 = .ok (.iadd, 1) := by decide +kernel
theorem dL_isWell_310 : decode cL_isWell 310 = .ok (.aload_n 0, 1) := by decide +kernel
theorem dL_isWell_311 : decode cL_isWell 311 = .ok (.bipush 8, 2) := by decide +kernel
theorem dL_isWell_313 : decode cL_isWell 313 = .ok (.invokevirtual 51, 3) := by decide +kernel
theorem dL_isWell_316 : decode cL_isWell 316 = .ok (.iadd, 1) := by decide +kernel
theorem dL_isWell_317 : decode cL_isWell 317 = .ok (.if_icmp .ne 70, 3) := by decide +kernel
theorem dL_isWell_320 : decode cL_isWell 320 = .ok (.iload 5, 2) := by decide +kernel
theorem dL_isWell_322 : decode cL_isWell 322 = .ok (.iload 7, 2) := by decide +kernel
theorem dL_isWell_324 : decode cL_isWell 324 = .ok (.aload_n 0, 1) := by decide +kernel
theorem dL_isWell_325 : decode cL_isWell 325 = .ok (.bipush 9, 2) := by decide +kernel
theorem dL_isWell_327 : decode cL_isWell 327 = .ok (.invokevirtual 51, 3) := by decide +kernel
theorem dL_isWell_330 : decode cL_isWell 330 = .ok (.iadd, 1) := by decide +kernel
theorem dL_isWell_331 : decode cL_isWell 331 = .ok (.if_icmp .ne 56, 3) := by decide +kernel
theorem dL_isWell_334 : decode cL_isWell 334 = .ok (.iload 6, 2) := by decide +kernel
theorem dL_isWell_336 : decode cL_isWell 336 = .ok (.ifCond .ne 51, 3) := by decide +kernel
theorem dL_isWell_339 : decode cL_isWell 339 = .ok (.aload_n 0, 1) := by decide +kernel
theorem dL_isWell_340 : decode cL_isWell 340 = .ok (.bipush 11, 2) := by decide +kernel
theorem dL_isWell_342 : decode cL_isWell 342 = .ok (.invokevirtual 51, 3) := by decide +kernel
theorem dL_isWell_345 : decode cL_isWell 345 = .ok (.iconst 3, 1) := by decide +kernel
theorem dL_isWell_346 : decode cL_isWell 346 = .ok (.if_icmp .gt 41, 3) := by decide +kernel
theorem dL_isWell_349 : decode cL_isWell 349 = .ok (.aload_n 0, 1) := by decide +kernel
theorem dL_isWell_350 : decode cL_isWell 350 = .ok (.iconst 2, 1) := by decide +kernel
theorem dL_isWell_351 : decode cL_isWell 351 = .ok (.invokevirtual 51, 3) := by decide +kernel
theorem dL_isWell_354 : decode cL_isWell 354 = .ok (.aload_n 0, 1) := by decide +kernel
theorem dL_isWell_355 : decode cL_isWell 355 = .ok (.iconst 1, 1) := by decide +kernel
theorem dL_isWell_356 : decode cL_isWell 356 = .ok (.invokevirtual 51, 3) := by decide +kernel
theorem dL_isWell_359 : decode cL_isWell 359 = .ok (.if_icmp .gt 28, 3) := by decide +kernel
theorem dL_isWell_362 : decode cL_isWell 362 = .ok (.aload_n 0, 1) := by decide +kernel
theorem dL_isWell_363 : decode cL_isWell 363 = .ok (.bipush 6, 2) := by decide +kernel
theorem dL_isWell_365 : decode cL_isWell 365 = .ok (.invokevirtual 51, 3) := by decide +kernel
theorem dL_isWell_368 : decode cL_isWell 368 = .ok (.aload_n 0, 1) := by decide +kernel
theorem dL_isWell_369 : decode cL_isWell 369 = .ok (.bipush 7, 2) := by decide +kernel
theorem dL_isWell_371 : decode cL_isWell 371 = .ok (.invokevirtual 51, 3) := by decide +kernel
theorem dL_isWell_374 : decode cL_isWell 374 = .ok (.iadd, 1) := by decide +kernel
theorem dL_isWell_375 : decode cL_isWell 375 = .ok (.aload_n 0, 1) := by decide +kernel
theorem dL_isWell_376 : decode cL_isWell 376 = .ok (.iconst 5, 1) := by decide +kernel
theorem dL_isWell_377 : decode cL_isWell 377 = .ok (.invokevirtual 51, 3) := by decide +kernel
theorem dL_isWell_380 : decode cL_isWell 380 = .ok (.if_icmp .gt 7, 3) := by decide +kernel
theorem dL_isWell_383 : decode cL_isWell 383 = .ok (.iconst 1, 1) := by decide +kernel
theorem dL_isWell_384 : decode cL_isWell 384 = .ok (.goto 4, 3) := by decide +kernel
theorem dL_isWell_387 : decode cL_isWell 387 = .ok (.iconst 0, 1) := by decide +kernel
theorem dL_isWell_388 : decode cL_isWell 388 = .ok (.ireturn, 1) := by decide +kernel
