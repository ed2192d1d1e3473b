/-! from 94.436 -/
/-! the reference (written by wip/tools/gen94m.py) -/
set_option maxRecDepth 100000 in
theorem hm_235 : ma_md 235 = some (12, yX12_cleanRegions, cX12_cleanRegions, 10, (some (FieldType.int))) := rfl
theorem p_12_285_12 : ma_pk 12 285 12 63 = true := by decide +kernel
theorem v_12_352_12 : ma_vl 12 352 12 = some (1, 205, 2) := by decide +kernel
theorem v_12_414_12 : ma_vl 12 414 12 = some (1, 236, 0) := by decide +kernel
theorem v_12_417_12 : ma_vl 12 417 12 = some (1, 234, 0) := by decide +kernel
theorem dX12_cleanRegions_0 : decode cX12_cleanRegions 0 = .ok (.aload_n 0, 1) := by decide +kernel
theorem dX12_cleanRegions_1 : decode cX12_cleanRegions 1 = .ok (.invokevirtual 346, 3) := by decide +kernel
theorem dX12_cleanRegions_4 : decode cX12_cleanRegions 4 = .ok (.istore_n 1, 1) := by decide +kernel
theorem dX12_cleanRegions_5 : decode cX12_cleanRegions 5 = .ok (.iconst 0, 1) := by decide +kernel
theorem dX12_cleanRegions_6 : decode cX12_cleanRegions 6 = .ok (.istore_n 2, 1) := by decide +kernel
theorem dX12_cleanRegions_7 : decode cX12_cleanRegions 7 = .ok (.iload_n 2, 1) := by decide +kernel
theorem dX12_cleanRegions_8 : decode cX12_cleanRegions 8 = .ok (.aload_n 0, 1) := by decide +kernel
theorem dX12_cleanRegions_42 : decode cX12_cleanRegions 42 = .ok (.iconst 0, 1) := by decide +kernel
theorem dX12_cleanRegions_43 : decode cX12_cleanRegions 43 = .ok (.istore_n 2, 1) := by decide +kernel
theorem dX12_cleanRegions_15 : decode cX12_cleanRegions 15 = .ok (.aload_n 0, 1) := by decide +kernel
theorem dX12_cleanRegions_19 : decode cX12_cleanRegions 19 = .ok (.iload_n 2, 1) := by decide +kernel
theorem dX12_cleanRegions_20 : decode cX12_cleanRegions 20 = .ok (.iconst 0, 1) := by decide +kernel
theorem dX12_cleanRegions_22 : decode cX12_cleanRegions 22 = .ok (.aload_n 0, 1) := by decide +kernel
theorem dX12_cleanRegions_26 : decode cX12_cleanRegions 26 = .ok (.iload_n 2, 1) := by decide +kernel
theorem dX12_cleanRegions_27 : decode cX12_cleanRegions 27 = .ok (.iconst 0, 1) := by decide +kernel
theorem dX12_cleanRegions_29 : decode cX12_cleanRegions 29 = .ok (.aload_n 0, 1) := by decide +kernel
theorem dX12_cleanRegions_33 : decode cX12_cleanRegions 33 = .ok (.iload_n 2, 1) := by decide +kernel
theorem dX12_cleanRegions_34 : decode cX12_cleanRegions 34 = .ok (.iconst 0, 1) := by decide +kernel
theorem dX12_cleanRegions_36 : decode cX12_cleanRegions 36 = .ok (.iinc 2 1, 3) := by decide +kernel
theorem dX12_cleanRegions_39 : decode cX12_cleanRegions 39 = .ok (.goto (-32), 3) := by decide +kernel
theorem dX12_cleanRegions_35 : decode cX12_cleanRegions 35 = .ok (.bastore, 1) := by decide +kernel
theorem dX12_cleanRegions_30 : decode cX12_cleanRegions 30 = .ok (.getfield 104, 3) := by decide +kernel
theorem dX12_cleanRegions_28 : decode cX12_cleanRegions 28 = .ok (.bastore, 1) := by decide +kernel
theorem dX12_cleanRegions_23 : decode cX12_cleanRegions 23 = .ok (.getfield 101, 3) := by decide +kernel
theorem dX12_cleanRegions_21 : decode cX12_cleanRegions 21 = .ok (.iastore, 1) := by decide +kernel
theorem dX12_cleanRegions_16 : decode cX12_cleanRegions 16 = .ok (.getfield 98, 3) := by decide +kernel
theorem dX12_cleanRegions_12 : decode cX12_cleanRegions 12 = .ok (.if_icmp .ge 30, 3) := by decide +kernel
theorem dX12_cleanRegions_9 : decode cX12_cleanRegions 9 = .ok (.getfield 234, 3) := by decide +kernel
theorem dX12_cleanRegions_44 : decode cX12_cleanRegions 44 = .ok (.iload_n 2, 1) := by decide +kernel
theorem dX12_cleanRegions_45 : decode cX12_cleanRegions 45 = .ok (.sipush 3100, 3) := by decide +kernel
theorem dX12_cleanRegions_119 : decode cX12_cleanRegions 119 = .ok (.iconst 0, 1) := by decide +kernel
theorem dX12_cleanRegions_120 : decode cX12_cleanRegions 120 = .ok (.istore_n 2, 1) := by decide +kernel
theorem dX12_cleanRegions_51 : decode cX12_cleanRegions 51 = .ok (.aload_n 0, 1) := by decide +kernel
theorem dX12_cleanRegions_55 : decode cX12_cleanRegions 55 = .ok (.iload_n 2, 1) := by decide +kernel
theorem dX12_cleanRegions_63 : decode cX12_cleanRegions 63 = .ok (.aload_n 0, 1) := by decide +kernel
theorem dX12_cleanRegions_67 : decode cX12_cleanRegions 67 = .ok (.aload_n 0, 1) := by decide +kernel
theorem dX12_cleanRegions_71 : decode cX12_cleanRegions 71 = .ok (.iload_n 2, 1) := by decide +kernel
theorem dX12_cleanRegions_73 : decode cX12_cleanRegions 73 = .ok (.aload_n 0, 1) := by decide +kernel
theorem dX12_cleanRegions_78 : decode cX12_cleanRegions 78 = .ok (.dup2, 1) := by decide +kernel
theorem dX12_cleanRegions_80 : decode cX12_cleanRegions 80 = .ok (.aload_n 0, 1) := by decide +kernel
theorem dX12_cleanRegions_81 : decode cX12_cleanRegions 81 = .ok (.iload_n 2, 1) := by decide +kernel
theorem dX12_cleanRegions_82 : decode cX12_cleanRegions 82 = .ok (.invokevirtual 327, 3) := by decide +kernel
theorem dX12_cleanRegions_85 : decode cX12_cleanRegions 85 = .ok (.iadd, 1) := by decide +kernel
theorem dX12_cleanRegions_87 : decode cX12_cleanRegions 87 = .ok (.aload_n 0, 1) := by decide +kernel
theorem dX12_cleanRegions_91 : decode cX12_cleanRegions 91 = .ok (.iload_n 2, 1) := by decide +kernel
theorem dX12_cleanRegions_113 : decode cX12_cleanRegions 113 = .ok (.iinc 2 1, 3) := by decide +kernel
theorem dX12_cleanRegions_116 : decode cX12_cleanRegions 116 = .ok (.goto (-72), 3) := by decide +kernel
theorem dX12_cleanRegions_96 : decode cX12_cleanRegions 96 = .ok (.aload_n 0, 1) := by decide +kernel
theorem dX12_cleanRegions_100 : decode cX12_cleanRegions 100 = .ok (.aload_n 0, 1) := by decide +kernel
theorem dX12_cleanRegions_104 : decode cX12_cleanRegions 104 = .ok (.iload_n 2, 1) := by decide +kernel
theorem dX12_cleanRegions_106 : decode cX12_cleanRegions 106 = .ok (.aload_n 0, 1) := by decide +kernel
theorem dX12_cleanRegions_111 : decode cX12_cleanRegions 111 = .ok (.iconst 1, 1) := by decide +kernel
theorem dX12_cleanRegions_112 : decode cX12_cleanRegions 112 = .ok (.bastore, 1) := by decide +kernel
theorem dX12_cleanRegions_110 : decode cX12_cleanRegions 110 = .ok (.idiv, 1) := by decide +kernel
theorem dX12_cleanRegions_107 : decode cX12_cleanRegions 107 = .ok (.getfield 222, 3) := by decide +kernel
theorem dX12_cleanRegions_105 : decode cX12_cleanRegions 105 = .ok (.iaload, 1) := by decide +kernel
theorem dX12_cleanRegions_101 : decode cX12_cleanRegions 101 = .ok (.getfield 40, 3) := by decide +kernel
theorem dX12_cleanRegions_97 : decode cX12_cleanRegions 97 = .ok (.getfield 101, 3) := by decide +kernel
theorem dX12_cleanRegions_93 : decode cX12_cleanRegions 93 = .ok (.ifCond .le 20, 3) := by decide +kernel
theorem dX12_cleanRegions_92 : decode cX12_cleanRegions 92 = .ok (.iaload, 1) := by decide +kernel
theorem dX12_cleanRegions_88 : decode cX12_cleanRegions 88 = .ok (.getfield 52, 3) := by decide +kernel
theorem dX12_cleanRegions_86 : decode cX12_cleanRegions 86 = .ok (.iastore, 1) := by decide +kernel
theorem dX12_cleanRegions_79 : decode cX12_cleanRegions 79 = .ok (.iaload, 1) := by decide +kernel
theorem dX12_cleanRegions_77 : decode cX12_cleanRegions 77 = .ok (.idiv, 1) := by decide +kernel
theorem dX12_cleanRegions_74 : decode cX12_cleanRegions 74 = .ok (.getfield 222, 3) := by decide +kernel
theorem dX12_cleanRegions_72 : decode cX12_cleanRegions 72 = .ok (.iaload, 1) := by decide +kernel
theorem dX12_cleanRegions_68 : decode cX12_cleanRegions 68 = .ok (.getfield 40, 3) := by decide +kernel
theorem dX12_cleanRegions_64 : decode cX12_cleanRegions 64 = .ok (.getfield 98, 3) := by decide +kernel
theorem dX12_cleanRegions_60 : decode cX12_cleanRegions 60 = .ok (.goto 53, 3) := by decide +kernel
theorem dX12_cleanRegions_57 : decode cX12_cleanRegions 57 = .ok (.ifCond .ne 6, 3) := by decide +kernel
theorem dX12_cleanRegions_56 : decode cX12_cleanRegions 56 = .ok (.baload, 1) := by decide +kernel
theorem dX12_cleanRegions_52 : decode cX12_cleanRegions 52 = .ok (.getfield 27, 3) := by decide +kernel
theorem dX12_cleanRegions_48 : decode cX12_cleanRegions 48 = .ok (.if_icmp .ge 71, 3) := by decide +kernel
theorem dX12_cleanRegions_121 : decode cX12_cleanRegions 121 = .ok (.iload_n 2, 1) := by decide +kernel
theorem dX12_cleanRegions_122 : decode cX12_cleanRegions 122 = .ok (.aload_n 0, 1) := by decide +kernel
theorem dX12_cleanRegions_151 : decode cX12_cleanRegions 151 = .ok (.iconst (-1), 1) := by decide +kernel
theorem dX12_cleanRegions_152 : decode cX12_cleanRegions 152 = .ok (.istore_n 2, 1) := by decide +kernel
theorem dX12_cleanRegions_153 : decode cX12_cleanRegions 153 = .ok (.iconst 1, 1) := by decide +kernel
theorem dX12_cleanRegions_154 : decode cX12_cleanRegions 154 = .ok (.istore_n 3, 1) := by decide +kernel
theorem dX12_cleanRegions_155 : decode cX12_cleanRegions 155 = .ok (.aload_n 0, 1) := by decide +kernel
theorem dX12_cleanRegions_156 : decode cX12_cleanRegions 156 = .ok (.invokevirtual 414, 3) := by decide +kernel
theorem dX12_cleanRegions_159 : decode cX12_cleanRegions 159 = .ok (.istore 4, 2) := by decide +kernel
theorem dX12_cleanRegions_129 : decode cX12_cleanRegions 129 = .ok (.aload_n 0, 1) := by decide +kernel
theorem dX12_cleanRegions_133 : decode cX12_cleanRegions 133 = .ok (.iload_n 2, 1) := by decide +kernel
theorem dX12_cleanRegions_145 : decode cX12_cleanRegions 145 = .ok (.iinc 2 1, 3) := by decide +kernel
theorem dX12_cleanRegions_148 : decode cX12_cleanRegions 148 = .ok (.goto (-27), 3) := by decide +kernel
theorem dX12_cleanRegions_138 : decode cX12_cleanRegions 138 = .ok (.aload_n 0, 1) := by decide +kernel
theorem dX12_cleanRegions_142 : decode cX12_cleanRegions 142 = .ok (.iload_n 2, 1) := by decide +kernel
theorem dX12_cleanRegions_143 : decode cX12_cleanRegions 143 = .ok (.iconst 0, 1) := by decide +kernel
theorem dX12_cleanRegions_144 : decode cX12_cleanRegions 144 = .ok (.iastore, 1) := by decide +kernel
theorem dX12_cleanRegions_139 : decode cX12_cleanRegions 139 = .ok (.getfield 80, 3) := by decide +kernel
theorem dX12_cleanRegions_135 : decode cX12_cleanRegions 135 = .ok (.ifCond .ne 10, 3) := by decide +kernel
theorem dX12_cleanRegions_134 : decode cX12_cleanRegions 134 = .ok (.iaload, 1) := by decide +kernel
theorem dX12_cleanRegions_130 : decode cX12_cleanRegions 130 = .ok (.getfield 98, 3) := by decide +kernel
theorem dX12_cleanRegions_126 : decode cX12_cleanRegions 126 = .ok (.if_icmp .ge 25, 3) := by decide +kernel
theorem dX12_cleanRegions_123 : decode cX12_cleanRegions 123 = .ok (.getfield 234, 3) := by decide +kernel
theorem dX12_cleanRegions_161 : decode cX12_cleanRegions 161 = .ok (.iload 4, 2) := by decide +kernel
theorem dX12_cleanRegions_350 : decode cX12_cleanRegions 350 = .ok (.iload_n 2, 1) := by decide +kernel
theorem dX12_cleanRegions_362 : decode cX12_cleanRegions 362 = .ok (.aload_n 0, 1) := by decide +kernel
theorem dX12_cleanRegions_366 : decode cX12_cleanRegions 366 = .ok (.aload_n 0, 1) := by decide +kernel
theorem dX12_cleanRegions_382 : decode cX12_cleanRegions 382 = .ok (.iload_n 1, 1) := by decide +kernel
theorem dX12_cleanRegions_383 : decode cX12_cleanRegions 383 = .ok (.ireturn, 1) := by decide +kernel
theorem dX12_cleanRegions_374 : decode cX12_cleanRegions 374 = .ok (.aload_n 0, 1) := by decide +kernel
theorem dX12_cleanRegions_375 : decode cX12_cleanRegions 375 = .ok (.aload_n 0, 1) := by decide +kernel
theorem dX12_cleanRegions_376 : decode cX12_cleanRegions 376 = .ok (.invokevirtual 417, 3) := by decide +kernel
theorem dX12_cleanRegions_379 : decode cX12_cleanRegions 379 = .ok (.putfield 285, 3) := by decide +kernel
theorem dX12_cleanRegions_371 : decode cX12_cleanRegions 371 = .ok (.ifCond .ne 11, 3) := by decide +kernel
theorem dX12_cleanRegions_370 : decode cX12_cleanRegions 370 = .ok (.iaload, 1) := by decide +kernel
theorem dX12_cleanRegions_367 : decode cX12_cleanRegions 367 = .ok (.getfield 285, 3) := by decide +kernel
theorem dX12_cleanRegions_363 : decode cX12_cleanRegions 363 = .ok (.getfield 80, 3) := by decide +kernel
theorem dX12_cleanRegions_354 : decode cX12_cleanRegions 354 = .ok (.aload_n 0, 1) := by decide +kernel
theorem dX12_cleanRegions_355 : decode cX12_cleanRegions 355 = .ok (.iload_n 2, 1) := by decide +kernel
theorem dX12_cleanRegions_359 : decode cX12_cleanRegions 359 = .ok (.goto 23, 3) := by decide +kernel
theorem dX12_cleanRegions_356 : decode cX12_cleanRegions 356 = .ok (.putfield 285, 3) := by decide +kernel
theorem dX12_cleanRegions_351 : decode cX12_cleanRegions 351 = .ok (.ifCond .lt 11, 3) := by decide +kernel
theorem dX12_cleanRegions_166 : decode cX12_cleanRegions 166 = .ok (.iload_n 3, 1) := by decide +kernel
theorem dX12_cleanRegions_170 : decode cX12_cleanRegions 170 = .ok (.aload_n 0, 1) := by decide +kernel
theorem dX12_cleanRegions_174 : decode cX12_cleanRegions 174 = .ok (.iload 4, 2) := by decide +kernel
theorem dX12_cleanRegions_176 : decode cX12_cleanRegions 176 = .ok (.iconst 1, 1) := by decide +kernel
theorem dX12_cleanRegions_178 : decode cX12_cleanRegions 178 = .ok (.iload 4, 2) := by decide +kernel
theorem dX12_cleanRegions_180 : decode cX12_cleanRegions 180 = .ok (.aload_n 0, 1) := by decide +kernel
theorem dX12_cleanRegions_184 : decode cX12_cleanRegions 184 = .ok (.imul, 1) := by decide +kernel
theorem dX12_cleanRegions_185 : decode cX12_cleanRegions 185 = .ok (.istore 5, 2) := by decide +kernel
theorem dX12_cleanRegions_187 : decode cX12_cleanRegions 187 = .ok (.iload 5, 2) := by decide +kernel
theorem dX12_cleanRegions_189 : decode cX12_cleanRegions 189 = .ok (.aload_n 0, 1) := by decide +kernel
theorem dX12_cleanRegions_193 : decode cX12_cleanRegions 193 = .ok (.iload 4, 2) := by decide +kernel
theorem dX12_cleanRegions_196 : decode cX12_cleanRegions 196 = .ok (.iadd, 1) := by decide +kernel
theorem dX12_cleanRegions_197 : decode cX12_cleanRegions 197 = .ok (.istore 6, 2) := by decide +kernel
theorem dX12_cleanRegions_195 : decode cX12_cleanRegions 195 = .ok (.iaload, 1) := by decide +kernel
theorem dX12_cleanRegions_190 : decode cX12_cleanRegions 190 = .ok (.getfield 80, 3) := by decide +kernel
theorem dX12_cleanRegions_181 : decode cX12_cleanRegions 181 = .ok (.getfield 222, 3) := by decide +kernel
theorem dX12_cleanRegions_177 : decode cX12_cleanRegions 177 = .ok (.bastore, 1) := by decide +kernel
theorem dX12_cleanRegions_171 : decode cX12_cleanRegions 171 = .ok (.getfield 104, 3) := by decide +kernel
theorem dX12_cleanRegions_167 : decode cX12_cleanRegions 167 = .ok (.ifCond .eq 183, 3) := by decide +kernel
theorem dX12_cleanRegions_163 : decode cX12_cleanRegions 163 = .ok (.ifCond .lt 187, 3) := by decide +kernel
theorem dX12_cleanRegions_199 : decode cX12_cleanRegions 199 = .ok (.iload 5, 2) := by decide +kernel
theorem dX12_cleanRegions_201 : decode cX12_cleanRegions 201 = .ok (.iload 6, 2) := by decide +kernel
theorem dX12_cleanRegions_329 : decode cX12_cleanRegions 329 = .ok (.iload_n 3, 1) := by decide +kernel
theorem dX12_cleanRegions_341 : decode cX12_cleanRegions 341 = .ok (.aload_n 0, 1) := by decide +kernel
theorem dX12_cleanRegions_342 : decode cX12_cleanRegions 342 = .ok (.invokevirtual 414, 3) := by decide +kernel
theorem dX12_cleanRegions_345 : decode cX12_cleanRegions 345 = .ok (.istore 4, 2) := by decide +kernel
theorem dX12_cleanRegions_347 : decode cX12_cleanRegions 347 = .ok (.goto (-186), 3) := by decide +kernel
theorem dX12_cleanRegions_333 : decode cX12_cleanRegions 333 = .ok (.aload_n 0, 1) := by decide +kernel
theorem dX12_cleanRegions_337 : decode cX12_cleanRegions 337 = .ok (.iload 4, 2) := by decide +kernel
theorem dX12_cleanRegions_339 : decode cX12_cleanRegions 339 = .ok (.iconst 0, 1) := by decide +kernel
theorem dX12_cleanRegions_340 : decode cX12_cleanRegions 340 = .ok (.iastore, 1) := by decide +kernel
theorem dX12_cleanRegions_334 : decode cX12_cleanRegions 334 = .ok (.getfield 80, 3) := by decide +kernel
theorem dX12_cleanRegions_330 : decode cX12_cleanRegions 330 = .ok (.ifCond .eq 11, 3) := by decide +kernel
theorem dX12_cleanRegions_206 : decode cX12_cleanRegions 206 = .ok (.iload_n 3, 1) := by decide +kernel
theorem dX12_cleanRegions_210 : decode cX12_cleanRegions 210 = .ok (.aload_n 0, 1) := by decide +kernel
theorem dX12_cleanRegions_214 : decode cX12_cleanRegions 214 = .ok (.iload 5, 2) := by decide +kernel
theorem dX12_cleanRegions_217 : decode cX12_cleanRegions 217 = .ok (.istore 7, 2) := by decide +kernel
theorem dX12_cleanRegions_219 : decode cX12_cleanRegions 219 = .ok (.iload 7, 2) := by decide +kernel
theorem dX12_cleanRegions_230 : decode cX12_cleanRegions 230 = .ok (.iload 5, 2) := by decide +kernel
theorem dX12_cleanRegions_232 : decode cX12_cleanRegions 232 = .ok (.aload_n 0, 1) := by decide +kernel
theorem dX12_cleanRegions_233 : decode cX12_cleanRegions 233 = .ok (.iload 7, 2) := by decide +kernel
theorem dX12_cleanRegions_235 : decode cX12_cleanRegions 235 = .ok (.invokevirtual 327, 3) := by decide +kernel
theorem dX12_cleanRegions_238 : decode cX12_cleanRegions 238 = .ok (.iadd, 1) := by decide +kernel
theorem dX12_cleanRegions_239 : decode cX12_cleanRegions 239 = .ok (.istore 8, 2) := by decide +kernel
theorem dX12_cleanRegions_241 : decode cX12_cleanRegions 241 = .ok (.iload_n 2, 1) := by decide +kernel
theorem dX12_cleanRegions_265 : decode cX12_cleanRegions 265 = .ok (.aload_n 0, 1) := by decide +kernel
theorem dX12_cleanRegions_266 : decode cX12_cleanRegions 266 = .ok (.invokevirtual 417, 3) := by decide +kernel
theorem dX12_cleanRegions_269 : decode cX12_cleanRegions 269 = .ok (.istore 9, 2) := by decide +kernel
theorem dX12_cleanRegions_271 : decode cX12_cleanRegions 271 = .ok (.iload 9, 2) := by decide +kernel
theorem dX12_cleanRegions_281 : decode cX12_cleanRegions 281 = .ok (.iload 9, 2) := by decide +kernel
theorem dX12_cleanRegions_283 : decode cX12_cleanRegions 283 = .ok (.istore_n 2, 1) := by decide +kernel
theorem dX12_cleanRegions_284 : decode cX12_cleanRegions 284 = .ok (.iload_n 3, 1) := by decide +kernel
theorem dX12_cleanRegions_322 : decode cX12_cleanRegions 322 = .ok (.iload 8, 2) := by decide +kernel
theorem dX12_cleanRegions_324 : decode cX12_cleanRegions 324 = .ok (.istore 5, 2) := by decide +kernel
theorem dX12_cleanRegions_326 : decode cX12_cleanRegions 326 = .ok (.goto (-127), 3) := by decide +kernel
theorem dX12_cleanRegions_288 : decode cX12_cleanRegions 288 = .ok (.aload_n 0, 1) := by decide +kernel
theorem dX12_cleanRegions_289 : decode cX12_cleanRegions 289 = .ok (.iload 7, 2) := by decide +kernel
theorem dX12_cleanRegions_291 : decode cX12_cleanRegions 291 = .ok (.iload_n 2, 1) := by decide +kernel
theorem dX12_cleanRegions_292 : decode cX12_cleanRegions 292 = .ok (.aload_n 0, 1) := by decide +kernel
theorem dX12_cleanRegions_296 : decode cX12_cleanRegions 296 = .ok (.imul, 1) := by decide +kernel
theorem dX12_cleanRegions_297 : decode cX12_cleanRegions 297 = .ok (.aload_n 0, 1) := by decide +kernel
theorem dX12_cleanRegions_301 : decode cX12_cleanRegions 301 = .ok (.iload_n 2, 1) := by decide +kernel
theorem dX12_cleanRegions_303 : decode cX12_cleanRegions 303 = .ok (.iadd, 1) := by decide +kernel
theorem dX12_cleanRegions_304 : decode cX12_cleanRegions 304 = .ok (.invokevirtual 352, 3) := by decide +kernel
theorem dX12_cleanRegions_307 : decode cX12_cleanRegions 307 = .ok (.aload_n 0, 1) := by decide +kernel
theorem dX12_cleanRegions_311 : decode cX12_cleanRegions 311 = .ok (.iload_n 2, 1) := by decide +kernel
theorem dX12_cleanRegions_312 : decode cX12_cleanRegions 312 = .ok (.dup2, 1) := by decide +kernel
theorem dX12_cleanRegions_314 : decode cX12_cleanRegions 314 = .ok (.aload_n 0, 1) := by decide +kernel
theorem dX12_cleanRegions_315 : decode cX12_cleanRegions 315 = .ok (.iload 7, 2) := by decide +kernel
theorem dX12_cleanRegions_317 : decode cX12_cleanRegions 317 = .ok (.invokevirtual 327, 3) := by decide +kernel
theorem dX12_cleanRegions_320 : decode cX12_cleanRegions 320 = .ok (.iadd, 1) := by decide +kernel
theorem dX12_cleanRegions_321 : decode cX12_cleanRegions 321 = .ok (.iastore, 1) := by decide +kernel
theorem dX12_cleanRegions_313 : decode cX12_cleanRegions 313 = .ok (.iaload, 1) := by decide +kernel
theorem dX12_cleanRegions_308 : decode cX12_cleanRegions 308 = .ok (.getfield 80, 3) := by decide +kernel
theorem dX12_cleanRegions_302 : decode cX12_cleanRegions 302 = .ok (.iaload, 1) := by decide +kernel
theorem dX12_cleanRegions_298 : decode cX12_cleanRegions 298 = .ok (.getfield 80, 3) := by decide +kernel
theorem dX12_cleanRegions_293 : decode cX12_cleanRegions 293 = .ok (.getfield 222, 3) := by decide +kernel
theorem dX12_cleanRegions_285 : decode cX12_cleanRegions 285 = .ok (.ifCond .eq 37, 3) := by decide +kernel
theorem dX12_cleanRegions_276 : decode cX12_cleanRegions 276 = .ok (.iconst 0, 1) := by decide +kernel
theorem dX12_cleanRegions_277 : decode cX12_cleanRegions 277 = .ok (.istore_n 3, 1) := by decide +kernel
theorem dX12_cleanRegions_278 : decode cX12_cleanRegions 278 = .ok (.goto 6, 3) := by decide +kernel
theorem dX12_cleanRegions_273 : decode cX12_cleanRegions 273 = .ok (.ifCond .ge 8, 3) := by decide +kernel
theorem dX12_cleanRegions_245 : decode cX12_cleanRegions 245 = .ok (.aload_n 0, 1) := by decide +kernel
theorem dX12_cleanRegions_249 : decode cX12_cleanRegions 249 = .ok (.iload_n 2, 1) := by decide +kernel
theorem dX12_cleanRegions_251 : decode cX12_cleanRegions 251 = .ok (.aload_n 0, 1) := by decide +kernel
theorem dX12_cleanRegions_252 : decode cX12_cleanRegions 252 = .ok (.iload 7, 2) := by decide +kernel
theorem dX12_cleanRegions_254 : decode cX12_cleanRegions 254 = .ok (.invokevirtual 327, 3) := by decide +kernel
theorem dX12_cleanRegions_257 : decode cX12_cleanRegions 257 = .ok (.iadd, 1) := by decide +kernel
theorem dX12_cleanRegions_258 : decode cX12_cleanRegions 258 = .ok (.aload_n 0, 1) := by decide +kernel
theorem dX12_cleanRegions_262 : decode cX12_cleanRegions 262 = .ok (.if_icmp .le 22, 3) := by decide +kernel
theorem dX12_cleanRegions_259 : decode cX12_cleanRegions 259 = .ok (.getfield 222, 3) := by decide +kernel
theorem dX12_cleanRegions_250 : decode cX12_cleanRegions 250 = .ok (.iaload, 1) := by decide +kernel
theorem dX12_cleanRegions_246 : decode cX12_cleanRegions 246 = .ok (.getfield 80, 3) := by decide +kernel
theorem dX12_cleanRegions_242 : decode cX12_cleanRegions 242 = .ok (.ifCond .lt 23, 3) := by decide +kernel
theorem dX12_cleanRegions_224 : decode cX12_cleanRegions 224 = .ok (.iinc 5 1, 3) := by decide +kernel
theorem dX12_cleanRegions_227 : decode cX12_cleanRegions 227 = .ok (.goto (-28), 3) := by decide +kernel
theorem dX12_cleanRegions_221 : decode cX12_cleanRegions 221 = .ok (.ifCond .ge 9, 3) := by decide +kernel
theorem dX12_cleanRegions_216 : decode cX12_cleanRegions 216 = .ok (.iaload, 1) := by decide +kernel
theorem dX12_cleanRegions_211 : decode cX12_cleanRegions 211 = .ok (.getfield 65, 3) := by decide +kernel
theorem dX12_cleanRegions_207 : decode cX12_cleanRegions 207 = .ok (.ifCond .eq 122, 3) := by decide +kernel
theorem dX12_cleanRegions_203 : decode cX12_cleanRegions 203 = .ok (.if_icmp .ge 126, 3) := by decide +kernel
def wr_235 (c k : Nat) : Bool := Nat.beq c 99 || Nat.beq c 103 || Nat.beq c 105 || Nat.beq c 109 || Nat.beq c 110 || Nat.beq c 111 || Nat.beq c 113 || Nat.beq c 114 || Nat.beq c 116 || Nat.beq c 118 || Nat.beq c 122 || Nat.beq c 123 || Nat.beq c 124 || (Nat.beq c 94 && (Nat.beq k 44 || Nat.beq k 45 || Nat.beq k 47 || Nat.beq k 48 || Nat.beq k 49 || Nat.beq k 55 || Nat.beq k 63 || Nat.beq k 73))
theorem ws_187_235 : ∀ c k, wr_187 c k = true → wr_235 c k = true := by
  intro c k h
  simp only [wr_187, Bool.or_eq_true, Bool.and_eq_true, Nat.beq_eq] at h
  rcases h with (((((((rfl | rfl) | rfl) | rfl) | rfl) | rfl) | rfl) | rfl) | ⟨rfl, (((((rfl | rfl) | rfl) | rfl) | rfl) | rfl)⟩ <;> rfl
theorem ws_205_235 : ∀ c k, wr_205 c k = true → wr_235 c k = true := by
  intro c k h
  simp only [wr_205, Bool.or_eq_true, Bool.and_eq_true, Nat.beq_eq] at h
  rcases h with (rfl | rfl) | ⟨rfl, rfl⟩ <;> rfl
theorem ws_234_235 : ∀ c k, wr_234 c k = true → wr_235 c k = true := fun _ _ h => by cases h
theorem ws_236_235 : ∀ c k, wr_236 c k = true → wr_235 c k = true := fun _ _ h => by cases h
theorem g_235_0 {X : Nat × (Nat → Int32)} {m : Nat → Nat → Int32} {P : Option ma_V → (Nat → Nat → Int32) → Prop}  (h : zm X 4 88 187 0 [(0, .inr (.inr (some 94)))] m (zmi (fun v2 m1 => zm X 5 108 235 7 [(0, .inr (.inr (some 94))), (1, .inl v2), (2, .inl (0 : Int32))] m1 P))) : zm X 5 108 235 0 [(0, .inr (.inr (some 94)))] m P := by
  intro d w S Q hd hw hS hm HQ
  subst hm
  refine zw_push hm_235 dX12_cleanRegions_0 (v := .inr (.inr (some 94))) rfl ?_
  refine zw_cv hm_235 dX12_cleanRegions_1 v_12_346_12 hm_187 [] [] rfl (zT_rt hS s_94 rfl) ⟨by omega, by omega⟩ rfl (h _ _ S _ (by omega) (by omega) hS rfl (fun o9 m1 hv => ?_))
  obtain ⟨v2, rfl, h⟩ := zmi_of hv
  show ma_wp X d w 235 4 [(0, .inr (.inr (some 94)))] [.inl v2] (zst S m1) _
  refine zw_sto hm_235 dX12_cleanRegions_4 [(1, .inl v2), (0, .inr (.inr (some 94)))] rfl rfl rfl ?_
  refine zw_push hm_235 dX12_cleanRegions_5 (v := .inl (0 : Int32)) rfl ?_
  refine zw_sto hm_235 dX12_cleanRegions_6 [(2, .inl (0 : Int32)), (1, .inl v2), (0, .inr (.inr (some 94)))] rfl rfl rfl ?_
  exact zw_sub (ma_nd_of (ks := [0, 1, 2]) rfl (by decide)) (ma_nd_of (ks := [2, 1, 0]) rfl (by decide)) (ma_le_cons rfl (ma_le_cons rfl (ma_le_cons rfl (ma_le_nil _)))) (h d w _ Q (by omega) (by omega) (zT_zst hS m1) rfl HQ)
theorem g_235_7 {X : Nat × (Nat → Int32)} {m : Nat → Nat → Int32} {P : Option ma_V → (Nat → Nat → Int32) → Prop} (l1 : Int32) (l2 : Int32) (h : if (m 94 64) ≤ l2 then (zm X 5 108 235 44 [(0, .inr (.inr (some 94))), (1, .inl l1), (2, .inl (0 : Int32))] m P) else ((0 ≤ l2 ∧ l2.toNatClampNeg < 128) ∧ ((0 ≤ l2 ∧ l2.toNatClampNeg < 128) ∧ ((0 ≤ l2 ∧ l2.toNatClampNeg < 128) ∧ (zm X 5 108 235 7 [(0, .inr (.inr (some 94))), (1, .inl l1), (2, .inl (l2 + (1 : Int32)))] (ma_u (ma_u (ma_u m 122 l2.toNatClampNeg (0 : Int32)) 123 l2.toNatClampNeg (0 : Int32)) 124 l2.toNatClampNeg (0 : Int32)) P))))) : zm X 5 108 235 7 [(0, .inr (.inr (some 94))), (1, .inl l1), (2, .inl l2)] m P := by
  intro d w S Q hd hw hS hm HQ
  subst hm
  refine zw_push hm_235 dX12_cleanRegions_7 (v := .inl l2) rfl ?_
  refine zw_push hm_235 dX12_cleanRegions_8 (v := .inr (.inr (some 94))) rfl ?_
  refine zw_gf hm_235 dX12_cleanRegions_9 (v := .inl ((mI S) 94 64)) (zT_is hS s_94) (zT_t hS s_94) rfl f_12_234_12 rfl ?_
  refine zw_if2 hm_235 dX12_cleanRegions_12 (t := 42) rfl zc2_ge ?_ ?_
  · intro hc
    rw [if_pos hc] at h
    refine zw_push hm_235 dX12_cleanRegions_42 (v := .inl (0 : Int32)) rfl ?_
    refine zw_sto hm_235 dX12_cleanRegions_43 [(2, .inl (0 : Int32)), (0, .inr (.inr (some 94))), (1, .inl l1)] rfl rfl rfl ?_
    exact zw_sub (ma_nd_of (ks := [0, 1, 2]) rfl (by decide)) (ma_nd_of (ks := [2, 0, 1]) rfl (by decide)) (ma_le_cons rfl (ma_le_cons rfl (ma_le_cons rfl (ma_le_nil _)))) (h d w _ Q (by omega) (by omega) hS rfl HQ)
  · intro hc
    rw [if_neg hc] at h
    refine zw_push hm_235 dX12_cleanRegions_15 (v := .inr (.inr (some 94))) rfl ?_
    refine zw_gf hm_235 dX12_cleanRegions_16 (v := .inr (.inr (some 122))) (zT_is hS s_94) (zT_t hS s_94) rfl f_12_98_12 (zT_f hS r_94_81) ?_
    refine zw_push hm_235 dX12_cleanRegions_19 (v := .inl l2) rfl ?_
    refine zw_push hm_235 dX12_cleanRegions_20 (v := .inl (0 : Int32)) rfl ?_
    obtain ⟨hg, h⟩ := h
    refine zw_ias hm_235 dX12_cleanRegions_21 (zT_is hS s_122) (zT_h hS s_122) rfl hg ?_
    refine zw_push hm_235 dX12_cleanRegions_22 (v := .inr (.inr (some 94))) rfl ?_
    refine zw_gf hm_235 dX12_cleanRegions_23 (v := .inr (.inr (some 123))) (zT_is (zT_pi hS) s_94) (zT_t (zT_pi hS) s_94) rfl f_12_101_12 (zT_f (zT_pi hS) r_94_82) ?_
    refine zw_push hm_235 dX12_cleanRegions_26 (v := .inl l2) rfl ?_
    refine zw_push hm_235 dX12_cleanRegions_27 (v := .inl (0 : Int32)) rfl ?_
    obtain ⟨hg, h⟩ := h
    refine zw_bas22l hm_235 dX12_cleanRegions_28 (hx := by decide) (yv := (0 : Int32)) (zT_is (zT_pi hS) s_123) (zT_h (zT_pi hS) s_123) rfl hg ?_
    refine zw_push hm_235 dX12_cleanRegions_29 (v := .inr (.inr (some 94))) rfl ?_
    refine zw_gf hm_235 dX12_cleanRegions_30 (v := .inr (.inr (some 124))) (zT_is (zT_pi (zT_pi hS)) s_94) (zT_t (zT_pi (zT_pi hS)) s_94) rfl f_12_104_12 (zT_f (zT_pi (zT_pi hS)) r_94_83) ?_
    refine zw_push hm_235 dX12_cleanRegions_33 (v := .inl l2) rfl ?_
    refine zw_push hm_235 dX12_cleanRegions_34 (v := .inl (0 : Int32)) rfl ?_
    obtain ⟨hg, h⟩ := h
    refine zw_bas22l hm_235 dX12_cleanRegions_35 (hx := by decide) (yv := (0 : Int32)) (zT_is (zT_pi (zT_pi hS)) s_124) (zT_h (zT_pi (zT_pi hS)) s_124) rfl hg ?_
    refine zw_sto hm_235 dX12_cleanRegions_36 [(2, .inl (l2 + (1 : Int32))), (0, .inr (.inr (some 94))), (1, .inl l1)] rfl rfl rfl ?_
    refine zw_goto hm_235 dX12_cleanRegions_39 (t := 7) rfl ?_
    exact zw_sub (ma_nd_of (ks := [0, 1, 2]) rfl (by decide)) (ma_nd_of (ks := [2, 0, 1]) rfl (by decide)) (ma_le_cons rfl (ma_le_cons rfl (ma_le_cons rfl (ma_le_nil _)))) (h d w _ Q (by omega) (by omega) (zT_pi (zT_pi (zT_pi hS))) rfl HQ)
theorem g_235_44 {X : Nat × (Nat → Int32)} {m : Nat → Nat → Int32} {P : Option ma_V → (Nat → Nat → Int32) → Prop} (l1 : Int32) (l2 : Int32) (h : if (3100 : Int32) ≤ l2 then (zm X 5 108 235 121 [(0, .inr (.inr (some 94))), (1, .inl l1), (2, .inl (0 : Int32))] m P) else ((0 ≤ l2 ∧ l2.toNatClampNeg < 3100) ∧ (if (m 99 l2.toNatClampNeg) = 0 then (zm X 5 108 235 44 [(0, .inr (.inr (some 94))), (1, .inl l1), (2, .inl (l2 + (1 : Int32)))] m P) else ((0 ≤ l2 ∧ l2.toNatClampNeg < 3100) ∧ ((m 94 18) ≠ 0 ∧ ((0 ≤ ((m 103 l2.toNatClampNeg) / (m 94 18)) ∧ ((m 103 l2.toNatClampNeg) / (m 94 18)).toNatClampNeg < 128) ∧ ((0 ≤ l2 ∧ l2.toNatClampNeg < 3100) ∧ ((0 ≤ ((m 103 l2.toNatClampNeg) / (m 94 18)) ∧ ((m 103 l2.toNatClampNeg) / (m 94 18)).toNatClampNeg < 128) ∧ ((0 ≤ l2 ∧ l2.toNatClampNeg < 3100) ∧ (if (m 107 l2.toNatClampNeg) ≤ 0 then (zm X 5 108 235 44 [(0, .inr (.inr (some 94))), (1, .inl l1), (2, .inl (l2 + (1 : Int32)))] (ma_u m 122 ((m 103 l2.toNatClampNeg) / (m 94 18)).toNatClampNeg ((m 122 ((m 103 l2.toNatClampNeg) / (m 94 18)).toNatClampNeg) + ((m 102 l2.toNatClampNeg) + (1 : Int32)))) P) else ((0 ≤ l2 ∧ l2.toNatClampNeg < 3100) ∧ ((m 94 18) ≠ 0 ∧ ((0 ≤ ((m 103 l2.toNatClampNeg) / (m 94 18)) ∧ ((m 103 l2.toNatClampNeg) / (m 94 18)).toNatClampNeg < 128) ∧ (zm X 5 108 235 44 [(0, .inr (.inr (some 94))), (1, .inl l1), (2, .inl (l2 + (1 : Int32)))] (ma_u (ma_u m 122 ((m 103 l2.toNatClampNeg) / (m 94 18)).toNatClampNeg ((m 122 ((m 103 l2.toNatClampNeg) / (m 94 18)).toNatClampNeg) + ((m 102 l2.toNatClampNeg) + (1 : Int32)))) 123 ((m 103 l2.toNatClampNeg) / (m 94 18)).toNatClampNeg (1 : Int32)) P)))))))))))))) : zm X 5 108 235 44 [(0, .inr (.inr (some 94))), (1, .inl l1), (2, .inl l2)] m P := by
  intro d w S Q hd hw hS hm HQ
  subst hm
  refine zw_push hm_235 dX12_cleanRegions_44 (v := .inl l2) rfl ?_
  refine zw_push hm_235 dX12_cleanRegions_45 (v := .inl (3100 : Int32)) rfl ?_
  refine zw_if2 hm_235 dX12_cleanRegions_48 (t := 119) rfl zc2_ge ?_ ?_
  · intro hc
    rw [if_pos hc] at h
    refine zw_push hm_235 dX12_cleanRegions_119 (v := .inl (0 : Int32)) rfl ?_
    refine zw_sto hm_235 dX12_cleanRegions_120 [(2, .inl (0 : Int32)), (0, .inr (.inr (some 94))), (1, .inl l1)] rfl rfl rfl ?_
    exact zw_sub (ma_nd_of (ks := [0, 1, 2]) rfl (by decide)) (ma_nd_of (ks := [2, 0, 1]) rfl (by decide)) (ma_le_cons rfl (ma_le_cons rfl (ma_le_cons rfl (ma_le_nil _)))) (h d w _ Q (by omega) (by omega) hS rfl HQ)
  · intro hc
    rw [if_neg hc] at h
    refine zw_push hm_235 dX12_cleanRegions_51 (v := .inr (.inr (some 94))) rfl ?_
    refine zw_gf hm_235 dX12_cleanRegions_52 (v := .inr (.inr (some 99))) (zT_is hS s_94) (zT_t hS s_94) rfl f_12_27_12 (zT_f hS r_94_31) ?_
    refine zw_push hm_235 dX12_cleanRegions_55 (v := .inl l2) rfl ?_
    obtain ⟨hg, h⟩ := h
    refine zw_ba hm_235 dX12_cleanRegions_56 (zT_is hS s_99) (zT_h hS s_99) rfl rfl hg ?_
    show ma_wp X d w 235 57 [(0, .inr (.inr (some 94))), (1, .inl l1), (2, .inl l2)] [.inl ((mI S) 99 l2.toNatClampNeg)] S _
    refine zw_if0 hm_235 dX12_cleanRegions_57 (t := 63) rfl zc0_ne ?_ ?_
    · intro hc
      rw [if_neg hc] at h
      refine zw_push hm_235 dX12_cleanRegions_63 (v := .inr (.inr (some 94))) rfl ?_
      refine zw_gf hm_235 dX12_cleanRegions_64 (v := .inr (.inr (some 122))) (zT_is hS s_94) (zT_t hS s_94) rfl f_12_98_12 (zT_f hS r_94_81) ?_
      refine zw_push hm_235 dX12_cleanRegions_67 (v := .inr (.inr (some 94))) rfl ?_
      refine zw_gf hm_235 dX12_cleanRegions_68 (v := .inr (.inr (some 103))) (zT_is hS s_94) (zT_t hS s_94) rfl f_12_40_12 (zT_f hS r_94_35) ?_
      refine zw_push hm_235 dX12_cleanRegions_71 (v := .inl l2) rfl ?_
      obtain ⟨hg, h⟩ := h
      refine zw_ia hm_235 dX12_cleanRegions_72 (zT_is hS s_103) (zT_h hS s_103) rfl hg ?_
      show ma_wp X d w 235 73 [(0, .inr (.inr (some 94))), (1, .inl l1), (2, .inl l2)] [.inl ((mI S) 103 l2.toNatClampNeg), .inr (.inr (some 122))] S _
      refine zw_push hm_235 dX12_cleanRegions_73 (v := .inr (.inr (some 94))) rfl ?_
      refine zw_gf hm_235 dX12_cleanRegions_74 (v := .inl ((mI S) 94 18)) (zT_is hS s_94) (zT_t hS s_94) rfl f_12_222_12 rfl ?_
      obtain ⟨hg, h⟩ := h
      refine zw_stk hm_235 dX12_cleanRegions_77 (st₉ := [.inl (((mI S) 103 l2.toNatClampNeg) / ((mI S) 94 18)), .inr (.inr (some 122))]) rfl (if_neg hg) ?_
      refine zw_stk hm_235 dX12_cleanRegions_78 (st₉ := [.inl (((mI S) 103 l2.toNatClampNeg) / ((mI S) 94 18)), .inr (.inr (some 122)), .inl (((mI S) 103 l2.toNatClampNeg) / ((mI S) 94 18)), .inr (.inr (some 122))]) rfl rfl ?_
      obtain ⟨hg, h⟩ := h
      refine zw_ia hm_235 dX12_cleanRegions_79 (zT_is hS s_122) (zT_h hS s_122) rfl hg ?_
      show ma_wp X d w 235 80 [(0, .inr (.inr (some 94))), (1, .inl l1), (2, .inl l2)] [.inl ((mI S) 122 (((mI S) 103 l2.toNatClampNeg) / ((mI S) 94 18)).toNatClampNeg), .inl (((mI S) 103 l2.toNatClampNeg) / ((mI S) 94 18)), .inr (.inr (some 122))] S _
      refine zw_push hm_235 dX12_cleanRegions_80 (v := .inr (.inr (some 94))) rfl ?_
      refine zw_push hm_235 dX12_cleanRegions_81 (v := .inl l2) rfl ?_
      refine zw_cv hm_235 dX12_cleanRegions_82 v_12_327_12 hm_201 [.inl l2] [.inl ((mI S) 122 (((mI S) 103 l2.toNatClampNeg) / ((mI S) 94 18)).toNatClampNeg), .inl (((mI S) 103 l2.toNatClampNeg) / ((mI S) 94 18)), .inr (.inr (some 122))] rfl (zT_rt hS s_94 rfl) ⟨by omega, by omega⟩ rfl ?_
      show ma_wp X (d - 1) (w - 21) 201 0 [(0, .inr (.inr (some 94))), (1, .inl l2)] [] S _
      refine zw_push hm_201 dX12_sizeOf_0 (v := .inr (.inr (some 94))) rfl ?_
      refine zw_gf hm_201 dX12_sizeOf_1 (v := .inr (.inr (some 102))) (zT_is hS s_94) (zT_t hS s_94) rfl f_12_37_12 (zT_f hS r_94_34) ?_
      refine zw_push hm_201 dX12_sizeOf_4 (v := .inl l2) rfl ?_
      obtain ⟨hg, h⟩ := h
      refine zw_ia hm_201 dX12_sizeOf_5 (zT_is hS s_102) (zT_h hS s_102) rfl hg ?_
      show ma_wp X (d - 1) (w - 21) 201 6 [(0, .inr (.inr (some 94))), (1, .inl l2)] [.inl ((mI S) 102 l2.toNatClampNeg)] S _
      refine zw_push hm_201 dX12_sizeOf_6 (v := .inl (1 : Int32)) rfl ?_
      refine zw_stk hm_201 dX12_sizeOf_7 (st₉ := [.inl (((mI S) 102 l2.toNatClampNeg) + (1 : Int32))]) rfl rfl ?_
      refine zw_iret hm_201 dX12_sizeOf_8 ?_
      show ma_wp X d w 235 85 [(0, .inr (.inr (some 94))), (1, .inl l1), (2, .inl l2)] [.inl (((mI S) 102 l2.toNatClampNeg) + (1 : Int32)), .inl ((mI S) 122 (((mI S) 103 l2.toNatClampNeg) / ((mI S) 94 18)).toNatClampNeg), .inl (((mI S) 103 l2.toNatClampNeg) / ((mI S) 94 18)), .inr (.inr (some 122))] S _
      refine zw_stk hm_235 dX12_cleanRegions_85 (st₉ := [.inl (((mI S) 122 (((mI S) 103 l2.toNatClampNeg) / ((mI S) 94 18)).toNatClampNeg) + (((mI S) 102 l2.toNatClampNeg) + (1 : Int32))), .inl (((mI S) 103 l2.toNatClampNeg) / ((mI S) 94 18)), .inr (.inr (some 122))]) rfl rfl ?_
      obtain ⟨hg, h⟩ := h
      refine zw_ias hm_235 dX12_cleanRegions_86 (zT_is hS s_122) (zT_h hS s_122) rfl hg ?_
      refine zw_push hm_235 dX12_cleanRegions_87 (v := .inr (.inr (some 94))) rfl ?_
      refine zw_gf hm_235 dX12_cleanRegions_88 (v := .inr (.inr (some 107))) (zT_is (zT_pi hS) s_94) (zT_t (zT_pi hS) s_94) rfl f_12_52_12 (zT_f (zT_pi hS) r_94_39) ?_
      refine zw_push hm_235 dX12_cleanRegions_91 (v := .inl l2) rfl ?_
      obtain ⟨hg, h⟩ := h
      refine zw_ia hm_235 dX12_cleanRegions_92 (zT_is (zT_pi hS) s_107) (zT_h (zT_pi hS) s_107) rfl hg ?_
      show ma_wp X d w 235 93 [(0, .inr (.inr (some 94))), (1, .inl l1), (2, .inl l2)] [.inl ((mI S) 107 l2.toNatClampNeg)] (ma_put S 122 (((mI S) 103 l2.toNatClampNeg) / ((mI S) 94 18)).toNatClampNeg (.inl (((mI S) 122 (((mI S) 103 l2.toNatClampNeg) / ((mI S) 94 18)).toNatClampNeg) + (((mI S) 102 l2.toNatClampNeg) + (1 : Int32))))) _
      refine zw_if0 hm_235 dX12_cleanRegions_93 (t := 113) rfl zc0_le ?_ ?_
      · intro hc
        rw [if_pos hc] at h
        refine zw_sto hm_235 dX12_cleanRegions_113 [(2, .inl (l2 + (1 : Int32))), (0, .inr (.inr (some 94))), (1, .inl l1)] rfl rfl rfl ?_
        refine zw_goto hm_235 dX12_cleanRegions_116 (t := 44) rfl ?_
        exact zw_sub (ma_nd_of (ks := [0, 1, 2]) rfl (by decide)) (ma_nd_of (ks := [2, 0, 1]) rfl (by decide)) (ma_le_cons rfl (ma_le_cons rfl (ma_le_cons rfl (ma_le_nil _)))) (h d w _ Q (by omega) (by omega) (zT_pi hS) rfl HQ)
      · intro hc
        rw [if_neg hc] at h
        refine zw_push hm_235 dX12_cleanRegions_96 (v := .inr (.inr (some 94))) rfl ?_
        refine zw_gf hm_235 dX12_cleanRegions_97 (v := .inr (.inr (some 123))) (zT_is (zT_pi hS) s_94) (zT_t (zT_pi hS) s_94) rfl f_12_101_12 (zT_f (zT_pi hS) r_94_82) ?_
        refine zw_push hm_235 dX12_cleanRegions_100 (v := .inr (.inr (some 94))) rfl ?_
        refine zw_gf hm_235 dX12_cleanRegions_101 (v := .inr (.inr (some 103))) (zT_is (zT_pi hS) s_94) (zT_t (zT_pi hS) s_94) rfl f_12_40_12 (zT_f (zT_pi hS) r_94_35) ?_
        refine zw_push hm_235 dX12_cleanRegions_104 (v := .inl l2) rfl ?_
        obtain ⟨hg, h⟩ := h
        refine zw_ia hm_235 dX12_cleanRegions_105 (zT_is (zT_pi hS) s_103) (zT_h (zT_pi hS) s_103) rfl hg ?_
        show ma_wp X d w 235 106 [(0, .inr (.inr (some 94))), (1, .inl l1), (2, .inl l2)] [.inl ((mI S) 103 l2.toNatClampNeg), .inr (.inr (some 123))] (ma_put S 122 (((mI S) 103 l2.toNatClampNeg) / ((mI S) 94 18)).toNatClampNeg (.inl (((mI S) 122 (((mI S) 103 l2.toNatClampNeg) / ((mI S) 94 18)).toNatClampNeg) + (((mI S) 102 l2.toNatClampNeg) + (1 : Int32))))) _
        refine zw_push hm_235 dX12_cleanRegions_106 (v := .inr (.inr (some 94))) rfl ?_
        refine zw_gf hm_235 dX12_cleanRegions_107 (v := .inl ((mI S) 94 18)) (zT_is (zT_pi hS) s_94) (zT_t (zT_pi hS) s_94) rfl f_12_222_12 rfl ?_
        obtain ⟨hg, h⟩ := h
        refine zw_stk hm_235 dX12_cleanRegions_110 (st₉ := [.inl (((mI S) 103 l2.toNatClampNeg) / ((mI S) 94 18)), .inr (.inr (some 123))]) rfl (if_neg hg) ?_
        refine zw_push hm_235 dX12_cleanRegions_111 (v := .inl (1 : Int32)) rfl ?_
        obtain ⟨hg, h⟩ := h
        refine zw_bas22l hm_235 dX12_cleanRegions_112 (hx := by decide) (yv := (1 : Int32)) (zT_is (zT_pi hS) s_123) (zT_h (zT_pi hS) s_123) rfl hg ?_
        refine zw_sto hm_235 dX12_cleanRegions_113 [(2, .inl (l2 + (1 : Int32))), (0, .inr (.inr (some 94))), (1, .inl l1)] rfl rfl rfl ?_
        refine zw_goto hm_235 dX12_cleanRegions_116 (t := 44) rfl ?_
        exact zw_sub (ma_nd_of (ks := [0, 1, 2]) rfl (by decide)) (ma_nd_of (ks := [2, 0, 1]) rfl (by decide)) (ma_le_cons rfl (ma_le_cons rfl (ma_le_cons rfl (ma_le_nil _)))) (h d w _ Q (by omega) (by omega) (zT_pi (zT_pi hS)) rfl HQ)
    · intro hc
      rw [if_pos (Classical.not_not.mp hc)] at h
      refine zw_goto hm_235 dX12_cleanRegions_60 (t := 113) rfl ?_
      refine zw_sto hm_235 dX12_cleanRegions_113 [(2, .inl (l2 + (1 : Int32))), (0, .inr (.inr (some 94))), (1, .inl l1)] rfl rfl rfl ?_
      refine zw_goto hm_235 dX12_cleanRegions_116 (t := 44) rfl ?_
      exact zw_sub (ma_nd_of (ks := [0, 1, 2]) rfl (by decide)) (ma_nd_of (ks := [2, 0, 1]) rfl (by decide)) (ma_le_cons rfl (ma_le_cons rfl (ma_le_cons rfl (ma_le_nil _)))) (h d w _ Q (by omega) (by omega) hS rfl HQ)
theorem g_235_121 {X : Nat × (Nat → Int32)} {m : Nat → Nat → Int32} {P : Option ma_V → (Nat → Nat → Int32) → Prop} (l1 : Int32) (l2 : Int32) (h : if (m 94 64) ≤ l2 then (zm X 0 0 236 0 [(0, .inr (.inr (some 94)))] m (zmi (fun v2 m1 => zm X 5 108 235 161 [(0, .inr (.inr (some 94))), (1, .inl l1), (2, .inl (-1 : Int32)), (3, .inl (1 : Int32)), (4, .inl v2)] m1 P))) else ((0 ≤ l2 ∧ l2.toNatClampNeg < 128) ∧ (if (m 122 l2.toNatClampNeg) = 0 then ((0 ≤ l2 ∧ l2.toNatClampNeg < 128) ∧ (zm X 5 108 235 121 [(0, .inr (.inr (some 94))), (1, .inl l1), (2, .inl (l2 + (1 : Int32)))] (ma_u m 116 l2.toNatClampNeg (0 : Int32)) P)) else (zm X 5 108 235 121 [(0, .inr (.inr (some 94))), (1, .inl l1), (2, .inl (l2 + (1 : Int32)))] m P)))) : zm X 5 108 235 121 [(0, .inr (.inr (some 94))), (1, .inl l1), (2, .inl l2)] m P := by
  intro d w S Q hd hw hS hm HQ
  subst hm
  refine zw_push hm_235 dX12_cleanRegions_121 (v := .inl l2) rfl ?_
  refine zw_push hm_235 dX12_cleanRegions_122 (v := .inr (.inr (some 94))) rfl ?_
  refine zw_gf hm_235 dX12_cleanRegions_123 (v := .inl ((mI S) 94 64)) (zT_is hS s_94) (zT_t hS s_94) rfl f_12_234_12 rfl ?_
  refine zw_if2 hm_235 dX12_cleanRegions_126 (t := 151) rfl zc2_ge ?_ ?_
  · intro hc
    rw [if_pos hc] at h
    refine zw_push hm_235 dX12_cleanRegions_151 (v := .inl (-1 : Int32)) rfl ?_
    refine zw_sto hm_235 dX12_cleanRegions_152 [(2, .inl (-1 : Int32)), (0, .inr (.inr (some 94))), (1, .inl l1)] rfl rfl rfl ?_
    refine zw_push hm_235 dX12_cleanRegions_153 (v := .inl (1 : Int32)) rfl ?_
    refine zw_sto hm_235 dX12_cleanRegions_154 [(3, .inl (1 : Int32)), (2, .inl (-1 : Int32)), (0, .inr (.inr (some 94))), (1, .inl l1)] rfl rfl rfl ?_
    refine zw_push hm_235 dX12_cleanRegions_155 (v := .inr (.inr (some 94))) rfl ?_
    refine zw_cv hm_235 dX12_cleanRegions_156 v_12_414_12 hm_236 [] [] rfl (zT_rt hS s_94 rfl) ⟨by omega, by omega⟩ rfl (h _ _ S _ (by omega) (by omega) hS rfl (fun o9 m1 hv => ?_))
    obtain ⟨v2, rfl, h⟩ := zmi_of hv
    show ma_wp X d w 235 159 [(3, .inl (1 : Int32)), (2, .inl (-1 : Int32)), (0, .inr (.inr (some 94))), (1, .inl l1)] [.inl v2] (zst S m1) _
    refine zw_sto hm_235 dX12_cleanRegions_159 [(4, .inl v2), (3, .inl (1 : Int32)), (2, .inl (-1 : Int32)), (0, .inr (.inr (some 94))), (1, .inl l1)] rfl rfl rfl ?_
    exact zw_sub (ma_nd_of (ks := [0, 1, 2, 3, 4]) rfl (by decide)) (ma_nd_of (ks := [4, 3, 2, 0, 1]) rfl (by decide)) (ma_le_cons rfl (ma_le_cons rfl (ma_le_cons rfl (ma_le_cons rfl (ma_le_cons rfl (ma_le_nil _)))))) (h d w _ Q (by omega) (by omega) (zT_zst hS m1) rfl HQ)
  · intro hc
    rw [if_neg hc] at h
    refine zw_push hm_235 dX12_cleanRegions_129 (v := .inr (.inr (some 94))) rfl ?_
    refine zw_gf hm_235 dX12_cleanRegions_130 (v := .inr (.inr (some 122))) (zT_is hS s_94) (zT_t hS s_94) rfl f_12_98_12 (zT_f hS r_94_81) ?_
    refine zw_push hm_235 dX12_cleanRegions_133 (v := .inl l2) rfl ?_
    obtain ⟨hg, h⟩ := h
    refine zw_ia hm_235 dX12_cleanRegions_134 (zT_is hS s_122) (zT_h hS s_122) rfl hg ?_
    show ma_wp X d w 235 135 [(0, .inr (.inr (some 94))), (1, .inl l1), (2, .inl l2)] [.inl ((mI S) 122 l2.toNatClampNeg)] S _
    refine zw_if0 hm_235 dX12_cleanRegions_135 (t := 145) rfl zc0_ne ?_ ?_
    · intro hc
      rw [if_neg hc] at h
      refine zw_sto hm_235 dX12_cleanRegions_145 [(2, .inl (l2 + (1 : Int32))), (0, .inr (.inr (some 94))), (1, .inl l1)] rfl rfl rfl ?_
      refine zw_goto hm_235 dX12_cleanRegions_148 (t := 121) rfl ?_
      exact zw_sub (ma_nd_of (ks := [0, 1, 2]) rfl (by decide)) (ma_nd_of (ks := [2, 0, 1]) rfl (by decide)) (ma_le_cons rfl (ma_le_cons rfl (ma_le_cons rfl (ma_le_nil _)))) (h d w _ Q (by omega) (by omega) hS rfl HQ)
    · intro hc
      rw [if_pos (Classical.not_not.mp hc)] at h
      refine zw_push hm_235 dX12_cleanRegions_138 (v := .inr (.inr (some 94))) rfl ?_
      refine zw_gf hm_235 dX12_cleanRegions_139 (v := .inr (.inr (some 116))) (zT_is hS s_94) (zT_t hS s_94) rfl f_12_80_12 (zT_f hS r_94_65) ?_
      refine zw_push hm_235 dX12_cleanRegions_142 (v := .inl l2) rfl ?_
      refine zw_push hm_235 dX12_cleanRegions_143 (v := .inl (0 : Int32)) rfl ?_
      obtain ⟨hg, h⟩ := h
      refine zw_ias hm_235 dX12_cleanRegions_144 (zT_is hS s_116) (zT_h hS s_116) rfl hg ?_
      refine zw_sto hm_235 dX12_cleanRegions_145 [(2, .inl (l2 + (1 : Int32))), (0, .inr (.inr (some 94))), (1, .inl l1)] rfl rfl rfl ?_
      refine zw_goto hm_235 dX12_cleanRegions_148 (t := 121) rfl ?_
      exact zw_sub (ma_nd_of (ks := [0, 1, 2]) rfl (by decide)) (ma_nd_of (ks := [2, 0, 1]) rfl (by decide)) (ma_le_cons rfl (ma_le_cons rfl (ma_le_cons rfl (ma_le_nil _)))) (h d w _ Q (by omega) (by omega) (zT_pi hS) rfl HQ)
theorem g_235_161 {X : Nat × (Nat → Int32)} {m : Nat → Nat → Int32} {P : Option ma_V → (Nat → Nat → Int32) → Prop} (l1 : Int32) (l2 : Int32) (l3 : Int32) (l4 : Int32) (h : if l4 < 0 then (if l2 < 0 then ((0 ≤ (m 94 63) ∧ (m 94 63).toNatClampNeg < 128) ∧ (if (m 116 (m 94 63).toNatClampNeg) = 0 then (zm X 0 0 234 0 [(0, .inr (.inr (some 94)))] m (zmi (fun v2 m1 => P (some (.inl l1)) (ma_u m1 94 63 v2)))) else (P (some (.inl l1)) m))) else (P (some (.inl l1)) (ma_u m 94 63 l2))) else (if l3 = 0 then (if l2 < 0 then ((0 ≤ (m 94 63) ∧ (m 94 63).toNatClampNeg < 128) ∧ (if (m 116 (m 94 63).toNatClampNeg) = 0 then (zm X 0 0 234 0 [(0, .inr (.inr (some 94)))] m (zmi (fun v4 m3 => P (some (.inl l1)) (ma_u m3 94 63 v4)))) else (P (some (.inl l1)) m))) else (P (some (.inl l1)) (ma_u m 94 63 l2))) else ((0 ≤ l4 ∧ l4.toNatClampNeg < 128) ∧ ((0 ≤ l4 ∧ l4.toNatClampNeg < 128) ∧ (zm X 5 108 235 199 [(0, .inr (.inr (some 94))), (1, .inl l1), (2, .inl l2), (3, .inl l3), (4, .inl l4), (5, .inl (l4 * (m 94 18))), (6, .inl ((l4 * (m 94 18)) + (m 116 l4.toNatClampNeg)))] (ma_u m 124 l4.toNatClampNeg (1 : Int32)) P))))) : zm X 5 108 235 161 [(0, .inr (.inr (some 94))), (1, .inl l1), (2, .inl l2), (3, .inl l3), (4, .inl l4)] m P := by
  intro d w S Q hd hw hS hm HQ
  subst hm
  refine zw_push hm_235 dX12_cleanRegions_161 (v := .inl l4) rfl ?_
  refine zw_if0 hm_235 dX12_cleanRegions_163 (t := 350) rfl zc0_lt ?_ ?_
  · intro hc
    rw [if_pos hc] at h
    refine zw_push hm_235 dX12_cleanRegions_350 (v := .inl l2) rfl ?_
    refine zw_if0 hm_235 dX12_cleanRegions_351 (t := 362) rfl zc0_lt ?_ ?_
    · intro hc
      rw [if_pos hc] at h
      refine zw_push hm_235 dX12_cleanRegions_362 (v := .inr (.inr (some 94))) rfl ?_
      refine zw_gf hm_235 dX12_cleanRegions_363 (v := .inr (.inr (some 116))) (zT_is hS s_94) (zT_t hS s_94) rfl f_12_80_12 (zT_f hS r_94_65) ?_
      refine zw_push hm_235 dX12_cleanRegions_366 (v := .inr (.inr (some 94))) rfl ?_
      refine zw_gf hm_235 dX12_cleanRegions_367 (v := .inl ((mI S) 94 63)) (zT_is hS s_94) (zT_t hS s_94) rfl f_12_285_12 rfl ?_
      obtain ⟨hg, h⟩ := h
      refine zw_ia hm_235 dX12_cleanRegions_370 (zT_is hS s_116) (zT_h hS s_116) rfl hg ?_
      show ma_wp X d w 235 371 [(0, .inr (.inr (some 94))), (1, .inl l1), (2, .inl l2), (3, .inl l3), (4, .inl l4)] [.inl ((mI S) 116 ((mI S) 94 63).toNatClampNeg)] S _
      refine zw_if0 hm_235 dX12_cleanRegions_371 (t := 382) rfl zc0_ne ?_ ?_
      · intro hc
        rw [if_neg hc] at h
        refine zw_push hm_235 dX12_cleanRegions_382 (v := .inl l1) rfl ?_
        exact zw_iret hm_235 dX12_cleanRegions_383 (HQ _ _ h)
      · intro hc
        rw [if_pos (Classical.not_not.mp hc)] at h
        refine zw_push hm_235 dX12_cleanRegions_374 (v := .inr (.inr (some 94))) rfl ?_
        refine zw_push hm_235 dX12_cleanRegions_375 (v := .inr (.inr (some 94))) rfl ?_
        refine zw_cv hm_235 dX12_cleanRegions_376 v_12_417_12 hm_234 [] [.inr (.inr (some 94))] rfl (zT_rt hS s_94 rfl) ⟨by omega, by omega⟩ rfl (h _ _ S _ (by omega) (by omega) hS rfl (fun o9 m1 hv => ?_))
        obtain ⟨v2, rfl, h⟩ := zmi_of hv
        show ma_wp X d w 235 379 [(0, .inr (.inr (some 94))), (1, .inl l1), (2, .inl l2), (3, .inl l3), (4, .inl l4)] [.inl v2, .inr (.inr (some 94))] (zst S m1) _
        refine zw_pf hm_235 dX12_cleanRegions_379 (zT_is (zT_zst hS m1) s_94) (zT_t (zT_zst hS m1) s_94) p_12_285_12 zk_int ?_
        refine zw_push hm_235 dX12_cleanRegions_382 (v := .inl l1) rfl ?_
        exact zw_iret hm_235 dX12_cleanRegions_383 (HQ _ _ h)
    · intro hc
      rw [if_neg hc] at h
      refine zw_push hm_235 dX12_cleanRegions_354 (v := .inr (.inr (some 94))) rfl ?_
      refine zw_push hm_235 dX12_cleanRegions_355 (v := .inl l2) rfl ?_
      refine zw_pf hm_235 dX12_cleanRegions_356 (zT_is hS s_94) (zT_t hS s_94) p_12_285_12 zk_int ?_
      refine zw_goto hm_235 dX12_cleanRegions_359 (t := 382) rfl ?_
      refine zw_push hm_235 dX12_cleanRegions_382 (v := .inl l1) rfl ?_
      exact zw_iret hm_235 dX12_cleanRegions_383 (HQ _ _ h)
  · intro hc
    rw [if_neg hc] at h
    refine zw_push hm_235 dX12_cleanRegions_166 (v := .inl l3) rfl ?_
    refine zw_if0 hm_235 dX12_cleanRegions_167 (t := 350) rfl zc0_eq ?_ ?_
    · intro hc
      rw [if_pos hc] at h
      refine zw_push hm_235 dX12_cleanRegions_350 (v := .inl l2) rfl ?_
      refine zw_if0 hm_235 dX12_cleanRegions_351 (t := 362) rfl zc0_lt ?_ ?_
      · intro hc
        rw [if_pos hc] at h
        refine zw_push hm_235 dX12_cleanRegions_362 (v := .inr (.inr (some 94))) rfl ?_
        refine zw_gf hm_235 dX12_cleanRegions_363 (v := .inr (.inr (some 116))) (zT_is hS s_94) (zT_t hS s_94) rfl f_12_80_12 (zT_f hS r_94_65) ?_
        refine zw_push hm_235 dX12_cleanRegions_366 (v := .inr (.inr (some 94))) rfl ?_
        refine zw_gf hm_235 dX12_cleanRegions_367 (v := .inl ((mI S) 94 63)) (zT_is hS s_94) (zT_t hS s_94) rfl f_12_285_12 rfl ?_
        obtain ⟨hg, h⟩ := h
        refine zw_ia hm_235 dX12_cleanRegions_370 (zT_is hS s_116) (zT_h hS s_116) rfl hg ?_
        show ma_wp X d w 235 371 [(0, .inr (.inr (some 94))), (1, .inl l1), (2, .inl l2), (3, .inl l3), (4, .inl l4)] [.inl ((mI S) 116 ((mI S) 94 63).toNatClampNeg)] S _
        refine zw_if0 hm_235 dX12_cleanRegions_371 (t := 382) rfl zc0_ne ?_ ?_
        · intro hc
          rw [if_neg hc] at h
          refine zw_push hm_235 dX12_cleanRegions_382 (v := .inl l1) rfl ?_
          exact zw_iret hm_235 dX12_cleanRegions_383 (HQ _ _ h)
        · intro hc
          rw [if_pos (Classical.not_not.mp hc)] at h
          refine zw_push hm_235 dX12_cleanRegions_374 (v := .inr (.inr (some 94))) rfl ?_
          refine zw_push hm_235 dX12_cleanRegions_375 (v := .inr (.inr (some 94))) rfl ?_
          refine zw_cv hm_235 dX12_cleanRegions_376 v_12_417_12 hm_234 [] [.inr (.inr (some 94))] rfl (zT_rt hS s_94 rfl) ⟨by omega, by omega⟩ rfl (h _ _ S _ (by omega) (by omega) hS rfl (fun o9 m3 hv => ?_))
          obtain ⟨v4, rfl, h⟩ := zmi_of hv
          show ma_wp X d w 235 379 [(0, .inr (.inr (some 94))), (1, .inl l1), (2, .inl l2), (3, .inl l3), (4, .inl l4)] [.inl v4, .inr (.inr (some 94))] (zst S m3) _
          refine zw_pf hm_235 dX12_cleanRegions_379 (zT_is (zT_zst hS m3) s_94) (zT_t (zT_zst hS m3) s_94) p_12_285_12 zk_int ?_
          refine zw_push hm_235 dX12_cleanRegions_382 (v := .inl l1) rfl ?_
          exact zw_iret hm_235 dX12_cleanRegions_383 (HQ _ _ h)
      · intro hc
        rw [if_neg hc] at h
        refine zw_push hm_235 dX12_cleanRegions_354 (v := .inr (.inr (some 94))) rfl ?_
        refine zw_push hm_235 dX12_cleanRegions_355 (v := .inl l2) rfl ?_
        refine zw_pf hm_235 dX12_cleanRegions_356 (zT_is hS s_94) (zT_t hS s_94) p_12_285_12 zk_int ?_
        refine zw_goto hm_235 dX12_cleanRegions_359 (t := 382) rfl ?_
        refine zw_push hm_235 dX12_cleanRegions_382 (v := .inl l1) rfl ?_
        exact zw_iret hm_235 dX12_cleanRegions_383 (HQ _ _ h)
    · intro hc
      rw [if_neg hc] at h
      refine zw_push hm_235 dX12_cleanRegions_170 (v := .inr (.inr (some 94))) rfl ?_
      refine zw_gf hm_235 dX12_cleanRegions_171 (v := .inr (.inr (some 124))) (zT_is hS s_94) (zT_t hS s_94) rfl f_12_104_12 (zT_f hS r_94_83) ?_
      refine zw_push hm_235 dX12_cleanRegions_174 (v := .inl l4) rfl ?_
      refine zw_push hm_235 dX12_cleanRegions_176 (v := .inl (1 : Int32)) rfl ?_
      obtain ⟨hg, h⟩ := h
      refine zw_bas22l hm_235 dX12_cleanRegions_177 (hx := by decide) (yv := (1 : Int32)) (zT_is hS s_124) (zT_h hS s_124) rfl hg ?_
      refine zw_push hm_235 dX12_cleanRegions_178 (v := .inl l4) rfl ?_
      refine zw_push hm_235 dX12_cleanRegions_180 (v := .inr (.inr (some 94))) rfl ?_
      refine zw_gf hm_235 dX12_cleanRegions_181 (v := .inl ((mI S) 94 18)) (zT_is (zT_pi hS) s_94) (zT_t (zT_pi hS) s_94) rfl f_12_222_12 rfl ?_
      refine zw_stk hm_235 dX12_cleanRegions_184 (st₉ := [.inl (l4 * ((mI S) 94 18))]) rfl rfl ?_
      refine zw_sto hm_235 dX12_cleanRegions_185 [(5, .inl (l4 * ((mI S) 94 18))), (0, .inr (.inr (some 94))), (1, .inl l1), (2, .inl l2), (3, .inl l3), (4, .inl l4)] rfl rfl rfl ?_
      refine zw_push hm_235 dX12_cleanRegions_187 (v := .inl (l4 * ((mI S) 94 18))) rfl ?_
      refine zw_push hm_235 dX12_cleanRegions_189 (v := .inr (.inr (some 94))) rfl ?_
      refine zw_gf hm_235 dX12_cleanRegions_190 (v := .inr (.inr (some 116))) (zT_is (zT_pi hS) s_94) (zT_t (zT_pi hS) s_94) rfl f_12_80_12 (zT_f (zT_pi hS) r_94_65) ?_
      refine zw_push hm_235 dX12_cleanRegions_193 (v := .inl l4) rfl ?_
      obtain ⟨hg, h⟩ := h
      refine zw_ia hm_235 dX12_cleanRegions_195 (zT_is (zT_pi hS) s_116) (zT_h (zT_pi hS) s_116) rfl hg ?_
      show ma_wp X d w 235 196 [(5, .inl (l4 * ((mI S) 94 18))), (0, .inr (.inr (some 94))), (1, .inl l1), (2, .inl l2), (3, .inl l3), (4, .inl l4)] [.inl ((mI S) 116 l4.toNatClampNeg), .inl (l4 * ((mI S) 94 18))] (ma_put S 124 l4.toNatClampNeg (.inl (1 : Int32))) _
      refine zw_stk hm_235 dX12_cleanRegions_196 (st₉ := [.inl ((l4 * ((mI S) 94 18)) + ((mI S) 116 l4.toNatClampNeg))]) rfl rfl ?_
      refine zw_sto hm_235 dX12_cleanRegions_197 [(6, .inl ((l4 * ((mI S) 94 18)) + ((mI S) 116 l4.toNatClampNeg))), (5, .inl (l4 * ((mI S) 94 18))), (0, .inr (.inr (some 94))), (1, .inl l1), (2, .inl l2), (3, .inl l3), (4, .inl l4)] rfl rfl rfl ?_
      exact zw_sub (ma_nd_of (ks := [0, 1, 2, 3, 4, 5, 6]) rfl (by decide)) (ma_nd_of (ks := [6, 5, 0, 1, 2, 3, 4]) rfl (by decide)) (ma_le_cons rfl (ma_le_cons rfl (ma_le_cons rfl (ma_le_cons rfl (ma_le_cons rfl (ma_le_cons rfl (ma_le_cons rfl (ma_le_nil _)))))))) (h d w _ Q (by omega) (by omega) (zT_pi hS) rfl HQ)
theorem g_235_199 {X : Nat × (Nat → Int32)} {m : Nat → Nat → Int32} {P : Option ma_V → (Nat → Nat → Int32) → Prop} (l1 : Int32) (l2 : Int32) (l3 : Int32) (l4 : Int32) (l5 : Int32) (l6 : Int32) (h : if l6 ≤ l5 then (if l3 = 0 then (zm X 0 0 236 0 [(0, .inr (.inr (some 94)))] m (zmi (fun v2 m1 => zm X 5 108 235 161 [(0, .inr (.inr (some 94))), (1, .inl l1), (2, .inl l2), (3, .inl l3), (4, .inl v2)] m1 P))) else ((0 ≤ l4 ∧ l4.toNatClampNeg < 128) ∧ (zm X 0 0 236 0 [(0, .inr (.inr (some 94)))] (ma_u m 116 l4.toNatClampNeg (0 : Int32)) (zmi (fun v4 m3 => zm X 5 108 235 161 [(0, .inr (.inr (some 94))), (1, .inl l1), (2, .inl l2), (3, .inl l3), (4, .inl v4)] m3 P))))) else (if l3 = 0 then (if l3 = 0 then (zm X 0 0 236 0 [(0, .inr (.inr (some 94)))] m (zmi (fun v6 m5 => zm X 5 108 235 161 [(0, .inr (.inr (some 94))), (1, .inl l1), (2, .inl l2), (3, .inl l3), (4, .inl v6)] m5 P))) else ((0 ≤ l4 ∧ l4.toNatClampNeg < 128) ∧ (zm X 0 0 236 0 [(0, .inr (.inr (some 94)))] (ma_u m 116 l4.toNatClampNeg (0 : Int32)) (zmi (fun v8 m7 => zm X 5 108 235 161 [(0, .inr (.inr (some 94))), (1, .inl l1), (2, .inl l2), (3, .inl l3), (4, .inl v8)] m7 P))))) else ((0 ≤ l5 ∧ l5.toNatClampNeg < 4600) ∧ (if 0 ≤ (m 111 l5.toNatClampNeg) then ((0 ≤ (m 111 l5.toNatClampNeg) ∧ (m 111 l5.toNatClampNeg).toNatClampNeg < 3100) ∧ (if l2 < 0 then (zm X 0 0 234 0 [(0, .inr (.inr (some 94)))] m (zmi (fun v10 m9 => if 0 ≤ v10 then (if l3 = 0 then (zm X 5 108 235 199 [(0, .inr (.inr (some 94))), (1, .inl l1), (2, .inl v10), (3, .inl l3), (4, .inl l4), (5, .inl (l5 + ((m 102 (m 111 l5.toNatClampNeg).toNatClampNeg) + (1 : Int32)))), (6, .inl l6)] m9 P) else ((0 ≤ v10 ∧ v10.toNatClampNeg < 128) ∧ (zm X 1 21 205 0 [(0, .inr (.inr (some 94))), (1, .inl (m 111 l5.toNatClampNeg)), (2, .inl ((v10 * (m9 94 18)) + (m9 116 v10.toNatClampNeg)))] m9 (zmv (fun m11 => (0 ≤ v10 ∧ v10.toNatClampNeg < 128) ∧ ((0 ≤ (m 111 l5.toNatClampNeg) ∧ (m 111 l5.toNatClampNeg).toNatClampNeg < 3100) ∧ ((0 ≤ v10 ∧ v10.toNatClampNeg < 128) ∧ (zm X 5 108 235 199 [(0, .inr (.inr (some 94))), (1, .inl l1), (2, .inl v10), (3, .inl l3), (4, .inl l4), (5, .inl (l5 + ((m 102 (m 111 l5.toNatClampNeg).toNatClampNeg) + (1 : Int32)))), (6, .inl l6)] (ma_u m11 116 v10.toNatClampNeg ((m11 116 v10.toNatClampNeg) + ((m11 102 (m 111 l5.toNatClampNeg).toNatClampNeg) + (1 : Int32)))) P)))))))) else (zm X 5 108 235 199 [(0, .inr (.inr (some 94))), (1, .inl l1), (2, .inl l2), (3, .inl (0 : Int32)), (4, .inl l4), (5, .inl (l5 + ((m 102 (m 111 l5.toNatClampNeg).toNatClampNeg) + (1 : Int32)))), (6, .inl l6)] m9 P)))) else ((0 ≤ l2 ∧ l2.toNatClampNeg < 128) ∧ ((0 ≤ (m 111 l5.toNatClampNeg) ∧ (m 111 l5.toNatClampNeg).toNatClampNeg < 3100) ∧ (if ((m 116 l2.toNatClampNeg) + ((m 102 (m 111 l5.toNatClampNeg).toNatClampNeg) + (1 : Int32))) ≤ (m 94 18) then (if l3 = 0 then (zm X 5 108 235 199 [(0, .inr (.inr (some 94))), (1, .inl l1), (2, .inl l2), (3, .inl l3), (4, .inl l4), (5, .inl (l5 + ((m 102 (m 111 l5.toNatClampNeg).toNatClampNeg) + (1 : Int32)))), (6, .inl l6)] m P) else ((0 ≤ l2 ∧ l2.toNatClampNeg < 128) ∧ (zm X 1 21 205 0 [(0, .inr (.inr (some 94))), (1, .inl (m 111 l5.toNatClampNeg)), (2, .inl ((l2 * (m 94 18)) + (m 116 l2.toNatClampNeg)))] m (zmv (fun m13 => (0 ≤ l2 ∧ l2.toNatClampNeg < 128) ∧ ((0 ≤ (m 111 l5.toNatClampNeg) ∧ (m 111 l5.toNatClampNeg).toNatClampNeg < 3100) ∧ ((0 ≤ l2 ∧ l2.toNatClampNeg < 128) ∧ (zm X 5 108 235 199 [(0, .inr (.inr (some 94))), (1, .inl l1), (2, .inl l2), (3, .inl l3), (4, .inl l4), (5, .inl (l5 + ((m 102 (m 111 l5.toNatClampNeg).toNatClampNeg) + (1 : Int32)))), (6, .inl l6)] (ma_u m13 116 l2.toNatClampNeg ((m13 116 l2.toNatClampNeg) + ((m13 102 (m 111 l5.toNatClampNeg).toNatClampNeg) + (1 : Int32)))) P)))))))) else (zm X 0 0 234 0 [(0, .inr (.inr (some 94)))] m (zmi (fun v16 m15 => if 0 ≤ v16 then (if l3 = 0 then (zm X 5 108 235 199 [(0, .inr (.inr (some 94))), (1, .inl l1), (2, .inl v16), (3, .inl l3), (4, .inl l4), (5, .inl (l5 + ((m 102 (m 111 l5.toNatClampNeg).toNatClampNeg) + (1 : Int32)))), (6, .inl l6)] m15 P) else ((0 ≤ v16 ∧ v16.toNatClampNeg < 128) ∧ (zm X 1 21 205 0 [(0, .inr (.inr (some 94))), (1, .inl (m 111 l5.toNatClampNeg)), (2, .inl ((v16 * (m15 94 18)) + (m15 116 v16.toNatClampNeg)))] m15 (zmv (fun m17 => (0 ≤ v16 ∧ v16.toNatClampNeg < 128) ∧ ((0 ≤ (m 111 l5.toNatClampNeg) ∧ (m 111 l5.toNatClampNeg).toNatClampNeg < 3100) ∧ ((0 ≤ v16 ∧ v16.toNatClampNeg < 128) ∧ (zm X 5 108 235 199 [(0, .inr (.inr (some 94))), (1, .inl l1), (2, .inl v16), (3, .inl l3), (4, .inl l4), (5, .inl (l5 + ((m 102 (m 111 l5.toNatClampNeg).toNatClampNeg) + (1 : Int32)))), (6, .inl l6)] (ma_u m17 116 v16.toNatClampNeg ((m17 116 v16.toNatClampNeg) + ((m17 102 (m 111 l5.toNatClampNeg).toNatClampNeg) + (1 : Int32)))) P)))))))) else (zm X 5 108 235 199 [(0, .inr (.inr (some 94))), (1, .inl l1), (2, .inl l2), (3, .inl (0 : Int32)), (4, .inl l4), (5, .inl (l5 + ((m 102 (m 111 l5.toNatClampNeg).toNatClampNeg) + (1 : Int32)))), (6, .inl l6)] m15 P))))))))) else (zm X 5 108 235 199 [(0, .inr (.inr (some 94))), (1, .inl l1), (2, .inl l2), (3, .inl l3), (4, .inl l4), (5, .inl (l5 + (1 : Int32))), (6, .inl l6)] m P))))) : zm X 5 108 235 199 [(0, .inr (.inr (some 94))), (1, .inl l1), (2, .inl l2), (3, .inl l3), (4, .inl l4), (5, .inl l5), (6, .inl l6)] m P := by
  intro d w S Q hd hw hS hm HQ
  subst hm
  refine zw_push hm_235 dX12_cleanRegions_199 (v := .inl l5) rfl ?_
  refine zw_push hm_235 dX12_cleanRegions_201 (v := .inl l6) rfl ?_
  refine zw_if2 hm_235 dX12_cleanRegions_203 (t := 329) rfl zc2_ge ?_ ?_
  · intro hc
    rw [if_pos hc] at h
    refine zw_push hm_235 dX12_cleanRegions_329 (v := .inl l3) rfl ?_
    refine zw_if0 hm_235 dX12_cleanRegions_330 (t := 341) rfl zc0_eq ?_ ?_
    · intro hc
      rw [if_pos hc] at h
      refine zw_push hm_235 dX12_cleanRegions_341 (v := .inr (.inr (some 94))) rfl ?_
      refine zw_cv hm_235 dX12_cleanRegions_342 v_12_414_12 hm_236 [] [] rfl (zT_rt hS s_94 rfl) ⟨by omega, by omega⟩ rfl (h _ _ S _ (by omega) (by omega) hS rfl (fun o9 m1 hv => ?_))
      obtain ⟨v2, rfl, h⟩ := zmi_of hv
      show ma_wp X d w 235 345 [(0, .inr (.inr (some 94))), (1, .inl l1), (2, .inl l2), (3, .inl l3), (4, .inl l4), (5, .inl l5), (6, .inl l6)] [.inl v2] (zst S m1) _
      refine zw_sto hm_235 dX12_cleanRegions_345 [(4, .inl v2), (0, .inr (.inr (some 94))), (1, .inl l1), (2, .inl l2), (3, .inl l3), (5, .inl l5), (6, .inl l6)] rfl rfl rfl ?_
      refine zw_goto hm_235 dX12_cleanRegions_347 (t := 161) rfl ?_
      exact zw_sub (ma_nd_of (ks := [0, 1, 2, 3, 4]) rfl (by decide)) (ma_nd_of (ks := [4, 0, 1, 2, 3, 5, 6]) rfl (by decide)) (ma_le_cons rfl (ma_le_cons rfl (ma_le_cons rfl (ma_le_cons rfl (ma_le_cons rfl (ma_le_nil _)))))) (h d w _ Q (by omega) (by omega) (zT_zst hS m1) rfl HQ)
    · intro hc
      rw [if_neg hc] at h
      refine zw_push hm_235 dX12_cleanRegions_333 (v := .inr (.inr (some 94))) rfl ?_
      refine zw_gf hm_235 dX12_cleanRegions_334 (v := .inr (.inr (some 116))) (zT_is hS s_94) (zT_t hS s_94) rfl f_12_80_12 (zT_f hS r_94_65) ?_
      refine zw_push hm_235 dX12_cleanRegions_337 (v := .inl l4) rfl ?_
      refine zw_push hm_235 dX12_cleanRegions_339 (v := .inl (0 : Int32)) rfl ?_
      obtain ⟨hg, h⟩ := h
      refine zw_ias hm_235 dX12_cleanRegions_340 (zT_is hS s_116) (zT_h hS s_116) rfl hg ?_
      refine zw_push hm_235 dX12_cleanRegions_341 (v := .inr (.inr (some 94))) rfl ?_
      refine zw_cv hm_235 dX12_cleanRegions_342 v_12_414_12 hm_236 [] [] rfl (zT_rt (zT_pi hS) s_94 rfl) ⟨by omega, by omega⟩ rfl (h _ _ (ma_put S 116 l4.toNatClampNeg (.inl (0 : Int32))) _ (by omega) (by omega) (zT_pi hS) rfl (fun o9 m3 hv => ?_))
      obtain ⟨v4, rfl, h⟩ := zmi_of hv
      show ma_wp X d w 235 345 [(0, .inr (.inr (some 94))), (1, .inl l1), (2, .inl l2), (3, .inl l3), (4, .inl l4), (5, .inl l5), (6, .inl l6)] [.inl v4] (zst S m3) _
      refine zw_sto hm_235 dX12_cleanRegions_345 [(4, .inl v4), (0, .inr (.inr (some 94))), (1, .inl l1), (2, .inl l2), (3, .inl l3), (5, .inl l5), (6, .inl l6)] rfl rfl rfl ?_
      refine zw_goto hm_235 dX12_cleanRegions_347 (t := 161) rfl ?_
      exact zw_sub (ma_nd_of (ks := [0, 1, 2, 3, 4]) rfl (by decide)) (ma_nd_of (ks := [4, 0, 1, 2, 3, 5, 6]) rfl (by decide)) (ma_le_cons rfl (ma_le_cons rfl (ma_le_cons rfl (ma_le_cons rfl (ma_le_cons rfl (ma_le_nil _)))))) (h d w _ Q (by omega) (by omega) (zT_zst hS m3) rfl HQ)
  · intro hc
    rw [if_neg hc] at h
    refine zw_push hm_235 dX12_cleanRegions_206 (v := .inl l3) rfl ?_
    refine zw_if0 hm_235 dX12_cleanRegions_207 (t := 329) rfl zc0_eq ?_ ?_
    · intro hc
      rw [if_pos hc] at h
      refine zw_push hm_235 dX12_cleanRegions_329 (v := .inl l3) rfl ?_
      refine zw_if0 hm_235 dX12_cleanRegions_330 (t := 341) rfl zc0_eq ?_ ?_
      · intro hc
        rw [if_pos hc] at h
        refine zw_push hm_235 dX12_cleanRegions_341 (v := .inr (.inr (some 94))) rfl ?_
        refine zw_cv hm_235 dX12_cleanRegions_342 v_12_414_12 hm_236 [] [] rfl (zT_rt hS s_94 rfl) ⟨by omega, by omega⟩ rfl (h _ _ S _ (by omega) (by omega) hS rfl (fun o9 m5 hv => ?_))
        obtain ⟨v6, rfl, h⟩ := zmi_of hv
        show ma_wp X d w 235 345 [(0, .inr (.inr (some 94))), (1, .inl l1), (2, .inl l2), (3, .inl l3), (4, .inl l4), (5, .inl l5), (6, .inl l6)] [.inl v6] (zst S m5) _
        refine zw_sto hm_235 dX12_cleanRegions_345 [(4, .inl v6), (0, .inr (.inr (some 94))), (1, .inl l1), (2, .inl l2), (3, .inl l3), (5, .inl l5), (6, .inl l6)] rfl rfl rfl ?_
        refine zw_goto hm_235 dX12_cleanRegions_347 (t := 161) rfl ?_
        exact zw_sub (ma_nd_of (ks := [0, 1, 2, 3, 4]) rfl (by decide)) (ma_nd_of (ks := [4, 0, 1, 2, 3, 5, 6]) rfl (by decide)) (ma_le_cons rfl (ma_le_cons rfl (ma_le_cons rfl (ma_le_cons rfl (ma_le_cons rfl (ma_le_nil _)))))) (h d w _ Q (by omega) (by omega) (zT_zst hS m5) rfl HQ)
      · intro hc
        rw [if_neg hc] at h
        refine zw_push hm_235 dX12_cleanRegions_333 (v := .inr (.inr (some 94))) rfl ?_
        refine zw_gf hm_235 dX12_cleanRegions_334 (v := .inr (.inr (some 116))) (zT_is hS s_94) (zT_t hS s_94) rfl f_12_80_12 (zT_f hS r_94_65) ?_
        refine zw_push hm_235 dX12_cleanRegions_337 (v := .inl l4) rfl ?_
        refine zw_push hm_235 dX12_cleanRegions_339 (v := .inl (0 : Int32)) rfl ?_
        obtain ⟨hg, h⟩ := h
        refine zw_ias hm_235 dX12_cleanRegions_340 (zT_is hS s_116) (zT_h hS s_116) rfl hg ?_
        refine zw_push hm_235 dX12_cleanRegions_341 (v := .inr (.inr (some 94))) rfl ?_
        refine zw_cv hm_235 dX12_cleanRegions_342 v_12_414_12 hm_236 [] [] rfl (zT_rt (zT_pi hS) s_94 rfl) ⟨by omega, by omega⟩ rfl (h _ _ (ma_put S 116 l4.toNatClampNeg (.inl (0 : Int32))) _ (by omega) (by omega) (zT_pi hS) rfl (fun o9 m7 hv => ?_))
        obtain ⟨v8, rfl, h⟩ := zmi_of hv
        show ma_wp X d w 235 345 [(0, .inr (.inr (some 94))), (1, .inl l1), (2, .inl l2), (3, .inl l3), (4, .inl l4), (5, .inl l5), (6, .inl l6)] [.inl v8] (zst S m7) _
        refine zw_sto hm_235 dX12_cleanRegions_345 [(4, .inl v8), (0, .inr (.inr (some 94))), (1, .inl l1), (2, .inl l2), (3, .inl l3), (5, .inl l5), (6, .inl l6)] rfl rfl rfl ?_
        refine zw_goto hm_235 dX12_cleanRegions_347 (t := 161) rfl ?_
        exact zw_sub (ma_nd_of (ks := [0, 1, 2, 3, 4]) rfl (by decide)) (ma_nd_of (ks := [4, 0, 1, 2, 3, 5, 6]) rfl (by decide)) (ma_le_cons rfl (ma_le_cons rfl (ma_le_cons rfl (ma_le_cons rfl (ma_le_cons rfl (ma_le_nil _)))))) (h d w _ Q (by omega) (by omega) (zT_zst hS m7) rfl HQ)
    · intro hc
      rw [if_neg hc] at h
      refine zw_push hm_235 dX12_cleanRegions_210 (v := .inr (.inr (some 94))) rfl ?_
      refine zw_gf hm_235 dX12_cleanRegions_211 (v := .inr (.inr (some 111))) (zT_is hS s_94) (zT_t hS s_94) rfl f_12_65_12 (zT_f hS r_94_43) ?_
      refine zw_push hm_235 dX12_cleanRegions_214 (v := .inl l5) rfl ?_
      obtain ⟨hg, h⟩ := h
      refine zw_ia hm_235 dX12_cleanRegions_216 (zT_is hS s_111) (zT_h hS s_111) rfl hg ?_
      show ma_wp X d w 235 217 [(0, .inr (.inr (some 94))), (1, .inl l1), (2, .inl l2), (3, .inl l3), (4, .inl l4), (5, .inl l5), (6, .inl l6)] [.inl ((mI S) 111 l5.toNatClampNeg)] S _
      refine zw_sto hm_235 dX12_cleanRegions_217 [(7, .inl ((mI S) 111 l5.toNatClampNeg)), (0, .inr (.inr (some 94))), (1, .inl l1), (2, .inl l2), (3, .inl l3), (4, .inl l4), (5, .inl l5), (6, .inl l6)] rfl rfl rfl ?_
      refine zw_push hm_235 dX12_cleanRegions_219 (v := .inl ((mI S) 111 l5.toNatClampNeg)) rfl ?_
      refine zw_if0 hm_235 dX12_cleanRegions_221 (t := 230) rfl zc0_ge ?_ ?_
      · intro hc
        rw [if_pos hc] at h
        refine zw_push hm_235 dX12_cleanRegions_230 (v := .inl l5) rfl ?_
        refine zw_push hm_235 dX12_cleanRegions_232 (v := .inr (.inr (some 94))) rfl ?_
        refine zw_push hm_235 dX12_cleanRegions_233 (v := .inl ((mI S) 111 l5.toNatClampNeg)) rfl ?_
        refine zw_cv hm_235 dX12_cleanRegions_235 v_12_327_12 hm_201 [.inl ((mI S) 111 l5.toNatClampNeg)] [.inl l5] rfl (zT_rt hS s_94 rfl) ⟨by omega, by omega⟩ rfl ?_
        show ma_wp X (d - 1) (w - 21) 201 0 [(0, .inr (.inr (some 94))), (1, .inl ((mI S) 111 l5.toNatClampNeg))] [] S _
        refine zw_push hm_201 dX12_sizeOf_0 (v := .inr (.inr (some 94))) rfl ?_
        refine zw_gf hm_201 dX12_sizeOf_1 (v := .inr (.inr (some 102))) (zT_is hS s_94) (zT_t hS s_94) rfl f_12_37_12 (zT_f hS r_94_34) ?_
        refine zw_push hm_201 dX12_sizeOf_4 (v := .inl ((mI S) 111 l5.toNatClampNeg)) rfl ?_
        obtain ⟨hg, h⟩ := h
        refine zw_ia hm_201 dX12_sizeOf_5 (zT_is hS s_102) (zT_h hS s_102) rfl hg ?_
        show ma_wp X (d - 1) (w - 21) 201 6 [(0, .inr (.inr (some 94))), (1, .inl ((mI S) 111 l5.toNatClampNeg))] [.inl ((mI S) 102 ((mI S) 111 l5.toNatClampNeg).toNatClampNeg)] S _
        refine zw_push hm_201 dX12_sizeOf_6 (v := .inl (1 : Int32)) rfl ?_
        refine zw_stk hm_201 dX12_sizeOf_7 (st₉ := [.inl (((mI S) 102 ((mI S) 111 l5.toNatClampNeg).toNatClampNeg) + (1 : Int32))]) rfl rfl ?_
        refine zw_iret hm_201 dX12_sizeOf_8 ?_
        show ma_wp X d w 235 238 [(7, .inl ((mI S) 111 l5.toNatClampNeg)), (0, .inr (.inr (some 94))), (1, .inl l1), (2, .inl l2), (3, .inl l3), (4, .inl l4), (5, .inl l5), (6, .inl l6)] [.inl (((mI S) 102 ((mI S) 111 l5.toNatClampNeg).toNatClampNeg) + (1 : Int32)), .inl l5] S _
        refine zw_stk hm_235 dX12_cleanRegions_238 (st₉ := [.inl (l5 + (((mI S) 102 ((mI S) 111 l5.toNatClampNeg).toNatClampNeg) + (1 : Int32)))]) rfl rfl ?_
        refine zw_sto hm_235 dX12_cleanRegions_239 [(8, .inl (l5 + (((mI S) 102 ((mI S) 111 l5.toNatClampNeg).toNatClampNeg) + (1 : Int32)))), (7, .inl ((mI S) 111 l5.toNatClampNeg)), (0, .inr (.inr (some 94))), (1, .inl l1), (2, .inl l2), (3, .inl l3), (4, .inl l4), (5, .inl l5), (6, .inl l6)] rfl rfl rfl ?_
        refine zw_push hm_235 dX12_cleanRegions_241 (v := .inl l2) rfl ?_
        refine zw_if0 hm_235 dX12_cleanRegions_242 (t := 265) rfl zc0_lt ?_ ?_
        · intro hc
          rw [if_pos hc] at h
          refine zw_push hm_235 dX12_cleanRegions_265 (v := .inr (.inr (some 94))) rfl ?_
          refine zw_cv hm_235 dX12_cleanRegions_266 v_12_417_12 hm_234 [] [] rfl (zT_rt hS s_94 rfl) ⟨by omega, by omega⟩ rfl (h _ _ S _ (by omega) (by omega) hS rfl (fun o9 m9 hv => ?_))
          obtain ⟨v10, rfl, h⟩ := zmi_of hv
          show ma_wp X d w 235 269 [(8, .inl (l5 + (((mI S) 102 ((mI S) 111 l5.toNatClampNeg).toNatClampNeg) + (1 : Int32)))), (7, .inl ((mI S) 111 l5.toNatClampNeg)), (0, .inr (.inr (some 94))), (1, .inl l1), (2, .inl l2), (3, .inl l3), (4, .inl l4), (5, .inl l5), (6, .inl l6)] [.inl v10] (zst S m9) _
          refine zw_sto hm_235 dX12_cleanRegions_269 [(9, .inl v10), (8, .inl (l5 + (((mI S) 102 ((mI S) 111 l5.toNatClampNeg).toNatClampNeg) + (1 : Int32)))), (7, .inl ((mI S) 111 l5.toNatClampNeg)), (0, .inr (.inr (some 94))), (1, .inl l1), (2, .inl l2), (3, .inl l3), (4, .inl l4), (5, .inl l5), (6, .inl l6)] rfl rfl rfl ?_
          refine zw_push hm_235 dX12_cleanRegions_271 (v := .inl v10) rfl ?_
          refine zw_if0 hm_235 dX12_cleanRegions_273 (t := 281) rfl zc0_ge ?_ ?_
          · intro hc
            rw [if_pos hc] at h
            refine zw_push hm_235 dX12_cleanRegions_281 (v := .inl v10) rfl ?_
            refine zw_sto hm_235 dX12_cleanRegions_283 [(2, .inl v10), (9, .inl v10), (8, .inl (l5 + (((mI S) 102 ((mI S) 111 l5.toNatClampNeg).toNatClampNeg) + (1 : Int32)))), (7, .inl ((mI S) 111 l5.toNatClampNeg)), (0, .inr (.inr (some 94))), (1, .inl l1), (3, .inl l3), (4, .inl l4), (5, .inl l5), (6, .inl l6)] rfl rfl rfl ?_
            refine zw_push hm_235 dX12_cleanRegions_284 (v := .inl l3) rfl ?_
            refine zw_if0 hm_235 dX12_cleanRegions_285 (t := 322) rfl zc0_eq ?_ ?_
            · intro hc
              rw [if_pos hc] at h
              refine zw_push hm_235 dX12_cleanRegions_322 (v := .inl (l5 + (((mI S) 102 ((mI S) 111 l5.toNatClampNeg).toNatClampNeg) + (1 : Int32)))) rfl ?_
              refine zw_sto hm_235 dX12_cleanRegions_324 [(5, .inl (l5 + (((mI S) 102 ((mI S) 111 l5.toNatClampNeg).toNatClampNeg) + (1 : Int32)))), (2, .inl v10), (9, .inl v10), (8, .inl (l5 + (((mI S) 102 ((mI S) 111 l5.toNatClampNeg).toNatClampNeg) + (1 : Int32)))), (7, .inl ((mI S) 111 l5.toNatClampNeg)), (0, .inr (.inr (some 94))), (1, .inl l1), (3, .inl l3), (4, .inl l4), (6, .inl l6)] rfl rfl rfl ?_
              refine zw_goto hm_235 dX12_cleanRegions_326 (t := 199) rfl ?_
              exact zw_sub (ma_nd_of (ks := [0, 1, 2, 3, 4, 5, 6]) rfl (by decide)) (ma_nd_of (ks := [5, 2, 9, 8, 7, 0, 1, 3, 4, 6]) rfl (by decide)) (ma_le_cons rfl (ma_le_cons rfl (ma_le_cons rfl (ma_le_cons rfl (ma_le_cons rfl (ma_le_cons rfl (ma_le_cons rfl (ma_le_nil _)))))))) (h d w _ Q (by omega) (by omega) (zT_zst hS m9) rfl HQ)
            · intro hc
              rw [if_neg hc] at h
              refine zw_push hm_235 dX12_cleanRegions_288 (v := .inr (.inr (some 94))) rfl ?_
              refine zw_push hm_235 dX12_cleanRegions_289 (v := .inl ((mI S) 111 l5.toNatClampNeg)) rfl ?_
              refine zw_push hm_235 dX12_cleanRegions_291 (v := .inl v10) rfl ?_
              refine zw_push hm_235 dX12_cleanRegions_292 (v := .inr (.inr (some 94))) rfl ?_
              refine zw_gf hm_235 dX12_cleanRegions_293 (v := .inl (m9 94 18)) (zT_is (zT_zst hS m9) s_94) (zT_t (zT_zst hS m9) s_94) rfl f_12_222_12 rfl ?_
              refine zw_stk hm_235 dX12_cleanRegions_296 (st₉ := [.inl (v10 * (m9 94 18)), .inl ((mI S) 111 l5.toNatClampNeg), .inr (.inr (some 94))]) rfl rfl ?_
              refine zw_push hm_235 dX12_cleanRegions_297 (v := .inr (.inr (some 94))) rfl ?_
              refine zw_gf hm_235 dX12_cleanRegions_298 (v := .inr (.inr (some 116))) (zT_is (zT_zst hS m9) s_94) (zT_t (zT_zst hS m9) s_94) rfl f_12_80_12 (zT_f (zT_zst hS m9) r_94_65) ?_
              refine zw_push hm_235 dX12_cleanRegions_301 (v := .inl v10) rfl ?_
              obtain ⟨hg, h⟩ := h
              refine zw_ia hm_235 dX12_cleanRegions_302 (zT_is (zT_zst hS m9) s_116) (zT_h (zT_zst hS m9) s_116) rfl hg ?_
              show ma_wp X d w 235 303 [(2, .inl v10), (9, .inl v10), (8, .inl (l5 + (((mI S) 102 ((mI S) 111 l5.toNatClampNeg).toNatClampNeg) + (1 : Int32)))), (7, .inl ((mI S) 111 l5.toNatClampNeg)), (0, .inr (.inr (some 94))), (1, .inl l1), (3, .inl l3), (4, .inl l4), (5, .inl l5), (6, .inl l6)] [.inl (m9 116 v10.toNatClampNeg), .inl (v10 * (m9 94 18)), .inl ((mI S) 111 l5.toNatClampNeg), .inr (.inr (some 94))] (zst S m9) _
              refine zw_stk hm_235 dX12_cleanRegions_303 (st₉ := [.inl ((v10 * (m9 94 18)) + (m9 116 v10.toNatClampNeg)), .inl ((mI S) 111 l5.toNatClampNeg), .inr (.inr (some 94))]) rfl rfl ?_
              refine zw_cv hm_235 dX12_cleanRegions_304 v_12_352_12 hm_205 [.inl ((v10 * (m9 94 18)) + (m9 116 v10.toNatClampNeg)), .inl ((mI S) 111 l5.toNatClampNeg)] [] rfl (zT_rt (zT_zst hS m9) s_94 rfl) ⟨by omega, by omega⟩ rfl (h _ _ (zst S m9) _ (by omega) (by omega) (zT_zst hS m9) rfl (fun o9 m11 hv => ?_))
              obtain ⟨rfl, h⟩ := zmv_of hv
              show ma_wp X d w 235 307 [(2, .inl v10), (9, .inl v10), (8, .inl (l5 + (((mI S) 102 ((mI S) 111 l5.toNatClampNeg).toNatClampNeg) + (1 : Int32)))), (7, .inl ((mI S) 111 l5.toNatClampNeg)), (0, .inr (.inr (some 94))), (1, .inl l1), (3, .inl l3), (4, .inl l4), (5, .inl l5), (6, .inl l6)] [] (zst S m11) _
              refine zw_push hm_235 dX12_cleanRegions_307 (v := .inr (.inr (some 94))) rfl ?_
              refine zw_gf hm_235 dX12_cleanRegions_308 (v := .inr (.inr (some 116))) (zT_is (zT_zst hS m11) s_94) (zT_t (zT_zst hS m11) s_94) rfl f_12_80_12 (zT_f (zT_zst hS m11) r_94_65) ?_
              refine zw_push hm_235 dX12_cleanRegions_311 (v := .inl v10) rfl ?_
              refine zw_stk hm_235 dX12_cleanRegions_312 (st₉ := [.inl v10, .inr (.inr (some 116)), .inl v10, .inr (.inr (some 116))]) rfl rfl ?_
              obtain ⟨hg, h⟩ := h
              refine zw_ia hm_235 dX12_cleanRegions_313 (zT_is (zT_zst hS m11) s_116) (zT_h (zT_zst hS m11) s_116) rfl hg ?_
              show ma_wp X d w 235 314 [(2, .inl v10), (9, .inl v10), (8, .inl (l5 + (((mI S) 102 ((mI S) 111 l5.toNatClampNeg).toNatClampNeg) + (1 : Int32)))), (7, .inl ((mI S) 111 l5.toNatClampNeg)), (0, .inr (.inr (some 94))), (1, .inl l1), (3, .inl l3), (4, .inl l4), (5, .inl l5), (6, .inl l6)] [.inl (m11 116 v10.toNatClampNeg), .inl v10, .inr (.inr (some 116))] (zst S m11) _
              refine zw_push hm_235 dX12_cleanRegions_314 (v := .inr (.inr (some 94))) rfl ?_
              refine zw_push hm_235 dX12_cleanRegions_315 (v := .inl ((mI S) 111 l5.toNatClampNeg)) rfl ?_
              refine zw_cv hm_235 dX12_cleanRegions_317 v_12_327_12 hm_201 [.inl ((mI S) 111 l5.toNatClampNeg)] [.inl (m11 116 v10.toNatClampNeg), .inl v10, .inr (.inr (some 116))] rfl (zT_rt (zT_zst hS m11) s_94 rfl) ⟨by omega, by omega⟩ rfl ?_
              show ma_wp X (d - 1) (w - 21) 201 0 [(0, .inr (.inr (some 94))), (1, .inl ((mI S) 111 l5.toNatClampNeg))] [] (zst S m11) _
              refine zw_push hm_201 dX12_sizeOf_0 (v := .inr (.inr (some 94))) rfl ?_
              refine zw_gf hm_201 dX12_sizeOf_1 (v := .inr (.inr (some 102))) (zT_is (zT_zst hS m11) s_94) (zT_t (zT_zst hS m11) s_94) rfl f_12_37_12 (zT_f (zT_zst hS m11) r_94_34) ?_
              refine zw_push hm_201 dX12_sizeOf_4 (v := .inl ((mI S) 111 l5.toNatClampNeg)) rfl ?_
              obtain ⟨hg, h⟩ := h
              refine zw_ia hm_201 dX12_sizeOf_5 (zT_is (zT_zst hS m11) s_102) (zT_h (zT_zst hS m11) s_102) rfl hg ?_
              show ma_wp X (d - 1) (w - 21) 201 6 [(0, .inr (.inr (some 94))), (1, .inl ((mI S) 111 l5.toNatClampNeg))] [.inl (m11 102 ((mI S) 111 l5.toNatClampNeg).toNatClampNeg)] (zst S m11) _
              refine zw_push hm_201 dX12_sizeOf_6 (v := .inl (1 : Int32)) rfl ?_
              refine zw_stk hm_201 dX12_sizeOf_7 (st₉ := [.inl ((m11 102 ((mI S) 111 l5.toNatClampNeg).toNatClampNeg) + (1 : Int32))]) rfl rfl ?_
              refine zw_iret hm_201 dX12_sizeOf_8 ?_
              show ma_wp X d w 235 320 [(2, .inl v10), (9, .inl v10), (8, .inl (l5 + (((mI S) 102 ((mI S) 111 l5.toNatClampNeg).toNatClampNeg) + (1 : Int32)))), (7, .inl ((mI S) 111 l5.toNatClampNeg)), (0, .inr (.inr (some 94))), (1, .inl l1), (3, .inl l3), (4, .inl l4), (5, .inl l5), (6, .inl l6)] [.inl ((m11 102 ((mI S) 111 l5.toNatClampNeg).toNatClampNeg) + (1 : Int32)), .inl (m11 116 v10.toNatClampNeg), .inl v10, .inr (.inr (some 116))] (zst S m11) _
              refine zw_stk hm_235 dX12_cleanRegions_320 (st₉ := [.inl ((m11 116 v10.toNatClampNeg) + ((m11 102 ((mI S) 111 l5.toNatClampNeg).toNatClampNeg) + (1 : Int32))), .inl v10, .inr (.inr (some 116))]) rfl rfl ?_
              obtain ⟨hg, h⟩ := h
              refine zw_ias hm_235 dX12_cleanRegions_321 (zT_is (zT_zst hS m11) s_116) (zT_h (zT_zst hS m11) s_116) rfl hg ?_
              refine zw_push hm_235 dX12_cleanRegions_322 (v := .inl (l5 + (((mI S) 102 ((mI S) 111 l5.toNatClampNeg).toNatClampNeg) + (1 : Int32)))) rfl ?_
              refine zw_sto hm_235 dX12_cleanRegions_324 [(5, .inl (l5 + (((mI S) 102 ((mI S) 111 l5.toNatClampNeg).toNatClampNeg) + (1 : Int32)))), (2, .inl v10), (9, .inl v10), (8, .inl (l5 + (((mI S) 102 ((mI S) 111 l5.toNatClampNeg).toNatClampNeg) + (1 : Int32)))), (7, .inl ((mI S) 111 l5.toNatClampNeg)), (0, .inr (.inr (some 94))), (1, .inl l1), (3, .inl l3), (4, .inl l4), (6, .inl l6)] rfl rfl rfl ?_
              refine zw_goto hm_235 dX12_cleanRegions_326 (t := 199) rfl ?_
              exact zw_sub (ma_nd_of (ks := [0, 1, 2, 3, 4, 5, 6]) rfl (by decide)) (ma_nd_of (ks := [5, 2, 9, 8, 7, 0, 1, 3, 4, 6]) rfl (by decide)) (ma_le_cons rfl (ma_le_cons rfl (ma_le_cons rfl (ma_le_cons rfl (ma_le_cons rfl (ma_le_cons rfl (ma_le_cons rfl (ma_le_nil _)))))))) (h d w _ Q (by omega) (by omega) (zT_pi (zT_zst hS m11)) rfl HQ)
          · intro hc
            rw [if_neg hc] at h
            refine zw_push hm_235 dX12_cleanRegions_276 (v := .inl (0 : Int32)) rfl ?_
            refine zw_sto hm_235 dX12_cleanRegions_277 [(3, .inl (0 : Int32)), (9, .inl v10), (8, .inl (l5 + (((mI S) 102 ((mI S) 111 l5.toNatClampNeg).toNatClampNeg) + (1 : Int32)))), (7, .inl ((mI S) 111 l5.toNatClampNeg)), (0, .inr (.inr (some 94))), (1, .inl l1), (2, .inl l2), (4, .inl l4), (5, .inl l5), (6, .inl l6)] rfl rfl rfl ?_
            refine zw_goto hm_235 dX12_cleanRegions_278 (t := 284) rfl ?_
            refine zw_push hm_235 dX12_cleanRegions_284 (v := .inl (0 : Int32)) rfl ?_
            refine zw_if0 hm_235 dX12_cleanRegions_285 (t := 322) rfl zc0_eq (fun _ => ?_) (fun hc => absurd (by decide) hc)
            refine zw_push hm_235 dX12_cleanRegions_322 (v := .inl (l5 + (((mI S) 102 ((mI S) 111 l5.toNatClampNeg).toNatClampNeg) + (1 : Int32)))) rfl ?_
            refine zw_sto hm_235 dX12_cleanRegions_324 [(5, .inl (l5 + (((mI S) 102 ((mI S) 111 l5.toNatClampNeg).toNatClampNeg) + (1 : Int32)))), (3, .inl (0 : Int32)), (9, .inl v10), (8, .inl (l5 + (((mI S) 102 ((mI S) 111 l5.toNatClampNeg).toNatClampNeg) + (1 : Int32)))), (7, .inl ((mI S) 111 l5.toNatClampNeg)), (0, .inr (.inr (some 94))), (1, .inl l1), (2, .inl l2), (4, .inl l4), (6, .inl l6)] rfl rfl rfl ?_
            refine zw_goto hm_235 dX12_cleanRegions_326 (t := 199) rfl ?_
            exact zw_sub (ma_nd_of (ks := [0, 1, 2, 3, 4, 5, 6]) rfl (by decide)) (ma_nd_of (ks := [5, 3, 9, 8, 7, 0, 1, 2, 4, 6]) rfl (by decide)) (ma_le_cons rfl (ma_le_cons rfl (ma_le_cons rfl (ma_le_cons rfl (ma_le_cons rfl (ma_le_cons rfl (ma_le_cons rfl (ma_le_nil _)))))))) (h d w _ Q (by omega) (by omega) (zT_zst hS m9) rfl HQ)
        · intro hc
          rw [if_neg hc] at h
          refine zw_push hm_235 dX12_cleanRegions_245 (v := .inr (.inr (some 94))) rfl ?_
          refine zw_gf hm_235 dX12_cleanRegions_246 (v := .inr (.inr (some 116))) (zT_is hS s_94) (zT_t hS s_94) rfl f_12_80_12 (zT_f hS r_94_65) ?_
          refine zw_push hm_235 dX12_cleanRegions_249 (v := .inl l2) rfl ?_
          obtain ⟨hg, h⟩ := h
          refine zw_ia hm_235 dX12_cleanRegions_250 (zT_is hS s_116) (zT_h hS s_116) rfl hg ?_
          show ma_wp X d w 235 251 [(8, .inl (l5 + (((mI S) 102 ((mI S) 111 l5.toNatClampNeg).toNatClampNeg) + (1 : Int32)))), (7, .inl ((mI S) 111 l5.toNatClampNeg)), (0, .inr (.inr (some 94))), (1, .inl l1), (2, .inl l2), (3, .inl l3), (4, .inl l4), (5, .inl l5), (6, .inl l6)] [.inl ((mI S) 116 l2.toNatClampNeg)] S _
          refine zw_push hm_235 dX12_cleanRegions_251 (v := .inr (.inr (some 94))) rfl ?_
          refine zw_push hm_235 dX12_cleanRegions_252 (v := .inl ((mI S) 111 l5.toNatClampNeg)) rfl ?_
          refine zw_cv hm_235 dX12_cleanRegions_254 v_12_327_12 hm_201 [.inl ((mI S) 111 l5.toNatClampNeg)] [.inl ((mI S) 116 l2.toNatClampNeg)] rfl (zT_rt hS s_94 rfl) ⟨by omega, by omega⟩ rfl ?_
          show ma_wp X (d - 1) (w - 21) 201 0 [(0, .inr (.inr (some 94))), (1, .inl ((mI S) 111 l5.toNatClampNeg))] [] S _
          refine zw_push hm_201 dX12_sizeOf_0 (v := .inr (.inr (some 94))) rfl ?_
          refine zw_gf hm_201 dX12_sizeOf_1 (v := .inr (.inr (some 102))) (zT_is hS s_94) (zT_t hS s_94) rfl f_12_37_12 (zT_f hS r_94_34) ?_
          refine zw_push hm_201 dX12_sizeOf_4 (v := .inl ((mI S) 111 l5.toNatClampNeg)) rfl ?_
          obtain ⟨hg, h⟩ := h
          refine zw_ia hm_201 dX12_sizeOf_5 (zT_is hS s_102) (zT_h hS s_102) rfl hg ?_
          show ma_wp X (d - 1) (w - 21) 201 6 [(0, .inr (.inr (some 94))), (1, .inl ((mI S) 111 l5.toNatClampNeg))] [.inl ((mI S) 102 ((mI S) 111 l5.toNatClampNeg).toNatClampNeg)] S _
          refine zw_push hm_201 dX12_sizeOf_6 (v := .inl (1 : Int32)) rfl ?_
          refine zw_stk hm_201 dX12_sizeOf_7 (st₉ := [.inl (((mI S) 102 ((mI S) 111 l5.toNatClampNeg).toNatClampNeg) + (1 : Int32))]) rfl rfl ?_
          refine zw_iret hm_201 dX12_sizeOf_8 ?_
          show ma_wp X d w 235 257 [(8, .inl (l5 + (((mI S) 102 ((mI S) 111 l5.toNatClampNeg).toNatClampNeg) + (1 : Int32)))), (7, .inl ((mI S) 111 l5.toNatClampNeg)), (0, .inr (.inr (some 94))), (1, .inl l1), (2, .inl l2), (3, .inl l3), (4, .inl l4), (5, .inl l5), (6, .inl l6)] [.inl (((mI S) 102 ((mI S) 111 l5.toNatClampNeg).toNatClampNeg) + (1 : Int32)), .inl ((mI S) 116 l2.toNatClampNeg)] S _
          refine zw_stk hm_235 dX12_cleanRegions_257 (st₉ := [.inl (((mI S) 116 l2.toNatClampNeg) + (((mI S) 102 ((mI S) 111 l5.toNatClampNeg).toNatClampNeg) + (1 : Int32)))]) rfl rfl ?_
          refine zw_push hm_235 dX12_cleanRegions_258 (v := .inr (.inr (some 94))) rfl ?_
          refine zw_gf hm_235 dX12_cleanRegions_259 (v := .inl ((mI S) 94 18)) (zT_is hS s_94) (zT_t hS s_94) rfl f_12_222_12 rfl ?_
          refine zw_if2 hm_235 dX12_cleanRegions_262 (t := 284) rfl zc2_le ?_ ?_
          · intro hc
            rw [if_pos hc] at h
            refine zw_push hm_235 dX12_cleanRegions_284 (v := .inl l3) rfl ?_
            refine zw_if0 hm_235 dX12_cleanRegions_285 (t := 322) rfl zc0_eq ?_ ?_
            · intro hc
              rw [if_pos hc] at h
              refine zw_push hm_235 dX12_cleanRegions_322 (v := .inl (l5 + (((mI S) 102 ((mI S) 111 l5.toNatClampNeg).toNatClampNeg) + (1 : Int32)))) rfl ?_
              refine zw_sto hm_235 dX12_cleanRegions_324 [(5, .inl (l5 + (((mI S) 102 ((mI S) 111 l5.toNatClampNeg).toNatClampNeg) + (1 : Int32)))), (8, .inl (l5 + (((mI S) 102 ((mI S) 111 l5.toNatClampNeg).toNatClampNeg) + (1 : Int32)))), (7, .inl ((mI S) 111 l5.toNatClampNeg)), (0, .inr (.inr (some 94))), (1, .inl l1), (2, .inl l2), (3, .inl l3), (4, .inl l4), (6, .inl l6)] rfl rfl rfl ?_
              refine zw_goto hm_235 dX12_cleanRegions_326 (t := 199) rfl ?_
              exact zw_sub (ma_nd_of (ks := [0, 1, 2, 3, 4, 5, 6]) rfl (by decide)) (ma_nd_of (ks := [5, 8, 7, 0, 1, 2, 3, 4, 6]) rfl (by decide)) (ma_le_cons rfl (ma_le_cons rfl (ma_le_cons rfl (ma_le_cons rfl (ma_le_cons rfl (ma_le_cons rfl (ma_le_cons rfl (ma_le_nil _)))))))) (h d w _ Q (by omega) (by omega) hS rfl HQ)
            · intro hc
              rw [if_neg hc] at h
              refine zw_push hm_235 dX12_cleanRegions_288 (v := .inr (.inr (some 94))) rfl ?_
              refine zw_push hm_235 dX12_cleanRegions_289 (v := .inl ((mI S) 111 l5.toNatClampNeg)) rfl ?_
              refine zw_push hm_235 dX12_cleanRegions_291 (v := .inl l2) rfl ?_
              refine zw_push hm_235 dX12_cleanRegions_292 (v := .inr (.inr (some 94))) rfl ?_
              refine zw_gf hm_235 dX12_cleanRegions_293 (v := .inl ((mI S) 94 18)) (zT_is hS s_94) (zT_t hS s_94) rfl f_12_222_12 rfl ?_
              refine zw_stk hm_235 dX12_cleanRegions_296 (st₉ := [.inl (l2 * ((mI S) 94 18)), .inl ((mI S) 111 l5.toNatClampNeg), .inr (.inr (some 94))]) rfl rfl ?_
              refine zw_push hm_235 dX12_cleanRegions_297 (v := .inr (.inr (some 94))) rfl ?_
              refine zw_gf hm_235 dX12_cleanRegions_298 (v := .inr (.inr (some 116))) (zT_is hS s_94) (zT_t hS s_94) rfl f_12_80_12 (zT_f hS r_94_65) ?_
              refine zw_push hm_235 dX12_cleanRegions_301 (v := .inl l2) rfl ?_
              obtain ⟨hg, h⟩ := h
              refine zw_ia hm_235 dX12_cleanRegions_302 (zT_is hS s_116) (zT_h hS s_116) rfl hg ?_
              show ma_wp X d w 235 303 [(8, .inl (l5 + (((mI S) 102 ((mI S) 111 l5.toNatClampNeg).toNatClampNeg) + (1 : Int32)))), (7, .inl ((mI S) 111 l5.toNatClampNeg)), (0, .inr (.inr (some 94))), (1, .inl l1), (2, .inl l2), (3, .inl l3), (4, .inl l4), (5, .inl l5), (6, .inl l6)] [.inl ((mI S) 116 l2.toNatClampNeg), .inl (l2 * ((mI S) 94 18)), .inl ((mI S) 111 l5.toNatClampNeg), .inr (.inr (some 94))] S _
              refine zw_stk hm_235 dX12_cleanRegions_303 (st₉ := [.inl ((l2 * ((mI S) 94 18)) + ((mI S) 116 l2.toNatClampNeg)), .inl ((mI S) 111 l5.toNatClampNeg), .inr (.inr (some 94))]) rfl rfl ?_
              refine zw_cv hm_235 dX12_cleanRegions_304 v_12_352_12 hm_205 [.inl ((l2 * ((mI S) 94 18)) + ((mI S) 116 l2.toNatClampNeg)), .inl ((mI S) 111 l5.toNatClampNeg)] [] rfl (zT_rt hS s_94 rfl) ⟨by omega, by omega⟩ rfl (h _ _ S _ (by omega) (by omega) hS rfl (fun o9 m13 hv => ?_))
              obtain ⟨rfl, h⟩ := zmv_of hv
              show ma_wp X d w 235 307 [(8, .inl (l5 + (((mI S) 102 ((mI S) 111 l5.toNatClampNeg).toNatClampNeg) + (1 : Int32)))), (7, .inl ((mI S) 111 l5.toNatClampNeg)), (0, .inr (.inr (some 94))), (1, .inl l1), (2, .inl l2), (3, .inl l3), (4, .inl l4), (5, .inl l5), (6, .inl l6)] [] (zst S m13) _
              refine zw_push hm_235 dX12_cleanRegions_307 (v := .inr (.inr (some 94))) rfl ?_
              refine zw_gf hm_235 dX12_cleanRegions_308 (v := .inr (.inr (some 116))) (zT_is (zT_zst hS m13) s_94) (zT_t (zT_zst hS m13) s_94) rfl f_12_80_12 (zT_f (zT_zst hS m13) r_94_65) ?_
              refine zw_push hm_235 dX12_cleanRegions_311 (v := .inl l2) rfl ?_
              refine zw_stk hm_235 dX12_cleanRegions_312 (st₉ := [.inl l2, .inr (.inr (some 116)), .inl l2, .inr (.inr (some 116))]) rfl rfl ?_
              obtain ⟨hg, h⟩ := h
              refine zw_ia hm_235 dX12_cleanRegions_313 (zT_is (zT_zst hS m13) s_116) (zT_h (zT_zst hS m13) s_116) rfl hg ?_
              show ma_wp X d w 235 314 [(8, .inl (l5 + (((mI S) 102 ((mI S) 111 l5.toNatClampNeg).toNatClampNeg) + (1 : Int32)))), (7, .inl ((mI S) 111 l5.toNatClampNeg)), (0, .inr (.inr (some 94))), (1, .inl l1), (2, .inl l2), (3, .inl l3), (4, .inl l4), (5, .inl l5), (6, .inl l6)] [.inl (m13 116 l2.toNatClampNeg), .inl l2, .inr (.inr (some 116))] (zst S m13) _
              refine zw_push hm_235 dX12_cleanRegions_314 (v := .inr (.inr (some 94))) rfl ?_
              refine zw_push hm_235 dX12_cleanRegions_315 (v := .inl ((mI S) 111 l5.toNatClampNeg)) rfl ?_
              refine zw_cv hm_235 dX12_cleanRegions_317 v_12_327_12 hm_201 [.inl ((mI S) 111 l5.toNatClampNeg)] [.inl (m13 116 l2.toNatClampNeg), .inl l2, .inr (.inr (some 116))] rfl (zT_rt (zT_zst hS m13) s_94 rfl) ⟨by omega, by omega⟩ rfl ?_
              show ma_wp X (d - 1) (w - 21) 201 0 [(0, .inr (.inr (some 94))), (1, .inl ((mI S) 111 l5.toNatClampNeg))] [] (zst S m13) _
              refine zw_push hm_201 dX12_sizeOf_0 (v := .inr (.inr (some 94))) rfl ?_
              refine zw_gf hm_201 dX12_sizeOf_1 (v := .inr (.inr (some 102))) (zT_is (zT_zst hS m13) s_94) (zT_t (zT_zst hS m13) s_94) rfl f_12_37_12 (zT_f (zT_zst hS m13) r_94_34) ?_
              refine zw_push hm_201 dX12_sizeOf_4 (v := .inl ((mI S) 111 l5.toNatClampNeg)) rfl ?_
              obtain ⟨hg, h⟩ := h
              refine zw_ia hm_201 dX12_sizeOf_5 (zT_is (zT_zst hS m13) s_102) (zT_h (zT_zst hS m13) s_102) rfl hg ?_
              show ma_wp X (d - 1) (w - 21) 201 6 [(0, .inr (.inr (some 94))), (1, .inl ((mI S) 111 l5.toNatClampNeg))] [.inl (m13 102 ((mI S) 111 l5.toNatClampNeg).toNatClampNeg)] (zst S m13) _
              refine zw_push hm_201 dX12_sizeOf_6 (v := .inl (1 : Int32)) rfl ?_
              refine zw_stk hm_201 dX12_sizeOf_7 (st₉ := [.inl ((m13 102 ((mI S) 111 l5.toNatClampNeg).toNatClampNeg) + (1 : Int32))]) rfl rfl ?_
              refine zw_iret hm_201 dX12_sizeOf_8 ?_
              show ma_wp X d w 235 320 [(8, .inl (l5 + (((mI S) 102 ((mI S) 111 l5.toNatClampNeg).toNatClampNeg) + (1 : Int32)))), (7, .inl ((mI S) 111 l5.toNatClampNeg)), (0, .inr (.inr (some 94))), (1, .inl l1), (2, .inl l2), (3, .inl l3), (4, .inl l4), (5, .inl l5), (6, .inl l6)] [.inl ((m13 102 ((mI S) 111 l5.toNatClampNeg).toNatClampNeg) + (1 : Int32)), .inl (m13 116 l2.toNatClampNeg), .inl l2, .inr (.inr (some 116))] (zst S m13) _
              refine zw_stk hm_235 dX12_cleanRegions_320 (st₉ := [.inl ((m13 116 l2.toNatClampNeg) + ((m13 102 ((mI S) 111 l5.toNatClampNeg).toNatClampNeg) + (1 : Int32))), .inl l2, .inr (.inr (some 116))]) rfl rfl ?_
              obtain ⟨hg, h⟩ := h
              refine zw_ias hm_235 dX12_cleanRegions_321 (zT_is (zT_zst hS m13) s_116) (zT_h (zT_zst hS m13) s_116) rfl hg ?_
              refine zw_push hm_235 dX12_cleanRegions_322 (v := .inl (l5 + (((mI S) 102 ((mI S) 111 l5.toNatClampNeg).toNatClampNeg) + (1 : Int32)))) rfl ?_
              refine zw_sto hm_235 dX12_cleanRegions_324 [(5, .inl (l5 + (((mI S) 102 ((mI S) 111 l5.toNatClampNeg).toNatClampNeg) + (1 : Int32)))), (8, .inl (l5 + (((mI S) 102 ((mI S) 111 l5.toNatClampNeg).toNatClampNeg) + (1 : Int32)))), (7, .inl ((mI S) 111 l5.toNatClampNeg)), (0, .inr (.inr (some 94))), (1, .inl l1), (2, .inl l2), (3, .inl l3), (4, .inl l4), (6, .inl l6)] rfl rfl rfl ?_
              refine zw_goto hm_235 dX12_cleanRegions_326 (t := 199) rfl ?_
              exact zw_sub (ma_nd_of (ks := [0, 1, 2, 3, 4, 5, 6]) rfl (by decide)) (ma_nd_of (ks := [5, 8, 7, 0, 1, 2, 3, 4, 6]) rfl (by decide)) (ma_le_cons rfl (ma_le_cons rfl (ma_le_cons rfl (ma_le_cons rfl (ma_le_cons rfl (ma_le_cons rfl (ma_le_cons rfl (ma_le_nil _)))))))) (h d w _ Q (by omega) (by omega) (zT_pi (zT_zst hS m13)) rfl HQ)
          · intro hc
            rw [if_neg hc] at h
            refine zw_push hm_235 dX12_cleanRegions_265 (v := .inr (.inr (some 94))) rfl ?_
            refine zw_cv hm_235 dX12_cleanRegions_266 v_12_417_12 hm_234 [] [] rfl (zT_rt hS s_94 rfl) ⟨by omega, by omega⟩ rfl (h _ _ S _ (by omega) (by omega) hS rfl (fun o9 m15 hv => ?_))
            obtain ⟨v16, rfl, h⟩ := zmi_of hv
            show ma_wp X d w 235 269 [(8, .inl (l5 + (((mI S) 102 ((mI S) 111 l5.toNatClampNeg).toNatClampNeg) + (1 : Int32)))), (7, .inl ((mI S) 111 l5.toNatClampNeg)), (0, .inr (.inr (some 94))), (1, .inl l1), (2, .inl l2), (3, .inl l3), (4, .inl l4), (5, .inl l5), (6, .inl l6)] [.inl v16] (zst S m15) _
            refine zw_sto hm_235 dX12_cleanRegions_269 [(9, .inl v16), (8, .inl (l5 + (((mI S) 102 ((mI S) 111 l5.toNatClampNeg).toNatClampNeg) + (1 : Int32)))), (7, .inl ((mI S) 111 l5.toNatClampNeg)), (0, .inr (.inr (some 94))), (1, .inl l1), (2, .inl l2), (3, .inl l3), (4, .inl l4), (5, .inl l5), (6, .inl l6)] rfl rfl rfl ?_
            refine zw_push hm_235 dX12_cleanRegions_271 (v := .inl v16) rfl ?_
            refine zw_if0 hm_235 dX12_cleanRegions_273 (t := 281) rfl zc0_ge ?_ ?_
            · intro hc
              rw [if_pos hc] at h
              refine zw_push hm_235 dX12_cleanRegions_281 (v := .inl v16) rfl ?_
              refine zw_sto hm_235 dX12_cleanRegions_283 [(2, .inl v16), (9, .inl v16), (8, .inl (l5 + (((mI S) 102 ((mI S) 111 l5.toNatClampNeg).toNatClampNeg) + (1 : Int32)))), (7, .inl ((mI S) 111 l5.toNatClampNeg)), (0, .inr (.inr (some 94))), (1, .inl l1), (3, .inl l3), (4, .inl l4), (5, .inl l5), (6, .inl l6)] rfl rfl rfl ?_
              refine zw_push hm_235 dX12_cleanRegions_284 (v := .inl l3) rfl ?_
              refine zw_if0 hm_235 dX12_cleanRegions_285 (t := 322) rfl zc0_eq ?_ ?_
              · intro hc
                rw [if_pos hc] at h
                refine zw_push hm_235 dX12_cleanRegions_322 (v := .inl (l5 + (((mI S) 102 ((mI S) 111 l5.toNatClampNeg).toNatClampNeg) + (1 : Int32)))) rfl ?_
                refine zw_sto hm_235 dX12_cleanRegions_324 [(5, .inl (l5 + (((mI S) 102 ((mI S) 111 l5.toNatClampNeg).toNatClampNeg) + (1 : Int32)))), (2, .inl v16), (9, .inl v16), (8, .inl (l5 + (((mI S) 102 ((mI S) 111 l5.toNatClampNeg).toNatClampNeg) + (1 : Int32)))), (7, .inl ((mI S) 111 l5.toNatClampNeg)), (0, .inr (.inr (some 94))), (1, .inl l1), (3, .inl l3), (4, .inl l4), (6, .inl l6)] rfl rfl rfl ?_
                refine zw_goto hm_235 dX12_cleanRegions_326 (t := 199) rfl ?_
                exact zw_sub (ma_nd_of (ks := [0, 1, 2, 3, 4, 5, 6]) rfl (by decide)) (ma_nd_of (ks := [5, 2, 9, 8, 7, 0, 1, 3, 4, 6]) rfl (by decide)) (ma_le_cons rfl (ma_le_cons rfl (ma_le_cons rfl (ma_le_cons rfl (ma_le_cons rfl (ma_le_cons rfl (ma_le_cons rfl (ma_le_nil _)))))))) (h d w _ Q (by omega) (by omega) (zT_zst hS m15) rfl HQ)
              · intro hc
                rw [if_neg hc] at h
                refine zw_push hm_235 dX12_cleanRegions_288 (v := .inr (.inr (some 94))) rfl ?_
                refine zw_push hm_235 dX12_cleanRegions_289 (v := .inl ((mI S) 111 l5.toNatClampNeg)) rfl ?_
                refine zw_push hm_235 dX12_cleanRegions_291 (v := .inl v16) rfl ?_
                refine zw_push hm_235 dX12_cleanRegions_292 (v := .inr (.inr (some 94))) rfl ?_
                refine zw_gf hm_235 dX12_cleanRegions_293 (v := .inl (m15 94 18)) (zT_is (zT_zst hS m15) s_94) (zT_t (zT_zst hS m15) s_94) rfl f_12_222_12 rfl ?_
                refine zw_stk hm_235 dX12_cleanRegions_296 (st₉ := [.inl (v16 * (m15 94 18)), .inl ((mI S) 111 l5.toNatClampNeg), .inr (.inr (some 94))]) rfl rfl ?_
                refine zw_push hm_235 dX12_cleanRegions_297 (v := .inr (.inr (some 94))) rfl ?_
                refine zw_gf hm_235 dX12_cleanRegions_298 (v := .inr (.inr (some 116))) (zT_is (zT_zst hS m15) s_94) (zT_t (zT_zst hS m15) s_94) rfl f_12_80_12 (zT_f (zT_zst hS m15) r_94_65) ?_
                refine zw_push hm_235 dX12_cleanRegions_301 (v := .inl v16) rfl ?_
                obtain ⟨hg, h⟩ := h
                refine zw_ia hm_235 dX12_cleanRegions_302 (zT_is (zT_zst hS m15) s_116) (zT_h (zT_zst hS m15) s_116) rfl hg ?_
                show ma_wp X d w 235 303 [(2, .inl v16), (9, .inl v16), (8, .inl (l5 + (((mI S) 102 ((mI S) 111 l5.toNatClampNeg).toNatClampNeg) + (1 : Int32)))), (7, .inl ((mI S) 111 l5.toNatClampNeg)), (0, .inr (.inr (some 94))), (1, .inl l1), (3, .inl l3), (4, .inl l4), (5, .inl l5), (6, .inl l6)] [.inl (m15 116 v16.toNatClampNeg), .inl (v16 * (m15 94 18)), .inl ((mI S) 111 l5.toNatClampNeg), .inr (.inr (some 94))] (zst S m15) _
                refine zw_stk hm_235 dX12_cleanRegions_303 (st₉ := [.inl ((v16 * (m15 94 18)) + (m15 116 v16.toNatClampNeg)), .inl ((mI S) 111 l5.toNatClampNeg), .inr (.inr (some 94))]) rfl rfl ?_
                refine zw_cv hm_235 dX12_cleanRegions_304 v_12_352_12 hm_205 [.inl ((v16 * (m15 94 18)) + (m15 116 v16.toNatClampNeg)), .inl ((mI S) 111 l5.toNatClampNeg)] [] rfl (zT_rt (zT_zst hS m15) s_94 rfl) ⟨by omega, by omega⟩ rfl (h _ _ (zst S m15) _ (by omega) (by omega) (zT_zst hS m15) rfl (fun o9 m17 hv => ?_))
                obtain ⟨rfl, h⟩ := zmv_of hv
                show ma_wp X d w 235 307 [(2, .inl v16), (9, .inl v16), (8, .inl (l5 + (((mI S) 102 ((mI S) 111 l5.toNatClampNeg).toNatClampNeg) + (1 : Int32)))), (7, .inl ((mI S) 111 l5.toNatClampNeg)), (0, .inr (.inr (some 94))), (1, .inl l1), (3, .inl l3), (4, .inl l4), (5, .inl l5), (6, .inl l6)] [] (zst S m17) _
                refine zw_push hm_235 dX12_cleanRegions_307 (v := .inr (.inr (some 94))) rfl ?_
                refine zw_gf hm_235 dX12_cleanRegions_308 (v := .inr (.inr (some 116))) (zT_is (zT_zst hS m17) s_94) (zT_t (zT_zst hS m17) s_94) rfl f_12_80_12 (zT_f (zT_zst hS m17) r_94_65) ?_
                refine zw_push hm_235 dX12_cleanRegions_311 (v := .inl v16) rfl ?_
                refine zw_stk hm_235 dX12_cleanRegions_312 (st₉ := [.inl v16, .inr (.inr (some 116)), .inl v16, .inr (.inr (some 116))]) rfl rfl ?_
                obtain ⟨hg, h⟩ := h
                refine zw_ia hm_235 dX12_cleanRegions_313 (zT_is (zT_zst hS m17) s_116) (zT_h (zT_zst hS m17) s_116) rfl hg ?_
                show ma_wp X d w 235 314 [(2, .inl v16), (9, .inl v16), (8, .inl (l5 + (((mI S) 102 ((mI S) 111 l5.toNatClampNeg).toNatClampNeg) + (1 : Int32)))), (7, .inl ((mI S) 111 l5.toNatClampNeg)), (0, .inr (.inr (some 94))), (1, .inl l1), (3, .inl l3), (4, .inl l4), (5, .inl l5), (6, .inl l6)] [.inl (m17 116 v16.toNatClampNeg), .inl v16, .inr (.inr (some 116))] (zst S m17) _
                refine zw_push hm_235 dX12_cleanRegions_314 (v := .inr (.inr (some 94))) rfl ?_
                refine zw_push hm_235 dX12_cleanRegions_315 (v := .inl ((mI S) 111 l5.toNatClampNeg)) rfl ?_
                refine zw_cv hm_235 dX12_cleanRegions_317 v_12_327_12 hm_201 [.inl ((mI S) 111 l5.toNatClampNeg)] [.inl (m17 116 v16.toNatClampNeg), .inl v16, .inr (.inr (some 116))] rfl (zT_rt (zT_zst hS m17) s_94 rfl) ⟨by omega, by omega⟩ rfl ?_
                show ma_wp X (d - 1) (w - 21) 201 0 [(0, .inr (.inr (some 94))), (1, .inl ((mI S) 111 l5.toNatClampNeg))] [] (zst S m17) _
                refine zw_push hm_201 dX12_sizeOf_0 (v := .inr (.inr (some 94))) rfl ?_
                refine zw_gf hm_201 dX12_sizeOf_1 (v := .inr (.inr (some 102))) (zT_is (zT_zst hS m17) s_94) (zT_t (zT_zst hS m17) s_94) rfl f_12_37_12 (zT_f (zT_zst hS m17) r_94_34) ?_
                refine zw_push hm_201 dX12_sizeOf_4 (v := .inl ((mI S) 111 l5.toNatClampNeg)) rfl ?_
                obtain ⟨hg, h⟩ := h
                refine zw_ia hm_201 dX12_sizeOf_5 (zT_is (zT_zst hS m17) s_102) (zT_h (zT_zst hS m17) s_102) rfl hg ?_
                show ma_wp X (d - 1) (w - 21) 201 6 [(0, .inr (.inr (some 94))), (1, .inl ((mI S) 111 l5.toNatClampNeg))] [.inl (m17 102 ((mI S) 111 l5.toNatClampNeg).toNatClampNeg)] (zst S m17) _
                refine zw_push hm_201 dX12_sizeOf_6 (v := .inl (1 : Int32)) rfl ?_
                refine zw_stk hm_201 dX12_sizeOf_7 (st₉ := [.inl ((m17 102 ((mI S) 111 l5.toNatClampNeg).toNatClampNeg) + (1 : Int32))]) rfl rfl ?_
                refine zw_iret hm_201 dX12_sizeOf_8 ?_
                show ma_wp X d w 235 320 [(2, .inl v16), (9, .inl v16), (8, .inl (l5 + (((mI S) 102 ((mI S) 111 l5.toNatClampNeg).toNatClampNeg) + (1 : Int32)))), (7, .inl ((mI S) 111 l5.toNatClampNeg)), (0, .inr (.inr (some 94))), (1, .inl l1), (3, .inl l3), (4, .inl l4), (5, .inl l5), (6, .inl l6)] [.inl ((m17 102 ((mI S) 111 l5.toNatClampNeg).toNatClampNeg) + (1 : Int32)), .inl (m17 116 v16.toNatClampNeg), .inl v16, .inr (.inr (some 116))] (zst S m17) _
                refine zw_stk hm_235 dX12_cleanRegions_320 (st₉ := [.inl ((m17 116 v16.toNatClampNeg) + ((m17 102 ((mI S) 111 l5.toNatClampNeg).toNatClampNeg) + (1 : Int32))), .inl v16, .inr (.inr (some 116))]) rfl rfl ?_
                obtain ⟨hg, h⟩ := h
                refine zw_ias hm_235 dX12_cleanRegions_321 (zT_is (zT_zst hS m17) s_116) (zT_h (zT_zst hS m17) s_116) rfl hg ?_
                refine zw_push hm_235 dX12_cleanRegions_322 (v := .inl (l5 + (((mI S) 102 ((mI S) 111 l5.toNatClampNeg).toNatClampNeg) + (1 : Int32)))) rfl ?_
                refine zw_sto hm_235 dX12_cleanRegions_324 [(5, .inl (l5 + (((mI S) 102 ((mI S) 111 l5.toNatClampNeg).toNatClampNeg) + (1 : Int32)))), (2, .inl v16), (9, .inl v16), (8, .inl (l5 + (((mI S) 102 ((mI S) 111 l5.toNatClampNeg).toNatClampNeg) + (1 : Int32)))), (7, .inl ((mI S) 111 l5.toNatClampNeg)), (0, .inr (.inr (some 94))), (1, .inl l1), (3, .inl l3), (4, .inl l4), (6, .inl l6)] rfl rfl rfl ?_
                refine zw_goto hm_235 dX12_cleanRegions_326 (t := 199) rfl ?_
                exact zw_sub (ma_nd_of (ks := [0, 1, 2, 3, 4, 5, 6]) rfl (by decide)) (ma_nd_of (ks := [5, 2, 9, 8, 7, 0, 1, 3, 4, 6]) rfl (by decide)) (ma_le_cons rfl (ma_le_cons rfl (ma_le_cons rfl (ma_le_cons rfl (ma_le_cons rfl (ma_le_cons rfl (ma_le_cons rfl (ma_le_nil _)))))))) (h d w _ Q (by omega) (by omega) (zT_pi (zT_zst hS m17)) rfl HQ)
            · intro hc
              rw [if_neg hc] at h
              refine zw_push hm_235 dX12_cleanRegions_276 (v := .inl (0 : Int32)) rfl ?_
              refine zw_sto hm_235 dX12_cleanRegions_277 [(3, .inl (0 : Int32)), (9, .inl v16), (8, .inl (l5 + (((mI S) 102 ((mI S) 111 l5.toNatClampNeg).toNatClampNeg) + (1 : Int32)))), (7, .inl ((mI S) 111 l5.toNatClampNeg)), (0, .inr (.inr (some 94))), (1, .inl l1), (2, .inl l2), (4, .inl l4), (5, .inl l5), (6, .inl l6)] rfl rfl rfl ?_
              refine zw_goto hm_235 dX12_cleanRegions_278 (t := 284) rfl ?_
              refine zw_push hm_235 dX12_cleanRegions_284 (v := .inl (0 : Int32)) rfl ?_
              refine zw_if0 hm_235 dX12_cleanRegions_285 (t := 322) rfl zc0_eq (fun _ => ?_) (fun hc => absurd (by decide) hc)
              refine zw_push hm_235 dX12_cleanRegions_322 (v := .inl (l5 + (((mI S) 102 ((mI S) 111 l5.toNatClampNeg).toNatClampNeg) + (1 : Int32)))) rfl ?_
              refine zw_sto hm_235 dX12_cleanRegions_324 [(5, .inl (l5 + (((mI S) 102 ((mI S) 111 l5.toNatClampNeg).toNatClampNeg) + (1 : Int32)))), (3, .inl (0 : Int32)), (9, .inl v16), (8, .inl (l5 + (((mI S) 102 ((mI S) 111 l5.toNatClampNeg).toNatClampNeg) + (1 : Int32)))), (7, .inl ((mI S) 111 l5.toNatClampNeg)), (0, .inr (.inr (some 94))), (1, .inl l1), (2, .inl l2), (4, .inl l4), (6, .inl l6)] rfl rfl rfl ?_
              refine zw_goto hm_235 dX12_cleanRegions_326 (t := 199) rfl ?_
              exact zw_sub (ma_nd_of (ks := [0, 1, 2, 3, 4, 5, 6]) rfl (by decide)) (ma_nd_of (ks := [5, 3, 9, 8, 7, 0, 1, 2, 4, 6]) rfl (by decide)) (ma_le_cons rfl (ma_le_cons rfl (ma_le_cons rfl (ma_le_cons rfl (ma_le_cons rfl (ma_le_cons rfl (ma_le_cons rfl (ma_le_nil _)))))))) (h d w _ Q (by omega) (by omega) (zT_zst hS m15) rfl HQ)
      · intro hc
        rw [if_neg hc] at h
        refine zw_sto hm_235 dX12_cleanRegions_224 [(5, .inl (l5 + (1 : Int32))), (7, .inl ((mI S) 111 l5.toNatClampNeg)), (0, .inr (.inr (some 94))), (1, .inl l1), (2, .inl l2), (3, .inl l3), (4, .inl l4), (6, .inl l6)] rfl rfl rfl ?_
        refine zw_goto hm_235 dX12_cleanRegions_227 (t := 199) rfl ?_
        exact zw_sub (ma_nd_of (ks := [0, 1, 2, 3, 4, 5, 6]) rfl (by decide)) (ma_nd_of (ks := [5, 7, 0, 1, 2, 3, 4, 6]) rfl (by decide)) (ma_le_cons rfl (ma_le_cons rfl (ma_le_cons rfl (ma_le_cons rfl (ma_le_cons rfl (ma_le_cons rfl (ma_le_cons rfl (ma_le_nil _)))))))) (h d w _ Q (by omega) (by omega) hS rfl HQ)
set_option maxHeartbeats 8000000 in
theorem lp_235_199 {X : Nat × (Nat → Int32)} {P : Option ma_V → (Nat → Nat → Int32) → Prop} {T : Nat} {m0 : Nat → Nat → Int32} (h0 : zV m0) (K : ∀ v m₉, zF wr_235 m0 m₉ → zV m₉ → (zGW T (m₉ 94 55) (m₉ 109)) → (zGU T (m₉ 94 46) (m₉ 99)) → (zOw (m₉ 99) (m₉ 103) (m₉ 111)) → (zDX (m₉ 94 10) (m₉ 99) (m₉ 112) (m₉ 113) (m₉ 114) (m₉ 94 55) (m₉ 98) (m₉ 101) (m₉ 102) (m₉ 108)) → (zRG1 (m₉ 94 18) (m₉ 94 64) (m₉ 94 63) (m₉ 99) (m₉ 103) (m₉ 102) (m₉ 116)) → P (some (.inl v)) m₉) {n161 : Nat} (OUT161 : ∀ (m₉ : Nat → Nat → Int32) (l1 : Int32) (l2 : Int32) (l3 : Int32) (l4 : Int32), (((128 - cnt (m₉ 124) 128 : Nat) : Int)).toNat < n161 → zF wr_235 m0 m₉ → zV m₉ → (0 ≤ l3.toInt) → (l3.toInt ≤ 1) → (-1 ≤ l2.toInt ∧ l2.toInt < (m₉ 94 64).toInt) → (l4.toInt = -1 ∨ (0 ≤ l4.toInt ∧ l4.toInt < (m₉ 94 64).toInt ∧ (m₉ 124) l4.toNatClampNeg = 0)) → (zW (m₉ 94 7) (m₉ 98) (m₉ 101) (m₉ 102) (m₉ 108)) → (zGW T (m₉ 94 55) (m₉ 109)) → (zGU T (m₉ 94 46) (m₉ 99)) → (zOw (m₉ 99) (m₉ 103) (m₉ 111)) → (zDX (m₉ 94 10) (m₉ 99) (m₉ 112) (m₉ 113) (m₉ 114) (m₉ 94 55) (m₉ 98) (m₉ 101) (m₉ 102) (m₉ 108)) → (zRG1 (m₉ 94 18) (m₉ 94 64) (m₉ 94 63) (m₉ 99) (m₉ 103) (m₉ 102) (m₉ 116)) → ((m₉ 94 10).toInt = 6) → zm X 5 108 235 161 [(0, .inr (.inr (some 94))), (1, .inl l1), (2, .inl l2), (3, .inl l3), (4, .inl l4)] m₉ P) : ∀ (n : Nat) (m : Nat → Nat → Int32) (l1 : Int32) (l2 : Int32) (l3 : Int32) (l4 : Int32) (l5 : Int32) (l6 : Int32), (l6.toInt - l5.toInt).toNat = n → zF wr_235 m0 m → zV m → (0 ≤ l3.toInt) → (l3.toInt ≤ 1) → (-1 ≤ l2.toInt ∧ l2.toInt < (m 94 64).toInt) → (0 ≤ l4.toInt) → (l4.toInt < (m 94 64).toInt) → (0 ≤ l5.toInt) → (l6.toInt ≤ 1500) → (l5.toInt ≤ 1600) → (128 - cnt (m 124) 128 < n161) → (zW (m 94 7) (m 98) (m 101) (m 102) (m 108)) → (zGW T (m 94 55) (m 109)) → (zGU T (m 94 46) (m 99)) → (zOw (m 99) (m 103) (m 111)) → (zDX (m 94 10) (m 99) (m 112) (m 113) (m 114) (m 94 55) (m 98) (m 101) (m 102) (m 108)) → (zRG1 (m 94 18) (m 94 64) (m 94 63) (m 99) (m 103) (m 102) (m 116)) → ((m 94 10).toInt = 6) → zm X 5 108 235 199 [(0, .inr (.inr (some 94))), (1, .inl l1), (2, .inl l2), (3, .inl l3), (4, .inl l4), (5, .inl l5), (6, .inl l6)] m P := by
  intro n
  induction n using Nat.strongRecOn with
  | _ n IH =>
    intro m l1 l2 l3 l4 l5 l6 hmu hF hV hi0 hi1 hi2 hi3 hi4 hi5 hi6 hi7 r_MD r_W r_GW r_GU r_OW r_DX r_RG hi15
    refine g_235_199 l1 l2 l3 l4 l5 l6 ?_
    have f1 : 0 ≤ (m 94 64).toInt ∧ (m 94 64).toInt ≤ 93 := rs_94_64 (m := m) hV
    have f2 : 0 ≤ (m 94 10).toInt ∧ (m 94 10).toInt ≤ 6 := rs_94_10 (m := m) hV
    have b3 := i_bd l6
    have b4 := i_bd l5
    refine zd (fun (h5 : l6 ≤ l5) => ?_) (fun (h5 : ¬ l6 ≤ l5) => ?_)
    · skip
      have g6 := i_le h5
      have b7 := i_bd l3
      have li8 : (0 : Int32).toInt = 0 := rfl
      refine zd (fun (h9 : l3 = (0 : Int32)) => ?_) (fun (h9 : ¬ l3 = (0 : Int32)) => ?_)
      · skip
        have g10 := i_eq h9
        refine sp_236  hV  (fun v2 m1 hV_m1 p0_m1 => zmi_n ?_)
        have p0_m1 : v2.toInt = -1 ∨ (0 ≤ v2.toInt ∧ v2.toInt < (m 94 64).toInt ∧ (m 124) v2.toNatClampNeg = 0) := p0_m1
        try have rpr := r_RG.2.2.2.1
        try have rsi := r_RG.1
        try have rrg := r_RG.2.1
        try have rml := RG_ml (r := l4) r_RG (by have := rs_94_18 hV; omega) (by have := rs_94_64 hV; omega)
        try have rml2 := RG_ml (r := l2) r_RG (by have := rs_94_18 hV; omega) (by have := rs_94_64 hV; omega)
        have b11 := i_bd l1
        have b12 := i_bd l2
        have b13 := i_bd v2
        exact OUT161 _ (l1) (l2) (l3) (v2) (show (((128 - cnt (m 124) 128 : Nat) : Int)).toNat < n161 from by omega) (zF_zov hF ws_236_235) hV_m1 (by omega) (by omega) (show -1 ≤ l2.toInt ∧ l2.toInt < (m 94 64).toInt from by omega) p0_m1 r_W r_GW r_GU r_OW r_DX r_RG (show (m 94 10).toInt = 6 from by omega)
      · skip
        have g14 := i_ne h9
        have b15 := i_bd l4
        try have rpr := r_RG.2.2.2.1
        try have rsi := r_RG.1
        try have rrg := r_RG.2.1
        try have rml := RG_ml (r := l4) r_RG (by have := rs_94_18 hV; omega) (by have := rs_94_64 hV; omega)
        try have rml2 := RG_ml (r := l2) r_RG (by have := rs_94_18 hV; omega) (by have := rs_94_64 hV; omega)
        have hg16 : (0 ≤ l4 ∧ l4.toNatClampNeg < 128) := i_ix (by omega) (by omega)
        refine ⟨hg16, ?_⟩
        have hV17 : zV (ma_u m 116 l4.toNatClampNeg (0 : Int32)) := ua_116 hV (by omega) (by omega)
        refine sp_236  hV17  (fun v4 m3 hV_m3 p0_m3 => zmi_n ?_)
        have p0_m3 : v4.toInt = -1 ∨ (0 ≤ v4.toInt ∧ v4.toInt < (m 94 64).toInt ∧ (m 124) v4.toNatClampNeg = 0) := p0_m3
        try have rpr := r_RG.2.2.2.1
        try have rsi := r_RG.1
        try have rrg := r_RG.2.1
        try have rml := RG_ml (r := l4) r_RG (by have := rs_94_18 hV; omega) (by have := rs_94_64 hV; omega)
        try have rml2 := RG_ml (r := l2) r_RG (by have := rs_94_18 hV; omega) (by have := rs_94_64 hV; omega)
        have b18 := i_bd l1
        have b19 := i_bd l2
        have b20 := i_bd v4
        exact OUT161 _ (l1) (l2) (l3) (v4) (show (((128 - cnt (m 124) 128 : Nat) : Int)).toNat < n161 from by omega) (zF_zov (zF_u hF rfl) ws_236_235) hV_m3 (by omega) (by omega) (show -1 ≤ l2.toInt ∧ l2.toInt < (m 94 64).toInt from by omega) p0_m3 r_W r_GW r_GU r_OW r_DX (show zRG1 (m 94 18) (m 94 64) (m 94 63) (m 99) (m 103) (m 102) ((ma_u m 116 l4.toNatClampNeg (0 : Int32)) 116) from by first | (exact RG_put r_RG (by omega)) | (exfalso; omega; done) | (exfalso; contradiction; done)) (show (m 94 10).toInt = 6 from by omega)
    · skip
      have g21 := i_nle h5
      have b22 := i_bd l3
      have li23 : (0 : Int32).toInt = 0 := rfl
      refine zd (fun (h24 : l3 = (0 : Int32)) => ?_) (fun (h24 : ¬ l3 = (0 : Int32)) => ?_)
      · skip
        have g25 := i_eq h24
        refine zd (fun (h26 : l3 = (0 : Int32)) => ?_) (fun (h26 : ¬ l3 = (0 : Int32)) => ?_)
        · skip
          have g27 := i_eq h26
          refine sp_236  hV  (fun v6 m5 hV_m5 p0_m5 => zmi_n ?_)
          have p0_m5 : v6.toInt = -1 ∨ (0 ≤ v6.toInt ∧ v6.toInt < (m 94 64).toInt ∧ (m 124) v6.toNatClampNeg = 0) := p0_m5
          try have rpr := r_RG.2.2.2.1
          try have rsi := r_RG.1
          try have rrg := r_RG.2.1
          try have rml := RG_ml (r := l4) r_RG (by have := rs_94_18 hV; omega) (by have := rs_94_64 hV; omega)
          try have rml2 := RG_ml (r := l2) r_RG (by have := rs_94_18 hV; omega) (by have := rs_94_64 hV; omega)
          have b28 := i_bd l1
          have b29 := i_bd l2
          have b30 := i_bd v6
          exact OUT161 _ (l1) (l2) (l3) (v6) (show (((128 - cnt (m 124) 128 : Nat) : Int)).toNat < n161 from by omega) (zF_zov hF ws_236_235) hV_m5 (by omega) (by omega) (show -1 ≤ l2.toInt ∧ l2.toInt < (m 94 64).toInt from by omega) p0_m5 r_W r_GW r_GU r_OW r_DX r_RG (show (m 94 10).toInt = 6 from by omega)
        · skip
          have g31 := i_ne h26
          have b32 := i_bd l4
          try have rpr := r_RG.2.2.2.1
          try have rsi := r_RG.1
          try have rrg := r_RG.2.1
          try have rml := RG_ml (r := l4) r_RG (by have := rs_94_18 hV; omega) (by have := rs_94_64 hV; omega)
          try have rml2 := RG_ml (r := l2) r_RG (by have := rs_94_18 hV; omega) (by have := rs_94_64 hV; omega)
          have hg33 : (0 ≤ l4 ∧ l4.toNatClampNeg < 128) := i_ix (by omega) (by omega)
          refine ⟨hg33, ?_⟩
          have hV34 : zV (ma_u m 116 l4.toNatClampNeg (0 : Int32)) := ua_116 hV (by omega) (by omega)
          refine sp_236  hV34  (fun v8 m7 hV_m7 p0_m7 => zmi_n ?_)
          have p0_m7 : v8.toInt = -1 ∨ (0 ≤ v8.toInt ∧ v8.toInt < (m 94 64).toInt ∧ (m 124) v8.toNatClampNeg = 0) := p0_m7
          try have rpr := r_RG.2.2.2.1
          try have rsi := r_RG.1
          try have rrg := r_RG.2.1
          try have rml := RG_ml (r := l4) r_RG (by have := rs_94_18 hV; omega) (by have := rs_94_64 hV; omega)
          try have rml2 := RG_ml (r := l2) r_RG (by have := rs_94_18 hV; omega) (by have := rs_94_64 hV; omega)
          have b35 := i_bd l1
          have b36 := i_bd l2
          have b37 := i_bd v8
          exact OUT161 _ (l1) (l2) (l3) (v8) (show (((128 - cnt (m 124) 128 : Nat) : Int)).toNat < n161 from by omega) (zF_zov (zF_u hF rfl) ws_236_235) hV_m7 (by omega) (by omega) (show -1 ≤ l2.toInt ∧ l2.toInt < (m 94 64).toInt from by omega) p0_m7 r_W r_GW r_GU r_OW r_DX (show zRG1 (m 94 18) (m 94 64) (m 94 63) (m 99) (m 103) (m 102) ((ma_u m 116 l4.toNatClampNeg (0 : Int32)) 116) from by first | (exact RG_put r_RG (by omega)) | (exfalso; omega; done) | (exfalso; contradiction; done)) (show (m 94 10).toInt = 6 from by omega)
      · skip
        have g38 := i_ne h24
        try have rpr := r_RG.2.2.2.1
        try have rsi := r_RG.1
        try have rrg := r_RG.2.1
        try have rml := RG_ml (r := l4) r_RG (by have := rs_94_18 hV; omega) (by have := rs_94_64 hV; omega)
        try have rml2 := RG_ml (r := l2) r_RG (by have := rs_94_18 hV; omega) (by have := rs_94_64 hV; omega)
        have hg39 : (0 ≤ l5 ∧ l5.toNatClampNeg < 4600) := i_ix (by omega) (by omega)
        refine ⟨hg39, ?_⟩
        first | have f40 : -1 ≤ (m 111 l5.toNatClampNeg).toInt ∧ (m 111 l5.toNatClampNeg).toInt ≤ 3099 := ra_111 (m := m) hV (k := l5.toNatClampNeg) (i_ix (n := 4600) (by omega) (by omega)).2 | have b41 := i_bd (m 111 l5.toNatClampNeg)
        refine zd (fun (h42 : (0 : Int32) ≤ (m 111 l5.toNatClampNeg)) => ?_) (fun (h42 : ¬ (0 : Int32) ≤ (m 111 l5.toNatClampNeg)) => ?_)
        · skip
          have g43 := i_le h42
          try have ow5 := r_OW l5.toNatClampNeg (by omega) (by omega)
          skip
          have hg44 : (0 ≤ (m 111 l5.toNatClampNeg) ∧ (m 111 l5.toNatClampNeg).toNatClampNeg < 3100) := i_ix (by omega) (by omega)
          refine ⟨hg44, ?_⟩
          have b45 := i_bd l2
          refine zd (fun (h46 : l2 < (0 : Int32)) => ?_) (fun (h46 : ¬ l2 < (0 : Int32)) => ?_)
          · skip
            have g47 := i_lt h46
            refine sp_234  hV  (fun v10 m9 hV_m9 p0_m9 => zmi_n ?_)
            have p0_m9 : zLE (m 116) (m 94 64) v10 := p0_m9
            try have lel := LE_lo p0_m9
            skip
            try have lrg := RG_LE r_RG p0_m9 (by have := rs_94_18 hV; omega) (by have := rs_94_64 hV; omega)
            have b48 := i_bd v10
            refine zd (fun (h49 : (0 : Int32) ≤ v10) => ?_) (fun (h49 : ¬ (0 : Int32) ≤ v10) => ?_)
            · skip
              have g50 := i_le h49
              refine zd (fun (h51 : l3 = (0 : Int32)) => ?_) (fun (h51 : ¬ l3 = (0 : Int32)) => ?_)
              · skip
                have g52 := i_eq h51
                try have rpr := r_RG.2.2.2.1
                try have rsi := r_RG.1
                try have rrg := r_RG.2.1
                try have rml := RG_ml (r := l4) r_RG (by have := rs_94_18 hV; omega) (by have := rs_94_64 hV; omega)
                try have rml2 := RG_ml (r := l2) r_RG (by have := rs_94_18 hV; omega) (by have := rs_94_64 hV; omega)
                have b53 := i_bd l1
                have b54 := i_bd l4
                first | have f55 : 0 ≤ (m 102 (m 111 l5.toNatClampNeg).toNatClampNeg).toInt ∧ (m 102 (m 111 l5.toNatClampNeg).toNatClampNeg).toInt ≤ 60 := ra_102 (m := m) hV (k := (m 111 l5.toNatClampNeg).toNatClampNeg) (i_ix (n := 3100) (by omega) (by omega)).2 | have b56 := i_bd (m 102 (m 111 l5.toNatClampNeg).toNatClampNeg)
                first | have e57 : ((m 102 (m 111 l5.toNatClampNeg).toNatClampNeg) + (1 : Int32)).toInt = (m 102 (m 111 l5.toNatClampNeg).toNatClampNeg).toInt + (1) := i_addk rfl (by omega) (by omega) | have b58 := i_bd ((m 102 (m 111 l5.toNatClampNeg).toNatClampNeg) + (1 : Int32))
                first | have e59 : (l5 + ((m 102 (m 111 l5.toNatClampNeg).toNatClampNeg) + (1 : Int32))).toInt = l5.toInt + ((m 102 (m 111 l5.toNatClampNeg).toNatClampNeg) + (1 : Int32)).toInt := i_add (by omega) (by omega) | have b60 := i_bd (l5 + ((m 102 (m 111 l5.toNatClampNeg).toNatClampNeg) + (1 : Int32)))
                exact IH (l6.toInt - (l5 + ((m 102 (m 111 l5.toNatClampNeg).toNatClampNeg) + (1 : Int32))).toInt).toNat (by omega) _ (l1) (v10) (l3) (l4) ((l5 + ((m 102 (m 111 l5.toNatClampNeg).toNatClampNeg) + (1 : Int32)))) (l6) rfl (zF_zov hF ws_234_235) hV_m9 (by omega) (by omega) (show -1 ≤ v10.toInt ∧ v10.toInt < (m 94 64).toInt from by omega) (by omega) (show l4.toInt < (m 94 64).toInt from by omega) (by omega) (by omega) (by omega) r_MD r_W r_GW r_GU r_OW r_DX r_RG (show (m 94 10).toInt = 6 from by omega)
              · skip
                have g61 := i_ne h51
                try have rpr := r_RG.2.2.2.1
                try have rsi := r_RG.1
                try have rrg := r_RG.2.1
                try have rml := RG_ml (r := l4) r_RG (by have := rs_94_18 hV; omega) (by have := rs_94_64 hV; omega)
                try have rml2 := RG_ml (r := l2) r_RG (by have := rs_94_18 hV; omega) (by have := rs_94_64 hV; omega)
                have hg62 : (0 ≤ v10 ∧ v10.toNatClampNeg < 128) := i_ix (by omega) (by omega)
                refine ⟨hg62, ?_⟩
                have f63 : 0 ≤ (m 94 18).toInt ∧ (m 94 18).toInt ≤ 256 := rs_94_18 (m := m) hV
                first | have f64 := i_muln (x := v10) (y := (m 94 18)) (by omega) (by omega) (by omega) (by omega) | have b65 := i_bd (v10 * (m 94 18))
                first | have f66 : 0 ≤ (m 116 v10.toNatClampNeg).toInt ∧ (m 116 v10.toNatClampNeg).toInt ≤ 4600 := ra_116 (m := m) hV (k := v10.toNatClampNeg) (i_ix (n := 128) (by omega) (by omega)).2 | have b67 := i_bd (m 116 v10.toNatClampNeg)
                first | have e68 : ((v10 * (m 94 18)) + (m 116 v10.toNatClampNeg)).toInt = (v10 * (m 94 18)).toInt + (m 116 v10.toNatClampNeg).toInt := i_add (by omega) (by omega) | have b69 := i_bd ((v10 * (m 94 18)) + (m 116 v10.toNatClampNeg))
                refine sp_205 ((m 111 l5.toNatClampNeg)) (((v10 * (m 94 18)) + (m 116 v10.toNatClampNeg))) hV_m9 (by omega) (by omega) (by omega) (by omega) (show (m 99) (m 111 l5.toNatClampNeg).toNatClampNeg ≠ 0 from by first | (exact ow5.1) | (assumption; done) | (exfalso; omega; done) | (exfalso; contradiction; done)) r_OW (fun m11 hV_m11 p0_m11 p1_m11 => zmv_n ?_)
                have p0_m11 : zOw (m 99) (m11 103) (m11 111) := p0_m11
                have p1_m11 : zmov (m 111 l5.toNatClampNeg) ((v10 * (m 94 18)) + (m 116 v10.toNatClampNeg)) (m 103) (m 111) (m11 103) (m11 111) := p1_m11
                try have rpr := r_RG.2.2.2.1
                try have rsi := r_RG.1
                try have rrg := r_RG.2.1
                try have rml := RG_ml (r := l4) r_RG (by have := rs_94_18 hV; omega) (by have := rs_94_64 hV; omega)
                try have rml2 := RG_ml (r := l2) r_RG (by have := rs_94_18 hV; omega) (by have := rs_94_64 hV; omega)
                have hg70 : (0 ≤ v10 ∧ v10.toNatClampNeg < 128) := i_ix (by omega) (by omega)
                refine ⟨hg70, ?_⟩
                skip
                try have ra5 := RG_at r_RG (s := (m 111 l5.toNatClampNeg).toNatClampNeg) (by omega) ow5.1
                have hg71 : (0 ≤ (m 111 l5.toNatClampNeg) ∧ (m 111 l5.toNatClampNeg).toNatClampNeg < 3100) := i_ix (by omega) (by omega)
                refine ⟨hg71, ?_⟩
                try have rpr := r_RG.2.2.2.1
                try have rsi := r_RG.1
                try have rrg := r_RG.2.1
                try have rml := RG_ml (r := l4) r_RG (by have := rs_94_18 hV; omega) (by have := rs_94_64 hV; omega)
                try have rml2 := RG_ml (r := l2) r_RG (by have := rs_94_18 hV; omega) (by have := rs_94_64 hV; omega)
                have hg72 : (0 ≤ v10 ∧ v10.toNatClampNeg < 128) := i_ix (by omega) (by omega)
                refine ⟨hg72, ?_⟩
                try have rpr := r_RG.2.2.2.1
                try have rsi := r_RG.1
                try have rrg := r_RG.2.1
                try have rml := RG_ml (r := l4) r_RG (by have := rs_94_18 hV; omega) (by have := rs_94_64 hV; omega)
                try have rml2 := RG_ml (r := l2) r_RG (by have := rs_94_18 hV; omega) (by have := rs_94_64 hV; omega)
                first | have f74 : 0 ≤ (m 102 (m 111 l5.toNatClampNeg).toNatClampNeg).toInt ∧ (m 102 (m 111 l5.toNatClampNeg).toNatClampNeg).toInt ≤ 60 := ra_102 (m := m) hV (k := (m 111 l5.toNatClampNeg).toNatClampNeg) (i_ix (n := 3100) (by omega) (by omega)).2 | have b75 := i_bd (m 102 (m 111 l5.toNatClampNeg).toNatClampNeg)
                first | have e76 : ((m 102 (m 111 l5.toNatClampNeg).toNatClampNeg) + (1 : Int32)).toInt = (m 102 (m 111 l5.toNatClampNeg).toNatClampNeg).toInt + (1) := i_addk rfl (by omega) (by omega) | have b77 := i_bd ((m 102 (m 111 l5.toNatClampNeg).toNatClampNeg) + (1 : Int32))
                first | have e78 : ((m 116 v10.toNatClampNeg) + ((m 102 (m 111 l5.toNatClampNeg).toNatClampNeg) + (1 : Int32))).toInt = (m 116 v10.toNatClampNeg).toInt + ((m 102 (m 111 l5.toNatClampNeg).toNatClampNeg) + (1 : Int32)).toInt := i_add (by omega) (by omega) | have b79 := i_bd ((m 116 v10.toNatClampNeg) + ((m 102 (m 111 l5.toNatClampNeg).toNatClampNeg) + (1 : Int32)))
                have hV73 : zV (ma_u (zov wr_205 (zov wr_234 m m9) m11) 116 v10.toNatClampNeg ((m 116 v10.toNatClampNeg) + ((m 102 (m 111 l5.toNatClampNeg).toNatClampNeg) + (1 : Int32)))) := ua_116 hV_m11 (by omega) (by omega)
                have b80 := i_bd l1
                have b81 := i_bd l4
                first | have e82 : (l5 + ((m 102 (m 111 l5.toNatClampNeg).toNatClampNeg) + (1 : Int32))).toInt = l5.toInt + ((m 102 (m 111 l5.toNatClampNeg).toNatClampNeg) + (1 : Int32)).toInt := i_add (by omega) (by omega) | have b83 := i_bd (l5 + ((m 102 (m 111 l5.toNatClampNeg).toNatClampNeg) + (1 : Int32)))
                exact IH (l6.toInt - (l5 + ((m 102 (m 111 l5.toNatClampNeg).toNatClampNeg) + (1 : Int32))).toInt).toNat (by omega) _ (l1) (v10) (l3) (l4) ((l5 + ((m 102 (m 111 l5.toNatClampNeg).toNatClampNeg) + (1 : Int32)))) (l6) rfl (zF_u (zF_zov (zF_zov hF ws_234_235) ws_205_235) rfl) hV73 (by omega) (by omega) (show -1 ≤ v10.toInt ∧ v10.toInt < (m 94 64).toInt from by omega) (by omega) (show l4.toInt < (m 94 64).toInt from by omega) (by omega) (by omega) (by omega) r_MD r_W r_GW r_GU p0_m11 r_DX (show zRG1 (m 94 18) (m 94 64) (m 94 63) (m 99) (m11 103) (m 102) ((ma_u m 116 v10.toNatClampNeg ((m 116 v10.toNatClampNeg) + ((m 102 (m 111 l5.toNatClampNeg).toNatClampNeg) + (1 : Int32)))) 116) from by first | (exact RG_put (RG_mv2 r_RG p1_m11 (by omega)) (by omega)) | (exact RG_put r_RG (by omega)) | (exfalso; omega; done) | (exfalso; contradiction; done)) (show (m 94 10).toInt = 6 from by omega)
            · skip
              have g84 := i_nle h49
              try have rpr := r_RG.2.2.2.1
              try have rsi := r_RG.1
              try have rrg := r_RG.2.1
              try have rml := RG_ml (r := l4) r_RG (by have := rs_94_18 hV; omega) (by have := rs_94_64 hV; omega)
              try have rml2 := RG_ml (r := l2) r_RG (by have := rs_94_18 hV; omega) (by have := rs_94_64 hV; omega)
              have b85 := i_bd l1
              have b86 := i_bd l4
              first | have f87 : 0 ≤ (m 102 (m 111 l5.toNatClampNeg).toNatClampNeg).toInt ∧ (m 102 (m 111 l5.toNatClampNeg).toNatClampNeg).toInt ≤ 60 := ra_102 (m := m) hV (k := (m 111 l5.toNatClampNeg).toNatClampNeg) (i_ix (n := 3100) (by omega) (by omega)).2 | have b88 := i_bd (m 102 (m 111 l5.toNatClampNeg).toNatClampNeg)
              first | have e89 : ((m 102 (m 111 l5.toNatClampNeg).toNatClampNeg) + (1 : Int32)).toInt = (m 102 (m 111 l5.toNatClampNeg).toNatClampNeg).toInt + (1) := i_addk rfl (by omega) (by omega) | have b90 := i_bd ((m 102 (m 111 l5.toNatClampNeg).toNatClampNeg) + (1 : Int32))
              first | have e91 : (l5 + ((m 102 (m 111 l5.toNatClampNeg).toNatClampNeg) + (1 : Int32))).toInt = l5.toInt + ((m 102 (m 111 l5.toNatClampNeg).toNatClampNeg) + (1 : Int32)).toInt := i_add (by omega) (by omega) | have b92 := i_bd (l5 + ((m 102 (m 111 l5.toNatClampNeg).toNatClampNeg) + (1 : Int32)))
              exact IH (l6.toInt - (l5 + ((m 102 (m 111 l5.toNatClampNeg).toNatClampNeg) + (1 : Int32))).toInt).toNat (by omega) _ (l1) (l2) ((0 : Int32)) (l4) ((l5 + ((m 102 (m 111 l5.toNatClampNeg).toNatClampNeg) + (1 : Int32)))) (l6) rfl (zF_zov hF ws_234_235) hV_m9 (by omega) (by omega) (show -1 ≤ l2.toInt ∧ l2.toInt < (m 94 64).toInt from by omega) (by omega) (show l4.toInt < (m 94 64).toInt from by omega) (by omega) (by omega) (by omega) r_MD r_W r_GW r_GU r_OW r_DX r_RG (show (m 94 10).toInt = 6 from by omega)
          · skip
            have g93 := i_nlt h46
            try have rpr := r_RG.2.2.2.1
            try have rsi := r_RG.1
            try have rrg := r_RG.2.1
            try have rml := RG_ml (r := l4) r_RG (by have := rs_94_18 hV; omega) (by have := rs_94_64 hV; omega)
            try have rml2 := RG_ml (r := l2) r_RG (by have := rs_94_18 hV; omega) (by have := rs_94_64 hV; omega)
            have hg94 : (0 ≤ l2 ∧ l2.toNatClampNeg < 128) := i_ix (by omega) (by omega)
            refine ⟨hg94, ?_⟩
            try have ow5 := r_OW l5.toNatClampNeg (by omega) (by omega)
            try have ra5 := RG_at r_RG (s := (m 111 l5.toNatClampNeg).toNatClampNeg) (by omega) ow5.1
            have hg95 : (0 ≤ (m 111 l5.toNatClampNeg) ∧ (m 111 l5.toNatClampNeg).toNatClampNeg < 3100) := i_ix (by omega) (by omega)
            refine ⟨hg95, ?_⟩
            first | have f96 : 0 ≤ (m 116 l2.toNatClampNeg).toInt ∧ (m 116 l2.toNatClampNeg).toInt ≤ 4600 := ra_116 (m := m) hV (k := l2.toNatClampNeg) (i_ix (n := 128) (by omega) (by omega)).2 | have b97 := i_bd (m 116 l2.toNatClampNeg)
            first | have f98 : 0 ≤ (m 102 (m 111 l5.toNatClampNeg).toNatClampNeg).toInt ∧ (m 102 (m 111 l5.toNatClampNeg).toNatClampNeg).toInt ≤ 60 := ra_102 (m := m) hV (k := (m 111 l5.toNatClampNeg).toNatClampNeg) (i_ix (n := 3100) (by omega) (by omega)).2 | have b99 := i_bd (m 102 (m 111 l5.toNatClampNeg).toNatClampNeg)
            first | have e100 : ((m 102 (m 111 l5.toNatClampNeg).toNatClampNeg) + (1 : Int32)).toInt = (m 102 (m 111 l5.toNatClampNeg).toNatClampNeg).toInt + (1) := i_addk rfl (by omega) (by omega) | have b101 := i_bd ((m 102 (m 111 l5.toNatClampNeg).toNatClampNeg) + (1 : Int32))
            first | have e102 : ((m 116 l2.toNatClampNeg) + ((m 102 (m 111 l5.toNatClampNeg).toNatClampNeg) + (1 : Int32))).toInt = (m 116 l2.toNatClampNeg).toInt + ((m 102 (m 111 l5.toNatClampNeg).toNatClampNeg) + (1 : Int32)).toInt := i_add (by omega) (by omega) | have b103 := i_bd ((m 116 l2.toNatClampNeg) + ((m 102 (m 111 l5.toNatClampNeg).toNatClampNeg) + (1 : Int32)))
            have f104 : 0 ≤ (m 94 18).toInt ∧ (m 94 18).toInt ≤ 256 := rs_94_18 (m := m) hV
            refine zd (fun (h105 : ((m 116 l2.toNatClampNeg) + ((m 102 (m 111 l5.toNatClampNeg).toNatClampNeg) + (1 : Int32))) ≤ (m 94 18)) => ?_) (fun (h105 : ¬ ((m 116 l2.toNatClampNeg) + ((m 102 (m 111 l5.toNatClampNeg).toNatClampNeg) + (1 : Int32))) ≤ (m 94 18)) => ?_)
            · skip
              have g106 := i_le h105
              refine zd (fun (h107 : l3 = (0 : Int32)) => ?_) (fun (h107 : ¬ l3 = (0 : Int32)) => ?_)
              · skip
                have g108 := i_eq h107
                try have rpr := r_RG.2.2.2.1
                try have rsi := r_RG.1
                try have rrg := r_RG.2.1
                try have rml := RG_ml (r := l4) r_RG (by have := rs_94_18 hV; omega) (by have := rs_94_64 hV; omega)
                try have rml2 := RG_ml (r := l2) r_RG (by have := rs_94_18 hV; omega) (by have := rs_94_64 hV; omega)
                have b109 := i_bd l1
                have b110 := i_bd l4
                first | have e111 : (l5 + ((m 102 (m 111 l5.toNatClampNeg).toNatClampNeg) + (1 : Int32))).toInt = l5.toInt + ((m 102 (m 111 l5.toNatClampNeg).toNatClampNeg) + (1 : Int32)).toInt := i_add (by omega) (by omega) | have b112 := i_bd (l5 + ((m 102 (m 111 l5.toNatClampNeg).toNatClampNeg) + (1 : Int32)))
                exact IH (l6.toInt - (l5 + ((m 102 (m 111 l5.toNatClampNeg).toNatClampNeg) + (1 : Int32))).toInt).toNat (by omega) _ (l1) (l2) (l3) (l4) ((l5 + ((m 102 (m 111 l5.toNatClampNeg).toNatClampNeg) + (1 : Int32)))) (l6) rfl hF hV (by omega) (by omega) (show -1 ≤ l2.toInt ∧ l2.toInt < (m 94 64).toInt from by omega) (by omega) (show l4.toInt < (m 94 64).toInt from by omega) (by omega) (by omega) (by omega) r_MD r_W r_GW r_GU r_OW r_DX r_RG (show (m 94 10).toInt = 6 from by omega)
              · skip
                have g113 := i_ne h107
                try have rpr := r_RG.2.2.2.1
                try have rsi := r_RG.1
                try have rrg := r_RG.2.1
                try have rml := RG_ml (r := l4) r_RG (by have := rs_94_18 hV; omega) (by have := rs_94_64 hV; omega)
                try have rml2 := RG_ml (r := l2) r_RG (by have := rs_94_18 hV; omega) (by have := rs_94_64 hV; omega)
                have hg114 : (0 ≤ l2 ∧ l2.toNatClampNeg < 128) := i_ix (by omega) (by omega)
                refine ⟨hg114, ?_⟩
                first | have f115 := i_muln (x := l2) (y := (m 94 18)) (by omega) (by omega) (by omega) (by omega) | have b116 := i_bd (l2 * (m 94 18))
                first | have e117 : ((l2 * (m 94 18)) + (m 116 l2.toNatClampNeg)).toInt = (l2 * (m 94 18)).toInt + (m 116 l2.toNatClampNeg).toInt := i_add (by omega) (by omega) | have b118 := i_bd ((l2 * (m 94 18)) + (m 116 l2.toNatClampNeg))
                refine sp_205 ((m 111 l5.toNatClampNeg)) (((l2 * (m 94 18)) + (m 116 l2.toNatClampNeg))) hV (by omega) (by omega) (by omega) (by omega) (show (m 99) (m 111 l5.toNatClampNeg).toNatClampNeg ≠ 0 from by first | (exact ow5.1) | (assumption; done) | (exfalso; omega; done) | (exfalso; contradiction; done)) r_OW (fun m13 hV_m13 p0_m13 p1_m13 => zmv_n ?_)
                have p0_m13 : zOw (m 99) (m13 103) (m13 111) := p0_m13
                have p1_m13 : zmov (m 111 l5.toNatClampNeg) ((l2 * (m 94 18)) + (m 116 l2.toNatClampNeg)) (m 103) (m 111) (m13 103) (m13 111) := p1_m13
                try have rpr := r_RG.2.2.2.1
                try have rsi := r_RG.1
                try have rrg := r_RG.2.1
                try have rml := RG_ml (r := l4) r_RG (by have := rs_94_18 hV; omega) (by have := rs_94_64 hV; omega)
                try have rml2 := RG_ml (r := l2) r_RG (by have := rs_94_18 hV; omega) (by have := rs_94_64 hV; omega)
                have hg119 : (0 ≤ l2 ∧ l2.toNatClampNeg < 128) := i_ix (by omega) (by omega)
                refine ⟨hg119, ?_⟩
                skip
                try have ra5 := RG_at r_RG (s := (m 111 l5.toNatClampNeg).toNatClampNeg) (by omega) ow5.1
                have hg120 : (0 ≤ (m 111 l5.toNatClampNeg) ∧ (m 111 l5.toNatClampNeg).toNatClampNeg < 3100) := i_ix (by omega) (by omega)
                refine ⟨hg120, ?_⟩
                try have rpr := r_RG.2.2.2.1
                try have rsi := r_RG.1
                try have rrg := r_RG.2.1
                try have rml := RG_ml (r := l4) r_RG (by have := rs_94_18 hV; omega) (by have := rs_94_64 hV; omega)
                try have rml2 := RG_ml (r := l2) r_RG (by have := rs_94_18 hV; omega) (by have := rs_94_64 hV; omega)
                have hg121 : (0 ≤ l2 ∧ l2.toNatClampNeg < 128) := i_ix (by omega) (by omega)
                refine ⟨hg121, ?_⟩
                try have rpr := r_RG.2.2.2.1
                try have rsi := r_RG.1
                try have rrg := r_RG.2.1
                try have rml := RG_ml (r := l4) r_RG (by have := rs_94_18 hV; omega) (by have := rs_94_64 hV; omega)
                try have rml2 := RG_ml (r := l2) r_RG (by have := rs_94_18 hV; omega) (by have := rs_94_64 hV; omega)
                have hV122 : zV (ma_u (zov wr_205 m m13) 116 l2.toNatClampNeg ((m 116 l2.toNatClampNeg) + ((m 102 (m 111 l5.toNatClampNeg).toNatClampNeg) + (1 : Int32)))) := ua_116 hV_m13 (by omega) (by omega)
                have b123 := i_bd l1
                have b124 := i_bd l4
                first | have e125 : (l5 + ((m 102 (m 111 l5.toNatClampNeg).toNatClampNeg) + (1 : Int32))).toInt = l5.toInt + ((m 102 (m 111 l5.toNatClampNeg).toNatClampNeg) + (1 : Int32)).toInt := i_add (by omega) (by omega) | have b126 := i_bd (l5 + ((m 102 (m 111 l5.toNatClampNeg).toNatClampNeg) + (1 : Int32)))
                exact IH (l6.toInt - (l5 + ((m 102 (m 111 l5.toNatClampNeg).toNatClampNeg) + (1 : Int32))).toInt).toNat (by omega) _ (l1) (l2) (l3) (l4) ((l5 + ((m 102 (m 111 l5.toNatClampNeg).toNatClampNeg) + (1 : Int32)))) (l6) rfl (zF_u (zF_zov hF ws_205_235) rfl) hV122 (by omega) (by omega) (show -1 ≤ l2.toInt ∧ l2.toInt < (m 94 64).toInt from by omega) (by omega) (show l4.toInt < (m 94 64).toInt from by omega) (by omega) (by omega) (by omega) r_MD r_W r_GW r_GU p0_m13 r_DX (show zRG1 (m 94 18) (m 94 64) (m 94 63) (m 99) (m13 103) (m 102) ((ma_u m 116 l2.toNatClampNeg ((m 116 l2.toNatClampNeg) + ((m 102 (m 111 l5.toNatClampNeg).toNatClampNeg) + (1 : Int32)))) 116) from by first | (exact RG_put (RG_mv2 r_RG p1_m13 (by omega)) (by omega)) | (exact RG_put r_RG (by omega)) | (exfalso; omega; done) | (exfalso; contradiction; done)) (show (m 94 10).toInt = 6 from by omega)
            · skip
              have g127 := i_nle h105
              refine sp_234  hV  (fun v16 m15 hV_m15 p0_m15 => zmi_n ?_)
              have p0_m15 : zLE (m 116) (m 94 64) v16 := p0_m15
              try have lel := LE_lo p0_m15
              skip
              try have lrg := RG_LE r_RG p0_m15 (by have := rs_94_18 hV; omega) (by have := rs_94_64 hV; omega)
              have b128 := i_bd v16
              refine zd (fun (h129 : (0 : Int32) ≤ v16) => ?_) (fun (h129 : ¬ (0 : Int32) ≤ v16) => ?_)
              · skip
                have g130 := i_le h129
                refine zd (fun (h131 : l3 = (0 : Int32)) => ?_) (fun (h131 : ¬ l3 = (0 : Int32)) => ?_)
                · skip
                  have g132 := i_eq h131
                  try have rpr := r_RG.2.2.2.1
                  try have rsi := r_RG.1
                  try have rrg := r_RG.2.1
                  try have rml := RG_ml (r := l4) r_RG (by have := rs_94_18 hV; omega) (by have := rs_94_64 hV; omega)
                  try have rml2 := RG_ml (r := l2) r_RG (by have := rs_94_18 hV; omega) (by have := rs_94_64 hV; omega)
                  have b133 := i_bd l1
                  have b134 := i_bd l4
                  first | have e135 : (l5 + ((m 102 (m 111 l5.toNatClampNeg).toNatClampNeg) + (1 : Int32))).toInt = l5.toInt + ((m 102 (m 111 l5.toNatClampNeg).toNatClampNeg) + (1 : Int32)).toInt := i_add (by omega) (by omega) | have b136 := i_bd (l5 + ((m 102 (m 111 l5.toNatClampNeg).toNatClampNeg) + (1 : Int32)))
                  exact IH (l6.toInt - (l5 + ((m 102 (m 111 l5.toNatClampNeg).toNatClampNeg) + (1 : Int32))).toInt).toNat (by omega) _ (l1) (v16) (l3) (l4) ((l5 + ((m 102 (m 111 l5.toNatClampNeg).toNatClampNeg) + (1 : Int32)))) (l6) rfl (zF_zov hF ws_234_235) hV_m15 (by omega) (by omega) (show -1 ≤ v16.toInt ∧ v16.toInt < (m 94 64).toInt from by omega) (by omega) (show l4.toInt < (m 94 64).toInt from by omega) (by omega) (by omega) (by omega) r_MD r_W r_GW r_GU r_OW r_DX r_RG (show (m 94 10).toInt = 6 from by omega)
                · skip
                  have g137 := i_ne h131
                  try have rpr := r_RG.2.2.2.1
                  try have rsi := r_RG.1
                  try have rrg := r_RG.2.1
                  try have rml := RG_ml (r := l4) r_RG (by have := rs_94_18 hV; omega) (by have := rs_94_64 hV; omega)
                  try have rml2 := RG_ml (r := l2) r_RG (by have := rs_94_18 hV; omega) (by have := rs_94_64 hV; omega)
                  have hg138 : (0 ≤ v16 ∧ v16.toNatClampNeg < 128) := i_ix (by omega) (by omega)
                  refine ⟨hg138, ?_⟩
                  first | have f139 := i_muln (x := v16) (y := (m 94 18)) (by omega) (by omega) (by omega) (by omega) | have b140 := i_bd (v16 * (m 94 18))
                  first | have f141 : 0 ≤ (m 116 v16.toNatClampNeg).toInt ∧ (m 116 v16.toNatClampNeg).toInt ≤ 4600 := ra_116 (m := m) hV (k := v16.toNatClampNeg) (i_ix (n := 128) (by omega) (by omega)).2 | have b142 := i_bd (m 116 v16.toNatClampNeg)
                  first | have e143 : ((v16 * (m 94 18)) + (m 116 v16.toNatClampNeg)).toInt = (v16 * (m 94 18)).toInt + (m 116 v16.toNatClampNeg).toInt := i_add (by omega) (by omega) | have b144 := i_bd ((v16 * (m 94 18)) + (m 116 v16.toNatClampNeg))
                  refine sp_205 ((m 111 l5.toNatClampNeg)) (((v16 * (m 94 18)) + (m 116 v16.toNatClampNeg))) hV_m15 (by omega) (by omega) (by omega) (by omega) (show (m 99) (m 111 l5.toNatClampNeg).toNatClampNeg ≠ 0 from by first | (exact ow5.1) | (assumption; done) | (exfalso; omega; done) | (exfalso; contradiction; done)) r_OW (fun m17 hV_m17 p0_m17 p1_m17 => zmv_n ?_)
                  have p0_m17 : zOw (m 99) (m17 103) (m17 111) := p0_m17
                  have p1_m17 : zmov (m 111 l5.toNatClampNeg) ((v16 * (m 94 18)) + (m 116 v16.toNatClampNeg)) (m 103) (m 111) (m17 103) (m17 111) := p1_m17
                  try have rpr := r_RG.2.2.2.1
                  try have rsi := r_RG.1
                  try have rrg := r_RG.2.1
                  try have rml := RG_ml (r := l4) r_RG (by have := rs_94_18 hV; omega) (by have := rs_94_64 hV; omega)
                  try have rml2 := RG_ml (r := l2) r_RG (by have := rs_94_18 hV; omega) (by have := rs_94_64 hV; omega)
                  have hg145 : (0 ≤ v16 ∧ v16.toNatClampNeg < 128) := i_ix (by omega) (by omega)
                  refine ⟨hg145, ?_⟩
                  skip
                  try have ra5 := RG_at r_RG (s := (m 111 l5.toNatClampNeg).toNatClampNeg) (by omega) ow5.1
                  have hg146 : (0 ≤ (m 111 l5.toNatClampNeg) ∧ (m 111 l5.toNatClampNeg).toNatClampNeg < 3100) := i_ix (by omega) (by omega)
                  refine ⟨hg146, ?_⟩
                  try have rpr := r_RG.2.2.2.1
                  try have rsi := r_RG.1
                  try have rrg := r_RG.2.1
                  try have rml := RG_ml (r := l4) r_RG (by have := rs_94_18 hV; omega) (by have := rs_94_64 hV; omega)
                  try have rml2 := RG_ml (r := l2) r_RG (by have := rs_94_18 hV; omega) (by have := rs_94_64 hV; omega)
                  have hg147 : (0 ≤ v16 ∧ v16.toNatClampNeg < 128) := i_ix (by omega) (by omega)
                  refine ⟨hg147, ?_⟩
                  try have rpr := r_RG.2.2.2.1
                  try have rsi := r_RG.1
                  try have rrg := r_RG.2.1
                  try have rml := RG_ml (r := l4) r_RG (by have := rs_94_18 hV; omega) (by have := rs_94_64 hV; omega)
                  try have rml2 := RG_ml (r := l2) r_RG (by have := rs_94_18 hV; omega) (by have := rs_94_64 hV; omega)
                  first | have e149 : ((m 116 v16.toNatClampNeg) + ((m 102 (m 111 l5.toNatClampNeg).toNatClampNeg) + (1 : Int32))).toInt = (m 116 v16.toNatClampNeg).toInt + ((m 102 (m 111 l5.toNatClampNeg).toNatClampNeg) + (1 : Int32)).toInt := i_add (by omega) (by omega) | have b150 := i_bd ((m 116 v16.toNatClampNeg) + ((m 102 (m 111 l5.toNatClampNeg).toNatClampNeg) + (1 : Int32)))
                  have hV148 : zV (ma_u (zov wr_205 (zov wr_234 m m15) m17) 116 v16.toNatClampNeg ((m 116 v16.toNatClampNeg) + ((m 102 (m 111 l5.toNatClampNeg).toNatClampNeg) + (1 : Int32)))) := ua_116 hV_m17 (by omega) (by omega)
                  have b151 := i_bd l1
                  have b152 := i_bd l4
                  first | have e153 : (l5 + ((m 102 (m 111 l5.toNatClampNeg).toNatClampNeg) + (1 : Int32))).toInt = l5.toInt + ((m 102 (m 111 l5.toNatClampNeg).toNatClampNeg) + (1 : Int32)).toInt := i_add (by omega) (by omega) | have b154 := i_bd (l5 + ((m 102 (m 111 l5.toNatClampNeg).toNatClampNeg) + (1 : Int32)))
                  exact IH (l6.toInt - (l5 + ((m 102 (m 111 l5.toNatClampNeg).toNatClampNeg) + (1 : Int32))).toInt).toNat (by omega) _ (l1) (v16) (l3) (l4) ((l5 + ((m 102 (m 111 l5.toNatClampNeg).toNatClampNeg) + (1 : Int32)))) (l6) rfl (zF_u (zF_zov (zF_zov hF ws_234_235) ws_205_235) rfl) hV148 (by omega) (by omega) (show -1 ≤ v16.toInt ∧ v16.toInt < (m 94 64).toInt from by omega) (by omega) (show l4.toInt < (m 94 64).toInt from by omega) (by omega) (by omega) (by omega) r_MD r_W r_GW r_GU p0_m17 r_DX (show zRG1 (m 94 18) (m 94 64) (m 94 63) (m 99) (m17 103) (m 102) ((ma_u m 116 v16.toNatClampNeg ((m 116 v16.toNatClampNeg) + ((m 102 (m 111 l5.toNatClampNeg).toNatClampNeg) + (1 : Int32)))) 116) from by first | (exact RG_put (RG_mv2 r_RG p1_m17 (by omega)) (by omega)) | (exact RG_put r_RG (by omega)) | (exfalso; omega; done) | (exfalso; contradiction; done)) (show (m 94 10).toInt = 6 from by omega)
              · skip
                have g155 := i_nle h129
                try have rpr := r_RG.2.2.2.1
                try have rsi := r_RG.1
                try have rrg := r_RG.2.1
                try have rml := RG_ml (r := l4) r_RG (by have := rs_94_18 hV; omega) (by have := rs_94_64 hV; omega)
                try have rml2 := RG_ml (r := l2) r_RG (by have := rs_94_18 hV; omega) (by have := rs_94_64 hV; omega)
                have b156 := i_bd l1
                have b157 := i_bd l4
                first | have e158 : (l5 + ((m 102 (m 111 l5.toNatClampNeg).toNatClampNeg) + (1 : Int32))).toInt = l5.toInt + ((m 102 (m 111 l5.toNatClampNeg).toNatClampNeg) + (1 : Int32)).toInt := i_add (by omega) (by omega) | have b159 := i_bd (l5 + ((m 102 (m 111 l5.toNatClampNeg).toNatClampNeg) + (1 : Int32)))
                exact IH (l6.toInt - (l5 + ((m 102 (m 111 l5.toNatClampNeg).toNatClampNeg) + (1 : Int32))).toInt).toNat (by omega) _ (l1) (l2) ((0 : Int32)) (l4) ((l5 + ((m 102 (m 111 l5.toNatClampNeg).toNatClampNeg) + (1 : Int32)))) (l6) rfl (zF_zov hF ws_234_235) hV_m15 (by omega) (by omega) (show -1 ≤ l2.toInt ∧ l2.toInt < (m 94 64).toInt from by omega) (by omega) (show l4.toInt < (m 94 64).toInt from by omega) (by omega) (by omega) (by omega) r_MD r_W r_GW r_GU r_OW r_DX r_RG (show (m 94 10).toInt = 6 from by omega)
        · skip
          have g160 := i_nle h42
          try have rpr := r_RG.2.2.2.1
          try have rsi := r_RG.1
          try have rrg := r_RG.2.1
          try have rml := RG_ml (r := l4) r_RG (by have := rs_94_18 hV; omega) (by have := rs_94_64 hV; omega)
          try have rml2 := RG_ml (r := l2) r_RG (by have := rs_94_18 hV; omega) (by have := rs_94_64 hV; omega)
          have b161 := i_bd l1
          have b162 := i_bd l2
          have b163 := i_bd l4
          first | have e164 : (l5 + (1 : Int32)).toInt = l5.toInt + (1) := i_addk rfl (by omega) (by omega) | have b165 := i_bd (l5 + (1 : Int32))
          exact IH (l6.toInt - (l5 + (1 : Int32)).toInt).toNat (by omega) _ (l1) (l2) (l3) (l4) ((l5 + (1 : Int32))) (l6) rfl hF hV (by omega) (by omega) (show -1 ≤ l2.toInt ∧ l2.toInt < (m 94 64).toInt from by omega) (by omega) (show l4.toInt < (m 94 64).toInt from by omega) (by omega) (by omega) (by omega) r_MD r_W r_GW r_GU r_OW r_DX r_RG (show (m 94 10).toInt = 6 from by omega)
theorem lp_235_161 {X : Nat × (Nat → Int32)} {P : Option ma_V → (Nat → Nat → Int32) → Prop} {T : Nat} {m0 : Nat → Nat → Int32} (h0 : zV m0) (K : ∀ v m₉, zF wr_235 m0 m₉ → zV m₉ → (zGW T (m₉ 94 55) (m₉ 109)) → (zGU T (m₉ 94 46) (m₉ 99)) → (zOw (m₉ 99) (m₉ 103) (m₉ 111)) → (zDX (m₉ 94 10) (m₉ 99) (m₉ 112) (m₉ 113) (m₉ 114) (m₉ 94 55) (m₉ 98) (m₉ 101) (m₉ 102) (m₉ 108)) → (zRG1 (m₉ 94 18) (m₉ 94 64) (m₉ 94 63) (m₉ 99) (m₉ 103) (m₉ 102) (m₉ 116)) → P (some (.inl v)) m₉) : ∀ (n : Nat) (m : Nat → Nat → Int32) (l1 : Int32) (l2 : Int32) (l3 : Int32) (l4 : Int32), (((128 - cnt (m 124) 128 : Nat) : Int)).toNat = n → zF wr_235 m0 m → zV m → (0 ≤ l3.toInt) → (l3.toInt ≤ 1) → (-1 ≤ l2.toInt ∧ l2.toInt < (m 94 64).toInt) → (l4.toInt = -1 ∨ (0 ≤ l4.toInt ∧ l4.toInt < (m 94 64).toInt ∧ (m 124) l4.toNatClampNeg = 0)) → (zW (m 94 7) (m 98) (m 101) (m 102) (m 108)) → (zGW T (m 94 55) (m 109)) → (zGU T (m 94 46) (m 99)) → (zOw (m 99) (m 103) (m 111)) → (zDX (m 94 10) (m 99) (m 112) (m 113) (m 114) (m 94 55) (m 98) (m 101) (m 102) (m 108)) → (zRG1 (m 94 18) (m 94 64) (m 94 63) (m 99) (m 103) (m 102) (m 116)) → ((m 94 10).toInt = 6) → zm X 5 108 235 161 [(0, .inr (.inr (some 94))), (1, .inl l1), (2, .inl l2), (3, .inl l3), (4, .inl l4)] m P := by
  intro n
  induction n using Nat.strongRecOn with
  | _ n IH =>
    intro m l1 l2 l3 l4 hmu hF hV hi0 hi1 hi2 r_SP r_W r_GW r_GU r_OW r_DX r_RG hi10
    refine g_235_161 l1 l2 l3 l4 ?_
    have f1 : 0 ≤ (m 94 64).toInt ∧ (m 94 64).toInt ≤ 93 := rs_94_64 (m := m) hV
    have f2 : 0 ≤ (m 94 10).toInt ∧ (m 94 10).toInt ≤ 6 := rs_94_10 (m := m) hV
    have b3 := i_bd l4
    have li4 : (0 : Int32).toInt = 0 := rfl
    refine zd (fun (h5 : l4 < (0 : Int32)) => ?_) (fun (h5 : ¬ l4 < (0 : Int32)) => ?_)
    · skip
      have g6 := i_lt h5
      have b7 := i_bd l2
      refine zd (fun (h8 : l2 < (0 : Int32)) => ?_) (fun (h8 : ¬ l2 < (0 : Int32)) => ?_)
      · skip
        have g9 := i_lt h8
        have f10 : 0 ≤ (m 94 63).toInt ∧ (m 94 63).toInt ≤ 127 := rs_94_63 (m := m) hV
        try have rpr := r_RG.2.2.2.1
        try have rsi := r_RG.1
        try have rrg := r_RG.2.1
        try have rml := RG_ml (r := l4) r_RG (by have := rs_94_18 hV; omega) (by have := rs_94_64 hV; omega)
        try have rml2 := RG_ml (r := l2) r_RG (by have := rs_94_18 hV; omega) (by have := rs_94_64 hV; omega)
        have hg11 : (0 ≤ (m 94 63) ∧ (m 94 63).toNatClampNeg < 128) := i_ix (by omega) (by omega)
        refine ⟨hg11, ?_⟩
        first | have f12 : 0 ≤ (m 116 (m 94 63).toNatClampNeg).toInt ∧ (m 116 (m 94 63).toNatClampNeg).toInt ≤ 4600 := ra_116 (m := m) hV (k := (m 94 63).toNatClampNeg) (i_ix (n := 128) (by omega) (by omega)).2 | have b13 := i_bd (m 116 (m 94 63).toNatClampNeg)
        refine zd (fun (h14 : (m 116 (m 94 63).toNatClampNeg) = (0 : Int32)) => ?_) (fun (h14 : ¬ (m 116 (m 94 63).toNatClampNeg) = (0 : Int32)) => ?_)
        · skip
          have g15 := i_eq h14
          refine sp_234  hV  (fun v2 m1 hV_m1 p0_m1 => zmi_n ?_)
          have p0_m1 : zLE (m 116) (m 94 64) v2 := p0_m1
          try have lel := LE_lo p0_m1
          try have lno := LE_no (pr := m 94 63) p0_m1 (by assumption) (by omega) (by omega)
          try have lrg := RG_LE r_RG p0_m1 (by have := rs_94_18 hV; omega) (by have := rs_94_64 hV; omega)
          try have rpr := r_RG.2.2.2.1
          try have rsi := r_RG.1
          try have rrg := r_RG.2.1
          try have rml := RG_ml (r := l4) r_RG (by have := rs_94_18 hV; omega) (by have := rs_94_64 hV; omega)
          try have rml2 := RG_ml (r := l2) r_RG (by have := rs_94_18 hV; omega) (by have := rs_94_64 hV; omega)
          have b17 := i_bd v2
          have hV16 : zV (ma_u (zov wr_234 m m1) 94 63 v2) := us_94_63 hV_m1 (by omega) (by omega)
          have b18 := i_bd l1
          exact K (l1) _ (zF_u (zF_zov hF ws_234_235) rfl) hV16 r_GW r_GU r_OW r_DX (show zRG1 (m 94 18) (m 94 64) v2 (m 99) (m 103) (m 102) (m 116) from by first | (exact RG_pr r_RG (by omega) (by omega)) | (exact RG_pr r_RG (LE_no p0_m1 (by assumption) (by omega) (by omega)).1 (LE_no p0_m1 (by assumption) (by omega) (by omega)).2) | (exfalso; omega; done) | (exfalso; contradiction; done))
        · skip
          have g19 := i_ne h14
          try have rpr := r_RG.2.2.2.1
          try have rsi := r_RG.1
          try have rrg := r_RG.2.1
          try have rml := RG_ml (r := l4) r_RG (by have := rs_94_18 hV; omega) (by have := rs_94_64 hV; omega)
          try have rml2 := RG_ml (r := l2) r_RG (by have := rs_94_18 hV; omega) (by have := rs_94_64 hV; omega)
          have b20 := i_bd l1
          exact K (l1) _ hF hV r_GW r_GU r_OW r_DX r_RG
      · skip
        have g21 := i_nlt h8
        try have rpr := r_RG.2.2.2.1
        try have rsi := r_RG.1
        try have rrg := r_RG.2.1
        try have rml := RG_ml (r := l4) r_RG (by have := rs_94_18 hV; omega) (by have := rs_94_64 hV; omega)
        try have rml2 := RG_ml (r := l2) r_RG (by have := rs_94_18 hV; omega) (by have := rs_94_64 hV; omega)
        have hV22 : zV (ma_u m 94 63 l2) := us_94_63 hV (by omega) (by omega)
        have b23 := i_bd l1
        exact K (l1) _ (zF_u hF rfl) hV22 r_GW r_GU r_OW r_DX (show zRG1 (m 94 18) (m 94 64) l2 (m 99) (m 103) (m 102) (m 116) from by first | (exact RG_pr r_RG (by omega) (by omega)) | (exfalso; omega; done) | (exfalso; contradiction; done))
    · skip
      have g24 := i_nlt h5
      have b25 := i_bd l3
      refine zd (fun (h26 : l3 = (0 : Int32)) => ?_) (fun (h26 : ¬ l3 = (0 : Int32)) => ?_)
      · skip
        have g27 := i_eq h26
        have b28 := i_bd l2
        refine zd (fun (h29 : l2 < (0 : Int32)) => ?_) (fun (h29 : ¬ l2 < (0 : Int32)) => ?_)
        · skip
          have g30 := i_lt h29
          have f31 : 0 ≤ (m 94 63).toInt ∧ (m 94 63).toInt ≤ 127 := rs_94_63 (m := m) hV
          try have rpr := r_RG.2.2.2.1
          try have rsi := r_RG.1
          try have rrg := r_RG.2.1
          try have rml := RG_ml (r := l4) r_RG (by have := rs_94_18 hV; omega) (by have := rs_94_64 hV; omega)
          try have rml2 := RG_ml (r := l2) r_RG (by have := rs_94_18 hV; omega) (by have := rs_94_64 hV; omega)
          have hg32 : (0 ≤ (m 94 63) ∧ (m 94 63).toNatClampNeg < 128) := i_ix (by omega) (by omega)
          refine ⟨hg32, ?_⟩
          first | have f33 : 0 ≤ (m 116 (m 94 63).toNatClampNeg).toInt ∧ (m 116 (m 94 63).toNatClampNeg).toInt ≤ 4600 := ra_116 (m := m) hV (k := (m 94 63).toNatClampNeg) (i_ix (n := 128) (by omega) (by omega)).2 | have b34 := i_bd (m 116 (m 94 63).toNatClampNeg)
          refine zd (fun (h35 : (m 116 (m 94 63).toNatClampNeg) = (0 : Int32)) => ?_) (fun (h35 : ¬ (m 116 (m 94 63).toNatClampNeg) = (0 : Int32)) => ?_)
          · skip
            have g36 := i_eq h35
            refine sp_234  hV  (fun v4 m3 hV_m3 p0_m3 => zmi_n ?_)
            have p0_m3 : zLE (m 116) (m 94 64) v4 := p0_m3
            try have lel := LE_lo p0_m3
            try have lno := LE_no (pr := m 94 63) p0_m3 (by assumption) (by omega) (by omega)
            try have lrg := RG_LE r_RG p0_m3 (by have := rs_94_18 hV; omega) (by have := rs_94_64 hV; omega)
            try have rpr := r_RG.2.2.2.1
            try have rsi := r_RG.1
            try have rrg := r_RG.2.1
            try have rml := RG_ml (r := l4) r_RG (by have := rs_94_18 hV; omega) (by have := rs_94_64 hV; omega)
            try have rml2 := RG_ml (r := l2) r_RG (by have := rs_94_18 hV; omega) (by have := rs_94_64 hV; omega)
            have b38 := i_bd v4
            have hV37 : zV (ma_u (zov wr_234 m m3) 94 63 v4) := us_94_63 hV_m3 (by omega) (by omega)
            have b39 := i_bd l1
            exact K (l1) _ (zF_u (zF_zov hF ws_234_235) rfl) hV37 r_GW r_GU r_OW r_DX (show zRG1 (m 94 18) (m 94 64) v4 (m 99) (m 103) (m 102) (m 116) from by first | (exact RG_pr r_RG (by omega) (by omega)) | (exact RG_pr r_RG (LE_no p0_m3 (by assumption) (by omega) (by omega)).1 (LE_no p0_m3 (by assumption) (by omega) (by omega)).2) | (exfalso; omega; done) | (exfalso; contradiction; done))
          · skip
            have g40 := i_ne h35
            try have rpr := r_RG.2.2.2.1
            try have rsi := r_RG.1
            try have rrg := r_RG.2.1
            try have rml := RG_ml (r := l4) r_RG (by have := rs_94_18 hV; omega) (by have := rs_94_64 hV; omega)
            try have rml2 := RG_ml (r := l2) r_RG (by have := rs_94_18 hV; omega) (by have := rs_94_64 hV; omega)
            have b41 := i_bd l1
            exact K (l1) _ hF hV r_GW r_GU r_OW r_DX r_RG
        · skip
          have g42 := i_nlt h29
          try have rpr := r_RG.2.2.2.1
          try have rsi := r_RG.1
          try have rrg := r_RG.2.1
          try have rml := RG_ml (r := l4) r_RG (by have := rs_94_18 hV; omega) (by have := rs_94_64 hV; omega)
          try have rml2 := RG_ml (r := l2) r_RG (by have := rs_94_18 hV; omega) (by have := rs_94_64 hV; omega)
          have hV43 : zV (ma_u m 94 63 l2) := us_94_63 hV (by omega) (by omega)
          have b44 := i_bd l1
          exact K (l1) _ (zF_u hF rfl) hV43 r_GW r_GU r_OW r_DX (show zRG1 (m 94 18) (m 94 64) l2 (m 99) (m 103) (m 102) (m 116) from by first | (exact RG_pr r_RG (by omega) (by omega)) | (exfalso; omega; done) | (exfalso; contradiction; done))
      · skip
        have g45 := i_ne h26
        try have rpr := r_RG.2.2.2.1
        try have rsi := r_RG.1
        try have rrg := r_RG.2.1
        try have rml := RG_ml (r := l4) r_RG (by have := rs_94_18 hV; omega) (by have := rs_94_64 hV; omega)
        try have rml2 := RG_ml (r := l2) r_RG (by have := rs_94_18 hV; omega) (by have := rs_94_64 hV; omega)
        try have sp4 := r_SP
        have hg46 : (0 ≤ l4 ∧ l4.toNatClampNeg < 128) := i_ix (by omega) (by omega)
        refine ⟨hg46, ?_⟩
        try have rpr := r_RG.2.2.2.1
        try have rsi := r_RG.1
        try have rrg := r_RG.2.1
        try have rml := RG_ml (r := l4) r_RG (by have := rs_94_18 hV; omega) (by have := rs_94_64 hV; omega)
        try have rml2 := RG_ml (r := l2) r_RG (by have := rs_94_18 hV; omega) (by have := rs_94_64 hV; omega)
        have hg47 : (0 ≤ l4 ∧ l4.toNatClampNeg < 128) := i_ix (by omega) (by omega)
        refine ⟨hg47, ?_⟩
        try have rpr := r_RG.2.2.2.1
        try have rsi := r_RG.1
        try have rrg := r_RG.2.1
        try have rml := RG_ml (r := l4) r_RG (by have := rs_94_18 hV; omega) (by have := rs_94_64 hV; omega)
        try have rml2 := RG_ml (r := l2) r_RG (by have := rs_94_18 hV; omega) (by have := rs_94_64 hV; omega)
        have li49 : (1 : Int32).toInt = 1 := rfl
        have hV48 : zV (ma_u m 124 l4.toNatClampNeg (1 : Int32)) := ua_124 hV (by omega) (by omega)
        have b50 := i_bd l1
        have b51 := i_bd l2
        have f52 : 0 ≤ (m 94 18).toInt ∧ (m 94 18).toInt ≤ 256 := rs_94_18 (m := m) hV
        first | have f53 := i_muln (x := l4) (y := (m 94 18)) (by omega) (by omega) (by omega) (by omega) | have b54 := i_bd (l4 * (m 94 18))
        first | have f55 : 0 ≤ (m 116 l4.toNatClampNeg).toInt ∧ (m 116 l4.toNatClampNeg).toInt ≤ 4600 := ra_116 (m := m) hV (k := l4.toNatClampNeg) (i_ix (n := 128) (by omega) (by omega)).2 | have b56 := i_bd (m 116 l4.toNatClampNeg)
        first | have e57 : ((l4 * (m 94 18)) + (m 116 l4.toNatClampNeg)).toInt = (l4 * (m 94 18)).toInt + (m 116 l4.toNatClampNeg).toInt := i_add (by omega) (by omega) | have b58 := i_bd ((l4 * (m 94 18)) + (m 116 l4.toNatClampNeg))
        exact lp_235_199 h0 K (fun _ _ _ _ _ z1 z2 z3 y0 y1 y2 y3 y4 y5 y6 y7 y8 y9 y10 => IH _ z1 _ _ _ _ _ rfl z2 z3 y0 y1 y2 y3 y4 y5 y6 y7 y8 y9 y10) _ _ (l1) (l2) (l3) (l4) ((l4 * (m 94 18))) (((l4 * (m 94 18)) + (m 116 l4.toNatClampNeg))) rfl (zF_u hF rfl) hV48 (by omega) (by omega) (show -1 ≤ l2.toInt ∧ l2.toInt < (m 94 64).toInt from by omega) (by omega) (show l4.toInt < (m 94 64).toInt from by omega) (by omega) (by omega) (by omega) (show 128 - cnt ((ma_u m 124 l4.toNatClampNeg (1 : Int32)) 124) 128 < n from by first | (have zq := dn_lt (m := m) (c := 124) (k := l4.toNatClampNeg) (n := 128) (x := (1 : Int32)) (by omega) (by rcases r_SP with z | z; omega; exact z.2.2) (by decide); omega; done) | (exfalso; omega; done) | (exfalso; contradiction; done)) r_W r_GW r_GU r_OW r_DX r_RG (show (m 94 10).toInt = 6 from by omega)
theorem lp_235_121 {X : Nat × (Nat → Int32)} {P : Option ma_V → (Nat → Nat → Int32) → Prop} {T : Nat} {m0 : Nat → Nat → Int32} (h0 : zV m0) (K : ∀ v m₉, zF wr_235 m0 m₉ → zV m₉ → (zGW T (m₉ 94 55) (m₉ 109)) → (zGU T (m₉ 94 46) (m₉ 99)) → (zOw (m₉ 99) (m₉ 103) (m₉ 111)) → (zDX (m₉ 94 10) (m₉ 99) (m₉ 112) (m₉ 113) (m₉ 114) (m₉ 94 55) (m₉ 98) (m₉ 101) (m₉ 102) (m₉ 108)) → (zRG1 (m₉ 94 18) (m₉ 94 64) (m₉ 94 63) (m₉ 99) (m₉ 103) (m₉ 102) (m₉ 116)) → P (some (.inl v)) m₉) : ∀ (n : Nat) (m : Nat → Nat → Int32) (l1 : Int32) (l2 : Int32), (128 - l2.toInt).toNat = n → zF wr_235 m0 m → zV m → (0 ≤ l2.toInt) → (zW (m 94 7) (m 98) (m 101) (m 102) (m 108)) → (zGW T (m 94 55) (m 109)) → (zGU T (m 94 46) (m 99)) → (zOw (m 99) (m 103) (m 111)) → (zDX (m 94 10) (m 99) (m 112) (m 113) (m 114) (m 94 55) (m 98) (m 101) (m 102) (m 108)) → (zRG1 (m 94 18) (m 94 64) (m 94 63) (m 99) (m 103) (m 102) (m 116)) → ((m 94 10).toInt = 6) → zm X 5 108 235 121 [(0, .inr (.inr (some 94))), (1, .inl l1), (2, .inl l2)] m P := by
  intro n
  induction n using Nat.strongRecOn with
  | _ n IH =>
    intro m l1 l2 hmu hF hV hi0 r_W r_GW r_GU r_OW r_DX r_RG hi7
    refine g_235_121 l1 l2 ?_
    have f1 : 0 ≤ (m 94 10).toInt ∧ (m 94 10).toInt ≤ 6 := rs_94_10 (m := m) hV
    have f2 : 0 ≤ (m 94 64).toInt ∧ (m 94 64).toInt ≤ 93 := rs_94_64 (m := m) hV
    have b3 := i_bd l2
    refine zd (fun (h4 : (m 94 64) ≤ l2) => ?_) (fun (h4 : ¬ (m 94 64) ≤ l2) => ?_)
    · skip
      have g5 := i_le h4
      refine sp_236  hV  (fun v2 m1 hV_m1 p0_m1 => zmi_n ?_)
      have p0_m1 : v2.toInt = -1 ∨ (0 ≤ v2.toInt ∧ v2.toInt < (m 94 64).toInt ∧ (m 124) v2.toNatClampNeg = 0) := p0_m1
      try have rpr := r_RG.2.2.2.1
      try have rsi := r_RG.1
      try have rrg := r_RG.2.1
      skip
      try have rml2 := RG_ml (r := l2) r_RG (by have := rs_94_18 hV; omega) (by have := rs_94_64 hV; omega)
      have b6 := i_bd l1
      have li7 : (-1 : Int32).toInt = -1 := rfl
      have li8 : (1 : Int32).toInt = 1 := rfl
      have b9 := i_bd v2
      exact lp_235_161 h0 K _ _ (l1) ((-1 : Int32)) ((1 : Int32)) (v2) rfl (zF_zov hF ws_236_235) hV_m1 (by omega) (by omega) (show -1 ≤ (-1 : Int32).toInt ∧ (-1 : Int32).toInt < (m 94 64).toInt from by omega) p0_m1 r_W r_GW r_GU r_OW r_DX r_RG (show (m 94 10).toInt = 6 from by omega)
    · skip
      have g10 := i_nle h4
      skip
      try have rsi := r_RG.1
      skip
      have hg11 : (0 ≤ l2 ∧ l2.toNatClampNeg < 128) := i_ix (by omega) (by omega)
      refine ⟨hg11, ?_⟩
      have b12 := i_bd (m 122 l2.toNatClampNeg)
      have li13 : (0 : Int32).toInt = 0 := rfl
      refine zd (fun (h14 : (m 122 l2.toNatClampNeg) = (0 : Int32)) => ?_) (fun (h14 : ¬ (m 122 l2.toNatClampNeg) = (0 : Int32)) => ?_)
      · skip
        have g15 := i_eq h14
        try have rpr := r_RG.2.2.2.1
        try have rsi := r_RG.1
        try have rrg := r_RG.2.1
        skip
        try have rml2 := RG_ml (r := l2) r_RG (by have := rs_94_18 hV; omega) (by have := rs_94_64 hV; omega)
        have hg16 : (0 ≤ l2 ∧ l2.toNatClampNeg < 128) := i_ix (by omega) (by omega)
        refine ⟨hg16, ?_⟩
        try have rpr := r_RG.2.2.2.1
        try have rsi := r_RG.1
        try have rrg := r_RG.2.1
        skip
        try have rml2 := RG_ml (r := l2) r_RG (by have := rs_94_18 hV; omega) (by have := rs_94_64 hV; omega)
        have hV17 : zV (ma_u m 116 l2.toNatClampNeg (0 : Int32)) := ua_116 hV (by omega) (by omega)
        have b18 := i_bd l1
        first | have e19 : (l2 + (1 : Int32)).toInt = l2.toInt + (1) := i_addk rfl (by omega) (by omega) | have b20 := i_bd (l2 + (1 : Int32))
        exact IH (128 - (l2 + (1 : Int32)).toInt).toNat (by omega) _ (l1) ((l2 + (1 : Int32))) rfl (zF_u hF rfl) hV17 (by omega) r_W r_GW r_GU r_OW r_DX (show zRG1 (m 94 18) (m 94 64) (m 94 63) (m 99) (m 103) (m 102) ((ma_u m 116 l2.toNatClampNeg (0 : Int32)) 116) from by first | (exact RG_put r_RG (by omega)) | (exfalso; omega; done) | (exfalso; contradiction; done)) (show (m 94 10).toInt = 6 from by omega)
      · skip
        have g21 := i_ne h14
        try have rpr := r_RG.2.2.2.1
        try have rsi := r_RG.1
        try have rrg := r_RG.2.1
        skip
        try have rml2 := RG_ml (r := l2) r_RG (by have := rs_94_18 hV; omega) (by have := rs_94_64 hV; omega)
        have b22 := i_bd l1
        first | have e23 : (l2 + (1 : Int32)).toInt = l2.toInt + (1) := i_addk rfl (by omega) (by omega) | have b24 := i_bd (l2 + (1 : Int32))
        exact IH (128 - (l2 + (1 : Int32)).toInt).toNat (by omega) _ (l1) ((l2 + (1 : Int32))) rfl hF hV (by omega) r_W r_GW r_GU r_OW r_DX r_RG (show (m 94 10).toInt = 6 from by omega)
theorem lp_235_44 {X : Nat × (Nat → Int32)} {P : Option ma_V → (Nat → Nat → Int32) → Prop} {T : Nat} {m0 : Nat → Nat → Int32} (h0 : zV m0) (K : ∀ v m₉, zF wr_235 m0 m₉ → zV m₉ → (zGW T (m₉ 94 55) (m₉ 109)) → (zGU T (m₉ 94 46) (m₉ 99)) → (zOw (m₉ 99) (m₉ 103) (m₉ 111)) → (zDX (m₉ 94 10) (m₉ 99) (m₉ 112) (m₉ 113) (m₉ 114) (m₉ 94 55) (m₉ 98) (m₉ 101) (m₉ 102) (m₉ 108)) → (zRG1 (m₉ 94 18) (m₉ 94 64) (m₉ 94 63) (m₉ 99) (m₉ 103) (m₉ 102) (m₉ 116)) → P (some (.inl v)) m₉) : ∀ (n : Nat) (m : Nat → Nat → Int32) (l1 : Int32) (l2 : Int32), (3100 - l2.toInt).toNat = n → zF wr_235 m0 m → zV m → (0 ≤ l2.toInt) → (zW (m 94 7) (m 98) (m 101) (m 102) (m 108)) → (zGW T (m 94 55) (m 109)) → (zGU T (m 94 46) (m 99)) → (zOw (m 99) (m 103) (m 111)) → (zDX (m 94 10) (m 99) (m 112) (m 113) (m 114) (m 94 55) (m 98) (m 101) (m 102) (m 108)) → (zRG1 (m 94 18) (m 94 64) (m 94 63) (m 99) (m 103) (m 102) (m 116)) → ((m 94 10).toInt = 6) → zm X 5 108 235 44 [(0, .inr (.inr (some 94))), (1, .inl l1), (2, .inl l2)] m P := by
  intro n
  induction n using Nat.strongRecOn with
  | _ n IH =>
    intro m l1 l2 hmu hF hV hi0 r_W r_GW r_GU r_OW r_DX r_RG hi7
    refine g_235_44 l1 l2 ?_
    have f1 : 0 ≤ (m 94 10).toInt ∧ (m 94 10).toInt ≤ 6 := rs_94_10 (m := m) hV
    have li2 : (3100 : Int32).toInt = 3100 := rfl
    have b3 := i_bd l2
    refine zd (fun (h4 : (3100 : Int32) ≤ l2) => ?_) (fun (h4 : ¬ (3100 : Int32) ≤ l2) => ?_)
    · skip
      have g5 := i_le h4
      try have rpr := r_RG.2.2.2.1
      try have rsi := r_RG.1
      try have rrg := r_RG.2.1
      skip
      try have rml2 := RG_ml (r := l2) r_RG (by have := rs_94_18 hV; omega) (by have := rs_94_64 hV; omega)
      have b6 := i_bd l1
      have li7 : (0 : Int32).toInt = 0 := rfl
      exact lp_235_121 h0 K _ _ (l1) ((0 : Int32)) rfl hF hV (by omega) r_W r_GW r_GU r_OW r_DX r_RG (show (m 94 10).toInt = 6 from by omega)
    · skip
      have g8 := i_nle h4
      have hg9 : (0 ≤ l2 ∧ l2.toNatClampNeg < 3100) := i_ix (by omega) (by omega)
      refine ⟨hg9, ?_⟩
      first | have f10 : 0 ≤ (m 99 l2.toNatClampNeg).toInt ∧ (m 99 l2.toNatClampNeg).toInt ≤ 1 := ra_99 (m := m) hV (k := l2.toNatClampNeg) (i_ix (n := 3100) (by omega) (by omega)).2 | have b11 := i_bd (m 99 l2.toNatClampNeg)
      have li12 : (0 : Int32).toInt = 0 := rfl
      refine zd (fun (h13 : (m 99 l2.toNatClampNeg) = (0 : Int32)) => ?_) (fun (h13 : ¬ (m 99 l2.toNatClampNeg) = (0 : Int32)) => ?_)
      · skip
        have g14 := i_eq h13
        try have rpr := r_RG.2.2.2.1
        try have rsi := r_RG.1
        try have rrg := r_RG.2.1
        skip
        try have rml2 := RG_ml (r := l2) r_RG (by have := rs_94_18 hV; omega) (by have := rs_94_64 hV; omega)
        have b15 := i_bd l1
        first | have e16 : (l2 + (1 : Int32)).toInt = l2.toInt + (1) := i_addk rfl (by omega) (by omega) | have b17 := i_bd (l2 + (1 : Int32))
        exact IH (3100 - (l2 + (1 : Int32)).toInt).toNat (by omega) _ (l1) ((l2 + (1 : Int32))) rfl hF hV (by omega) r_W r_GW r_GU r_OW r_DX r_RG (show (m 94 10).toInt = 6 from by omega)
      · skip
        have g18 := i_ne h13
        try have rpr := r_RG.2.2.2.1
        try have rsi := r_RG.1
        try have rrg := r_RG.2.1
        skip
        try have rml2 := RG_ml (r := l2) r_RG (by have := rs_94_18 hV; omega) (by have := rs_94_64 hV; omega)
        have hg19 : (0 ≤ l2 ∧ l2.toNatClampNeg < 3100) := i_ix (by omega) (by omega)
        refine ⟨hg19, ?_⟩
        have f20 : 0 ≤ (m 94 18).toInt ∧ (m 94 18).toInt ≤ 256 := rs_94_18 (m := m) hV
        have hg21 : (m 94 18) ≠ 0 := i_nz (by omega)
        refine ⟨hg21, ?_⟩
        first | have f22 : 0 ≤ (m 103 l2.toNatClampNeg).toInt ∧ (m 103 l2.toNatClampNeg).toInt ≤ 4599 := ra_103 (m := m) hV (k := l2.toNatClampNeg) (i_ix (n := 3100) (by omega) (by omega)).2 | have b23 := i_bd (m 103 l2.toNatClampNeg)
        first | have f24 := i_div (x := (m 103 l2.toNatClampNeg)) (y := (m 94 18)) (by omega) (by omega) | have b25 := i_bd ((m 103 l2.toNatClampNeg) / (m 94 18))
        try have au := RG_at r_RG (s := l2.toNatClampNeg) (by omega) (by assumption)
        try have rsi := r_RG.1
        try have dv : 0 ≤ (((m 103 l2.toNatClampNeg) / (m 94 18))).toInt ∧ (((m 103 l2.toNatClampNeg) / (m 94 18))).toInt ≤ 93 := i_div16 (by omega) (by omega) (by omega)
        have hg26 : (0 ≤ ((m 103 l2.toNatClampNeg) / (m 94 18)) ∧ ((m 103 l2.toNatClampNeg) / (m 94 18)).toNatClampNeg < 128) := i_ix (by omega) (by omega)
        refine ⟨hg26, ?_⟩
        skip
        skip
        have hg27 : (0 ≤ l2 ∧ l2.toNatClampNeg < 3100) := i_ix (by omega) (by omega)
        refine ⟨hg27, ?_⟩
        try have au := RG_at r_RG (s := l2.toNatClampNeg) (by omega) (by assumption)
        try have rsi := r_RG.1
        try have dv : 0 ≤ (((m 103 l2.toNatClampNeg) / (m 94 18))).toInt ∧ (((m 103 l2.toNatClampNeg) / (m 94 18))).toInt ≤ 93 := i_div16 (by omega) (by omega) (by omega)
        have hg28 : (0 ≤ ((m 103 l2.toNatClampNeg) / (m 94 18)) ∧ ((m 103 l2.toNatClampNeg) / (m 94 18)).toNatClampNeg < 128) := i_ix (by omega) (by omega)
        refine ⟨hg28, ?_⟩
        have hg29 : (0 ≤ l2 ∧ l2.toNatClampNeg < 3100) := i_ix (by omega) (by omega)
        refine ⟨hg29, ?_⟩
        have b30 := i_bd (m 107 l2.toNatClampNeg)
        refine zd (fun (h31 : (m 107 l2.toNatClampNeg) ≤ (0 : Int32)) => ?_) (fun (h31 : ¬ (m 107 l2.toNatClampNeg) ≤ (0 : Int32)) => ?_)
        · skip
          have g32 := i_le h31
          try have rpr := r_RG.2.2.2.1
          try have rsi := r_RG.1
          try have rrg := r_RG.2.1
          skip
          try have rml2 := RG_ml (r := l2) r_RG (by have := rs_94_18 hV; omega) (by have := rs_94_64 hV; omega)
          have hV33 : zV (ma_u m 122 ((m 103 l2.toNatClampNeg) / (m 94 18)).toNatClampNeg ((m 122 ((m 103 l2.toNatClampNeg) / (m 94 18)).toNatClampNeg) + ((m 102 l2.toNatClampNeg) + (1 : Int32)))) := ua_122 hV
          have b34 := i_bd l1
          first | have e35 : (l2 + (1 : Int32)).toInt = l2.toInt + (1) := i_addk rfl (by omega) (by omega) | have b36 := i_bd (l2 + (1 : Int32))
          exact IH (3100 - (l2 + (1 : Int32)).toInt).toNat (by omega) _ (l1) ((l2 + (1 : Int32))) rfl (zF_u hF rfl) hV33 (by omega) r_W r_GW r_GU r_OW r_DX r_RG (show (m 94 10).toInt = 6 from by omega)
        · skip
          have g37 := i_nle h31
          try have rpr := r_RG.2.2.2.1
          try have rsi := r_RG.1
          try have rrg := r_RG.2.1
          skip
          try have rml2 := RG_ml (r := l2) r_RG (by have := rs_94_18 hV; omega) (by have := rs_94_64 hV; omega)
          have hg38 : (0 ≤ l2 ∧ l2.toNatClampNeg < 3100) := i_ix (by omega) (by omega)
          refine ⟨hg38, ?_⟩
          have hg39 : (m 94 18) ≠ 0 := i_nz (by omega)
          refine ⟨hg39, ?_⟩
          try have au := RG_at r_RG (s := l2.toNatClampNeg) (by omega) (by assumption)
          try have rsi := r_RG.1
          try have dv : 0 ≤ (((m 103 l2.toNatClampNeg) / (m 94 18))).toInt ∧ (((m 103 l2.toNatClampNeg) / (m 94 18))).toInt ≤ 93 := i_div16 (by omega) (by omega) (by omega)
          have hg40 : (0 ≤ ((m 103 l2.toNatClampNeg) / (m 94 18)) ∧ ((m 103 l2.toNatClampNeg) / (m 94 18)).toNatClampNeg < 128) := i_ix (by omega) (by omega)
          refine ⟨hg40, ?_⟩
          try have rpr := r_RG.2.2.2.1
          try have rsi := r_RG.1
          try have rrg := r_RG.2.1
          skip
          try have rml2 := RG_ml (r := l2) r_RG (by have := rs_94_18 hV; omega) (by have := rs_94_64 hV; omega)
          have hV41 : zV (ma_u m 122 ((m 103 l2.toNatClampNeg) / (m 94 18)).toNatClampNeg ((m 122 ((m 103 l2.toNatClampNeg) / (m 94 18)).toNatClampNeg) + ((m 102 l2.toNatClampNeg) + (1 : Int32)))) := ua_122 hV
          have li43 : (1 : Int32).toInt = 1 := rfl
          have hV42 : zV (ma_u (ma_u m 122 ((m 103 l2.toNatClampNeg) / (m 94 18)).toNatClampNeg ((m 122 ((m 103 l2.toNatClampNeg) / (m 94 18)).toNatClampNeg) + ((m 102 l2.toNatClampNeg) + (1 : Int32)))) 123 ((m 103 l2.toNatClampNeg) / (m 94 18)).toNatClampNeg (1 : Int32)) := ua_123 hV41 (by omega) (by omega)
          have b44 := i_bd l1
          first | have e45 : (l2 + (1 : Int32)).toInt = l2.toInt + (1) := i_addk rfl (by omega) (by omega) | have b46 := i_bd (l2 + (1 : Int32))
          exact IH (3100 - (l2 + (1 : Int32)).toInt).toNat (by omega) _ (l1) ((l2 + (1 : Int32))) rfl (zF_u (zF_u hF rfl) rfl) hV42 (by omega) r_W r_GW r_GU r_OW r_DX r_RG (show (m 94 10).toInt = 6 from by omega)
theorem lp_235_7 {X : Nat × (Nat → Int32)} {P : Option ma_V → (Nat → Nat → Int32) → Prop} {T : Nat} {m0 : Nat → Nat → Int32} (h0 : zV m0) (K : ∀ v m₉, zF wr_235 m0 m₉ → zV m₉ → (zGW T (m₉ 94 55) (m₉ 109)) → (zGU T (m₉ 94 46) (m₉ 99)) → (zOw (m₉ 99) (m₉ 103) (m₉ 111)) → (zDX (m₉ 94 10) (m₉ 99) (m₉ 112) (m₉ 113) (m₉ 114) (m₉ 94 55) (m₉ 98) (m₉ 101) (m₉ 102) (m₉ 108)) → (zRG1 (m₉ 94 18) (m₉ 94 64) (m₉ 94 63) (m₉ 99) (m₉ 103) (m₉ 102) (m₉ 116)) → P (some (.inl v)) m₉) : ∀ (n : Nat) (m : Nat → Nat → Int32) (l1 : Int32) (l2 : Int32), (128 - l2.toInt).toNat = n → zF wr_235 m0 m → zV m → (0 ≤ l2.toInt) → (zW (m 94 7) (m 98) (m 101) (m 102) (m 108)) → (zGW T (m 94 55) (m 109)) → (zGU T (m 94 46) (m 99)) → (zOw (m 99) (m 103) (m 111)) → (zDX (m 94 10) (m 99) (m 112) (m 113) (m 114) (m 94 55) (m 98) (m 101) (m 102) (m 108)) → (zRG1 (m 94 18) (m 94 64) (m 94 63) (m 99) (m 103) (m 102) (m 116)) → ((m 94 10).toInt = 6) → zm X 5 108 235 7 [(0, .inr (.inr (some 94))), (1, .inl l1), (2, .inl l2)] m P := by
  intro n
  induction n using Nat.strongRecOn with
  | _ n IH =>
    intro m l1 l2 hmu hF hV hi0 r_W r_GW r_GU r_OW r_DX r_RG hi7
    refine g_235_7 l1 l2 ?_
    have f1 : 0 ≤ (m 94 10).toInt ∧ (m 94 10).toInt ≤ 6 := rs_94_10 (m := m) hV
    have f2 : 0 ≤ (m 94 64).toInt ∧ (m 94 64).toInt ≤ 93 := rs_94_64 (m := m) hV
    have b3 := i_bd l2
    refine zd (fun (h4 : (m 94 64) ≤ l2) => ?_) (fun (h4 : ¬ (m 94 64) ≤ l2) => ?_)
    · skip
      have g5 := i_le h4
      try have rpr := r_RG.2.2.2.1
      try have rsi := r_RG.1
      try have rrg := r_RG.2.1
      skip
      try have rml2 := RG_ml (r := l2) r_RG (by have := rs_94_18 hV; omega) (by have := rs_94_64 hV; omega)
      have b6 := i_bd l1
      have li7 : (0 : Int32).toInt = 0 := rfl
      exact lp_235_44 h0 K _ _ (l1) ((0 : Int32)) rfl hF hV (by omega) r_W r_GW r_GU r_OW r_DX r_RG (show (m 94 10).toInt = 6 from by omega)
    · skip
      have g8 := i_nle h4
      skip
      try have rsi := r_RG.1
      skip
      have hg9 : (0 ≤ l2 ∧ l2.toNatClampNeg < 128) := i_ix (by omega) (by omega)
      refine ⟨hg9, ?_⟩
      skip
      try have rsi := r_RG.1
      skip
      have hg10 : (0 ≤ l2 ∧ l2.toNatClampNeg < 128) := i_ix (by omega) (by omega)
      refine ⟨hg10, ?_⟩
      try have rpr := r_RG.2.2.2.1
      try have rsi := r_RG.1
      try have rrg := r_RG.2.1
      skip
      try have rml2 := RG_ml (r := l2) r_RG (by have := rs_94_18 hV; omega) (by have := rs_94_64 hV; omega)
      have hg11 : (0 ≤ l2 ∧ l2.toNatClampNeg < 128) := i_ix (by omega) (by omega)
      refine ⟨hg11, ?_⟩
      try have rpr := r_RG.2.2.2.1
      try have rsi := r_RG.1
      try have rrg := r_RG.2.1
      skip
      try have rml2 := RG_ml (r := l2) r_RG (by have := rs_94_18 hV; omega) (by have := rs_94_64 hV; omega)
      have hV12 : zV (ma_u m 122 l2.toNatClampNeg (0 : Int32)) := ua_122 hV
      have li14 : (0 : Int32).toInt = 0 := rfl
      have hV13 : zV (ma_u (ma_u m 122 l2.toNatClampNeg (0 : Int32)) 123 l2.toNatClampNeg (0 : Int32)) := ua_123 hV12 (by omega) (by omega)
      have hV15 : zV (ma_u (ma_u (ma_u m 122 l2.toNatClampNeg (0 : Int32)) 123 l2.toNatClampNeg (0 : Int32)) 124 l2.toNatClampNeg (0 : Int32)) := ua_124 hV13 (by omega) (by omega)
      have b16 := i_bd l1
      first | have e17 : (l2 + (1 : Int32)).toInt = l2.toInt + (1) := i_addk rfl (by omega) (by omega) | have b18 := i_bd (l2 + (1 : Int32))
      exact IH (128 - (l2 + (1 : Int32)).toInt).toNat (by omega) _ (l1) ((l2 + (1 : Int32))) rfl (zF_u (zF_u (zF_u hF rfl) rfl) rfl) hV15 (by omega) r_W r_GW r_GU r_OW r_DX r_RG (show (m 94 10).toInt = 6 from by omega)
theorem sp_235 {X : Nat × (Nat → Int32)} {P : Option ma_V → (Nat → Nat → Int32) → Prop} {T : Nat} {m : Nat → Nat → Int32}  (hV : zV m) (r_W : zW (m 94 7) (m 98) (m 101) (m 102) (m 108)) (r_GW : zGW T (m 94 55) (m 109)) (r_GU : zGU T (m 94 46) (m 99)) (r_OW : zOw (m 99) (m 103) (m 111)) (r_DX : zDX (m 94 10) (m 99) (m 112) (m 113) (m 114) (m 94 55) (m 98) (m 101) (m 102) (m 108)) (r_RG : zRG1 (m 94 18) (m 94 64) (m 94 63) (m 99) (m 103) (m 102) (m 116)) (hpre6 : (m 94 10).toInt = 6) (KZ : ∀ v m₉, zV (zov wr_235 m m₉) → (zGW T (m₉ 94 55) (m₉ 109)) → (zGU T (m 94 46) (m₉ 99)) → (zOw (m₉ 99) (m₉ 103) (m₉ 111)) → (zDX (m 94 10) (m₉ 99) (m 112) (m₉ 113) (m₉ 114) (m₉ 94 55) (m 98) (m 101) (m 102) (m 108)) → (zRG1 (m 94 18) (m 94 64) (m₉ 94 63) (m₉ 99) (m₉ 103) (m 102) (m₉ 116)) → P (some (.inl v)) (zov wr_235 m m₉)) : zm X 5 108 235 0 [(0, .inr (.inr (some 94)))] m P := by
  have K : ∀ v m₉, zF wr_235 m m₉ → zV m₉ → (zGW T (m₉ 94 55) (m₉ 109)) → (zGU T (m₉ 94 46) (m₉ 99)) → (zOw (m₉ 99) (m₉ 103) (m₉ 111)) → (zDX (m₉ 94 10) (m₉ 99) (m₉ 112) (m₉ 113) (m₉ 114) (m₉ 94 55) (m₉ 98) (m₉ 101) (m₉ 102) (m₉ 108)) → (zRG1 (m₉ 94 18) (m₉ 94 64) (m₉ 94 63) (m₉ 99) (m₉ 103) (m₉ 102) (m₉ 116)) → P (some (.inl v)) m₉ := by
    intro v m₉ hf z q0 q1 q2 q3 q4
    have e := zov_eq hf
    rw [e] at z ⊢
    try rw [e] at q0
    try rw [e] at q1
    try rw [e] at q2
    try rw [e] at q3
    try rw [e] at q4
    exact KZ v m₉ z q0 q1 q2 q3 q4
  refine g_235_0  ?_
  have f1 : 0 ≤ (m 94 10).toInt ∧ (m 94 10).toInt ≤ 6 := rs_94_10 (m := m) hV
  refine sp_187  hV r_W r_GW r_GU r_OW r_DX (fun v2 m1 hV_m1 p0_m1 p1_m1 p2_m1 p3_m1 p4_m1 => zmi_n ?_)
  have p0_m1 : zGW T (m1 94 55) (m1 109) := p0_m1
  have p1_m1 : zGU T (m 94 46) (m1 99) := p1_m1
  have p2_m1 : zOw (m1 99) (m 103) (m1 111) := p2_m1
  have p3_m1 : zDX (m 94 10) (m1 99) (m 112) (m1 113) (m1 114) (m1 94 55) (m 98) (m 101) (m 102) (m 108) := p3_m1
  have p4_m1 : zsw (m 99) (m1 99) (m 111) (m1 111) (m 103) := p4_m1
  try have rpr := r_RG.2.2.2.1
  try have rsi := r_RG.1
  try have rrg := r_RG.2.1
  skip
  skip
  have b2 := i_bd v2
  have li3 : (0 : Int32).toInt = 0 := rfl
  exact lp_235_7 hV K _ _ (v2) ((0 : Int32)) rfl (zF_zov zF_rfl ws_187_235) hV_m1 (by omega) r_W p0_m1 p1_m1 p2_m1 p3_m1 (show zRG1 (m 94 18) (m 94 64) (m 94 63) (m1 99) (m 103) (m 102) (m 116) from by first | (exact RG_sub r_RG p4_m1.1) | (exfalso; omega; done) | (exfalso; contradiction; done)) (show (m 94 10).toInt = 6 from by omega)

/-! from 94.437 -/
/-! by regions: room is found -/
section RG3
variable {m : Nat → Nat → Int32} {c k : Nat} {si rg pr x v : Int32} {us at₉ ws rt : Nat → Int32}
/-- some words of the present region are taken -/
theorem RG_take (h : zRG1 si rg pr us at₉ ws rt) (hs : si.toInt ≤ 256) (hr : rg.toInt ≤ 93) : 0 ≤ (pr * si).toInt ∧ (pr * si).toInt + si.toInt ≤ 1500 ∧ (pr * si).toInt + si.toInt ≤ rg.toInt * si.toInt ∧ (rt pr.toNatClampNeg).toInt ≤ si.toInt := by
  have b := RG_mul h h.2.2.2.1.1 h.2.2.2.1.2 hs hr
  exact ⟨b.1, b.2.1, b.2.2, RG_top h h.2.2.2.1.1 h.2.2.2.1.2⟩
end RG3
theorem LE_some {rt : Nat → Int32} {rg v : Int32} (h : zLE rt rg v) : 0 ≤ v.toInt → ∃ r : Nat, (r : Int) < rg.toInt ∧ rt r = 0 := fun z => ⟨v.toNatClampNeg, by rw [tn_cast z]; exact (LE_ge h z).1, (LE_ge h z).2⟩

/-! from 94.438 -/
/-! the reference (written by wip/tools/gen94m.py) -/
set_option maxRecDepth 100000 in
theorem hm_232 : ma_md 232 = some (12, yX12_findInRegion, cX12_findInRegion, 3, (some (FieldType.int))) := rfl
theorem dX12_findInRegion_0 : decode cX12_findInRegion 0 = .ok (.aload_n 0, 1) := by decide +kernel
theorem dX12_findInRegion_4 : decode cX12_findInRegion 4 = .ok (.aload_n 0, 1) := by decide +kernel
theorem dX12_findInRegion_9 : decode cX12_findInRegion 9 = .ok (.iload_n 1, 1) := by decide +kernel
theorem dX12_findInRegion_10 : decode cX12_findInRegion 10 = .ok (.iadd, 1) := by decide +kernel
theorem dX12_findInRegion_11 : decode cX12_findInRegion 11 = .ok (.aload_n 0, 1) := by decide +kernel
theorem dX12_findInRegion_20 : decode cX12_findInRegion 20 = .ok (.aload_n 0, 1) := by decide +kernel
theorem dX12_findInRegion_24 : decode cX12_findInRegion 24 = .ok (.aload_n 0, 1) := by decide +kernel
theorem dX12_findInRegion_28 : decode cX12_findInRegion 28 = .ok (.imul, 1) := by decide +kernel
theorem dX12_findInRegion_29 : decode cX12_findInRegion 29 = .ok (.aload_n 0, 1) := by decide +kernel
theorem dX12_findInRegion_33 : decode cX12_findInRegion 33 = .ok (.aload_n 0, 1) := by decide +kernel
theorem dX12_findInRegion_38 : decode cX12_findInRegion 38 = .ok (.iadd, 1) := by decide +kernel
theorem dX12_findInRegion_39 : decode cX12_findInRegion 39 = .ok (.istore_n 2, 1) := by decide +kernel
theorem dX12_findInRegion_40 : decode cX12_findInRegion 40 = .ok (.aload_n 0, 1) := by decide +kernel
theorem dX12_findInRegion_44 : decode cX12_findInRegion 44 = .ok (.aload_n 0, 1) := by decide +kernel
theorem dX12_findInRegion_48 : decode cX12_findInRegion 48 = .ok (.dup2, 1) := by decide +kernel
theorem dX12_findInRegion_50 : decode cX12_findInRegion 50 = .ok (.iload_n 1, 1) := by decide +kernel
theorem dX12_findInRegion_51 : decode cX12_findInRegion 51 = .ok (.iadd, 1) := by decide +kernel
theorem dX12_findInRegion_53 : decode cX12_findInRegion 53 = .ok (.iload_n 2, 1) := by decide +kernel
theorem dX12_findInRegion_54 : decode cX12_findInRegion 54 = .ok (.ireturn, 1) := by decide +kernel
theorem dX12_findInRegion_52 : decode cX12_findInRegion 52 = .ok (.iastore, 1) := by decide +kernel
theorem dX12_findInRegion_49 : decode cX12_findInRegion 49 = .ok (.iaload, 1) := by decide +kernel
theorem dX12_findInRegion_45 : decode cX12_findInRegion 45 = .ok (.getfield 285, 3) := by decide +kernel
theorem dX12_findInRegion_41 : decode cX12_findInRegion 41 = .ok (.getfield 80, 3) := by decide +kernel
theorem dX12_findInRegion_37 : decode cX12_findInRegion 37 = .ok (.iaload, 1) := by decide +kernel
theorem dX12_findInRegion_34 : decode cX12_findInRegion 34 = .ok (.getfield 285, 3) := by decide +kernel
theorem dX12_findInRegion_30 : decode cX12_findInRegion 30 = .ok (.getfield 80, 3) := by decide +kernel
theorem dX12_findInRegion_25 : decode cX12_findInRegion 25 = .ok (.getfield 222, 3) := by decide +kernel
theorem dX12_findInRegion_21 : decode cX12_findInRegion 21 = .ok (.getfield 285, 3) := by decide +kernel
theorem dX12_findInRegion_18 : decode cX12_findInRegion 18 = .ok (.iconst (-1), 1) := by decide +kernel
theorem dX12_findInRegion_19 : decode cX12_findInRegion 19 = .ok (.ireturn, 1) := by decide +kernel
theorem dX12_findInRegion_15 : decode cX12_findInRegion 15 = .ok (.if_icmp .le 5, 3) := by decide +kernel
theorem dX12_findInRegion_12 : decode cX12_findInRegion 12 = .ok (.getfield 222, 3) := by decide +kernel
theorem dX12_findInRegion_8 : decode cX12_findInRegion 8 = .ok (.iaload, 1) := by decide +kernel
theorem dX12_findInRegion_5 : decode cX12_findInRegion 5 = .ok (.getfield 285, 3) := by decide +kernel
theorem dX12_findInRegion_1 : decode cX12_findInRegion 1 = .ok (.getfield 80, 3) := by decide +kernel
def wr_232 (c _ : Nat) : Bool := Nat.beq c 116
theorem g_232_0 {X : Nat × (Nat → Int32)} {m : Nat → Nat → Int32} {P : Option ma_V → (Nat → Nat → Int32) → Prop} (nw : Int32) (h : (0 ≤ (m 94 63) ∧ (m 94 63).toNatClampNeg < 128) ∧ (if ((m 116 (m 94 63).toNatClampNeg) + nw) ≤ (m 94 18) then ((0 ≤ (m 94 63) ∧ (m 94 63).toNatClampNeg < 128) ∧ ((0 ≤ (m 94 63) ∧ (m 94 63).toNatClampNeg < 128) ∧ ((0 ≤ (m 94 63) ∧ (m 94 63).toNatClampNeg < 128) ∧ (P (some (.inl (((m 94 63) * (m 94 18)) + (m 116 (m 94 63).toNatClampNeg)))) (ma_u m 116 (m 94 63).toNatClampNeg ((m 116 (m 94 63).toNatClampNeg) + nw)))))) else (P (some (.inl (-1 : Int32))) m))) : zm X 0 0 232 0 [(0, .inr (.inr (some 94))), (1, .inl nw)] m P := by
  intro d w S Q hd hw hS hm HQ
  subst hm
  refine zw_push hm_232 dX12_findInRegion_0 (v := .inr (.inr (some 94))) rfl ?_
  refine zw_gf hm_232 dX12_findInRegion_1 (v := .inr (.inr (some 116))) (zT_is hS s_94) (zT_t hS s_94) rfl f_12_80_12 (zT_f hS r_94_65) ?_
  refine zw_push hm_232 dX12_findInRegion_4 (v := .inr (.inr (some 94))) rfl ?_
  refine zw_gf hm_232 dX12_findInRegion_5 (v := .inl ((mI S) 94 63)) (zT_is hS s_94) (zT_t hS s_94) rfl f_12_285_12 rfl ?_
  obtain ⟨hg, h⟩ := h
  refine zw_ia hm_232 dX12_findInRegion_8 (zT_is hS s_116) (zT_h hS s_116) rfl hg ?_
  show ma_wp X d w 232 9 [(0, .inr (.inr (some 94))), (1, .inl nw)] [.inl ((mI S) 116 ((mI S) 94 63).toNatClampNeg)] S _
  refine zw_push hm_232 dX12_findInRegion_9 (v := .inl nw) rfl ?_
  refine zw_stk hm_232 dX12_findInRegion_10 (st₉ := [.inl (((mI S) 116 ((mI S) 94 63).toNatClampNeg) + nw)]) rfl rfl ?_
  refine zw_push hm_232 dX12_findInRegion_11 (v := .inr (.inr (some 94))) rfl ?_
  refine zw_gf hm_232 dX12_findInRegion_12 (v := .inl ((mI S) 94 18)) (zT_is hS s_94) (zT_t hS s_94) rfl f_12_222_12 rfl ?_
  refine zw_if2 hm_232 dX12_findInRegion_15 (t := 20) rfl zc2_le ?_ ?_
  · intro hc
    rw [if_pos hc] at h
    refine zw_push hm_232 dX12_findInRegion_20 (v := .inr (.inr (some 94))) rfl ?_
    refine zw_gf hm_232 dX12_findInRegion_21 (v := .inl ((mI S) 94 63)) (zT_is hS s_94) (zT_t hS s_94) rfl f_12_285_12 rfl ?_
    refine zw_push hm_232 dX12_findInRegion_24 (v := .inr (.inr (some 94))) rfl ?_
    refine zw_gf hm_232 dX12_findInRegion_25 (v := .inl ((mI S) 94 18)) (zT_is hS s_94) (zT_t hS s_94) rfl f_12_222_12 rfl ?_
    refine zw_stk hm_232 dX12_findInRegion_28 (st₉ := [.inl (((mI S) 94 63) * ((mI S) 94 18))]) rfl rfl ?_
    refine zw_push hm_232 dX12_findInRegion_29 (v := .inr (.inr (some 94))) rfl ?_
    refine zw_gf hm_232 dX12_findInRegion_30 (v := .inr (.inr (some 116))) (zT_is hS s_94) (zT_t hS s_94) rfl f_12_80_12 (zT_f hS r_94_65) ?_
    refine zw_push hm_232 dX12_findInRegion_33 (v := .inr (.inr (some 94))) rfl ?_
    refine zw_gf hm_232 dX12_findInRegion_34 (v := .inl ((mI S) 94 63)) (zT_is hS s_94) (zT_t hS s_94) rfl f_12_285_12 rfl ?_
    obtain ⟨hg, h⟩ := h
    refine zw_ia hm_232 dX12_findInRegion_37 (zT_is hS s_116) (zT_h hS s_116) rfl hg ?_
    show ma_wp X d w 232 38 [(0, .inr (.inr (some 94))), (1, .inl nw)] [.inl ((mI S) 116 ((mI S) 94 63).toNatClampNeg), .inl (((mI S) 94 63) * ((mI S) 94 18))] S _
    refine zw_stk hm_232 dX12_findInRegion_38 (st₉ := [.inl ((((mI S) 94 63) * ((mI S) 94 18)) + ((mI S) 116 ((mI S) 94 63).toNatClampNeg))]) rfl rfl ?_
    refine zw_sto hm_232 dX12_findInRegion_39 [(2, .inl ((((mI S) 94 63) * ((mI S) 94 18)) + ((mI S) 116 ((mI S) 94 63).toNatClampNeg))), (0, .inr (.inr (some 94))), (1, .inl nw)] rfl rfl rfl ?_
    refine zw_push hm_232 dX12_findInRegion_40 (v := .inr (.inr (some 94))) rfl ?_
    refine zw_gf hm_232 dX12_findInRegion_41 (v := .inr (.inr (some 116))) (zT_is hS s_94) (zT_t hS s_94) rfl f_12_80_12 (zT_f hS r_94_65) ?_
    refine zw_push hm_232 dX12_findInRegion_44 (v := .inr (.inr (some 94))) rfl ?_
    refine zw_gf hm_232 dX12_findInRegion_45 (v := .inl ((mI S) 94 63)) (zT_is hS s_94) (zT_t hS s_94) rfl f_12_285_12 rfl ?_
    refine zw_stk hm_232 dX12_findInRegion_48 (st₉ := [.inl ((mI S) 94 63), .inr (.inr (some 116)), .inl ((mI S) 94 63), .inr (.inr (some 116))]) rfl rfl ?_
    obtain ⟨hg, h⟩ := h
    refine zw_ia hm_232 dX12_findInRegion_49 (zT_is hS s_116) (zT_h hS s_116) rfl hg ?_
    show ma_wp X d w 232 50 [(2, .inl ((((mI S) 94 63) * ((mI S) 94 18)) + ((mI S) 116 ((mI S) 94 63).toNatClampNeg))), (0, .inr (.inr (some 94))), (1, .inl nw)] [.inl ((mI S) 116 ((mI S) 94 63).toNatClampNeg), .inl ((mI S) 94 63), .inr (.inr (some 116))] S _
    refine zw_push hm_232 dX12_findInRegion_50 (v := .inl nw) rfl ?_
    refine zw_stk hm_232 dX12_findInRegion_51 (st₉ := [.inl (((mI S) 116 ((mI S) 94 63).toNatClampNeg) + nw), .inl ((mI S) 94 63), .inr (.inr (some 116))]) rfl rfl ?_
    obtain ⟨hg, h⟩ := h
    refine zw_ias hm_232 dX12_findInRegion_52 (zT_is hS s_116) (zT_h hS s_116) rfl hg ?_
    refine zw_push hm_232 dX12_findInRegion_53 (v := .inl ((((mI S) 94 63) * ((mI S) 94 18)) + ((mI S) 116 ((mI S) 94 63).toNatClampNeg))) rfl ?_
    exact zw_iret hm_232 dX12_findInRegion_54 (HQ _ _ h)
  · intro hc
    rw [if_neg hc] at h
    refine zw_push hm_232 dX12_findInRegion_18 (v := .inl (-1 : Int32)) rfl ?_
    exact zw_iret hm_232 dX12_findInRegion_19 (HQ _ _ h)
theorem sp_232 {X : Nat × (Nat → Int32)} {P : Option ma_V → (Nat → Nat → Int32) → Prop} {m : Nat → Nat → Int32} (nw : Int32) (hV : zV m) (hpre0 : 1 ≤ nw.toInt) (hpre1 : nw.toInt ≤ 61) (r_RG : zRG1 (m 94 18) (m 94 64) (m 94 63) (m 99) (m 103) (m 102) (m 116)) (KZ : ∀ v m₉, zV (zov wr_232 m m₉) → (zRG1 (m 94 18) (m 94 64) (m 94 63) (m 99) (m 103) (m 102) (m₉ 116)) → (v.toInt = -1 ∨ (0 ≤ v.toInt ∧ v.toInt + nw.toInt ≤ (m 94 64).toInt * (m 94 18).toInt ∧ nw.toInt ≤ (m 94 18).toInt)) → (-1 ≤ v.toInt ∧ v.toInt ≤ 1500) → P (some (.inl v)) (zov wr_232 m m₉)) : zm X 0 0 232 0 [(0, .inr (.inr (some 94))), (1, .inl nw)] m P := by
  have K : ∀ v m₉, zF wr_232 m m₉ → zV m₉ → (zRG1 (m₉ 94 18) (m₉ 94 64) (m₉ 94 63) (m₉ 99) (m₉ 103) (m₉ 102) (m₉ 116)) → (v.toInt = -1 ∨ (0 ≤ v.toInt ∧ v.toInt + nw.toInt ≤ (m₉ 94 64).toInt * (m₉ 94 18).toInt ∧ nw.toInt ≤ (m₉ 94 18).toInt)) → (-1 ≤ v.toInt ∧ v.toInt ≤ 1500) → P (some (.inl v)) m₉ := by
    intro v m₉ hf z q0 q1 q2
    have e := zov_eq hf
    rw [e] at z ⊢
    try rw [e] at q0
    try rw [e] at q1
    try rw [e] at q2
    exact KZ v m₉ z q0 q1 q2
  refine g_232_0 nw ?_
  have f1 : 0 ≤ (m 94 63).toInt ∧ (m 94 63).toInt ≤ 127 := rs_94_63 (m := m) hV
  try have rpr := r_RG.2.2.2.1
  try have rsi := r_RG.1
  try have rrg := r_RG.2.1
  try have rtk := RG_take r_RG (by have := rs_94_18 hV; omega) (by have := rs_94_64 hV; omega)
  have hg2 : (0 ≤ (m 94 63) ∧ (m 94 63).toNatClampNeg < 128) := i_ix (by omega) (by omega)
  refine ⟨hg2, ?_⟩
  first | have f3 : 0 ≤ (m 116 (m 94 63).toNatClampNeg).toInt ∧ (m 116 (m 94 63).toNatClampNeg).toInt ≤ 4600 := ra_116 (m := m) hV (k := (m 94 63).toNatClampNeg) (i_ix (n := 128) (by omega) (by omega)).2 | have b4 := i_bd (m 116 (m 94 63).toNatClampNeg)
  have b5 := i_bd nw
  first | have e6 : ((m 116 (m 94 63).toNatClampNeg) + nw).toInt = (m 116 (m 94 63).toNatClampNeg).toInt + nw.toInt := i_add (by omega) (by omega) | have b7 := i_bd ((m 116 (m 94 63).toNatClampNeg) + nw)
  have f8 : 0 ≤ (m 94 18).toInt ∧ (m 94 18).toInt ≤ 256 := rs_94_18 (m := m) hV
  refine zd (fun (h9 : ((m 116 (m 94 63).toNatClampNeg) + nw) ≤ (m 94 18)) => ?_) (fun (h9 : ¬ ((m 116 (m 94 63).toNatClampNeg) + nw) ≤ (m 94 18)) => ?_)
  · skip
    have g10 := i_le h9
    try have rpr := r_RG.2.2.2.1
    try have rsi := r_RG.1
    try have rrg := r_RG.2.1
    try have rtk := RG_take r_RG (by have := rs_94_18 hV; omega) (by have := rs_94_64 hV; omega)
    have hg11 : (0 ≤ (m 94 63) ∧ (m 94 63).toNatClampNeg < 128) := i_ix (by omega) (by omega)
    refine ⟨hg11, ?_⟩
    try have rpr := r_RG.2.2.2.1
    try have rsi := r_RG.1
    try have rrg := r_RG.2.1
    try have rtk := RG_take r_RG (by have := rs_94_18 hV; omega) (by have := rs_94_64 hV; omega)
    have hg12 : (0 ≤ (m 94 63) ∧ (m 94 63).toNatClampNeg < 128) := i_ix (by omega) (by omega)
    refine ⟨hg12, ?_⟩
    try have rpr := r_RG.2.2.2.1
    try have rsi := r_RG.1
    try have rrg := r_RG.2.1
    try have rtk := RG_take r_RG (by have := rs_94_18 hV; omega) (by have := rs_94_64 hV; omega)
    have hg13 : (0 ≤ (m 94 63) ∧ (m 94 63).toNatClampNeg < 128) := i_ix (by omega) (by omega)
    refine ⟨hg13, ?_⟩
    try have rpr := r_RG.2.2.2.1
    try have rsi := r_RG.1
    try have rrg := r_RG.2.1
    try have rtk := RG_take r_RG (by have := rs_94_18 hV; omega) (by have := rs_94_64 hV; omega)
    have hV14 : zV (ma_u m 116 (m 94 63).toNatClampNeg ((m 116 (m 94 63).toNatClampNeg) + nw)) := ua_116 hV (by omega) (by omega)
    first | have f15 := i_muln (x := (m 94 63)) (y := (m 94 18)) (by omega) (by omega) (by omega) (by omega) | have b16 := i_bd ((m 94 63) * (m 94 18))
    first | have e17 : (((m 94 63) * (m 94 18)) + (m 116 (m 94 63).toNatClampNeg)).toInt = ((m 94 63) * (m 94 18)).toInt + (m 116 (m 94 63).toNatClampNeg).toInt := i_add (by omega) (by omega) | have b18 := i_bd (((m 94 63) * (m 94 18)) + (m 116 (m 94 63).toNatClampNeg))
    exact K ((((m 94 63) * (m 94 18)) + (m 116 (m 94 63).toNatClampNeg))) _ (zF_u zF_rfl rfl) hV14 (show zRG1 (m 94 18) (m 94 64) (m 94 63) (m 99) (m 103) (m 102) ((ma_u m 116 (m 94 63).toNatClampNeg ((m 116 (m 94 63).toNatClampNeg) + nw)) 116) from by first | (exact RG_put r_RG (by omega)) | (exfalso; omega; done) | (exfalso; contradiction; done)) (show (((m 94 63) * (m 94 18)) + (m 116 (m 94 63).toNatClampNeg)).toInt = -1 ∨ (0 ≤ (((m 94 63) * (m 94 18)) + (m 116 (m 94 63).toNatClampNeg)).toInt ∧ (((m 94 63) * (m 94 18)) + (m 116 (m 94 63).toNatClampNeg)).toInt + nw.toInt ≤ (m 94 64).toInt * (m 94 18).toInt ∧ nw.toInt ≤ (m 94 18).toInt) from by first | (exact Or.inl (by decide)) | (exact Or.inr ⟨by omega, by omega, by omega⟩) | (exfalso; omega; done) | (exfalso; contradiction; done)) (show -1 ≤ (((m 94 63) * (m 94 18)) + (m 116 (m 94 63).toNatClampNeg)).toInt ∧ (((m 94 63) * (m 94 18)) + (m 116 (m 94 63).toNatClampNeg)).toInt ≤ 1500 from by omega)
  · skip
    have g19 := i_nle h9
    try have rpr := r_RG.2.2.2.1
    try have rsi := r_RG.1
    try have rrg := r_RG.2.1
    try have rtk := RG_take r_RG (by have := rs_94_18 hV; omega) (by have := rs_94_64 hV; omega)
    have li20 : (-1 : Int32).toInt = -1 := rfl
    exact K ((-1 : Int32)) _ zF_rfl hV r_RG (show (-1 : Int32).toInt = -1 ∨ (0 ≤ (-1 : Int32).toInt ∧ (-1 : Int32).toInt + nw.toInt ≤ (m 94 64).toInt * (m 94 18).toInt ∧ nw.toInt ≤ (m 94 18).toInt) from by first | (exact Or.inl (by decide)) | (exact Or.inr ⟨by omega, by omega, by omega⟩) | (exfalso; omega; done) | (exfalso; contradiction; done)) (show -1 ≤ (-1 : Int32).toInt ∧ (-1 : Int32).toInt ≤ 1500 from by omega)

/-! from 94.439 -/
/-! the reference (written by wip/tools/gen94m.py) -/
set_option maxRecDepth 100000 in
theorem hm_231 : ma_md 231 = some (12, yX12_findInRegions, cX12_findInRegions, 4, (some (FieldType.int))) := rfl
theorem v_12_451_12 : ma_vl 12 451 12 = some (1, 232, 1) := by decide +kernel
theorem v_12_454_12 : ma_vl 12 454 12 = some (1, 233, 0) := by decide +kernel
theorem v_12_457_12 : ma_vl 12 457 12 = some (1, 235, 0) := by decide +kernel
theorem dX12_findInRegions_0 : decode cX12_findInRegions 0 = .ok (.iload_n 1, 1) := by decide +kernel
theorem dX12_findInRegions_1 : decode cX12_findInRegions 1 = .ok (.aload_n 0, 1) := by decide +kernel
theorem dX12_findInRegions_10 : decode cX12_findInRegions 10 = .ok (.aload_n 0, 1) := by decide +kernel
theorem dX12_findInRegions_11 : decode cX12_findInRegions 11 = .ok (.iload_n 1, 1) := by decide +kernel
theorem dX12_findInRegions_12 : decode cX12_findInRegions 12 = .ok (.invokevirtual 451, 3) := by decide +kernel
theorem dX12_findInRegions_15 : decode cX12_findInRegions 15 = .ok (.istore_n 2, 1) := by decide +kernel
theorem dX12_findInRegions_16 : decode cX12_findInRegions 16 = .ok (.iload_n 2, 1) := by decide +kernel
theorem dX12_findInRegions_22 : decode cX12_findInRegions 22 = .ok (.aload_n 0, 1) := by decide +kernel
theorem dX12_findInRegions_23 : decode cX12_findInRegions 23 = .ok (.invokevirtual 454, 3) := by decide +kernel
theorem dX12_findInRegions_26 : decode cX12_findInRegions 26 = .ok (.iconst 2, 1) := by decide +kernel
theorem dX12_findInRegions_41 : decode cX12_findInRegions 41 = .ok (.aload_n 0, 1) := by decide +kernel
theorem dX12_findInRegions_42 : decode cX12_findInRegions 42 = .ok (.invokevirtual 457, 3) := by decide +kernel
theorem dX12_findInRegions_45 : decode cX12_findInRegions 45 = .ok (.istore_n 3, 1) := by decide +kernel
theorem dX12_findInRegions_46 : decode cX12_findInRegions 46 = .ok (.aload_n 0, 1) := by decide +kernel
theorem dX12_findInRegions_47 : decode cX12_findInRegions 47 = .ok (.iload_n 1, 1) := by decide +kernel
theorem dX12_findInRegions_48 : decode cX12_findInRegions 48 = .ok (.invokevirtual 451, 3) := by decide +kernel
theorem dX12_findInRegions_51 : decode cX12_findInRegions 51 = .ok (.istore_n 2, 1) := by decide +kernel
theorem dX12_findInRegions_52 : decode cX12_findInRegions 52 = .ok (.iload_n 2, 1) := by decide +kernel
theorem dX12_findInRegions_58 : decode cX12_findInRegions 58 = .ok (.aload_n 0, 1) := by decide +kernel
theorem dX12_findInRegions_59 : decode cX12_findInRegions 59 = .ok (.invokevirtual 417, 3) := by decide +kernel
theorem dX12_findInRegions_67 : decode cX12_findInRegions 67 = .ok (.aload_n 0, 1) := by decide +kernel
theorem dX12_findInRegions_68 : decode cX12_findInRegions 68 = .ok (.aload_n 0, 1) := by decide +kernel
theorem dX12_findInRegions_69 : decode cX12_findInRegions 69 = .ok (.invokevirtual 417, 3) := by decide +kernel
theorem dX12_findInRegions_75 : decode cX12_findInRegions 75 = .ok (.aload_n 0, 1) := by decide +kernel
theorem dX12_findInRegions_76 : decode cX12_findInRegions 76 = .ok (.iload_n 1, 1) := by decide +kernel
theorem dX12_findInRegions_77 : decode cX12_findInRegions 77 = .ok (.invokevirtual 451, 3) := by decide +kernel
theorem dX12_findInRegions_80 : decode cX12_findInRegions 80 = .ok (.ireturn, 1) := by decide +kernel
theorem dX12_findInRegions_72 : decode cX12_findInRegions 72 = .ok (.putfield 285, 3) := by decide +kernel
theorem dX12_findInRegions_65 : decode cX12_findInRegions 65 = .ok (.iconst (-1), 1) := by decide +kernel
theorem dX12_findInRegions_66 : decode cX12_findInRegions 66 = .ok (.ireturn, 1) := by decide +kernel
theorem dX12_findInRegions_62 : decode cX12_findInRegions 62 = .ok (.ifCond .ge 5, 3) := by decide +kernel
theorem dX12_findInRegions_56 : decode cX12_findInRegions 56 = .ok (.iload_n 2, 1) := by decide +kernel
theorem dX12_findInRegions_57 : decode cX12_findInRegions 57 = .ok (.ireturn, 1) := by decide +kernel
theorem dX12_findInRegions_53 : decode cX12_findInRegions 53 = .ok (.ifCond .lt 5, 3) := by decide +kernel
theorem dX12_findInRegions_30 : decode cX12_findInRegions 30 = .ok (.aload_n 0, 1) := by decide +kernel
theorem dX12_findInRegions_31 : decode cX12_findInRegions 31 = .ok (.aload_n 0, 1) := by decide +kernel
theorem dX12_findInRegions_32 : decode cX12_findInRegions 32 = .ok (.invokevirtual 417, 3) := by decide +kernel
theorem dX12_findInRegions_38 : decode cX12_findInRegions 38 = .ok (.goto 37, 3) := by decide +kernel
theorem dX12_findInRegions_35 : decode cX12_findInRegions 35 = .ok (.putfield 285, 3) := by decide +kernel
theorem dX12_findInRegions_27 : decode cX12_findInRegions 27 = .ok (.if_icmp .lt 14, 3) := by decide +kernel
theorem dX12_findInRegions_20 : decode cX12_findInRegions 20 = .ok (.iload_n 2, 1) := by decide +kernel
theorem dX12_findInRegions_21 : decode cX12_findInRegions 21 = .ok (.ireturn, 1) := by decide +kernel
theorem dX12_findInRegions_17 : decode cX12_findInRegions 17 = .ok (.ifCond .lt 5, 3) := by decide +kernel
theorem dX12_findInRegions_8 : decode cX12_findInRegions 8 = .ok (.iconst (-1), 1) := by decide +kernel
theorem dX12_findInRegions_9 : decode cX12_findInRegions 9 = .ok (.ireturn, 1) := by decide +kernel
theorem dX12_findInRegions_5 : decode cX12_findInRegions 5 = .ok (.if_icmp .le 5, 3) := by decide +kernel
theorem dX12_findInRegions_2 : decode cX12_findInRegions 2 = .ok (.getfield 222, 3) := by decide +kernel
def wr_231 (c k : Nat) : Bool := Nat.beq c 99 || Nat.beq c 103 || Nat.beq c 105 || Nat.beq c 109 || Nat.beq c 110 || Nat.beq c 111 || Nat.beq c 113 || Nat.beq c 114 || Nat.beq c 116 || Nat.beq c 118 || Nat.beq c 122 || Nat.beq c 123 || Nat.beq c 124 || (Nat.beq c 94 && (Nat.beq k 44 || Nat.beq k 45 || Nat.beq k 47 || Nat.beq k 48 || Nat.beq k 49 || Nat.beq k 55 || Nat.beq k 63 || Nat.beq k 73))
theorem ws_232_231 : ∀ c k, wr_232 c k = true → wr_231 c k = true := by
  intro c k h
  simp only [wr_232, wr_231, Bool.or_eq_true, Bool.and_eq_true, Nat.beq_eq] at h ⊢
  omega
theorem ws_233_231 : ∀ c k, wr_233 c k = true → wr_231 c k = true := fun _ _ h => by cases h
theorem ws_234_231 : ∀ c k, wr_234 c k = true → wr_231 c k = true := fun _ _ h => by cases h
theorem ws_235_231 : ∀ c k, wr_235 c k = true → wr_231 c k = true := by
  intro c k h
  simp only [wr_235, Bool.or_eq_true, Bool.and_eq_true, Nat.beq_eq] at h
  rcases h with ((((((((((((rfl | rfl) | rfl) | rfl) | rfl) | rfl) | rfl) | rfl) | rfl) | rfl) | rfl) | rfl) | rfl) | ⟨rfl, (((((((rfl | rfl) | rfl) | rfl) | rfl) | rfl) | rfl) | rfl)⟩ <;> rfl
theorem g_231_0 {X : Nat × (Nat → Int32)} {m : Nat → Nat → Int32} {P : Option ma_V → (Nat → Nat → Int32) → Prop} (nw : Int32) (h : if nw ≤ (m 94 18) then (zm X 0 0 232 0 [(0, .inr (.inr (some 94))), (1, .inl nw)] m (zmi (fun v2 m1 => if v2 < 0 then (zm X 0 0 233 0 [(0, .inr (.inr (some 94)))] m1 (zmi (fun v4 m3 => if v4 < (2 : Int32) then (zm X 5 108 235 0 [(0, .inr (.inr (some 94)))] m3 (zmi (fun v6 m5 => zm X 0 0 232 0 [(0, .inr (.inr (some 94))), (1, .inl nw)] m5 (zmi (fun v8 m7 => if v8 < 0 then (zm X 0 0 234 0 [(0, .inr (.inr (some 94)))] m7 (zmi (fun v10 m9 => if 0 ≤ v10 then (zm X 0 0 234 0 [(0, .inr (.inr (some 94)))] m9 (zmi (fun v12 m11 => zm X 0 0 232 0 [(0, .inr (.inr (some 94))), (1, .inl nw)] (ma_u m11 94 63 v12) (zmi (fun v14 m13 => P (some (.inl v14)) m13))))) else (P (some (.inl (-1 : Int32))) m9)))) else (P (some (.inl v8)) m7)))))) else (zm X 0 0 234 0 [(0, .inr (.inr (some 94)))] m3 (zmi (fun v16 m15 => zm X 0 0 232 0 [(0, .inr (.inr (some 94))), (1, .inl nw)] (ma_u m15 94 63 v16) (zmi (fun v18 m17 => P (some (.inl v18)) m17)))))))) else (P (some (.inl v2)) m1)))) else (P (some (.inl (-1 : Int32))) m)) : zm X 6 137 231 0 [(0, .inr (.inr (some 94))), (1, .inl nw)] m P := by
  intro d w S Q hd hw hS hm HQ
  subst hm
  refine zw_push hm_231 dX12_findInRegions_0 (v := .inl nw) rfl ?_
  refine zw_push hm_231 dX12_findInRegions_1 (v := .inr (.inr (some 94))) rfl ?_
  refine zw_gf hm_231 dX12_findInRegions_2 (v := .inl ((mI S) 94 18)) (zT_is hS s_94) (zT_t hS s_94) rfl f_12_222_12 rfl ?_
  refine zw_if2 hm_231 dX12_findInRegions_5 (t := 10) rfl zc2_le ?_ ?_
  · intro hc
    rw [if_pos hc] at h
    refine zw_push hm_231 dX12_findInRegions_10 (v := .inr (.inr (some 94))) rfl ?_
    refine zw_push hm_231 dX12_findInRegions_11 (v := .inl nw) rfl ?_
    refine zw_cv hm_231 dX12_findInRegions_12 v_12_451_12 hm_232 [.inl nw] [] rfl (zT_rt hS s_94 rfl) ⟨by omega, by omega⟩ rfl (h _ _ S _ (by omega) (by omega) hS rfl (fun o9 m1 hv => ?_))
    obtain ⟨v2, rfl, h⟩ := zmi_of hv
    show ma_wp X d w 231 15 [(0, .inr (.inr (some 94))), (1, .inl nw)] [.inl v2] (zst S m1) _
    refine zw_sto hm_231 dX12_findInRegions_15 [(2, .inl v2), (0, .inr (.inr (some 94))), (1, .inl nw)] rfl rfl rfl ?_
    refine zw_push hm_231 dX12_findInRegions_16 (v := .inl v2) rfl ?_
    refine zw_if0 hm_231 dX12_findInRegions_17 (t := 22) rfl zc0_lt ?_ ?_
    · intro hc
      rw [if_pos hc] at h
      refine zw_push hm_231 dX12_findInRegions_22 (v := .inr (.inr (some 94))) rfl ?_
      refine zw_cv hm_231 dX12_findInRegions_23 v_12_454_12 hm_233 [] [] rfl (zT_rt (zT_zst hS m1) s_94 rfl) ⟨by omega, by omega⟩ rfl (h _ _ (zst S m1) _ (by omega) (by omega) (zT_zst hS m1) rfl (fun o9 m3 hv => ?_))
      obtain ⟨v4, rfl, h⟩ := zmi_of hv
      show ma_wp X d w 231 26 [(2, .inl v2), (0, .inr (.inr (some 94))), (1, .inl nw)] [.inl v4] (zst S m3) _
      refine zw_push hm_231 dX12_findInRegions_26 (v := .inl (2 : Int32)) rfl ?_
      refine zw_if2 hm_231 dX12_findInRegions_27 (t := 41) rfl zc2_lt ?_ ?_
      · intro hc
        rw [if_pos hc] at h
        refine zw_push hm_231 dX12_findInRegions_41 (v := .inr (.inr (some 94))) rfl ?_
        refine zw_cv hm_231 dX12_findInRegions_42 v_12_457_12 hm_235 [] [] rfl (zT_rt (zT_zst hS m3) s_94 rfl) ⟨by omega, by omega⟩ rfl (h _ _ (zst S m3) _ (by omega) (by omega) (zT_zst hS m3) rfl (fun o9 m5 hv => ?_))
        obtain ⟨v6, rfl, h⟩ := zmi_of hv
        show ma_wp X d w 231 45 [(2, .inl v2), (0, .inr (.inr (some 94))), (1, .inl nw)] [.inl v6] (zst S m5) _
        refine zw_sto hm_231 dX12_findInRegions_45 [(3, .inl v6), (2, .inl v2), (0, .inr (.inr (some 94))), (1, .inl nw)] rfl rfl rfl ?_
        refine zw_push hm_231 dX12_findInRegions_46 (v := .inr (.inr (some 94))) rfl ?_
        refine zw_push hm_231 dX12_findInRegions_47 (v := .inl nw) rfl ?_
        refine zw_cv hm_231 dX12_findInRegions_48 v_12_451_12 hm_232 [.inl nw] [] rfl (zT_rt (zT_zst hS m5) s_94 rfl) ⟨by omega, by omega⟩ rfl (h _ _ (zst S m5) _ (by omega) (by omega) (zT_zst hS m5) rfl (fun o9 m7 hv => ?_))
        obtain ⟨v8, rfl, h⟩ := zmi_of hv
        show ma_wp X d w 231 51 [(3, .inl v6), (2, .inl v2), (0, .inr (.inr (some 94))), (1, .inl nw)] [.inl v8] (zst S m7) _
        refine zw_sto hm_231 dX12_findInRegions_51 [(2, .inl v8), (3, .inl v6), (0, .inr (.inr (some 94))), (1, .inl nw)] rfl rfl rfl ?_
        refine zw_push hm_231 dX12_findInRegions_52 (v := .inl v8) rfl ?_
        refine zw_if0 hm_231 dX12_findInRegions_53 (t := 58) rfl zc0_lt ?_ ?_
        · intro hc
          rw [if_pos hc] at h
          refine zw_push hm_231 dX12_findInRegions_58 (v := .inr (.inr (some 94))) rfl ?_
          refine zw_cv hm_231 dX12_findInRegions_59 v_12_417_12 hm_234 [] [] rfl (zT_rt (zT_zst hS m7) s_94 rfl) ⟨by omega, by omega⟩ rfl (h _ _ (zst S m7) _ (by omega) (by omega) (zT_zst hS m7) rfl (fun o9 m9 hv => ?_))
          obtain ⟨v10, rfl, h⟩ := zmi_of hv
          show ma_wp X d w 231 62 [(2, .inl v8), (3, .inl v6), (0, .inr (.inr (some 94))), (1, .inl nw)] [.inl v10] (zst S m9) _
          refine zw_if0 hm_231 dX12_findInRegions_62 (t := 67) rfl zc0_ge ?_ ?_
          · intro hc
            rw [if_pos hc] at h
            refine zw_push hm_231 dX12_findInRegions_67 (v := .inr (.inr (some 94))) rfl ?_
            refine zw_push hm_231 dX12_findInRegions_68 (v := .inr (.inr (some 94))) rfl ?_
            refine zw_cv hm_231 dX12_findInRegions_69 v_12_417_12 hm_234 [] [.inr (.inr (some 94))] rfl (zT_rt (zT_zst hS m9) s_94 rfl) ⟨by omega, by omega⟩ rfl (h _ _ (zst S m9) _ (by omega) (by omega) (zT_zst hS m9) rfl (fun o9 m11 hv => ?_))
            obtain ⟨v12, rfl, h⟩ := zmi_of hv
            show ma_wp X d w 231 72 [(2, .inl v8), (3, .inl v6), (0, .inr (.inr (some 94))), (1, .inl nw)] [.inl v12, .inr (.inr (some 94))] (zst S m11) _
            refine zw_pf hm_231 dX12_findInRegions_72 (zT_is (zT_zst hS m11) s_94) (zT_t (zT_zst hS m11) s_94) p_12_285_12 zk_int ?_
            refine zw_push hm_231 dX12_findInRegions_75 (v := .inr (.inr (some 94))) rfl ?_
            refine zw_push hm_231 dX12_findInRegions_76 (v := .inl nw) rfl ?_
            refine zw_cv hm_231 dX12_findInRegions_77 v_12_451_12 hm_232 [.inl nw] [] rfl (zT_rt (zT_pi (zT_zst hS m11)) s_94 rfl) ⟨by omega, by omega⟩ rfl (h _ _ (ma_put (zst S m11) 94 63 (.inl v12)) _ (by omega) (by omega) (zT_pi (zT_zst hS m11)) rfl (fun o9 m13 hv => ?_))
            obtain ⟨v14, rfl, h⟩ := zmi_of hv
            show ma_wp X d w 231 80 [(2, .inl v8), (3, .inl v6), (0, .inr (.inr (some 94))), (1, .inl nw)] [.inl v14] (zst S m13) _
            exact zw_iret hm_231 dX12_findInRegions_80 (HQ _ _ h)
          · intro hc
            rw [if_neg hc] at h
            refine zw_push hm_231 dX12_findInRegions_65 (v := .inl (-1 : Int32)) rfl ?_
            exact zw_iret hm_231 dX12_findInRegions_66 (HQ _ _ h)
        · intro hc
          rw [if_neg hc] at h
          refine zw_push hm_231 dX12_findInRegions_56 (v := .inl v8) rfl ?_
          exact zw_iret hm_231 dX12_findInRegions_57 (HQ _ _ h)
      · intro hc
        rw [if_neg hc] at h
        refine zw_push hm_231 dX12_findInRegions_30 (v := .inr (.inr (some 94))) rfl ?_
        refine zw_push hm_231 dX12_findInRegions_31 (v := .inr (.inr (some 94))) rfl ?_
        refine zw_cv hm_231 dX12_findInRegions_32 v_12_417_12 hm_234 [] [.inr (.inr (some 94))] rfl (zT_rt (zT_zst hS m3) s_94 rfl) ⟨by omega, by omega⟩ rfl (h _ _ (zst S m3) _ (by omega) (by omega) (zT_zst hS m3) rfl (fun o9 m15 hv => ?_))
        obtain ⟨v16, rfl, h⟩ := zmi_of hv
        show ma_wp X d w 231 35 [(2, .inl v2), (0, .inr (.inr (some 94))), (1, .inl nw)] [.inl v16, .inr (.inr (some 94))] (zst S m15) _
        refine zw_pf hm_231 dX12_findInRegions_35 (zT_is (zT_zst hS m15) s_94) (zT_t (zT_zst hS m15) s_94) p_12_285_12 zk_int ?_
        refine zw_goto hm_231 dX12_findInRegions_38 (t := 75) rfl ?_
        refine zw_push hm_231 dX12_findInRegions_75 (v := .inr (.inr (some 94))) rfl ?_
        refine zw_push hm_231 dX12_findInRegions_76 (v := .inl nw) rfl ?_
        refine zw_cv hm_231 dX12_findInRegions_77 v_12_451_12 hm_232 [.inl nw] [] rfl (zT_rt (zT_pi (zT_zst hS m15)) s_94 rfl) ⟨by omega, by omega⟩ rfl (h _ _ (ma_put (zst S m15) 94 63 (.inl v16)) _ (by omega) (by omega) (zT_pi (zT_zst hS m15)) rfl (fun o9 m17 hv => ?_))
        obtain ⟨v18, rfl, h⟩ := zmi_of hv
        show ma_wp X d w 231 80 [(2, .inl v2), (0, .inr (.inr (some 94))), (1, .inl nw)] [.inl v18] (zst S m17) _
        exact zw_iret hm_231 dX12_findInRegions_80 (HQ _ _ h)
    · intro hc
      rw [if_neg hc] at h
      refine zw_push hm_231 dX12_findInRegions_20 (v := .inl v2) rfl ?_
      exact zw_iret hm_231 dX12_findInRegions_21 (HQ _ _ h)
  · intro hc
    rw [if_neg hc] at h
    refine zw_push hm_231 dX12_findInRegions_8 (v := .inl (-1 : Int32)) rfl ?_
    exact zw_iret hm_231 dX12_findInRegions_9 (HQ _ _ h)
theorem sp_231 {X : Nat × (Nat → Int32)} {P : Option ma_V → (Nat → Nat → Int32) → Prop} {T : Nat} {m : Nat → Nat → Int32} (nw : Int32) (hV : zV m) (hpre0 : 1 ≤ nw.toInt) (hpre1 : nw.toInt ≤ 61) (r_W : zW (m 94 7) (m 98) (m 101) (m 102) (m 108)) (r_GW : zGW T (m 94 55) (m 109)) (r_GU : zGU T (m 94 46) (m 99)) (r_OW : zOw (m 99) (m 103) (m 111)) (r_DX : zDX (m 94 10) (m 99) (m 112) (m 113) (m 114) (m 94 55) (m 98) (m 101) (m 102) (m 108)) (r_RG : zRG1 (m 94 18) (m 94 64) (m 94 63) (m 99) (m 103) (m 102) (m 116)) (hpre8 : (m 94 10).toInt = 6) (KZ : ∀ v m₉, zV (zov wr_231 m m₉) → (zGW T (m₉ 94 55) (m₉ 109)) → (zGU T (m 94 46) (m₉ 99)) → (zOw (m₉ 99) (m₉ 103) (m₉ 111)) → (zDX (m 94 10) (m₉ 99) (m 112) (m₉ 113) (m₉ 114) (m₉ 94 55) (m 98) (m 101) (m 102) (m 108)) → (zRG1 (m 94 18) (m 94 64) (m₉ 94 63) (m₉ 99) (m₉ 103) (m 102) (m₉ 116)) → (v.toInt = -1 ∨ (0 ≤ v.toInt ∧ v.toInt + nw.toInt ≤ (m 94 64).toInt * (m 94 18).toInt ∧ nw.toInt ≤ (m 94 18).toInt)) → (-1 ≤ v.toInt ∧ v.toInt ≤ 1500) → P (some (.inl v)) (zov wr_231 m m₉)) : zm X 6 137 231 0 [(0, .inr (.inr (some 94))), (1, .inl nw)] m P := by
  have K : ∀ v m₉, zF wr_231 m m₉ → zV m₉ → (zGW T (m₉ 94 55) (m₉ 109)) → (zGU T (m₉ 94 46) (m₉ 99)) → (zOw (m₉ 99) (m₉ 103) (m₉ 111)) → (zDX (m₉ 94 10) (m₉ 99) (m₉ 112) (m₉ 113) (m₉ 114) (m₉ 94 55) (m₉ 98) (m₉ 101) (m₉ 102) (m₉ 108)) → (zRG1 (m₉ 94 18) (m₉ 94 64) (m₉ 94 63) (m₉ 99) (m₉ 103) (m₉ 102) (m₉ 116)) → (v.toInt = -1 ∨ (0 ≤ v.toInt ∧ v.toInt + nw.toInt ≤ (m₉ 94 64).toInt * (m₉ 94 18).toInt ∧ nw.toInt ≤ (m₉ 94 18).toInt)) → (-1 ≤ v.toInt ∧ v.toInt ≤ 1500) → P (some (.inl v)) m₉ := by
    intro v m₉ hf z q0 q1 q2 q3 q4 q5 q6
    have e := zov_eq hf
    rw [e] at z ⊢
    try rw [e] at q0
    try rw [e] at q1
    try rw [e] at q2
    try rw [e] at q3
    try rw [e] at q4
    try rw [e] at q5
    try rw [e] at q6
    exact KZ v m₉ z q0 q1 q2 q3 q4 q5 q6
  refine g_231_0 nw ?_
  have f1 : 0 ≤ (m 94 10).toInt ∧ (m 94 10).toInt ≤ 6 := rs_94_10 (m := m) hV
  have b2 := i_bd nw
  have f3 : 0 ≤ (m 94 18).toInt ∧ (m 94 18).toInt ≤ 256 := rs_94_18 (m := m) hV
  refine zd (fun (h4 : nw ≤ (m 94 18)) => ?_) (fun (h4 : ¬ nw ≤ (m 94 18)) => ?_)
  · skip
    have g5 := i_le h4
    refine sp_232 (nw) hV (by omega) (by omega) r_RG (fun v2 m1 hV_m1 p0_m1 p1_m1 p2_m1 => zmi_n ?_)
    have p0_m1 : zRG1 (m 94 18) (m 94 64) (m 94 63) (m 99) (m 103) (m 102) (m1 116) := p0_m1
    have p1_m1 : v2.toInt = -1 ∨ (0 ≤ v2.toInt ∧ v2.toInt + nw.toInt ≤ (m 94 64).toInt * (m 94 18).toInt ∧ nw.toInt ≤ (m 94 18).toInt) := p1_m1
    have p2_m1 : -1 ≤ v2.toInt ∧ v2.toInt ≤ 1500 := p2_m1
    have b6 := i_bd v2
    have li7 : (0 : Int32).toInt = 0 := rfl
    refine zd (fun (h8 : v2 < (0 : Int32)) => ?_) (fun (h8 : ¬ v2 < (0 : Int32)) => ?_)
    · skip
      have g9 := i_lt h8
      refine sp_233  hV_m1  (fun v4 m3 hV_m3 p0_m3 => zmi_n ?_)
      have p0_m3 : v4.toInt ≤ 0 ∨ ∃ r : Nat, (r : Int) < (m 94 64).toInt ∧ (m1 116) r = 0 := p0_m3
      have b10 := i_bd v4
      have li11 : (2 : Int32).toInt = 2 := rfl
      refine zd (fun (h12 : v4 < (2 : Int32)) => ?_) (fun (h12 : ¬ v4 < (2 : Int32)) => ?_)
      · skip
        have g13 := i_lt h12
        refine sp_235  hV_m3 r_W r_GW r_GU r_OW r_DX p0_m1 (show (m 94 10).toInt = 6 from by omega) (fun v6 m5 hV_m5 p0_m5 p1_m5 p2_m5 p3_m5 p4_m5 => zmi_n ?_)
        have p0_m5 : zGW T (m5 94 55) (m5 109) := p0_m5
        have p1_m5 : zGU T (m 94 46) (m5 99) := p1_m5
        have p2_m5 : zOw (m5 99) (m5 103) (m5 111) := p2_m5
        have p3_m5 : zDX (m 94 10) (m5 99) (m 112) (m5 113) (m5 114) (m5 94 55) (m 98) (m 101) (m 102) (m 108) := p3_m5
        have p4_m5 : zRG1 (m 94 18) (m 94 64) (m5 94 63) (m5 99) (m5 103) (m 102) (m5 116) := p4_m5
        refine sp_232 (nw) hV_m5 (by omega) (by omega) p4_m5 (fun v8 m7 hV_m7 p0_m7 p1_m7 p2_m7 => zmi_n ?_)
        have p0_m7 : zRG1 (m 94 18) (m 94 64) (m5 94 63) (m5 99) (m5 103) (m 102) (m7 116) := p0_m7
        have p1_m7 : v8.toInt = -1 ∨ (0 ≤ v8.toInt ∧ v8.toInt + nw.toInt ≤ (m 94 64).toInt * (m 94 18).toInt ∧ nw.toInt ≤ (m 94 18).toInt) := p1_m7
        have p2_m7 : -1 ≤ v8.toInt ∧ v8.toInt ≤ 1500 := p2_m7
        have b14 := i_bd v8
        refine zd (fun (h15 : v8 < (0 : Int32)) => ?_) (fun (h15 : ¬ v8 < (0 : Int32)) => ?_)
        · skip
          have g16 := i_lt h15
          refine sp_234  hV_m7  (fun v10 m9 hV_m9 p0_m9 => zmi_n ?_)
          have p0_m9 : zLE (m7 116) (m 94 64) v10 := p0_m9
          try have rgb := rs_94_64 hV
          try have lel := LE_lo p0_m9
          try have lex := LE_ex p0_m9 (p0_m3.elim (fun z => by omega) id)
          try have lex3 := LE_ex p0_m9 (lexi (by omega))
          try have lexi := LE_some p0_m9
          have b17 := i_bd v10
          refine zd (fun (h18 : (0 : Int32) ≤ v10) => ?_) (fun (h18 : ¬ (0 : Int32) ≤ v10) => ?_)
          · skip
            have g19 := i_le h18
            refine sp_234  hV_m9  (fun v12 m11 hV_m11 p0_m11 => zmi_n ?_)
            have p0_m11 : zLE (m7 116) (m 94 64) v12 := p0_m11
            try have rgb := rs_94_64 hV
            try have lel := LE_lo p0_m11
            try have lex := LE_ex p0_m11 (p0_m3.elim (fun z => by omega) id)
            try have lex3 := LE_ex p0_m11 (lexi (by omega))
            try have lexi := LE_some p0_m11
            have b21 := i_bd v12
            have hV20 : zV (ma_u (zov wr_234 (zov wr_234 (zov wr_232 (zov wr_235 (zov wr_233 (zov wr_232 m m1) m3) m5) m7) m9) m11) 94 63 v12) := us_94_63 hV_m11 (by omega) (by omega)
            refine sp_232 (nw) hV20 (by omega) (by omega) (show zRG1 (m 94 18) (m 94 64) v12 (m5 99) (m5 103) (m 102) (m7 116) from by first | (exact RG_pr p0_m7 (by omega) (by omega)) | (exact RG_pr p0_m7 (LE_ex p0_m11 (p0_m3.elim (fun z => by omega) id)).1 (LE_ex p0_m11 (p0_m3.elim (fun z => by omega) id)).2) | (exfalso; omega; done) | (exfalso; contradiction; done)) (fun v14 m13 hV_m13 p0_m13 p1_m13 p2_m13 => zmi_n ?_)
            have p0_m13 : zRG1 (m 94 18) (m 94 64) v12 (m5 99) (m5 103) (m 102) (m13 116) := p0_m13
            have p1_m13 : v14.toInt = -1 ∨ (0 ≤ v14.toInt ∧ v14.toInt + nw.toInt ≤ (m 94 64).toInt * (m 94 18).toInt ∧ nw.toInt ≤ (m 94 18).toInt) := p1_m13
            have p2_m13 : -1 ≤ v14.toInt ∧ v14.toInt ≤ 1500 := p2_m13
            have b22 := i_bd v14
            exact K (v14) _ (zF_zov (zF_u (zF_zov (zF_zov (zF_zov (zF_zov (zF_zov (zF_zov zF_rfl ws_232_231) ws_233_231) ws_235_231) ws_232_231) ws_234_231) ws_234_231) rfl) ws_232_231) hV_m13 p0_m5 p1_m5 p2_m5 p3_m5 p0_m13 p1_m13 (show -1 ≤ v14.toInt ∧ v14.toInt ≤ 1500 from by omega)
          · skip
            have g23 := i_nle h18
            have li24 : (-1 : Int32).toInt = -1 := rfl
            exact K ((-1 : Int32)) _ (zF_zov (zF_zov (zF_zov (zF_zov (zF_zov zF_rfl ws_232_231) ws_233_231) ws_235_231) ws_232_231) ws_234_231) hV_m9 p0_m5 p1_m5 p2_m5 p3_m5 p0_m7 (show (-1 : Int32).toInt = -1 ∨ (0 ≤ (-1 : Int32).toInt ∧ (-1 : Int32).toInt + nw.toInt ≤ (m 94 64).toInt * (m 94 18).toInt ∧ nw.toInt ≤ (m 94 18).toInt) from by first | (exact Or.inl (by decide)) | (exact Or.inr ⟨by omega, by omega, by omega⟩) | (exact p1_m7) | (exfalso; omega; done) | (exfalso; contradiction; done)) (show -1 ≤ (-1 : Int32).toInt ∧ (-1 : Int32).toInt ≤ 1500 from by omega)
        · skip
          have g25 := i_nlt h15
          exact K (v8) _ (zF_zov (zF_zov (zF_zov (zF_zov zF_rfl ws_232_231) ws_233_231) ws_235_231) ws_232_231) hV_m7 p0_m5 p1_m5 p2_m5 p3_m5 p0_m7 p1_m7 (show -1 ≤ v8.toInt ∧ v8.toInt ≤ 1500 from by omega)
      · skip
        have g26 := i_nlt h12
        refine sp_234  hV_m3  (fun v16 m15 hV_m15 p0_m15 => zmi_n ?_)
        have p0_m15 : zLE (m1 116) (m 94 64) v16 := p0_m15
        try have rgb := rs_94_64 hV
        try have lel := LE_lo p0_m15
        try have lex := LE_ex p0_m15 (p0_m3.elim (fun z => by omega) id)
        try have lex3 := LE_ex p0_m15 (lexi (by omega))
        try have lexi := LE_some p0_m15
        have b28 := i_bd v16
        have hV27 : zV (ma_u (zov wr_234 (zov wr_233 (zov wr_232 m m1) m3) m15) 94 63 v16) := us_94_63 hV_m15 (by omega) (by omega)
        refine sp_232 (nw) hV27 (by omega) (by omega) (show zRG1 (m 94 18) (m 94 64) v16 (m 99) (m 103) (m 102) (m1 116) from by first | (exact RG_pr p0_m1 (by omega) (by omega)) | (exact RG_pr p0_m1 (LE_ex p0_m15 (p0_m3.elim (fun z => by omega) id)).1 (LE_ex p0_m15 (p0_m3.elim (fun z => by omega) id)).2) | (exfalso; omega; done) | (exfalso; contradiction; done)) (fun v18 m17 hV_m17 p0_m17 p1_m17 p2_m17 => zmi_n ?_)
        have p0_m17 : zRG1 (m 94 18) (m 94 64) v16 (m 99) (m 103) (m 102) (m17 116) := p0_m17
        have p1_m17 : v18.toInt = -1 ∨ (0 ≤ v18.toInt ∧ v18.toInt + nw.toInt ≤ (m 94 64).toInt * (m 94 18).toInt ∧ nw.toInt ≤ (m 94 18).toInt) := p1_m17
        have p2_m17 : -1 ≤ v18.toInt ∧ v18.toInt ≤ 1500 := p2_m17
        have b29 := i_bd v18
        exact K (v18) _ (zF_zov (zF_u (zF_zov (zF_zov (zF_zov zF_rfl ws_232_231) ws_233_231) ws_234_231) rfl) ws_232_231) hV_m17 r_GW r_GU r_OW r_DX p0_m17 p1_m17 (show -1 ≤ v18.toInt ∧ v18.toInt ≤ 1500 from by omega)
    · skip
      have g30 := i_nlt h8
      exact K (v2) _ (zF_zov zF_rfl ws_232_231) hV_m1 r_GW r_GU r_OW r_DX p0_m1 p1_m1 (show -1 ≤ v2.toInt ∧ v2.toInt ≤ 1500 from by omega)
  · skip
    have g31 := i_nle h4
    have li32 : (-1 : Int32).toInt = -1 := rfl
    exact K ((-1 : Int32)) _ zF_rfl hV r_GW r_GU r_OW r_DX r_RG (show (-1 : Int32).toInt = -1 ∨ (0 ≤ (-1 : Int32).toInt ∧ (-1 : Int32).toInt + nw.toInt ≤ (m 94 64).toInt * (m 94 18).toInt ∧ nw.toInt ≤ (m 94 18).toInt) from by first | (exact Or.inl (by decide)) | (exact Or.inr ⟨by omega, by omega, by omega⟩) | (exfalso; omega; done) | (exfalso; contradiction; done)) (show -1 ≤ (-1 : Int32).toInt ∧ (-1 : Int32).toInt ≤ 1500 from by omega)

/-! from 94.440 -/
/-! the place of OLD: who begins where -/
/-- below ol: each begins where its owner says, ends at e or before, and before the next begins -/
def zPK (ol e : Int) (us ws at₉ ow : Nat → Int32) : Prop := ∀ s, s < 3100 → us s ≠ 0 → (at₉ s).toInt < ol → (ow (at₉ s).toNatClampNeg).toNatClampNeg = s ∧ 0 ≤ (ow (at₉ s).toNatClampNeg).toInt ∧ (at₉ s).toInt + (ws s).toInt + 1 ≤ e ∧ ∀ s₉, s₉ < 3100 → us s₉ ≠ 0 → (at₉ s).toInt < (at₉ s₉).toInt → (at₉ s₉).toInt < ol → (at₉ s).toInt + (ws s).toInt + 1 ≤ (at₉ s₉).toInt
/-- while sliding: those that have slid end at f or before, the others begin at p or behind it -/
def zSL (ol e f p : Int) (us ws at₉ ow : Nat → Int32) : Prop := zPK ol e us ws at₉ ow ∧ f ≤ e ∧ ∀ s, s < 3100 → us s ≠ 0 → (at₉ s).toInt < ol → (at₉ s).toInt + (ws s).toInt + 1 ≤ f ∨ p ≤ (at₉ s).toInt
/-- where they are has changed below ol alone -/
def zLO (ol : Int) (at₉ at2 : Nat → Int32) : Prop := ∀ s, s < 3100 → at2 s = at₉ s ∨ ((at₉ s).toInt < ol ∧ (at2 s).toInt < ol)
section PK1
variable {ol e f p p2 f2 : Int} {us us₉ ws at₉ at2 ow ow2 ow₉ : Nat → Int32} {s to x : Int32} {m : Nat → Nat → Int32}
theorem PK_sub (h : zPK ol e us ws at₉ ow) (hs : zsw us us₉ ow ow₉ at₉) (hb : ∀ s, s < 3100 → 0 ≤ (at₉ s).toInt ∧ (at₉ s).toInt < 4600) : zPK ol e us₉ ws at₉ ow₉ := by
  intro s hs1 hu ha
  obtain ⟨a1, a2, a3, a4⟩ := h s hs1 (hs.1 s hs1 hu) ha
  have hbs := hb s hs1
  have e : ow₉ (at₉ s).toNatClampNeg = ow (at₉ s).toNatClampNeg := by
    rcases hs.2 (at₉ s).toNatClampNeg (by rw [tn_eq]; omega) with q | ⟨_, s2, h1, h2, h3, h4⟩
    · exact q
    · exfalso
      rw [tn_cast hbs.1] at h4
      obtain ⟨b1, b2, -, -⟩ := h s2 h1 h2 (by omega)
      have e2 : at₉ s2 = at₉ s := Int32.toInt_inj.mp h4
      rw [e2] at b1
      rw [a1] at b1
      rw [b1] at hu
      exact hu h3
  rw [e]
  exact ⟨a1, a2, a3, fun s₉ h1 h2 h3 h4 => a4 s₉ h1 (hs.1 s₉ h1 h2) h3 h4⟩
theorem PK_mono (h : zPK ol e us ws at₉ ow) (he : e ≤ f) : zPK ol f us ws at₉ ow := fun s h1 h2 h3 => let a := h s h1 h2 h3; ⟨a.1, a.2.1, Int.le_trans a.2.2.1 he, a.2.2.2⟩
theorem SL_0 (h : zPK ol e us ws at₉ ow) (he : 0 ≤ e) (hb : ∀ s, s < 3100 → 0 ≤ (at₉ s).toInt) : zSL ol e 0 0 us ws at₉ ow := ⟨h, he, fun s h1 _ _ => Or.inr (hb s h1)⟩
/-- no one begins here -/
theorem SL_skip (h : zSL ol e f p us ws at₉ ow) (hp : (ow p.toNat).toInt < 0) (h0 : 0 ≤ p) (e2 : p2 = p + 1) : zSL ol e f p2 us ws at₉ ow := by
  subst e2
  refine ⟨h.1, h.2.1, fun s h1 h2 h3 => ?_⟩
  rcases h.2.2 s h1 h2 h3 with q | q
  · exact Or.inl q
  · refine Or.inr ?_
    have a := (h.1 s h1 h2 h3).2.1
    refine Classical.byContradiction (fun z => ?_)
    have e : (at₉ s).toNatClampNeg = p.toNat := by rw [tn_eq]; omega
    rw [e] at a
    omega
/-- the one that begins here stays -/
theorem SL_stay (h : zSL ol e f p us ws at₉ ow) (hs : s = ow p.toNat) (h0 : 0 ≤ s.toInt) (h1 : s.toInt ≤ 3099) (hu : us s.toNatClampNeg ≠ 0) (ha : (at₉ s.toNatClampNeg).toInt = p) (hol : p < ol) (hw : 0 ≤ (ws s.toNatClampNeg).toInt) (hf : f ≤ p) (e1 : f2 = p + (ws s.toNatClampNeg).toInt + 1) (e2 : p2 = f2) : zSL ol e f2 p2 us ws at₉ ow := by
  have hs1 : s.toNatClampNeg < 3100 := by rw [tn_eq]; omega
  obtain ⟨b1, b2, b3, b4⟩ := h.1 _ hs1 hu (by omega)
  refine ⟨h.1, by omega, fun t t1 t2 t3 => ?_⟩
  rcases h.2.2 t t1 t2 t3 with q | q
  · exact Or.inl (by omega)
  · by_cases z : (at₉ t).toInt = p
    · have e3 := (h.1 t t1 t2 t3).1
      have e4 : (at₉ t).toNatClampNeg = (at₉ s.toNatClampNeg).toNatClampNeg := by rw [tn_eq, tn_eq, z, ha]
      rw [e4, b1] at e3
      exact Or.inl (by rw [← e3]; omega)
    · have := b4 t t1 t2 (by omega) t3
      exact Or.inr (by omega)
/-- the one that begins here slides -/
theorem SL_move (h : zSL ol e f p us ws at₉ ow) (hm : zmov s to at₉ ow at2 ow2) (hto : to.toInt = f) (hf0 : 0 ≤ f) (h0 : 0 ≤ s.toInt) (h1 : s.toInt ≤ 3099) (hs : s = ow p.toNat) (hu : us s.toNatClampNeg ≠ 0) (ha : (at₉ s.toNatClampNeg).toInt = p) (hol : p < ol) (hw : ∀ t, t < 3100 → 0 ≤ (ws t).toInt) (hb : ∀ t, t < 3100 → 0 ≤ (at₉ t).toInt) (hf : f ≤ p) (e1 : f2 = f + (ws s.toNatClampNeg).toInt + 1) (e2 : p2 = p + (ws s.toNatClampNeg).toInt + 1) : zSL ol e f2 p2 us ws at2 ow2 := by
  have hs1 : s.toNatClampNeg < 3100 := by rw [tn_eq]; omega
  obtain ⟨b1, b2, b3, b4⟩ := h.1 _ hs1 hu (by omega)
  have hws := hw _ hs1
  have uniq : ∀ t, t < 3100 → us t ≠ 0 → (at₉ t).toInt < ol → (at₉ t).toInt = p → t = s.toNatClampNeg := by
    intro t t1 t2 t3 z
    have e3 := (h.1 t t1 t2 t3).1
    have e4 : (at₉ t).toNatClampNeg = (at₉ s.toNatClampNeg).toNatClampNeg := by rw [tn_eq, tn_eq, z, ha]
    rw [e4, b1] at e3
    exact e3.symm
  have far : ∀ t, t < 3100 → us t ≠ 0 → (at₉ t).toInt < ol → t ≠ s.toNatClampNeg → (at₉ t).toInt + (ws t).toInt + 1 ≤ f ∨ p + (ws s.toNatClampNeg).toInt + 1 ≤ (at₉ t).toInt := by
    intro t t1 t2 t3 tn
    rcases h.2.2 t t1 t2 t3 with q | q
    · exact Or.inl q
    · by_cases z : (at₉ t).toInt = p
      · exact absurd (uniq t t1 t2 t3 z) tn
      · have := b4 t t1 t2 (by omega) t3
        exact Or.inr (by omega)
  rcases hm with ⟨m1, m2, m3⟩ | ⟨m1, m2, m3⟩
  · rw [m1, m2]
    exact SL_stay h hs h0 h1 hu ha hol hws hf (by omega) (by omega)
  · have at_s : (at2 s.toNatClampNeg).toInt = f := by rw [m1, if_pos rfl]; exact hto
    have at_o : ∀ t, t ≠ s.toNatClampNeg → at2 t = at₉ t := fun t z => by rw [m1, if_neg z]
    have ton : to.toNatClampNeg = f.toNat := by rw [tn_eq, hto]
    refine ⟨fun t t1 t2 t3 => ?_, by omega, fun t t1 t2 t3 => ?_⟩
    · by_cases z : t = s.toNatClampNeg
      · subst z
        have e3 : (at2 s.toNatClampNeg).toNatClampNeg = to.toNatClampNeg := by rw [tn_eq, at_s, ton]
        rw [e3, m2]
        refine ⟨rfl, h0, by omega, fun t₉ u1 u2 u3 u4 => ?_⟩
        have zn : t₉ ≠ s.toNatClampNeg := fun z => by rw [z] at u3; omega
        rw [at_o t₉ zn] at u3 u4 ⊢
        have := hw t₉ u1
        rcases far t₉ u1 u2 u4 zn with q | q <;> omega
      · rw [at_o t z] at t3 ⊢
        obtain ⟨c1, c2, c3, c4⟩ := h.1 t t1 t2 t3
        have hwt := hw t t1
        have hbt := hb t t1
        have ne1 : (at₉ t).toNatClampNeg ≠ to.toNatClampNeg := by
          rw [tn_eq, ton]
          rcases far t t1 t2 t3 z with q | q <;> omega
        have eq1 : ow2 (at₉ t).toNatClampNeg = ow (at₉ t).toNatClampNeg := by
          rcases m3 _ ne1 with q | ⟨q, _, _⟩
          · exact q
          · exfalso
            rw [tn_cast hbt] at q
            rw [ha] at q
            exact z (uniq t t1 t2 t3 q)
        rw [eq1]
        refine ⟨c1, c2, c3, fun t₉ u1 u2 u3 u4 => ?_⟩
        by_cases y : t₉ = s.toNatClampNeg
        · rw [y] at u3 u4 ⊢
          rcases far t t1 t2 t3 z with q | q <;> omega
        · rw [at_o t₉ y] at u3 u4 ⊢
          exact c4 t₉ u1 u2 u3 u4
    · by_cases z : t = s.toNatClampNeg
      · rw [z]; exact Or.inl (by omega)
      · rw [at_o t z] at t3 ⊢
        rcases far t t1 t2 t3 z with q | q
        · exact Or.inl (by omega)
        · exact Or.inr (by omega)
theorem SL_end (h : zSL ol e f p us ws at₉ ow) (hp : ol ≤ p) : f ≤ e ∧ zPK ol f us ws at₉ ow := by
  refine ⟨h.2.1, fun s h1 h2 h3 => ?_⟩
  obtain ⟨a1, a2, a3, a4⟩ := h.1 s h1 h2 h3
  refine ⟨a1, a2, ?_, a4⟩
  rcases h.2.2 s h1 h2 h3 with q | q <;> omega
theorem LO_rfl : zLO ol at₉ at₉ := fun _ _ => Or.inl rfl
theorem LO_mv {r : Nat → Int32} (h : zLO ol r at₉) (hm : zmov s to at₉ ow at2 ow2) (ha : (at₉ s.toNatClampNeg).toInt < ol) (hto : to.toInt < ol) : zLO ol r at2 := by
  intro t ht
  rcases hm with ⟨m1, m2, m3⟩ | ⟨m1, m2, m3⟩
  · rw [m1]; exact h t ht
  · rw [m1]
    split
    · next z =>
      refine Or.inr ⟨?_, hto⟩
      rcases h t ht with q | q
      · rw [← q, z]; exact ha
      · exact q.1
    · exact h t ht
end PK1

/-! from 94.441 -/
/-! the reference (written by wip/tools/gen94m.py) -/
set_option maxRecDepth 100000 in
theorem hm_204 : ma_md 204 = some (12, yX12_slide, cX12_slide, 6, (some (FieldType.int))) := rfl
theorem dX12_slide_0 : decode cX12_slide 0 = .ok (.iconst 0, 1) := by decide +kernel
theorem dX12_slide_1 : decode cX12_slide 1 = .ok (.istore_n 2, 1) := by decide +kernel
theorem dX12_slide_2 : decode cX12_slide 2 = .ok (.iconst 0, 1) := by decide +kernel
theorem dX12_slide_3 : decode cX12_slide 3 = .ok (.istore_n 3, 1) := by decide +kernel
theorem dX12_slide_4 : decode cX12_slide 4 = .ok (.iload_n 3, 1) := by decide +kernel
theorem dX12_slide_5 : decode cX12_slide 5 = .ok (.iload_n 1, 1) := by decide +kernel
theorem dX12_slide_76 : decode cX12_slide 76 = .ok (.iload_n 2, 1) := by decide +kernel
theorem dX12_slide_77 : decode cX12_slide 77 = .ok (.ireturn, 1) := by decide +kernel
theorem dX12_slide_9 : decode cX12_slide 9 = .ok (.aload_n 0, 1) := by decide +kernel
theorem dX12_slide_13 : decode cX12_slide 13 = .ok (.iload_n 3, 1) := by decide +kernel
theorem dX12_slide_15 : decode cX12_slide 15 = .ok (.istore 4, 2) := by decide +kernel
theorem dX12_slide_17 : decode cX12_slide 17 = .ok (.iload 4, 2) := by decide +kernel
theorem dX12_slide_28 : decode cX12_slide 28 = .ok (.iload_n 3, 1) := by decide +kernel
theorem dX12_slide_29 : decode cX12_slide 29 = .ok (.aload_n 0, 1) := by decide +kernel
theorem dX12_slide_30 : decode cX12_slide 30 = .ok (.iload 4, 2) := by decide +kernel
theorem dX12_slide_32 : decode cX12_slide 32 = .ok (.invokevirtual 327, 3) := by decide +kernel
theorem dX12_slide_35 : decode cX12_slide 35 = .ok (.iadd, 1) := by decide +kernel
theorem dX12_slide_36 : decode cX12_slide 36 = .ok (.istore 5, 2) := by decide +kernel
theorem dX12_slide_38 : decode cX12_slide 38 = .ok (.aload_n 0, 1) := by decide +kernel
theorem dX12_slide_42 : decode cX12_slide 42 = .ok (.iload 4, 2) := by decide +kernel
theorem dX12_slide_55 : decode cX12_slide 55 = .ok (.aload_n 0, 1) := by decide +kernel
theorem dX12_slide_59 : decode cX12_slide 59 = .ok (.iload 4, 2) := by decide +kernel
theorem dX12_slide_62 : decode cX12_slide 62 = .ok (.aload_n 0, 1) := by decide +kernel
theorem dX12_slide_63 : decode cX12_slide 63 = .ok (.iload 4, 2) := by decide +kernel
theorem dX12_slide_65 : decode cX12_slide 65 = .ok (.invokevirtual 327, 3) := by decide +kernel
theorem dX12_slide_68 : decode cX12_slide 68 = .ok (.iadd, 1) := by decide +kernel
theorem dX12_slide_69 : decode cX12_slide 69 = .ok (.istore_n 2, 1) := by decide +kernel
theorem dX12_slide_70 : decode cX12_slide 70 = .ok (.iload 5, 2) := by decide +kernel
theorem dX12_slide_72 : decode cX12_slide 72 = .ok (.istore_n 3, 1) := by decide +kernel
theorem dX12_slide_73 : decode cX12_slide 73 = .ok (.goto (-69), 3) := by decide +kernel
theorem dX12_slide_61 : decode cX12_slide 61 = .ok (.iaload, 1) := by decide +kernel
theorem dX12_slide_56 : decode cX12_slide 56 = .ok (.getfield 40, 3) := by decide +kernel
theorem dX12_slide_48 : decode cX12_slide 48 = .ok (.aload_n 0, 1) := by decide +kernel
theorem dX12_slide_49 : decode cX12_slide 49 = .ok (.iload 4, 2) := by decide +kernel
theorem dX12_slide_51 : decode cX12_slide 51 = .ok (.iload_n 2, 1) := by decide +kernel
theorem dX12_slide_52 : decode cX12_slide 52 = .ok (.invokevirtual 352, 3) := by decide +kernel
theorem dX12_slide_45 : decode cX12_slide 45 = .ok (.ifCond .ne 10, 3) := by decide +kernel
theorem dX12_slide_44 : decode cX12_slide 44 = .ok (.iaload, 1) := by decide +kernel
theorem dX12_slide_39 : decode cX12_slide 39 = .ok (.getfield 52, 3) := by decide +kernel
theorem dX12_slide_22 : decode cX12_slide 22 = .ok (.iinc 3 1, 3) := by decide +kernel
theorem dX12_slide_25 : decode cX12_slide 25 = .ok (.goto (-21), 3) := by decide +kernel
theorem dX12_slide_19 : decode cX12_slide 19 = .ok (.ifCond .ge 9, 3) := by decide +kernel
theorem dX12_slide_14 : decode cX12_slide 14 = .ok (.iaload, 1) := by decide +kernel
theorem dX12_slide_10 : decode cX12_slide 10 = .ok (.getfield 65, 3) := by decide +kernel
theorem dX12_slide_6 : decode cX12_slide 6 = .ok (.if_icmp .ge 70, 3) := by decide +kernel
def wr_204 (c k : Nat) : Bool := Nat.beq c 103 || Nat.beq c 111 || (Nat.beq c 94 && (Nat.beq k 48))
theorem ws_205_204 : ∀ c k, wr_205 c k = true → wr_204 c k = true := by
  intro c k h
  simp only [wr_205, Bool.or_eq_true, Bool.and_eq_true, Nat.beq_eq] at h
  rcases h with (rfl | rfl) | ⟨rfl, rfl⟩ <;> rfl
theorem g_204_0 {X : Nat × (Nat → Int32)} {m : Nat → Nat → Int32} {P : Option ma_V → (Nat → Nat → Int32) → Prop} (lim : Int32) (h : zm X 2 43 204 4 [(0, .inr (.inr (some 94))), (1, .inl lim), (2, .inl (0 : Int32)), (3, .inl (0 : Int32))] m P) : zm X 2 43 204 0 [(0, .inr (.inr (some 94))), (1, .inl lim)] m P := by
  intro d w S Q hd hw hS hm HQ
  subst hm
  refine zw_push hm_204 dX12_slide_0 (v := .inl (0 : Int32)) rfl ?_
  refine zw_sto hm_204 dX12_slide_1 [(2, .inl (0 : Int32)), (0, .inr (.inr (some 94))), (1, .inl lim)] rfl rfl rfl ?_
  refine zw_push hm_204 dX12_slide_2 (v := .inl (0 : Int32)) rfl ?_
  refine zw_sto hm_204 dX12_slide_3 [(3, .inl (0 : Int32)), (2, .inl (0 : Int32)), (0, .inr (.inr (some 94))), (1, .inl lim)] rfl rfl rfl ?_
  exact zw_sub (ma_nd_of (ks := [0, 1, 2, 3]) rfl (by decide)) (ma_nd_of (ks := [3, 2, 0, 1]) rfl (by decide)) (ma_le_cons rfl (ma_le_cons rfl (ma_le_cons rfl (ma_le_cons rfl (ma_le_nil _))))) (h d w _ Q (by omega) (by omega) hS rfl HQ)
theorem g_204_4 {X : Nat × (Nat → Int32)} {m : Nat → Nat → Int32} {P : Option ma_V → (Nat → Nat → Int32) → Prop} (l1 : Int32) (l2 : Int32) (l3 : Int32) (h : if l1 ≤ l3 then (P (some (.inl l2)) m) else ((0 ≤ l3 ∧ l3.toNatClampNeg < 4600) ∧ (if 0 ≤ (m 111 l3.toNatClampNeg) then ((0 ≤ (m 111 l3.toNatClampNeg) ∧ (m 111 l3.toNatClampNeg).toNatClampNeg < 3100) ∧ ((0 ≤ (m 111 l3.toNatClampNeg) ∧ (m 111 l3.toNatClampNeg).toNatClampNeg < 3100) ∧ (if (m 107 (m 111 l3.toNatClampNeg).toNatClampNeg) = 0 then (zm X 1 21 205 0 [(0, .inr (.inr (some 94))), (1, .inl (m 111 l3.toNatClampNeg)), (2, .inl l2)] m (zmv (fun m1 => (0 ≤ (m 111 l3.toNatClampNeg) ∧ (m 111 l3.toNatClampNeg).toNatClampNeg < 3100) ∧ ((0 ≤ (m 111 l3.toNatClampNeg) ∧ (m 111 l3.toNatClampNeg).toNatClampNeg < 3100) ∧ (zm X 2 43 204 4 [(0, .inr (.inr (some 94))), (1, .inl l1), (2, .inl ((m1 103 (m 111 l3.toNatClampNeg).toNatClampNeg) + ((m1 102 (m 111 l3.toNatClampNeg).toNatClampNeg) + (1 : Int32)))), (3, .inl (l3 + ((m 102 (m 111 l3.toNatClampNeg).toNatClampNeg) + (1 : Int32))))] m1 P))))) else ((0 ≤ (m 111 l3.toNatClampNeg) ∧ (m 111 l3.toNatClampNeg).toNatClampNeg < 3100) ∧ ((0 ≤ (m 111 l3.toNatClampNeg) ∧ (m 111 l3.toNatClampNeg).toNatClampNeg < 3100) ∧ (zm X 2 43 204 4 [(0, .inr (.inr (some 94))), (1, .inl l1), (2, .inl ((m 103 (m 111 l3.toNatClampNeg).toNatClampNeg) + ((m 102 (m 111 l3.toNatClampNeg).toNatClampNeg) + (1 : Int32)))), (3, .inl (l3 + ((m 102 (m 111 l3.toNatClampNeg).toNatClampNeg) + (1 : Int32))))] m P)))))) else (zm X 2 43 204 4 [(0, .inr (.inr (some 94))), (1, .inl l1), (2, .inl l2), (3, .inl (l3 + (1 : Int32)))] m P)))) : zm X 2 43 204 4 [(0, .inr (.inr (some 94))), (1, .inl l1), (2, .inl l2), (3, .inl l3)] m P := by
  intro d w S Q hd hw hS hm HQ
  subst hm
  refine zw_push hm_204 dX12_slide_4 (v := .inl l3) rfl ?_
  refine zw_push hm_204 dX12_slide_5 (v := .inl l1) rfl ?_
  refine zw_if2 hm_204 dX12_slide_6 (t := 76) rfl zc2_ge ?_ ?_
  · intro hc
    rw [if_pos hc] at h
    refine zw_push hm_204 dX12_slide_76 (v := .inl l2) rfl ?_
    exact zw_iret hm_204 dX12_slide_77 (HQ _ _ h)
  · intro hc
    rw [if_neg hc] at h
    refine zw_push hm_204 dX12_slide_9 (v := .inr (.inr (some 94))) rfl ?_
    refine zw_gf hm_204 dX12_slide_10 (v := .inr (.inr (some 111))) (zT_is hS s_94) (zT_t hS s_94) rfl f_12_65_12 (zT_f hS r_94_43) ?_
    refine zw_push hm_204 dX12_slide_13 (v := .inl l3) rfl ?_
    obtain ⟨hg, h⟩ := h
    refine zw_ia hm_204 dX12_slide_14 (zT_is hS s_111) (zT_h hS s_111) rfl hg ?_
    show ma_wp X d w 204 15 [(0, .inr (.inr (some 94))), (1, .inl l1), (2, .inl l2), (3, .inl l3)] [.inl ((mI S) 111 l3.toNatClampNeg)] S _
    refine zw_sto hm_204 dX12_slide_15 [(4, .inl ((mI S) 111 l3.toNatClampNeg)), (0, .inr (.inr (some 94))), (1, .inl l1), (2, .inl l2), (3, .inl l3)] rfl rfl rfl ?_
    refine zw_push hm_204 dX12_slide_17 (v := .inl ((mI S) 111 l3.toNatClampNeg)) rfl ?_
    refine zw_if0 hm_204 dX12_slide_19 (t := 28) rfl zc0_ge ?_ ?_
    · intro hc
      rw [if_pos hc] at h
      refine zw_push hm_204 dX12_slide_28 (v := .inl l3) rfl ?_
      refine zw_push hm_204 dX12_slide_29 (v := .inr (.inr (some 94))) rfl ?_
      refine zw_push hm_204 dX12_slide_30 (v := .inl ((mI S) 111 l3.toNatClampNeg)) rfl ?_
      refine zw_cv hm_204 dX12_slide_32 v_12_327_12 hm_201 [.inl ((mI S) 111 l3.toNatClampNeg)] [.inl l3] rfl (zT_rt hS s_94 rfl) ⟨by omega, by omega⟩ rfl ?_
      show ma_wp X (d - 1) (w - 21) 201 0 [(0, .inr (.inr (some 94))), (1, .inl ((mI S) 111 l3.toNatClampNeg))] [] S _
      refine zw_push hm_201 dX12_sizeOf_0 (v := .inr (.inr (some 94))) rfl ?_
      refine zw_gf hm_201 dX12_sizeOf_1 (v := .inr (.inr (some 102))) (zT_is hS s_94) (zT_t hS s_94) rfl f_12_37_12 (zT_f hS r_94_34) ?_
      refine zw_push hm_201 dX12_sizeOf_4 (v := .inl ((mI S) 111 l3.toNatClampNeg)) rfl ?_
      obtain ⟨hg, h⟩ := h
      refine zw_ia hm_201 dX12_sizeOf_5 (zT_is hS s_102) (zT_h hS s_102) rfl hg ?_
      show ma_wp X (d - 1) (w - 21) 201 6 [(0, .inr (.inr (some 94))), (1, .inl ((mI S) 111 l3.toNatClampNeg))] [.inl ((mI S) 102 ((mI S) 111 l3.toNatClampNeg).toNatClampNeg)] S _
      refine zw_push hm_201 dX12_sizeOf_6 (v := .inl (1 : Int32)) rfl ?_
      refine zw_stk hm_201 dX12_sizeOf_7 (st₉ := [.inl (((mI S) 102 ((mI S) 111 l3.toNatClampNeg).toNatClampNeg) + (1 : Int32))]) rfl rfl ?_
      refine zw_iret hm_201 dX12_sizeOf_8 ?_
      show ma_wp X d w 204 35 [(4, .inl ((mI S) 111 l3.toNatClampNeg)), (0, .inr (.inr (some 94))), (1, .inl l1), (2, .inl l2), (3, .inl l3)] [.inl (((mI S) 102 ((mI S) 111 l3.toNatClampNeg).toNatClampNeg) + (1 : Int32)), .inl l3] S _
      refine zw_stk hm_204 dX12_slide_35 (st₉ := [.inl (l3 + (((mI S) 102 ((mI S) 111 l3.toNatClampNeg).toNatClampNeg) + (1 : Int32)))]) rfl rfl ?_
      refine zw_sto hm_204 dX12_slide_36 [(5, .inl (l3 + (((mI S) 102 ((mI S) 111 l3.toNatClampNeg).toNatClampNeg) + (1 : Int32)))), (4, .inl ((mI S) 111 l3.toNatClampNeg)), (0, .inr (.inr (some 94))), (1, .inl l1), (2, .inl l2), (3, .inl l3)] rfl rfl rfl ?_
      refine zw_push hm_204 dX12_slide_38 (v := .inr (.inr (some 94))) rfl ?_
      refine zw_gf hm_204 dX12_slide_39 (v := .inr (.inr (some 107))) (zT_is hS s_94) (zT_t hS s_94) rfl f_12_52_12 (zT_f hS r_94_39) ?_
      refine zw_push hm_204 dX12_slide_42 (v := .inl ((mI S) 111 l3.toNatClampNeg)) rfl ?_
      obtain ⟨hg, h⟩ := h
      refine zw_ia hm_204 dX12_slide_44 (zT_is hS s_107) (zT_h hS s_107) rfl hg ?_
      show ma_wp X d w 204 45 [(5, .inl (l3 + (((mI S) 102 ((mI S) 111 l3.toNatClampNeg).toNatClampNeg) + (1 : Int32)))), (4, .inl ((mI S) 111 l3.toNatClampNeg)), (0, .inr (.inr (some 94))), (1, .inl l1), (2, .inl l2), (3, .inl l3)] [.inl ((mI S) 107 ((mI S) 111 l3.toNatClampNeg).toNatClampNeg)] S _
      refine zw_if0 hm_204 dX12_slide_45 (t := 55) rfl zc0_ne ?_ ?_
      · intro hc
        rw [if_neg hc] at h
        refine zw_push hm_204 dX12_slide_55 (v := .inr (.inr (some 94))) rfl ?_
        refine zw_gf hm_204 dX12_slide_56 (v := .inr (.inr (some 103))) (zT_is hS s_94) (zT_t hS s_94) rfl f_12_40_12 (zT_f hS r_94_35) ?_
        refine zw_push hm_204 dX12_slide_59 (v := .inl ((mI S) 111 l3.toNatClampNeg)) rfl ?_
        obtain ⟨hg, h⟩ := h
        refine zw_ia hm_204 dX12_slide_61 (zT_is hS s_103) (zT_h hS s_103) rfl hg ?_
        show ma_wp X d w 204 62 [(5, .inl (l3 + (((mI S) 102 ((mI S) 111 l3.toNatClampNeg).toNatClampNeg) + (1 : Int32)))), (4, .inl ((mI S) 111 l3.toNatClampNeg)), (0, .inr (.inr (some 94))), (1, .inl l1), (2, .inl l2), (3, .inl l3)] [.inl ((mI S) 103 ((mI S) 111 l3.toNatClampNeg).toNatClampNeg)] S _
        refine zw_push hm_204 dX12_slide_62 (v := .inr (.inr (some 94))) rfl ?_
        refine zw_push hm_204 dX12_slide_63 (v := .inl ((mI S) 111 l3.toNatClampNeg)) rfl ?_
        refine zw_cv hm_204 dX12_slide_65 v_12_327_12 hm_201 [.inl ((mI S) 111 l3.toNatClampNeg)] [.inl ((mI S) 103 ((mI S) 111 l3.toNatClampNeg).toNatClampNeg)] rfl (zT_rt hS s_94 rfl) ⟨by omega, by omega⟩ rfl ?_
        show ma_wp X (d - 1) (w - 21) 201 0 [(0, .inr (.inr (some 94))), (1, .inl ((mI S) 111 l3.toNatClampNeg))] [] S _
        refine zw_push hm_201 dX12_sizeOf_0 (v := .inr (.inr (some 94))) rfl ?_
        refine zw_gf hm_201 dX12_sizeOf_1 (v := .inr (.inr (some 102))) (zT_is hS s_94) (zT_t hS s_94) rfl f_12_37_12 (zT_f hS r_94_34) ?_
        refine zw_push hm_201 dX12_sizeOf_4 (v := .inl ((mI S) 111 l3.toNatClampNeg)) rfl ?_
        obtain ⟨hg, h⟩ := h
        refine zw_ia hm_201 dX12_sizeOf_5 (zT_is hS s_102) (zT_h hS s_102) rfl hg ?_
        show ma_wp X (d - 1) (w - 21) 201 6 [(0, .inr (.inr (some 94))), (1, .inl ((mI S) 111 l3.toNatClampNeg))] [.inl ((mI S) 102 ((mI S) 111 l3.toNatClampNeg).toNatClampNeg)] S _
        refine zw_push hm_201 dX12_sizeOf_6 (v := .inl (1 : Int32)) rfl ?_
        refine zw_stk hm_201 dX12_sizeOf_7 (st₉ := [.inl (((mI S) 102 ((mI S) 111 l3.toNatClampNeg).toNatClampNeg) + (1 : Int32))]) rfl rfl ?_
        refine zw_iret hm_201 dX12_sizeOf_8 ?_
        show ma_wp X d w 204 68 [(5, .inl (l3 + (((mI S) 102 ((mI S) 111 l3.toNatClampNeg).toNatClampNeg) + (1 : Int32)))), (4, .inl ((mI S) 111 l3.toNatClampNeg)), (0, .inr (.inr (some 94))), (1, .inl l1), (2, .inl l2), (3, .inl l3)] [.inl (((mI S) 102 ((mI S) 111 l3.toNatClampNeg).toNatClampNeg) + (1 : Int32)), .inl ((mI S) 103 ((mI S) 111 l3.toNatClampNeg).toNatClampNeg)] S _
        refine zw_stk hm_204 dX12_slide_68 (st₉ := [.inl (((mI S) 103 ((mI S) 111 l3.toNatClampNeg).toNatClampNeg) + (((mI S) 102 ((mI S) 111 l3.toNatClampNeg).toNatClampNeg) + (1 : Int32)))]) rfl rfl ?_
        refine zw_sto hm_204 dX12_slide_69 [(2, .inl (((mI S) 103 ((mI S) 111 l3.toNatClampNeg).toNatClampNeg) + (((mI S) 102 ((mI S) 111 l3.toNatClampNeg).toNatClampNeg) + (1 : Int32)))), (5, .inl (l3 + (((mI S) 102 ((mI S) 111 l3.toNatClampNeg).toNatClampNeg) + (1 : Int32)))), (4, .inl ((mI S) 111 l3.toNatClampNeg)), (0, .inr (.inr (some 94))), (1, .inl l1), (3, .inl l3)] rfl rfl rfl ?_
        refine zw_push hm_204 dX12_slide_70 (v := .inl (l3 + (((mI S) 102 ((mI S) 111 l3.toNatClampNeg).toNatClampNeg) + (1 : Int32)))) rfl ?_
        refine zw_sto hm_204 dX12_slide_72 [(3, .inl (l3 + (((mI S) 102 ((mI S) 111 l3.toNatClampNeg).toNatClampNeg) + (1 : Int32)))), (2, .inl (((mI S) 103 ((mI S) 111 l3.toNatClampNeg).toNatClampNeg) + (((mI S) 102 ((mI S) 111 l3.toNatClampNeg).toNatClampNeg) + (1 : Int32)))), (5, .inl (l3 + (((mI S) 102 ((mI S) 111 l3.toNatClampNeg).toNatClampNeg) + (1 : Int32)))), (4, .inl ((mI S) 111 l3.toNatClampNeg)), (0, .inr (.inr (some 94))), (1, .inl l1)] rfl rfl rfl ?_
        refine zw_goto hm_204 dX12_slide_73 (t := 4) rfl ?_
        exact zw_sub (ma_nd_of (ks := [0, 1, 2, 3]) rfl (by decide)) (ma_nd_of (ks := [3, 2, 5, 4, 0, 1]) rfl (by decide)) (ma_le_cons rfl (ma_le_cons rfl (ma_le_cons rfl (ma_le_cons rfl (ma_le_nil _))))) (h d w _ Q (by omega) (by omega) hS rfl HQ)
      · intro hc
        rw [if_pos (Classical.not_not.mp hc)] at h
        refine zw_push hm_204 dX12_slide_48 (v := .inr (.inr (some 94))) rfl ?_
        refine zw_push hm_204 dX12_slide_49 (v := .inl ((mI S) 111 l3.toNatClampNeg)) rfl ?_
        refine zw_push hm_204 dX12_slide_51 (v := .inl l2) rfl ?_
        refine zw_cv hm_204 dX12_slide_52 v_12_352_12 hm_205 [.inl l2, .inl ((mI S) 111 l3.toNatClampNeg)] [] rfl (zT_rt hS s_94 rfl) ⟨by omega, by omega⟩ rfl (h _ _ S _ (by omega) (by omega) hS rfl (fun o9 m1 hv => ?_))
        obtain ⟨rfl, h⟩ := zmv_of hv
        show ma_wp X d w 204 55 [(5, .inl (l3 + (((mI S) 102 ((mI S) 111 l3.toNatClampNeg).toNatClampNeg) + (1 : Int32)))), (4, .inl ((mI S) 111 l3.toNatClampNeg)), (0, .inr (.inr (some 94))), (1, .inl l1), (2, .inl l2), (3, .inl l3)] [] (zst S m1) _
        refine zw_push hm_204 dX12_slide_55 (v := .inr (.inr (some 94))) rfl ?_
        refine zw_gf hm_204 dX12_slide_56 (v := .inr (.inr (some 103))) (zT_is (zT_zst hS m1) s_94) (zT_t (zT_zst hS m1) s_94) rfl f_12_40_12 (zT_f (zT_zst hS m1) r_94_35) ?_
        refine zw_push hm_204 dX12_slide_59 (v := .inl ((mI S) 111 l3.toNatClampNeg)) rfl ?_
        obtain ⟨hg, h⟩ := h
        refine zw_ia hm_204 dX12_slide_61 (zT_is (zT_zst hS m1) s_103) (zT_h (zT_zst hS m1) s_103) rfl hg ?_
        show ma_wp X d w 204 62 [(5, .inl (l3 + (((mI S) 102 ((mI S) 111 l3.toNatClampNeg).toNatClampNeg) + (1 : Int32)))), (4, .inl ((mI S) 111 l3.toNatClampNeg)), (0, .inr (.inr (some 94))), (1, .inl l1), (2, .inl l2), (3, .inl l3)] [.inl (m1 103 ((mI S) 111 l3.toNatClampNeg).toNatClampNeg)] (zst S m1) _
        refine zw_push hm_204 dX12_slide_62 (v := .inr (.inr (some 94))) rfl ?_
        refine zw_push hm_204 dX12_slide_63 (v := .inl ((mI S) 111 l3.toNatClampNeg)) rfl ?_
        refine zw_cv hm_204 dX12_slide_65 v_12_327_12 hm_201 [.inl ((mI S) 111 l3.toNatClampNeg)] [.inl (m1 103 ((mI S) 111 l3.toNatClampNeg).toNatClampNeg)] rfl (zT_rt (zT_zst hS m1) s_94 rfl) ⟨by omega, by omega⟩ rfl ?_
        show ma_wp X (d - 1) (w - 21) 201 0 [(0, .inr (.inr (some 94))), (1, .inl ((mI S) 111 l3.toNatClampNeg))] [] (zst S m1) _
        refine zw_push hm_201 dX12_sizeOf_0 (v := .inr (.inr (some 94))) rfl ?_
        refine zw_gf hm_201 dX12_sizeOf_1 (v := .inr (.inr (some 102))) (zT_is (zT_zst hS m1) s_94) (zT_t (zT_zst hS m1) s_94) rfl f_12_37_12 (zT_f (zT_zst hS m1) r_94_34) ?_
        refine zw_push hm_201 dX12_sizeOf_4 (v := .inl ((mI S) 111 l3.toNatClampNeg)) rfl ?_
        obtain ⟨hg, h⟩ := h
        refine zw_ia hm_201 dX12_sizeOf_5 (zT_is (zT_zst hS m1) s_102) (zT_h (zT_zst hS m1) s_102) rfl hg ?_
        show ma_wp X (d - 1) (w - 21) 201 6 [(0, .inr (.inr (some 94))), (1, .inl ((mI S) 111 l3.toNatClampNeg))] [.inl (m1 102 ((mI S) 111 l3.toNatClampNeg).toNatClampNeg)] (zst S m1) _
        refine zw_push hm_201 dX12_sizeOf_6 (v := .inl (1 : Int32)) rfl ?_
        refine zw_stk hm_201 dX12_sizeOf_7 (st₉ := [.inl ((m1 102 ((mI S) 111 l3.toNatClampNeg).toNatClampNeg) + (1 : Int32))]) rfl rfl ?_
        refine zw_iret hm_201 dX12_sizeOf_8 ?_
        show ma_wp X d w 204 68 [(5, .inl (l3 + (((mI S) 102 ((mI S) 111 l3.toNatClampNeg).toNatClampNeg) + (1 : Int32)))), (4, .inl ((mI S) 111 l3.toNatClampNeg)), (0, .inr (.inr (some 94))), (1, .inl l1), (2, .inl l2), (3, .inl l3)] [.inl ((m1 102 ((mI S) 111 l3.toNatClampNeg).toNatClampNeg) + (1 : Int32)), .inl (m1 103 ((mI S) 111 l3.toNatClampNeg).toNatClampNeg)] (zst S m1) _
        refine zw_stk hm_204 dX12_slide_68 (st₉ := [.inl ((m1 103 ((mI S) 111 l3.toNatClampNeg).toNatClampNeg) + ((m1 102 ((mI S) 111 l3.toNatClampNeg).toNatClampNeg) + (1 : Int32)))]) rfl rfl ?_
        refine zw_sto hm_204 dX12_slide_69 [(2, .inl ((m1 103 ((mI S) 111 l3.toNatClampNeg).toNatClampNeg) + ((m1 102 ((mI S) 111 l3.toNatClampNeg).toNatClampNeg) + (1 : Int32)))), (5, .inl (l3 + (((mI S) 102 ((mI S) 111 l3.toNatClampNeg).toNatClampNeg) + (1 : Int32)))), (4, .inl ((mI S) 111 l3.toNatClampNeg)), (0, .inr (.inr (some 94))), (1, .inl l1), (3, .inl l3)] rfl rfl rfl ?_
        refine zw_push hm_204 dX12_slide_70 (v := .inl (l3 + (((mI S) 102 ((mI S) 111 l3.toNatClampNeg).toNatClampNeg) + (1 : Int32)))) rfl ?_
        refine zw_sto hm_204 dX12_slide_72 [(3, .inl (l3 + (((mI S) 102 ((mI S) 111 l3.toNatClampNeg).toNatClampNeg) + (1 : Int32)))), (2, .inl ((m1 103 ((mI S) 111 l3.toNatClampNeg).toNatClampNeg) + ((m1 102 ((mI S) 111 l3.toNatClampNeg).toNatClampNeg) + (1 : Int32)))), (5, .inl (l3 + (((mI S) 102 ((mI S) 111 l3.toNatClampNeg).toNatClampNeg) + (1 : Int32)))), (4, .inl ((mI S) 111 l3.toNatClampNeg)), (0, .inr (.inr (some 94))), (1, .inl l1)] rfl rfl rfl ?_
        refine zw_goto hm_204 dX12_slide_73 (t := 4) rfl ?_
        exact zw_sub (ma_nd_of (ks := [0, 1, 2, 3]) rfl (by decide)) (ma_nd_of (ks := [3, 2, 5, 4, 0, 1]) rfl (by decide)) (ma_le_cons rfl (ma_le_cons rfl (ma_le_cons rfl (ma_le_cons rfl (ma_le_nil _))))) (h d w _ Q (by omega) (by omega) (zT_zst hS m1) rfl HQ)
    · intro hc
      rw [if_neg hc] at h
      refine zw_sto hm_204 dX12_slide_22 [(3, .inl (l3 + (1 : Int32))), (4, .inl ((mI S) 111 l3.toNatClampNeg)), (0, .inr (.inr (some 94))), (1, .inl l1), (2, .inl l2)] rfl rfl rfl ?_
      refine zw_goto hm_204 dX12_slide_25 (t := 4) rfl ?_
      exact zw_sub (ma_nd_of (ks := [0, 1, 2, 3]) rfl (by decide)) (ma_nd_of (ks := [3, 4, 0, 1, 2]) rfl (by decide)) (ma_le_cons rfl (ma_le_cons rfl (ma_le_cons rfl (ma_le_cons rfl (ma_le_nil _))))) (h d w _ Q (by omega) (by omega) hS rfl HQ)
theorem lp_204_4 {X : Nat × (Nat → Int32)} {P : Option ma_V → (Nat → Nat → Int32) → Prop} {G : Prop} {E : Int} {lim : Int32} {m0 : Nat → Nat → Int32} (h0 : zV m0) (K : ∀ v m₉, zF wr_204 m0 m₉ → zV m₉ → (zOw (m₉ 99) (m₉ 103) (m₉ 111)) → (G → v.toInt ≤ E ∧ zPK lim.toInt v.toInt (m₉ 99) (m₉ 102) (m₉ 103) (m₉ 111)) → (zLO lim.toInt (m0 103) (m₉ 103)) → (0 ≤ v.toInt ∧ v.toInt ≤ 1600) → P (some (.inl v)) m₉) : ∀ (n : Nat) (m : Nat → Nat → Int32) (l1 : Int32) (l2 : Int32) (l3 : Int32), (1500 - l3.toInt).toNat = n → zF wr_204 m0 m → zV m → (0 ≤ l2.toInt) → (l2.toInt ≤ l3.toInt) → (l3.toInt ≤ 1600) → (l1.toInt = lim.toInt) → (lim.toInt ≤ 1500) → (zOw (m 99) (m 103) (m 111)) → (G → zSL lim.toInt E l2.toInt l3.toInt (m 99) (m 102) (m 103) (m 111)) → (zLO lim.toInt (m0 103) (m 103)) → zm X 2 43 204 4 [(0, .inr (.inr (some 94))), (1, .inl l1), (2, .inl l2), (3, .inl l3)] m P := by
  intro n
  induction n using Nat.strongRecOn with
  | _ n IH =>
    intro m l1 l2 l3 hmu hF hV hi0 hi1 hi2 hi3 hi4 r_OW r_SL r_LO
    refine g_204_4 l1 l2 l3 ?_
    have b1 := i_bd l1
    have b2 := i_bd l3
    refine zd (fun (h3 : l1 ≤ l3) => ?_) (fun (h3 : ¬ l1 ≤ l3) => ?_)
    · skip
      have g4 := i_le h3
      have b5 := i_bd l2
      exact K (l2) _ hF hV r_OW (show G → l2.toInt ≤ E ∧ zPK lim.toInt l2.toInt (m 99) (m 102) (m 103) (m 111) from by first | (exact fun g => SL_end (r_SL g) (by omega)) | (exfalso; omega; done) | (exfalso; contradiction; done)) r_LO (show 0 ≤ l2.toInt ∧ l2.toInt ≤ 1600 from by omega)
    · skip
      have g6 := i_nle h3
      have hg7 : (0 ≤ l3 ∧ l3.toNatClampNeg < 4600) := i_ix (by omega) (by omega)
      refine ⟨hg7, ?_⟩
      have li8 : (0 : Int32).toInt = 0 := rfl
      first | have f9 : -1 ≤ (m 111 l3.toNatClampNeg).toInt ∧ (m 111 l3.toNatClampNeg).toInt ≤ 3099 := ra_111 (m := m) hV (k := l3.toNatClampNeg) (i_ix (n := 4600) (by omega) (by omega)).2 | have b10 := i_bd (m 111 l3.toNatClampNeg)
      refine zd (fun (h11 : (0 : Int32) ≤ (m 111 l3.toNatClampNeg)) => ?_) (fun (h11 : ¬ (0 : Int32) ≤ (m 111 l3.toNatClampNeg)) => ?_)
      · skip
        have g12 := i_le h11
        try have tc3 := tn_cast (x := l3) (by omega)
        try have ow3 := r_OW l3.toNatClampNeg (by omega) (by omega)
        have hg13 : (0 ≤ (m 111 l3.toNatClampNeg) ∧ (m 111 l3.toNatClampNeg).toNatClampNeg < 3100) := i_ix (by omega) (by omega)
        refine ⟨hg13, ?_⟩
        have hg14 : (0 ≤ (m 111 l3.toNatClampNeg) ∧ (m 111 l3.toNatClampNeg).toNatClampNeg < 3100) := i_ix (by omega) (by omega)
        refine ⟨hg14, ?_⟩
        have b15 := i_bd (m 107 (m 111 l3.toNatClampNeg).toNatClampNeg)
        refine zd (fun (h16 : (m 107 (m 111 l3.toNatClampNeg).toNatClampNeg) = (0 : Int32)) => ?_) (fun (h16 : ¬ (m 107 (m 111 l3.toNatClampNeg).toNatClampNeg) = (0 : Int32)) => ?_)
        · skip
          have g17 := i_eq h16
          have b18 := i_bd l2
          refine sp_205 ((m 111 l3.toNatClampNeg)) (l2) hV (by omega) (by omega) (by omega) (by omega) (show (m 99) (m 111 l3.toNatClampNeg).toNatClampNeg ≠ 0 from by first | (assumption; done) | (exact ow5.1) | (exact ow3.1) | (exfalso; omega; done) | (exfalso; contradiction; done)) r_OW (fun m1 hV_m1 p0_m1 p1_m1 => zmv_n ?_)
          have p0_m1 : zOw (m 99) (m1 103) (m1 111) := p0_m1
          have p1_m1 : zmov (m 111 l3.toNatClampNeg) l2 (m 103) (m 111) (m1 103) (m1 111) := p1_m1
          try have mvs := mv_s p1_m1
          have hg19 : (0 ≤ (m 111 l3.toNatClampNeg) ∧ (m 111 l3.toNatClampNeg).toNatClampNeg < 3100) := i_ix (by omega) (by omega)
          refine ⟨hg19, ?_⟩
          try have tc3 := tn_cast (x := l3) (by omega)
          try have ow3 := p0_m1 l3.toNatClampNeg (by omega) (by omega)
          have hg20 : (0 ≤ (m 111 l3.toNatClampNeg) ∧ (m 111 l3.toNatClampNeg).toNatClampNeg < 3100) := i_ix (by omega) (by omega)
          refine ⟨hg20, ?_⟩
          first | have f21 : 0 ≤ (m1 103 (m 111 l3.toNatClampNeg).toNatClampNeg).toInt ∧ (m1 103 (m 111 l3.toNatClampNeg).toNatClampNeg).toInt ≤ 4599 := ra_103 (m := (zov wr_205 m m1)) hV_m1 (k := (m 111 l3.toNatClampNeg).toNatClampNeg) (i_ix (n := 3100) (by omega) (by omega)).2 | have b22 := i_bd (m1 103 (m 111 l3.toNatClampNeg).toNatClampNeg)
          first | have f23 : 0 ≤ (m 102 (m 111 l3.toNatClampNeg).toNatClampNeg).toInt ∧ (m 102 (m 111 l3.toNatClampNeg).toNatClampNeg).toInt ≤ 60 := ra_102 (m := m) hV (k := (m 111 l3.toNatClampNeg).toNatClampNeg) (i_ix (n := 3100) (by omega) (by omega)).2 | have b24 := i_bd (m 102 (m 111 l3.toNatClampNeg).toNatClampNeg)
          first | have e25 : ((m 102 (m 111 l3.toNatClampNeg).toNatClampNeg) + (1 : Int32)).toInt = (m 102 (m 111 l3.toNatClampNeg).toNatClampNeg).toInt + (1) := i_addk rfl (by omega) (by omega) | have b26 := i_bd ((m 102 (m 111 l3.toNatClampNeg).toNatClampNeg) + (1 : Int32))
          first | have e27 : ((m1 103 (m 111 l3.toNatClampNeg).toNatClampNeg) + ((m 102 (m 111 l3.toNatClampNeg).toNatClampNeg) + (1 : Int32))).toInt = (m1 103 (m 111 l3.toNatClampNeg).toNatClampNeg).toInt + ((m 102 (m 111 l3.toNatClampNeg).toNatClampNeg) + (1 : Int32)).toInt := i_add (by omega) (by omega) | have b28 := i_bd ((m1 103 (m 111 l3.toNatClampNeg).toNatClampNeg) + ((m 102 (m 111 l3.toNatClampNeg).toNatClampNeg) + (1 : Int32)))
          first | have e29 : (l3 + ((m 102 (m 111 l3.toNatClampNeg).toNatClampNeg) + (1 : Int32))).toInt = l3.toInt + ((m 102 (m 111 l3.toNatClampNeg).toNatClampNeg) + (1 : Int32)).toInt := i_add (by omega) (by omega) | have b30 := i_bd (l3 + ((m 102 (m 111 l3.toNatClampNeg).toNatClampNeg) + (1 : Int32)))
          exact IH (1500 - (l3 + ((m 102 (m 111 l3.toNatClampNeg).toNatClampNeg) + (1 : Int32))).toInt).toNat (by omega) _ (l1) (((m1 103 (m 111 l3.toNatClampNeg).toNatClampNeg) + ((m 102 (m 111 l3.toNatClampNeg).toNatClampNeg) + (1 : Int32)))) ((l3 + ((m 102 (m 111 l3.toNatClampNeg).toNatClampNeg) + (1 : Int32)))) rfl (zF_zov hF ws_205_204) hV_m1 (by omega) (by omega) (by omega) (by omega) (by omega) p0_m1 (show G → zSL lim.toInt E ((m1 103 (m 111 l3.toNatClampNeg).toNatClampNeg) + ((m 102 (m 111 l3.toNatClampNeg).toNatClampNeg) + (1 : Int32))).toInt (l3 + ((m 102 (m 111 l3.toNatClampNeg).toNatClampNeg) + (1 : Int32))).toInt (m 99) (m 102) (m1 103) (m1 111) from by first | (exact fun g => SL_skip (r_SL g) (show (m 111 l3.toNatClampNeg).toInt < 0 by omega) (by omega) (by omega)) | (exact fun g => SL_move (r_SL g) p1_m1 rfl (by omega) (by omega) (by omega) rfl ow3.1 (by omega) (by omega) (fun t ht => (ra_102 hV ht).1) (fun t ht => (ra_103 hV ht).1) (by omega) (by omega) (by omega)) | (exact fun g => SL_stay (r_SL g) (s := (m 111 l3.toNatClampNeg)) rfl (by omega) (by omega) ow3.1 (by omega) (by omega) (by omega) (by omega) (by omega) (by omega)) | (exfalso; omega; done) | (exfalso; contradiction; done)) (show zLO lim.toInt (m0 103) (m1 103) from by first | (exact LO_rfl) | (exact LO_mv r_LO p1_m1 (by omega) (by omega)) | (exfalso; omega; done) | (exfalso; contradiction; done))
        · skip
          have g31 := i_ne h16
          have hg32 : (0 ≤ (m 111 l3.toNatClampNeg) ∧ (m 111 l3.toNatClampNeg).toNatClampNeg < 3100) := i_ix (by omega) (by omega)
          refine ⟨hg32, ?_⟩
          try have tc3 := tn_cast (x := l3) (by omega)
          try have ow3 := r_OW l3.toNatClampNeg (by omega) (by omega)
          have hg33 : (0 ≤ (m 111 l3.toNatClampNeg) ∧ (m 111 l3.toNatClampNeg).toNatClampNeg < 3100) := i_ix (by omega) (by omega)
          refine ⟨hg33, ?_⟩
          first | have f34 : 0 ≤ (m 103 (m 111 l3.toNatClampNeg).toNatClampNeg).toInt ∧ (m 103 (m 111 l3.toNatClampNeg).toNatClampNeg).toInt ≤ 4599 := ra_103 (m := m) hV (k := (m 111 l3.toNatClampNeg).toNatClampNeg) (i_ix (n := 3100) (by omega) (by omega)).2 | have b35 := i_bd (m 103 (m 111 l3.toNatClampNeg).toNatClampNeg)
          first | have f36 : 0 ≤ (m 102 (m 111 l3.toNatClampNeg).toNatClampNeg).toInt ∧ (m 102 (m 111 l3.toNatClampNeg).toNatClampNeg).toInt ≤ 60 := ra_102 (m := m) hV (k := (m 111 l3.toNatClampNeg).toNatClampNeg) (i_ix (n := 3100) (by omega) (by omega)).2 | have b37 := i_bd (m 102 (m 111 l3.toNatClampNeg).toNatClampNeg)
          first | have e38 : ((m 102 (m 111 l3.toNatClampNeg).toNatClampNeg) + (1 : Int32)).toInt = (m 102 (m 111 l3.toNatClampNeg).toNatClampNeg).toInt + (1) := i_addk rfl (by omega) (by omega) | have b39 := i_bd ((m 102 (m 111 l3.toNatClampNeg).toNatClampNeg) + (1 : Int32))
          first | have e40 : ((m 103 (m 111 l3.toNatClampNeg).toNatClampNeg) + ((m 102 (m 111 l3.toNatClampNeg).toNatClampNeg) + (1 : Int32))).toInt = (m 103 (m 111 l3.toNatClampNeg).toNatClampNeg).toInt + ((m 102 (m 111 l3.toNatClampNeg).toNatClampNeg) + (1 : Int32)).toInt := i_add (by omega) (by omega) | have b41 := i_bd ((m 103 (m 111 l3.toNatClampNeg).toNatClampNeg) + ((m 102 (m 111 l3.toNatClampNeg).toNatClampNeg) + (1 : Int32)))
          first | have e42 : (l3 + ((m 102 (m 111 l3.toNatClampNeg).toNatClampNeg) + (1 : Int32))).toInt = l3.toInt + ((m 102 (m 111 l3.toNatClampNeg).toNatClampNeg) + (1 : Int32)).toInt := i_add (by omega) (by omega) | have b43 := i_bd (l3 + ((m 102 (m 111 l3.toNatClampNeg).toNatClampNeg) + (1 : Int32)))
          exact IH (1500 - (l3 + ((m 102 (m 111 l3.toNatClampNeg).toNatClampNeg) + (1 : Int32))).toInt).toNat (by omega) _ (l1) (((m 103 (m 111 l3.toNatClampNeg).toNatClampNeg) + ((m 102 (m 111 l3.toNatClampNeg).toNatClampNeg) + (1 : Int32)))) ((l3 + ((m 102 (m 111 l3.toNatClampNeg).toNatClampNeg) + (1 : Int32)))) rfl hF hV (by omega) (by omega) (by omega) (by omega) (by omega) r_OW (show G → zSL lim.toInt E ((m 103 (m 111 l3.toNatClampNeg).toNatClampNeg) + ((m 102 (m 111 l3.toNatClampNeg).toNatClampNeg) + (1 : Int32))).toInt (l3 + ((m 102 (m 111 l3.toNatClampNeg).toNatClampNeg) + (1 : Int32))).toInt (m 99) (m 102) (m 103) (m 111) from by first | (exact fun g => SL_skip (r_SL g) (show (m 111 l3.toNatClampNeg).toInt < 0 by omega) (by omega) (by omega)) | (exact fun g => SL_stay (r_SL g) (s := (m 111 l3.toNatClampNeg)) rfl (by omega) (by omega) ow3.1 (by omega) (by omega) (by omega) (by omega) (by omega) (by omega)) | (exfalso; omega; done) | (exfalso; contradiction; done)) r_LO
      · skip
        have g44 := i_nle h11
        have b45 := i_bd l2
        first | have e46 : (l3 + (1 : Int32)).toInt = l3.toInt + (1) := i_addk rfl (by omega) (by omega) | have b47 := i_bd (l3 + (1 : Int32))
        exact IH (1500 - (l3 + (1 : Int32)).toInt).toNat (by omega) _ (l1) (l2) ((l3 + (1 : Int32))) rfl hF hV (by omega) (by omega) (by omega) (by omega) (by omega) r_OW (show G → zSL lim.toInt E l2.toInt (l3 + (1 : Int32)).toInt (m 99) (m 102) (m 103) (m 111) from by first | (exact fun g => SL_skip (r_SL g) (show (m 111 l3.toNatClampNeg).toInt < 0 by omega) (by omega) (by omega)) | (exact fun g => SL_stay (r_SL g) (s := (m 111 l3.toNatClampNeg)) rfl (by omega) (by omega) ow3.1 (by omega) (by omega) (by omega) (by omega) (by omega) (by omega)) | (exfalso; omega; done) | (exfalso; contradiction; done)) r_LO
theorem sp_204 {X : Nat × (Nat → Int32)} {P : Option ma_V → (Nat → Nat → Int32) → Prop} {G : Prop} {E : Int} {m : Nat → Nat → Int32} (lim : Int32) (hV : zV m) (hpre0 : 0 ≤ lim.toInt) (hpre1 : lim.toInt ≤ 1500) (r_OW : zOw (m 99) (m 103) (m 111)) (r_PKx : G → 0 ≤ E ∧ zPK lim.toInt E (m 99) (m 102) (m 103) (m 111)) (KZ : ∀ v m₉, zV (zov wr_204 m m₉) → (zOw (m 99) (m₉ 103) (m₉ 111)) → (G → v.toInt ≤ E ∧ zPK lim.toInt v.toInt (m 99) (m 102) (m₉ 103) (m₉ 111)) → (zLO lim.toInt (m 103) (m₉ 103)) → (0 ≤ v.toInt ∧ v.toInt ≤ 1600) → P (some (.inl v)) (zov wr_204 m m₉)) : zm X 2 43 204 0 [(0, .inr (.inr (some 94))), (1, .inl lim)] m P := by
  have K : ∀ v m₉, zF wr_204 m m₉ → zV m₉ → (zOw (m₉ 99) (m₉ 103) (m₉ 111)) → (G → v.toInt ≤ E ∧ zPK lim.toInt v.toInt (m₉ 99) (m₉ 102) (m₉ 103) (m₉ 111)) → (zLO lim.toInt (m 103) (m₉ 103)) → (0 ≤ v.toInt ∧ v.toInt ≤ 1600) → P (some (.inl v)) m₉ := by
    intro v m₉ hf z q0 q1 q2 q3
    have e := zov_eq hf
    rw [e] at z ⊢
    try rw [e] at q0
    try rw [e] at q1
    try rw [e] at q2
    try rw [e] at q3
    exact KZ v m₉ z q0 q1 q2 q3
  refine g_204_0 lim ?_
  have b1 := i_bd lim
  have li2 : (0 : Int32).toInt = 0 := rfl
  exact lp_204_4 (lim := lim) hV K _ _ (lim) ((0 : Int32)) ((0 : Int32)) rfl zF_rfl hV (by omega) (by omega) (by omega) (by omega) (by omega) r_OW (show G → zSL lim.toInt E (0 : Int32).toInt (0 : Int32).toInt (m 99) (m 102) (m 103) (m 111) from by first | (exact fun g => SL_0 (r_PKx g).2 (r_PKx g).1 (fun t ht => (ra_103 hV ht).1)) | (exfalso; omega; done) | (exfalso; contradiction; done)) (show zLO lim.toInt (m 103) (m 103) from by first | (exact LO_rfl) | (exfalso; omega; done) | (exfalso; contradiction; done))

/-! from 94.442 -/
/-! the reference (written by wip/tools/gen94m.py) -/
set_option maxRecDepth 100000 in
theorem hm_186 : ma_md 186 = some (12, yX12_cleanSlide, cX12_cleanSlide, 2, (some (FieldType.int))) := rfl
theorem p_12_276_12 : ma_pk 12 276 12 59 = true := by decide +kernel
theorem v_12_349_12 : ma_vl 12 349 12 = some (1, 204, 1) := by decide +kernel
theorem dX12_cleanSlide_0 : decode cX12_cleanSlide 0 = .ok (.aload_n 0, 1) := by decide +kernel
theorem dX12_cleanSlide_1 : decode cX12_cleanSlide 1 = .ok (.invokevirtual 346, 3) := by decide +kernel
theorem dX12_cleanSlide_4 : decode cX12_cleanSlide 4 = .ok (.istore_n 1, 1) := by decide +kernel
theorem dX12_cleanSlide_5 : decode cX12_cleanSlide 5 = .ok (.aload_n 0, 1) := by decide +kernel
theorem dX12_cleanSlide_6 : decode cX12_cleanSlide 6 = .ok (.aload_n 0, 1) := by decide +kernel
theorem dX12_cleanSlide_7 : decode cX12_cleanSlide 7 = .ok (.aload_n 0, 1) := by decide +kernel
theorem dX12_cleanSlide_11 : decode cX12_cleanSlide 11 = .ok (.invokevirtual 349, 3) := by decide +kernel
theorem dX12_cleanSlide_17 : decode cX12_cleanSlide 17 = .ok (.iload_n 1, 1) := by decide +kernel
theorem dX12_cleanSlide_18 : decode cX12_cleanSlide 18 = .ok (.ireturn, 1) := by decide +kernel
theorem dX12_cleanSlide_14 : decode cX12_cleanSlide 14 = .ok (.putfield 276, 3) := by decide +kernel
theorem dX12_cleanSlide_8 : decode cX12_cleanSlide 8 = .ok (.getfield 202, 3) := by decide +kernel
def wr_186 (c k : Nat) : Bool := Nat.beq c 99 || Nat.beq c 103 || Nat.beq c 105 || Nat.beq c 109 || Nat.beq c 110 || Nat.beq c 111 || Nat.beq c 113 || Nat.beq c 114 || Nat.beq c 118 || (Nat.beq c 94 && (Nat.beq k 44 || Nat.beq k 45 || Nat.beq k 47 || Nat.beq k 48 || Nat.beq k 49 || Nat.beq k 55 || Nat.beq k 59 || Nat.beq k 73))
theorem ws_187_186 : ∀ c k, wr_187 c k = true → wr_186 c k = true := by
  intro c k h
  simp only [wr_187, Bool.or_eq_true, Bool.and_eq_true, Nat.beq_eq] at h
  rcases h with (((((((rfl | rfl) | rfl) | rfl) | rfl) | rfl) | rfl) | rfl) | ⟨rfl, (((((rfl | rfl) | rfl) | rfl) | rfl) | rfl)⟩ <;> rfl
theorem ws_204_186 : ∀ c k, wr_204 c k = true → wr_186 c k = true := by
  intro c k h
  simp only [wr_204, Bool.or_eq_true, Bool.and_eq_true, Nat.beq_eq] at h
  rcases h with (rfl | rfl) | ⟨rfl, rfl⟩ <;> rfl
theorem g_186_0 {X : Nat × (Nat → Int32)} {m : Nat → Nat → Int32} {P : Option ma_V → (Nat → Nat → Int32) → Prop}  (h : zm X 4 88 187 0 [(0, .inr (.inr (some 94)))] m (zmi (fun v2 m1 => zm X 2 43 204 0 [(0, .inr (.inr (some 94))), (1, .inl (m1 94 11))] m1 (zmi (fun v4 m3 => P (some (.inl v2)) (ma_u m3 94 59 v4)))))) : zm X 5 108 186 0 [(0, .inr (.inr (some 94)))] m P := by
  intro d w S Q hd hw hS hm HQ
  subst hm
  refine zw_push hm_186 dX12_cleanSlide_0 (v := .inr (.inr (some 94))) rfl ?_
  refine zw_cv hm_186 dX12_cleanSlide_1 v_12_346_12 hm_187 [] [] rfl (zT_rt hS s_94 rfl) ⟨by omega, by omega⟩ rfl (h _ _ S _ (by omega) (by omega) hS rfl (fun o9 m1 hv => ?_))
  obtain ⟨v2, rfl, h⟩ := zmi_of hv
  show ma_wp X d w 186 4 [(0, .inr (.inr (some 94)))] [.inl v2] (zst S m1) _
  refine zw_sto hm_186 dX12_cleanSlide_4 [(1, .inl v2), (0, .inr (.inr (some 94)))] rfl rfl rfl ?_
  refine zw_push hm_186 dX12_cleanSlide_5 (v := .inr (.inr (some 94))) rfl ?_
  refine zw_push hm_186 dX12_cleanSlide_6 (v := .inr (.inr (some 94))) rfl ?_
  refine zw_push hm_186 dX12_cleanSlide_7 (v := .inr (.inr (some 94))) rfl ?_
  refine zw_gf hm_186 dX12_cleanSlide_8 (v := .inl (m1 94 11)) (zT_is (zT_zst hS m1) s_94) (zT_t (zT_zst hS m1) s_94) rfl f_12_202_12 rfl ?_
  refine zw_cv hm_186 dX12_cleanSlide_11 v_12_349_12 hm_204 [.inl (m1 94 11)] [.inr (.inr (some 94))] rfl (zT_rt (zT_zst hS m1) s_94 rfl) ⟨by omega, by omega⟩ rfl (h _ _ (zst S m1) _ (by omega) (by omega) (zT_zst hS m1) rfl (fun o9 m3 hv => ?_))
  obtain ⟨v4, rfl, h⟩ := zmi_of hv
  show ma_wp X d w 186 14 [(1, .inl v2), (0, .inr (.inr (some 94)))] [.inl v4, .inr (.inr (some 94))] (zst S m3) _
  refine zw_pf hm_186 dX12_cleanSlide_14 (zT_is (zT_zst hS m3) s_94) (zT_t (zT_zst hS m3) s_94) p_12_276_12 zk_int ?_
  refine zw_push hm_186 dX12_cleanSlide_17 (v := .inl v2) rfl ?_
  exact zw_iret hm_186 dX12_cleanSlide_18 (HQ _ _ h)
theorem sp_186 {X : Nat × (Nat → Int32)} {P : Option ma_V → (Nat → Nat → Int32) → Prop} {T : Nat} {m : Nat → Nat → Int32}  (hV : zV m) (r_W : zW (m 94 7) (m 98) (m 101) (m 102) (m 108)) (r_GW : zGW T (m 94 55) (m 109)) (r_GU : zGU T (m 94 46) (m 99)) (r_OW : zOw (m 99) (m 103) (m 111)) (r_DX : zDX (m 94 10) (m 99) (m 112) (m 113) (m 114) (m 94 55) (m 98) (m 101) (m 102) (m 108)) (KZ : ∀ v m₉, zV (zov wr_186 m m₉) → (zGW T (m₉ 94 55) (m₉ 109)) → (zGU T (m 94 46) (m₉ 99)) → (zOw (m₉ 99) (m₉ 103) (m₉ 111)) → (zDX (m 94 10) (m₉ 99) (m 112) (m₉ 113) (m₉ 114) (m₉ 94 55) (m 98) (m 101) (m 102) (m 108)) → P (some (.inl v)) (zov wr_186 m m₉)) : zm X 5 108 186 0 [(0, .inr (.inr (some 94)))] m P := by
  have K : ∀ v m₉, zF wr_186 m m₉ → zV m₉ → (zGW T (m₉ 94 55) (m₉ 109)) → (zGU T (m₉ 94 46) (m₉ 99)) → (zOw (m₉ 99) (m₉ 103) (m₉ 111)) → (zDX (m₉ 94 10) (m₉ 99) (m₉ 112) (m₉ 113) (m₉ 114) (m₉ 94 55) (m₉ 98) (m₉ 101) (m₉ 102) (m₉ 108)) → P (some (.inl v)) m₉ := by
    intro v m₉ hf z q0 q1 q2 q3
    have e := zov_eq hf
    rw [e] at z ⊢
    try rw [e] at q0
    try rw [e] at q1
    try rw [e] at q2
    try rw [e] at q3
    exact KZ v m₉ z q0 q1 q2 q3
  refine g_186_0  ?_
  refine sp_187  hV r_W r_GW r_GU r_OW r_DX (fun v2 m1 hV_m1 p0_m1 p1_m1 p2_m1 p3_m1 p4_m1 => zmi_n ?_)
  have p0_m1 : zGW T (m1 94 55) (m1 109) := p0_m1
  have p1_m1 : zGU T (m 94 46) (m1 99) := p1_m1
  have p2_m1 : zOw (m1 99) (m 103) (m1 111) := p2_m1
  have p3_m1 : zDX (m 94 10) (m1 99) (m 112) (m1 113) (m1 114) (m1 94 55) (m 98) (m 101) (m 102) (m 108) := p3_m1
  have p4_m1 : zsw (m 99) (m1 99) (m 111) (m1 111) (m 103) := p4_m1
  have f1 : 0 ≤ (m 94 11).toInt ∧ (m 94 11).toInt ≤ 1500 := rs_94_11 (m := m) hV
  refine sp_204 (G := False) (E := 0) ((m 94 11)) hV_m1 (by omega) (by omega) p2_m1 (show False → 0 ≤ 0 ∧ zPK (m 94 11).toInt 0 (m1 99) (m 102) (m 103) (m1 111) from by first | (exact fun g => g.elim) | (exfalso; omega; done) | (exfalso; contradiction; done)) (fun v4 m3 hV_m3 p0_m3 p1_m3 p2_m3 p3_m3 => zmi_n ?_)
  have p0_m3 : zOw (m1 99) (m3 103) (m3 111) := p0_m3
  have p1_m3 : False → v4.toInt ≤ 0 ∧ zPK (m 94 11).toInt v4.toInt (m1 99) (m 102) (m3 103) (m3 111) := p1_m3
  have p2_m3 : zLO (m 94 11).toInt (m 103) (m3 103) := p2_m3
  have p3_m3 : 0 ≤ v4.toInt ∧ v4.toInt ≤ 1600 := p3_m3
  have b3 := i_bd v4
  have hV2 : zV (ma_u (zov wr_204 (zov wr_187 m m1) m3) 94 59 v4) := us_94_59 hV_m3 (by omega) (by omega)
  have b4 := i_bd v2
  exact K (v2) _ (zF_u (zF_zov (zF_zov zF_rfl ws_187_186) ws_204_186) rfl) hV2 p0_m1 p1_m1 p0_m3 p3_m1

/-! from 94.443 -/
/-! by halves and by ages: sums of sizes, dirty cards -/
def sm (b : Nat → Bool) (ws : Nat → Int32) : Nat → Int
  | 0 => 0
  | n + 1 => sm b ws n + (if b n = true then (ws n).toInt + 1 else 0)
def zbU (us : Nat → Int32) : Nat → Bool := fun s => decide (us s ≠ 0)
def zbY (ol : Int) (us at₉ : Nat → Int32) : Nat → Bool := fun s => decide (us s ≠ 0 ∧ ol ≤ (at₉ s).toInt)
/-- an OLD one's word that refers to YOUNG lies in a dirty card -/
def zDC (ol ca : Int) (us at₉ ws kr kd wd di : Nat → Int32) : Prop := ∀ s, s < 3100 → us s ≠ 0 → (at₉ s).toInt < ol → ∀ i : Nat, (i : Int) < (ws s).toInt → (zrf kr kd wd s i).toInt < 0 ∨ (at₉ (zrf kr kd wd s i).toNatClampNeg).toInt < ol ∨ di (((at₉ s).toInt + 1 + i) / ca).toNat ≠ 0
def zB2 (hf ro : Int32) : Int := if hf.toInt = 0 then 0 else ro.toInt
def zB3 (hf ol yo : Int32) : Int := ol.toInt + (if hf.toInt = 0 then 0 else yo.toInt)
/-- what holds by halves and by ages -/
def zHA (po ro yo ol ca hf tp ot : Int32) (us ws at₉ ow di kr kd wd : Nat → Int32) : Prop :=
  (po.toInt = 2 → zB2 hf ro ≤ tp.toInt ∧ tp.toInt ≤ zB2 hf ro + ro.toInt ∧ sm (zbU us) ws 3100 ≤ tp.toInt - zB2 hf ro) ∧
  (po.toInt = 3 → 4 ≤ ca.toInt ∧ (zB3 hf ol yo ≤ tp.toInt ∧ tp.toInt ≤ zB3 hf ol yo + yo.toInt ∧ sm (zbY ol.toInt us at₉) ws 3100 ≤ tp.toInt - zB3 hf ol yo) ∧ ot.toInt ≤ ol.toInt ∧ zPK ol.toInt ot.toInt us ws at₉ ow ∧ zDC ol.toInt ca.toInt us at₉ ws kr kd wd di)
def zRG (po si rg pr : Int32) (us at₉ ws rt : Nat → Int32) : Prop := po.toInt = 6 → zRG1 si rg pr us at₉ ws rt
section HA1
variable {po ro yo ol ca hf tp ot si rg pr : Int32} {us us₉ ws at₉ ow ow₉ di kr kd wd rt wk wk₉ wi wi₉ : Nat → Int32} {wm wm₉ : Int32} {m : Nat → Nat → Int32} {c k : Nat} {x : Int32}
theorem HA_lq (h : zHA po ro yo ol ca hf tp ot us ws at₉ ow di kr kd wd) (q : po.toInt ≠ 4 → us₉ = us ∧ ow₉ = ow) : zHA po ro yo ol ca hf tp ot us₉ ws at₉ ow₉ di kr kd wd := by
  refine ⟨fun e => ?_, fun e => ?_⟩
  · rw [(q (by omega)).1]; exact h.1 e
  · rw [(q (by omega)).1, (q (by omega)).2]; exact h.2 e
theorem RG_lq (h : zRG po si rg pr us at₉ ws rt) (q : po.toInt ≠ 4 → us₉ = us) : zRG po si rg pr us₉ at₉ ws rt := by
  intro e
  rw [q (by omega)]
  exact h e
/-- a ROOT, a WEAK is set -/
theorem cov_set {n : Int} (h : zcov us (m c) n) (hx : x.toInt < 0 ∨ us x.toNatClampNeg ≠ 0) : zcov us (ma_u m c k x c) n := by
  intro j hj
  rw [mu_at]
  split
  · exact hx
  · exact h j hj
theorem DX_root (h : zDX po us (m c) wk wi wm kr kd ws wd) (hx : (po.toInt = 2 ∨ po.toInt = 3) → x.toInt < 0 ∨ us x.toNatClampNeg ≠ 0) : zDX po us (ma_u m c k x c) wk wi wm kr kd ws wd := fun hp => ⟨cov_set (h hp).1 (hx hp), (h hp).2⟩
theorem DX_weak (h : zDX po us rt (m c) wi wm kr kd ws wd) (hx : x.toInt < 0 ∨ us x.toNatClampNeg ≠ 0) : zDX po us rt (ma_u m c k x c) wi wm kr kd ws wd := fun hp => ⟨(h hp).1, cov_set (h hp).2.1 hx, (h hp).2.2⟩
end HA1

/-! from 94.444 -/
/-! the reference (written by wip/tools/gen94m.py) -/
set_option maxRecDepth 100000 in
theorem hm_240 : ma_md 240 = some (12, yX12_changes, cX12_changes, 3, none) := rfl
theorem dX12_changes_0 : decode cX12_changes 0 = .ok (.aload_n 0, 1) := by decide +kernel
theorem dX12_changes_4 : decode cX12_changes 4 = .ok (.iconst 5, 1) := by decide +kernel
theorem dX12_changes_20 : decode cX12_changes 20 = .ok (.return_, 1) := by decide +kernel
theorem dX12_changes_8 : decode cX12_changes 8 = .ok (.aload_n 0, 1) := by decide +kernel
theorem dX12_changes_15 : decode cX12_changes 15 = .ok (.iload_n 1, 1) := by decide +kernel
theorem dX12_changes_16 : decode cX12_changes 16 = .ok (.iload_n 2, 1) := by decide +kernel
theorem dX12_changes_21 : decode cX12_changes 21 = .ok (.aload_n 0, 1) := by decide +kernel
theorem dX12_changes_22 : decode cX12_changes 22 = .ok (.aload_n 0, 1) := by decide +kernel
theorem dX12_changes_33 : decode cX12_changes 33 = .ok (.iload_n 2, 1) := by decide +kernel
theorem dX12_changes_34 : decode cX12_changes 34 = .ok (.invokevirtual 396, 3) := by decide +kernel
theorem dX12_changes_37 : decode cX12_changes 37 = .ok (.return_, 1) := by decide +kernel
theorem dX12_changes_29 : decode cX12_changes 29 = .ok (.iload_n 1, 1) := by decide +kernel
theorem dX12_changes_30 : decode cX12_changes 30 = .ok (.goto 4, 3) := by decide +kernel
theorem dX12_changes_26 : decode cX12_changes 26 = .ok (.ifCond .eq 7, 3) := by decide +kernel
theorem dX12_changes_23 : decode cX12_changes 23 = .ok (.getfield 228, 3) := by decide +kernel
theorem dX12_changes_17 : decode cX12_changes 17 = .ok (.if_icmp .ne 4, 3) := by decide +kernel
theorem dX12_changes_12 : decode cX12_changes 12 = .ok (.ifCond .eq 8, 3) := by decide +kernel
theorem dX12_changes_9 : decode cX12_changes 9 = .ok (.getfield 270, 3) := by decide +kernel
theorem dX12_changes_5 : decode cX12_changes 5 = .ok (.if_icmp .ne 15, 3) := by decide +kernel
theorem dX12_changes_1 : decode cX12_changes 1 = .ok (.getfield 199, 3) := by decide +kernel
def wr_240 (c k : Nat) : Bool := Nat.beq c 106 || Nat.beq c 115 || (Nat.beq c 94 && (Nat.beq k 56))
theorem g_240_0 {X : Nat × (Nat → Int32)} {m : Nat → Nat → Int32} {P : Option ma_V → (Nat → Nat → Int32) → Prop} (wa : Int32) (is : Int32) (h : if (m 94 10) = (5 : Int32) then (if (m 94 58) = 0 then (P none m) else (if wa = is then (P none m) else (if (m 94 9) = 0 then (if is < 0 then (P none m) else ((0 ≤ is ∧ is.toNatClampNeg < 3100) ∧ (if (m 106 is.toNatClampNeg) = 0 then ((0 ≤ is ∧ is.toNatClampNeg < 3100) ∧ ((0 ≤ (m 94 56) ∧ (m 94 56).toNatClampNeg < 3100) ∧ (P none (ma_u (ma_u (ma_u m 106 is.toNatClampNeg (1 : Int32)) 115 (m 94 56).toNatClampNeg is) 94 56 ((m 94 56) + (1 : Int32)))))) else (P none m)))) else (if wa < 0 then (P none m) else ((0 ≤ wa ∧ wa.toNatClampNeg < 3100) ∧ (if (m 106 wa.toNatClampNeg) = 0 then ((0 ≤ wa ∧ wa.toNatClampNeg < 3100) ∧ ((0 ≤ (m 94 56) ∧ (m 94 56).toNatClampNeg < 3100) ∧ (P none (ma_u (ma_u (ma_u m 106 wa.toNatClampNeg (1 : Int32)) 115 (m 94 56).toNatClampNeg wa) 94 56 ((m 94 56) + (1 : Int32)))))) else (P none m))))))) else (P none m)) : zm X 1 21 240 0 [(0, .inr (.inr (some 94))), (1, .inl wa), (2, .inl is)] m P := by
  intro d w S Q hd hw hS hm HQ
  subst hm
  refine zw_push hm_240 dX12_changes_0 (v := .inr (.inr (some 94))) rfl ?_
  refine zw_gf hm_240 dX12_changes_1 (v := .inl ((mI S) 94 10)) (zT_is hS s_94) (zT_t hS s_94) rfl f_12_199_12 rfl ?_
  refine zw_push hm_240 dX12_changes_4 (v := .inl (5 : Int32)) rfl ?_
  refine zw_if2 hm_240 dX12_changes_5 (t := 20) rfl zc2_ne ?_ ?_
  · intro hc
    rw [if_neg hc] at h
    exact zw_vret hm_240 dX12_changes_20 (HQ _ _ h)
  · intro hc
    rw [if_pos (Classical.not_not.mp hc)] at h
    refine zw_push hm_240 dX12_changes_8 (v := .inr (.inr (some 94))) rfl ?_
    refine zw_gf hm_240 dX12_changes_9 (v := .inl ((mI S) 94 58)) (zT_is hS s_94) (zT_t hS s_94) rfl f_12_270_12 rfl ?_
    refine zw_if0 hm_240 dX12_changes_12 (t := 20) rfl zc0_eq ?_ ?_
    · intro hc
      rw [if_pos hc] at h
      exact zw_vret hm_240 dX12_changes_20 (HQ _ _ h)
    · intro hc
      rw [if_neg hc] at h
      refine zw_push hm_240 dX12_changes_15 (v := .inl wa) rfl ?_
      refine zw_push hm_240 dX12_changes_16 (v := .inl is) rfl ?_
      refine zw_if2 hm_240 dX12_changes_17 (t := 21) rfl zc2_ne ?_ ?_
      · intro hc
        rw [if_neg hc] at h
        refine zw_push hm_240 dX12_changes_21 (v := .inr (.inr (some 94))) rfl ?_
        refine zw_push hm_240 dX12_changes_22 (v := .inr (.inr (some 94))) rfl ?_
        refine zw_gf hm_240 dX12_changes_23 (v := .inl ((mI S) 94 9)) (zT_is hS s_94) (zT_t hS s_94) rfl f_12_228_12 rfl ?_
        refine zw_if0 hm_240 dX12_changes_26 (t := 33) rfl zc0_eq ?_ ?_
        · intro hc
          rw [if_pos hc] at h
          refine zw_push hm_240 dX12_changes_33 (v := .inl is) rfl ?_
          refine zw_cv hm_240 dX12_changes_34 v_12_396_12 hm_221 [.inl is] [] rfl (zT_rt hS s_94 rfl) ⟨by omega, by omega⟩ rfl ?_
          show ma_wp X (d - 1) (w - 21) 221 0 [(0, .inr (.inr (some 94))), (1, .inl is)] [] S _
          refine zw_push hm_221 dX12_toGrey_0 (v := .inl is) rfl ?_
          refine zw_if0 hm_221 dX12_toGrey_1 (t := 13) rfl zc0_lt ?_ ?_
          · intro hc
            rw [if_pos hc] at h
            refine zw_vret hm_221 dX12_toGrey_13 ?_
            show ma_wp X d w 240 37 [(0, .inr (.inr (some 94))), (1, .inl wa), (2, .inl is)] [] S _
            exact zw_vret hm_240 dX12_changes_37 (HQ _ _ h)
          · intro hc
            rw [if_neg hc] at h
            refine zw_push hm_221 dX12_toGrey_4 (v := .inr (.inr (some 94))) rfl ?_
            refine zw_gf hm_221 dX12_toGrey_5 (v := .inr (.inr (some 106))) (zT_is hS s_94) (zT_t hS s_94) rfl f_12_49_12 (zT_f hS r_94_38) ?_
            refine zw_push hm_221 dX12_toGrey_8 (v := .inl is) rfl ?_
            obtain ⟨hg, h⟩ := h
            refine zw_ia hm_221 dX12_toGrey_9 (zT_is hS s_106) (zT_h hS s_106) rfl hg ?_
            show ma_wp X (d - 1) (w - 21) 221 10 [(0, .inr (.inr (some 94))), (1, .inl is)] [.inl ((mI S) 106 is.toNatClampNeg)] S _
            refine zw_if0 hm_221 dX12_toGrey_10 (t := 14) rfl zc0_eq ?_ ?_
            · intro hc
              rw [if_pos hc] at h
              refine zw_push hm_221 dX12_toGrey_14 (v := .inr (.inr (some 94))) rfl ?_
              refine zw_gf hm_221 dX12_toGrey_15 (v := .inr (.inr (some 106))) (zT_is hS s_94) (zT_t hS s_94) rfl f_12_49_12 (zT_f hS r_94_38) ?_
              refine zw_push hm_221 dX12_toGrey_18 (v := .inl is) rfl ?_
              refine zw_push hm_221 dX12_toGrey_19 (v := .inl (1 : Int32)) rfl ?_
              obtain ⟨hg, h⟩ := h
              refine zw_ias hm_221 dX12_toGrey_20 (zT_is hS s_106) (zT_h hS s_106) rfl hg ?_
              refine zw_push hm_221 dX12_toGrey_21 (v := .inr (.inr (some 94))) rfl ?_
              refine zw_gf hm_221 dX12_toGrey_22 (v := .inr (.inr (some 115))) (zT_is (zT_pi hS) s_94) (zT_t (zT_pi hS) s_94) rfl f_12_77_12 (zT_f (zT_pi hS) r_94_54) ?_
              refine zw_push hm_221 dX12_toGrey_25 (v := .inr (.inr (some 94))) rfl ?_
              refine zw_gf hm_221 dX12_toGrey_26 (v := .inl ((mI S) 94 56)) (zT_is (zT_pi hS) s_94) (zT_t (zT_pi hS) s_94) rfl f_12_264_12 rfl ?_
              refine zw_push hm_221 dX12_toGrey_29 (v := .inl is) rfl ?_
              obtain ⟨hg, h⟩ := h
              refine zw_ias hm_221 dX12_toGrey_30 (zT_is (zT_pi hS) s_115) (zT_h (zT_pi hS) s_115) rfl hg ?_
              refine zw_push hm_221 dX12_toGrey_31 (v := .inr (.inr (some 94))) rfl ?_
              refine zw_stk hm_221 dX12_toGrey_32 (st₉ := [.inr (.inr (some 94)), .inr (.inr (some 94))]) rfl rfl ?_
              refine zw_gf hm_221 dX12_toGrey_33 (v := .inl ((mI S) 94 56)) (zT_is (zT_pi (zT_pi hS)) s_94) (zT_t (zT_pi (zT_pi hS)) s_94) rfl f_12_264_12 rfl ?_
              refine zw_push hm_221 dX12_toGrey_36 (v := .inl (1 : Int32)) rfl ?_
              refine zw_stk hm_221 dX12_toGrey_37 (st₉ := [.inl (((mI S) 94 56) + (1 : Int32)), .inr (.inr (some 94))]) rfl rfl ?_
              refine zw_pf hm_221 dX12_toGrey_38 (zT_is (zT_pi (zT_pi hS)) s_94) (zT_t (zT_pi (zT_pi hS)) s_94) p_12_264_12 zk_int ?_
              refine zw_vret hm_221 dX12_toGrey_41 ?_
              show ma_wp X d w 240 37 [(0, .inr (.inr (some 94))), (1, .inl wa), (2, .inl is)] [] (ma_put (ma_put (ma_put S 106 is.toNatClampNeg (.inl (1 : Int32))) 115 ((mI S) 94 56).toNatClampNeg (.inl is)) 94 56 (.inl (((mI S) 94 56) + (1 : Int32)))) _
              exact zw_vret hm_240 dX12_changes_37 (HQ _ _ h)
            · intro hc
              rw [if_neg hc] at h
              refine zw_vret hm_221 dX12_toGrey_13 ?_
              show ma_wp X d w 240 37 [(0, .inr (.inr (some 94))), (1, .inl wa), (2, .inl is)] [] S _
              exact zw_vret hm_240 dX12_changes_37 (HQ _ _ h)
        · intro hc
          rw [if_neg hc] at h
          refine zw_push hm_240 dX12_changes_29 (v := .inl wa) rfl ?_
          refine zw_goto hm_240 dX12_changes_30 (t := 34) rfl ?_
          refine zw_cv hm_240 dX12_changes_34 v_12_396_12 hm_221 [.inl wa] [] rfl (zT_rt hS s_94 rfl) ⟨by omega, by omega⟩ rfl ?_
          show ma_wp X (d - 1) (w - 21) 221 0 [(0, .inr (.inr (some 94))), (1, .inl wa)] [] S _
          refine zw_push hm_221 dX12_toGrey_0 (v := .inl wa) rfl ?_
          refine zw_if0 hm_221 dX12_toGrey_1 (t := 13) rfl zc0_lt ?_ ?_
          · intro hc
            rw [if_pos hc] at h
            refine zw_vret hm_221 dX12_toGrey_13 ?_
            show ma_wp X d w 240 37 [(0, .inr (.inr (some 94))), (1, .inl wa), (2, .inl is)] [] S _
            exact zw_vret hm_240 dX12_changes_37 (HQ _ _ h)
          · intro hc
            rw [if_neg hc] at h
            refine zw_push hm_221 dX12_toGrey_4 (v := .inr (.inr (some 94))) rfl ?_
            refine zw_gf hm_221 dX12_toGrey_5 (v := .inr (.inr (some 106))) (zT_is hS s_94) (zT_t hS s_94) rfl f_12_49_12 (zT_f hS r_94_38) ?_
            refine zw_push hm_221 dX12_toGrey_8 (v := .inl wa) rfl ?_
            obtain ⟨hg, h⟩ := h
            refine zw_ia hm_221 dX12_toGrey_9 (zT_is hS s_106) (zT_h hS s_106) rfl hg ?_
            show ma_wp X (d - 1) (w - 21) 221 10 [(0, .inr (.inr (some 94))), (1, .inl wa)] [.inl ((mI S) 106 wa.toNatClampNeg)] S _
            refine zw_if0 hm_221 dX12_toGrey_10 (t := 14) rfl zc0_eq ?_ ?_
            · intro hc
              rw [if_pos hc] at h
              refine zw_push hm_221 dX12_toGrey_14 (v := .inr (.inr (some 94))) rfl ?_
              refine zw_gf hm_221 dX12_toGrey_15 (v := .inr (.inr (some 106))) (zT_is hS s_94) (zT_t hS s_94) rfl f_12_49_12 (zT_f hS r_94_38) ?_
              refine zw_push hm_221 dX12_toGrey_18 (v := .inl wa) rfl ?_
              refine zw_push hm_221 dX12_toGrey_19 (v := .inl (1 : Int32)) rfl ?_
              obtain ⟨hg, h⟩ := h
              refine zw_ias hm_221 dX12_toGrey_20 (zT_is hS s_106) (zT_h hS s_106) rfl hg ?_
              refine zw_push hm_221 dX12_toGrey_21 (v := .inr (.inr (some 94))) rfl ?_
              refine zw_gf hm_221 dX12_toGrey_22 (v := .inr (.inr (some 115))) (zT_is (zT_pi hS) s_94) (zT_t (zT_pi hS) s_94) rfl f_12_77_12 (zT_f (zT_pi hS) r_94_54) ?_
              refine zw_push hm_221 dX12_toGrey_25 (v := .inr (.inr (some 94))) rfl ?_
              refine zw_gf hm_221 dX12_toGrey_26 (v := .inl ((mI S) 94 56)) (zT_is (zT_pi hS) s_94) (zT_t (zT_pi hS) s_94) rfl f_12_264_12 rfl ?_
              refine zw_push hm_221 dX12_toGrey_29 (v := .inl wa) rfl ?_
              obtain ⟨hg, h⟩ := h
              refine zw_ias hm_221 dX12_toGrey_30 (zT_is (zT_pi hS) s_115) (zT_h (zT_pi hS) s_115) rfl hg ?_
              refine zw_push hm_221 dX12_toGrey_31 (v := .inr (.inr (some 94))) rfl ?_
              refine zw_stk hm_221 dX12_toGrey_32 (st₉ := [.inr (.inr (some 94)), .inr (.inr (some 94))]) rfl rfl ?_
              refine zw_gf hm_221 dX12_toGrey_33 (v := .inl ((mI S) 94 56)) (zT_is (zT_pi (zT_pi hS)) s_94) (zT_t (zT_pi (zT_pi hS)) s_94) rfl f_12_264_12 rfl ?_
              refine zw_push hm_221 dX12_toGrey_36 (v := .inl (1 : Int32)) rfl ?_
              refine zw_stk hm_221 dX12_toGrey_37 (st₉ := [.inl (((mI S) 94 56) + (1 : Int32)), .inr (.inr (some 94))]) rfl rfl ?_
              refine zw_pf hm_221 dX12_toGrey_38 (zT_is (zT_pi (zT_pi hS)) s_94) (zT_t (zT_pi (zT_pi hS)) s_94) p_12_264_12 zk_int ?_
              refine zw_vret hm_221 dX12_toGrey_41 ?_
              show ma_wp X d w 240 37 [(0, .inr (.inr (some 94))), (1, .inl wa), (2, .inl is)] [] (ma_put (ma_put (ma_put S 106 wa.toNatClampNeg (.inl (1 : Int32))) 115 ((mI S) 94 56).toNatClampNeg (.inl wa)) 94 56 (.inl (((mI S) 94 56) + (1 : Int32)))) _
              exact zw_vret hm_240 dX12_changes_37 (HQ _ _ h)
            · intro hc
              rw [if_neg hc] at h
              refine zw_vret hm_221 dX12_toGrey_13 ?_
              show ma_wp X d w 240 37 [(0, .inr (.inr (some 94))), (1, .inl wa), (2, .inl is)] [] S _
              exact zw_vret hm_240 dX12_changes_37 (HQ _ _ h)
      · intro hc
        rw [if_pos (Classical.not_not.mp hc)] at h
        exact zw_vret hm_240 dX12_changes_20 (HQ _ _ h)
theorem sp_240 {X : Nat × (Nat → Int32)} {P : Option ma_V → (Nat → Nat → Int32) → Prop} {m : Nat → Nat → Int32} (wa : Int32) (is : Int32) (hV : zV m) (hpre0 : wa.toInt ≤ 3099) (hpre1 : is.toInt ≤ 3099) (r_GG : zGG (m 94 58) (m 94 56) (m 94 57) (m 106)) (hpre3 : (m 94 58).toInt = 0 ∨ (m 94 10).toInt = 5) (KZ : ∀ m₉, zV (zov wr_240 m m₉) → (zGG (m 94 58) (m₉ 94 56) (m 94 57) (m₉ 106)) → P none (zov wr_240 m m₉)) : zm X 1 21 240 0 [(0, .inr (.inr (some 94))), (1, .inl wa), (2, .inl is)] m P := by
  have K : ∀ m₉, zF wr_240 m m₉ → zV m₉ → (zGG (m₉ 94 58) (m₉ 94 56) (m₉ 94 57) (m₉ 106)) → P none m₉ := by
    intro m₉ hf z q0
    have e := zov_eq hf
    rw [e] at z ⊢
    try rw [e] at q0
    exact KZ m₉ z q0
  refine g_240_0 wa is ?_
  have f1 : 0 ≤ (m 94 58).toInt ∧ (m 94 58).toInt ≤ 1 := rs_94_58 (m := m) hV
  have f2 : 0 ≤ (m 94 10).toInt ∧ (m 94 10).toInt ≤ 6 := rs_94_10 (m := m) hV
  have li3 : (5 : Int32).toInt = 5 := rfl
  refine zd (fun (h4 : (m 94 10) = (5 : Int32)) => ?_) (fun (h4 : ¬ (m 94 10) = (5 : Int32)) => ?_)
  · skip
    have g5 := i_eq h4
    have li6 : (0 : Int32).toInt = 0 := rfl
    refine zd (fun (h7 : (m 94 58) = (0 : Int32)) => ?_) (fun (h7 : ¬ (m 94 58) = (0 : Int32)) => ?_)
    · skip
      have g8 := i_eq h7
      exact K _ zF_rfl hV r_GG
    · skip
      have g9 := i_ne h7
      have b10 := i_bd wa
      have b11 := i_bd is
      refine zd (fun (h12 : wa = is) => ?_) (fun (h12 : ¬ wa = is) => ?_)
      · skip
        have g13 := i_eq h12
        exact K _ zF_rfl hV r_GG
      · skip
        have g14 := i_ne h12
        have f15 : 0 ≤ (m 94 9).toInt ∧ (m 94 9).toInt ≤ 1 := rs_94_9 (m := m) hV
        refine zd (fun (h16 : (m 94 9) = (0 : Int32)) => ?_) (fun (h16 : ¬ (m 94 9) = (0 : Int32)) => ?_)
        · skip
          have g17 := i_eq h16
          refine zd (fun (h18 : is < (0 : Int32)) => ?_) (fun (h18 : ¬ is < (0 : Int32)) => ?_)
          · skip
            have g19 := i_lt h18
            exact K _ zF_rfl hV r_GG
          · skip
            have g20 := i_nlt h18
            have hg21 : (0 ≤ is ∧ is.toNatClampNeg < 3100) := i_ix (by omega) (by omega)
            refine ⟨hg21, ?_⟩
            have b22 := i_bd (m 106 is.toNatClampNeg)
            refine zd (fun (h23 : (m 106 is.toNatClampNeg) = (0 : Int32)) => ?_) (fun (h23 : ¬ (m 106 is.toNatClampNeg) = (0 : Int32)) => ?_)
            · skip
              have g24 := i_eq h23
              have hg25 : (0 ≤ is ∧ is.toNatClampNeg < 3100) := i_ix (by omega) (by omega)
              refine ⟨hg25, ?_⟩
              have f26 : 0 ≤ (m 94 56).toInt ∧ (m 94 56).toInt ≤ 3100 := rs_94_56 (m := m) hV
              try have gk := G1_room (r_GG (by omega)) (by assumption) (by omega)
              have hg27 : (0 ≤ (m 94 56) ∧ (m 94 56).toNatClampNeg < 3100) := i_ix (by omega) (by omega)
              refine ⟨hg27, ?_⟩
              have hV28 : zV (ma_u m 106 is.toNatClampNeg (1 : Int32)) := ua_106 hV
              have hV29 : zV (ma_u (ma_u m 106 is.toNatClampNeg (1 : Int32)) 115 (m 94 56).toNatClampNeg is) := ua_115 hV28 (by omega) (by omega)
              first | have e31 : ((m 94 56) + (1 : Int32)).toInt = (m 94 56).toInt + (1) := i_addk rfl (by omega) (by omega) | have b32 := i_bd ((m 94 56) + (1 : Int32))
              have hV30 : zV (ma_u (ma_u (ma_u m 106 is.toNatClampNeg (1 : Int32)) 115 (m 94 56).toNatClampNeg is) 94 56 ((m 94 56) + (1 : Int32))) := us_94_56 hV29 (by omega) (by omega)
              exact K _ (zF_u (zF_u (zF_u zF_rfl rfl) rfl) rfl) hV30 (show zGG (m 94 58) ((m 94 56) + (1 : Int32)) (m 94 57) ((ma_u m 106 is.toNatClampNeg (1 : Int32)) 106) from by first | (exact fun z => G1_push (r_GG z) (by assumption) (by omega) (by decide) (by assumption)) | (exact fun z => absurd z (by decide)) | (exact fun z => absurd z (by omega)) | (exfalso; omega; done) | (exfalso; contradiction; done))
            · skip
              have g33 := i_ne h23
              exact K _ zF_rfl hV r_GG
        · skip
          have g34 := i_ne h16
          refine zd (fun (h35 : wa < (0 : Int32)) => ?_) (fun (h35 : ¬ wa < (0 : Int32)) => ?_)
          · skip
            have g36 := i_lt h35
            exact K _ zF_rfl hV r_GG
          · skip
            have g37 := i_nlt h35
            have hg38 : (0 ≤ wa ∧ wa.toNatClampNeg < 3100) := i_ix (by omega) (by omega)
            refine ⟨hg38, ?_⟩
            have b39 := i_bd (m 106 wa.toNatClampNeg)
            refine zd (fun (h40 : (m 106 wa.toNatClampNeg) = (0 : Int32)) => ?_) (fun (h40 : ¬ (m 106 wa.toNatClampNeg) = (0 : Int32)) => ?_)
            · skip
              have g41 := i_eq h40
              have hg42 : (0 ≤ wa ∧ wa.toNatClampNeg < 3100) := i_ix (by omega) (by omega)
              refine ⟨hg42, ?_⟩
              have f43 : 0 ≤ (m 94 56).toInt ∧ (m 94 56).toInt ≤ 3100 := rs_94_56 (m := m) hV
              try have gk := G1_room (r_GG (by omega)) (by assumption) (by omega)
              have hg44 : (0 ≤ (m 94 56) ∧ (m 94 56).toNatClampNeg < 3100) := i_ix (by omega) (by omega)
              refine ⟨hg44, ?_⟩
              have hV45 : zV (ma_u m 106 wa.toNatClampNeg (1 : Int32)) := ua_106 hV
              have hV46 : zV (ma_u (ma_u m 106 wa.toNatClampNeg (1 : Int32)) 115 (m 94 56).toNatClampNeg wa) := ua_115 hV45 (by omega) (by omega)
              first | have e48 : ((m 94 56) + (1 : Int32)).toInt = (m 94 56).toInt + (1) := i_addk rfl (by omega) (by omega) | have b49 := i_bd ((m 94 56) + (1 : Int32))
              have hV47 : zV (ma_u (ma_u (ma_u m 106 wa.toNatClampNeg (1 : Int32)) 115 (m 94 56).toNatClampNeg wa) 94 56 ((m 94 56) + (1 : Int32))) := us_94_56 hV46 (by omega) (by omega)
              exact K _ (zF_u (zF_u (zF_u zF_rfl rfl) rfl) rfl) hV47 (show zGG (m 94 58) ((m 94 56) + (1 : Int32)) (m 94 57) ((ma_u m 106 wa.toNatClampNeg (1 : Int32)) 106) from by first | (exact fun z => G1_push (r_GG z) (by assumption) (by omega) (by decide) (by assumption)) | (exact fun z => absurd z (by decide)) | (exact fun z => absurd z (by omega)) | (exfalso; omega; done) | (exfalso; contradiction; done))
            · skip
              have g50 := i_ne h40
              exact K _ zF_rfl hV r_GG
  · skip
    have g51 := i_ne h4
    exact K _ zF_rfl hV r_GG

