/-! from 94.467 -/
/-! the reference (written by wip/tools/gen94m.py) -/
set_option maxRecDepth 100000 in
theorem hm_172 : ma_md 172 = some (12, yX12_readPolicy, cX12_readPolicy, 1, (some (FieldType.boolean))) := rfl
theorem f_12_159_12 : ma_fld 12 159 12 = some 21 := by decide +kernel
theorem f_12_162_12 : ma_fld 12 162 12 = some 20 := by decide +kernel
theorem f_12_186_12 : ma_fld 12 186 12 = some 30 := by decide +kernel
theorem f_12_190_12 : ma_fld 12 190 12 = some 28 := by decide +kernel
theorem p_12_162_12 : ma_pk 12 162 12 20 = true := by decide +kernel
theorem p_12_165_12 : ma_pk 12 165 12 23 = true := by decide +kernel
theorem p_12_168_12 : ma_pk 12 168 12 24 = true := by decide +kernel
theorem p_12_171_12 : ma_pk 12 171 12 25 = true := by decide +kernel
theorem p_12_174_12 : ma_pk 12 174 12 26 = true := by decide +kernel
theorem p_12_183_12 : ma_pk 12 183 12 27 = true := by decide +kernel
theorem p_12_186_12 : ma_pk 12 186 12 30 = true := by decide +kernel
theorem p_12_190_12 : ma_pk 12 190 12 28 = true := by decide +kernel
theorem p_12_193_12 : ma_pk 12 193 12 29 = true := by decide +kernel
theorem v_12_177_12 : ma_vl 12 177 12 = some (1, 178, 0) := by decide +kernel
theorem v_12_180_12 : ma_vl 12 180 12 = some (1, 179, 0) := by decide +kernel
theorem dX12_readPolicy_0 : decode cX12_readPolicy 0 = .ok (.aload_n 0, 1) := by decide +kernel
theorem dX12_readPolicy_1 : decode cX12_readPolicy 1 = .ok (.iconst 0, 1) := by decide +kernel
theorem dX12_readPolicy_5 : decode cX12_readPolicy 5 = .ok (.aload_n 0, 1) := by decide +kernel
theorem dX12_readPolicy_6 : decode cX12_readPolicy 6 = .ok (.invokevirtual 140, 3) := by decide +kernel
theorem dX12_readPolicy_21 : decode cX12_readPolicy 21 = .ok (.aload_n 0, 1) := by decide +kernel
theorem dX12_readPolicy_22 : decode cX12_readPolicy 22 = .ok (.aload_n 0, 1) := by decide +kernel
theorem dX12_readPolicy_23 : decode cX12_readPolicy 23 = .ok (.bipush 115, 2) := by decide +kernel
theorem dX12_readPolicy_25 : decode cX12_readPolicy 25 = .ok (.bipush 119, 2) := by decide +kernel
theorem dX12_readPolicy_27 : decode cX12_readPolicy 27 = .ok (.bipush 101, 2) := by decide +kernel
theorem dX12_readPolicy_29 : decode cX12_readPolicy 29 = .ok (.bipush 101, 2) := by decide +kernel
theorem dX12_readPolicy_31 : decode cX12_readPolicy 31 = .ok (.bipush 112, 2) := by decide +kernel
theorem dX12_readPolicy_33 : decode cX12_readPolicy 33 = .ok (.iconst 0, 1) := by decide +kernel
theorem dX12_readPolicy_34 : decode cX12_readPolicy 34 = .ok (.iconst 0, 1) := by decide +kernel
theorem dX12_readPolicy_35 : decode cX12_readPolicy 35 = .ok (.invokevirtual 150, 3) := by decide +kernel
theorem dX12_readPolicy_45 : decode cX12_readPolicy 45 = .ok (.aload_n 0, 1) := by decide +kernel
theorem dX12_readPolicy_46 : decode cX12_readPolicy 46 = .ok (.bipush 115, 2) := by decide +kernel
theorem dX12_readPolicy_48 : decode cX12_readPolicy 48 = .ok (.bipush 108, 2) := by decide +kernel
theorem dX12_readPolicy_50 : decode cX12_readPolicy 50 = .ok (.bipush 105, 2) := by decide +kernel
theorem dX12_readPolicy_52 : decode cX12_readPolicy 52 = .ok (.bipush 100, 2) := by decide +kernel
theorem dX12_readPolicy_54 : decode cX12_readPolicy 54 = .ok (.bipush 101, 2) := by decide +kernel
theorem dX12_readPolicy_56 : decode cX12_readPolicy 56 = .ok (.iconst 0, 1) := by decide +kernel
theorem dX12_readPolicy_57 : decode cX12_readPolicy 57 = .ok (.iconst 0, 1) := by decide +kernel
theorem dX12_readPolicy_58 : decode cX12_readPolicy 58 = .ok (.invokevirtual 150, 3) := by decide +kernel
theorem dX12_readPolicy_68 : decode cX12_readPolicy 68 = .ok (.aload_n 0, 1) := by decide +kernel
theorem dX12_readPolicy_69 : decode cX12_readPolicy 69 = .ok (.bipush 104, 2) := by decide +kernel
theorem dX12_readPolicy_71 : decode cX12_readPolicy 71 = .ok (.bipush 97, 2) := by decide +kernel
theorem dX12_readPolicy_73 : decode cX12_readPolicy 73 = .ok (.bipush 108, 2) := by decide +kernel
theorem dX12_readPolicy_75 : decode cX12_readPolicy 75 = .ok (.bipush 118, 2) := by decide +kernel
theorem dX12_readPolicy_77 : decode cX12_readPolicy 77 = .ok (.bipush 101, 2) := by decide +kernel
theorem dX12_readPolicy_79 : decode cX12_readPolicy 79 = .ok (.bipush 115, 2) := by decide +kernel
theorem dX12_readPolicy_81 : decode cX12_readPolicy 81 = .ok (.iconst 0, 1) := by decide +kernel
theorem dX12_readPolicy_82 : decode cX12_readPolicy 82 = .ok (.invokevirtual 150, 3) := by decide +kernel
theorem dX12_readPolicy_92 : decode cX12_readPolicy 92 = .ok (.aload_n 0, 1) := by decide +kernel
theorem dX12_readPolicy_93 : decode cX12_readPolicy 93 = .ok (.bipush 97, 2) := by decide +kernel
theorem dX12_readPolicy_95 : decode cX12_readPolicy 95 = .ok (.bipush 103, 2) := by decide +kernel
theorem dX12_readPolicy_97 : decode cX12_readPolicy 97 = .ok (.bipush 101, 2) := by decide +kernel
theorem dX12_readPolicy_99 : decode cX12_readPolicy 99 = .ok (.bipush 115, 2) := by decide +kernel
theorem dX12_readPolicy_101 : decode cX12_readPolicy 101 = .ok (.iconst 0, 1) := by decide +kernel
theorem dX12_readPolicy_102 : decode cX12_readPolicy 102 = .ok (.iconst 0, 1) := by decide +kernel
theorem dX12_readPolicy_103 : decode cX12_readPolicy 103 = .ok (.iconst 0, 1) := by decide +kernel
theorem dX12_readPolicy_104 : decode cX12_readPolicy 104 = .ok (.invokevirtual 150, 3) := by decide +kernel
theorem dX12_readPolicy_114 : decode cX12_readPolicy 114 = .ok (.aload_n 0, 1) := by decide +kernel
theorem dX12_readPolicy_115 : decode cX12_readPolicy 115 = .ok (.bipush 99, 2) := by decide +kernel
theorem dX12_readPolicy_117 : decode cX12_readPolicy 117 = .ok (.bipush 111, 2) := by decide +kernel
theorem dX12_readPolicy_119 : decode cX12_readPolicy 119 = .ok (.bipush 117, 2) := by decide +kernel
theorem dX12_readPolicy_121 : decode cX12_readPolicy 121 = .ok (.bipush 110, 2) := by decide +kernel
theorem dX12_readPolicy_123 : decode cX12_readPolicy 123 = .ok (.bipush 116, 2) := by decide +kernel
theorem dX12_readPolicy_125 : decode cX12_readPolicy 125 = .ok (.bipush 115, 2) := by decide +kernel
theorem dX12_readPolicy_127 : decode cX12_readPolicy 127 = .ok (.iconst 0, 1) := by decide +kernel
theorem dX12_readPolicy_128 : decode cX12_readPolicy 128 = .ok (.invokevirtual 150, 3) := by decide +kernel
theorem dX12_readPolicy_138 : decode cX12_readPolicy 138 = .ok (.aload_n 0, 1) := by decide +kernel
theorem dX12_readPolicy_139 : decode cX12_readPolicy 139 = .ok (.bipush 115, 2) := by decide +kernel
theorem dX12_readPolicy_141 : decode cX12_readPolicy 141 = .ok (.bipush 116, 2) := by decide +kernel
theorem dX12_readPolicy_143 : decode cX12_readPolicy 143 = .ok (.bipush 101, 2) := by decide +kernel
theorem dX12_readPolicy_145 : decode cX12_readPolicy 145 = .ok (.bipush 112, 2) := by decide +kernel
theorem dX12_readPolicy_147 : decode cX12_readPolicy 147 = .ok (.bipush 115, 2) := by decide +kernel
theorem dX12_readPolicy_149 : decode cX12_readPolicy 149 = .ok (.iconst 0, 1) := by decide +kernel
theorem dX12_readPolicy_150 : decode cX12_readPolicy 150 = .ok (.iconst 0, 1) := by decide +kernel
theorem dX12_readPolicy_151 : decode cX12_readPolicy 151 = .ok (.invokevirtual 150, 3) := by decide +kernel
theorem dX12_readPolicy_161 : decode cX12_readPolicy 161 = .ok (.aload_n 0, 1) := by decide +kernel
theorem dX12_readPolicy_162 : decode cX12_readPolicy 162 = .ok (.bipush 114, 2) := by decide +kernel
theorem dX12_readPolicy_164 : decode cX12_readPolicy 164 = .ok (.bipush 101, 2) := by decide +kernel
theorem dX12_readPolicy_166 : decode cX12_readPolicy 166 = .ok (.bipush 103, 2) := by decide +kernel
theorem dX12_readPolicy_168 : decode cX12_readPolicy 168 = .ok (.bipush 105, 2) := by decide +kernel
theorem dX12_readPolicy_170 : decode cX12_readPolicy 170 = .ok (.bipush 111, 2) := by decide +kernel
theorem dX12_readPolicy_172 : decode cX12_readPolicy 172 = .ok (.bipush 110, 2) := by decide +kernel
theorem dX12_readPolicy_174 : decode cX12_readPolicy 174 = .ok (.bipush 115, 2) := by decide +kernel
theorem dX12_readPolicy_176 : decode cX12_readPolicy 176 = .ok (.invokevirtual 150, 3) := by decide +kernel
theorem dX12_readPolicy_187 : decode cX12_readPolicy 187 = .ok (.iconst (-1), 1) := by decide +kernel
theorem dX12_readPolicy_188 : decode cX12_readPolicy 188 = .ok (.putfield 162, 3) := by decide +kernel
theorem dX12_readPolicy_182 : decode cX12_readPolicy 182 = .ok (.bipush 6, 2) := by decide +kernel
theorem dX12_readPolicy_184 : decode cX12_readPolicy 184 = .ok (.goto 4, 3) := by decide +kernel
theorem dX12_readPolicy_179 : decode cX12_readPolicy 179 = .ok (.ifCond .eq 8, 3) := by decide +kernel
theorem dX12_readPolicy_157 : decode cX12_readPolicy 157 = .ok (.iconst 5, 1) := by decide +kernel
theorem dX12_readPolicy_158 : decode cX12_readPolicy 158 = .ok (.goto 30, 3) := by decide +kernel
theorem dX12_readPolicy_154 : decode cX12_readPolicy 154 = .ok (.ifCond .eq 7, 3) := by decide +kernel
theorem dX12_readPolicy_134 : decode cX12_readPolicy 134 = .ok (.iconst 4, 1) := by decide +kernel
theorem dX12_readPolicy_135 : decode cX12_readPolicy 135 = .ok (.goto 53, 3) := by decide +kernel
theorem dX12_readPolicy_131 : decode cX12_readPolicy 131 = .ok (.ifCond .eq 7, 3) := by decide +kernel
theorem dX12_readPolicy_110 : decode cX12_readPolicy 110 = .ok (.iconst 3, 1) := by decide +kernel
theorem dX12_readPolicy_111 : decode cX12_readPolicy 111 = .ok (.goto 77, 3) := by decide +kernel
theorem dX12_readPolicy_107 : decode cX12_readPolicy 107 = .ok (.ifCond .eq 7, 3) := by decide +kernel
theorem dX12_readPolicy_88 : decode cX12_readPolicy 88 = .ok (.iconst 2, 1) := by decide +kernel
theorem dX12_readPolicy_89 : decode cX12_readPolicy 89 = .ok (.goto 99, 3) := by decide +kernel
theorem dX12_readPolicy_85 : decode cX12_readPolicy 85 = .ok (.ifCond .eq 7, 3) := by decide +kernel
theorem dX12_readPolicy_64 : decode cX12_readPolicy 64 = .ok (.iconst 1, 1) := by decide +kernel
theorem dX12_readPolicy_65 : decode cX12_readPolicy 65 = .ok (.goto 123, 3) := by decide +kernel
theorem dX12_readPolicy_61 : decode cX12_readPolicy 61 = .ok (.ifCond .eq 7, 3) := by decide +kernel
theorem dX12_readPolicy_41 : decode cX12_readPolicy 41 = .ok (.iconst 0, 1) := by decide +kernel
theorem dX12_readPolicy_42 : decode cX12_readPolicy 42 = .ok (.goto 146, 3) := by decide +kernel
theorem dX12_readPolicy_38 : decode cX12_readPolicy 38 = .ok (.ifCond .eq 7, 3) := by decide +kernel
theorem dX12_readPolicy_12 : decode cX12_readPolicy 12 = .ok (.aload_n 0, 1) := by decide +kernel
theorem dX12_readPolicy_13 : decode cX12_readPolicy 13 = .ok (.aload_n 0, 1) := by decide +kernel
theorem dX12_readPolicy_17 : decode cX12_readPolicy 17 = .ok (.invokevirtual 144, 3) := by decide +kernel
theorem dX12_readPolicy_20 : decode cX12_readPolicy 20 = .ok (.ireturn, 1) := by decide +kernel
theorem dX12_readPolicy_14 : decode cX12_readPolicy 14 = .ok (.getfield 124, 3) := by decide +kernel
theorem dX12_readPolicy_9 : decode cX12_readPolicy 9 = .ok (.ifCond .ne 12, 3) := by decide +kernel
theorem dX12_readPolicy_2 : decode cX12_readPolicy 2 = .ok (.putfield 121, 3) := by decide +kernel
theorem dX12_readPolicy_191 : decode cX12_readPolicy 191 = .ok (.aload_n 0, 1) := by decide +kernel
theorem dX12_readPolicy_207 : decode cX12_readPolicy 207 = .ok (.aload_n 0, 1) := by decide +kernel
theorem dX12_readPolicy_211 : decode cX12_readPolicy 211 = .ok (.iconst 3, 1) := by decide +kernel
theorem dX12_readPolicy_302 : decode cX12_readPolicy 302 = .ok (.aload_n 0, 1) := by decide +kernel
theorem dX12_readPolicy_303 : decode cX12_readPolicy 303 = .ok (.invokevirtual 177, 3) := by decide +kernel
theorem dX12_readPolicy_309 : decode cX12_readPolicy 309 = .ok (.iconst 0, 1) := by decide +kernel
theorem dX12_readPolicy_310 : decode cX12_readPolicy 310 = .ok (.ireturn, 1) := by decide +kernel
theorem dX12_readPolicy_306 : decode cX12_readPolicy 306 = .ok (.ifCond .ne 5, 3) := by decide +kernel
theorem dX12_readPolicy_215 : decode cX12_readPolicy 215 = .ok (.aload_n 0, 1) := by decide +kernel
theorem dX12_readPolicy_216 : decode cX12_readPolicy 216 = .ok (.bipush 16, 2) := by decide +kernel
theorem dX12_readPolicy_218 : decode cX12_readPolicy 218 = .ok (.sipush 1500, 3) := by decide +kernel
theorem dX12_readPolicy_221 : decode cX12_readPolicy 221 = .ok (.invokevirtual 157, 3) := by decide +kernel
theorem dX12_readPolicy_229 : decode cX12_readPolicy 229 = .ok (.aload_n 0, 1) := by decide +kernel
theorem dX12_readPolicy_230 : decode cX12_readPolicy 230 = .ok (.aload_n 0, 1) := by decide +kernel
theorem dX12_readPolicy_237 : decode cX12_readPolicy 237 = .ok (.aload_n 0, 1) := by decide +kernel
theorem dX12_readPolicy_238 : decode cX12_readPolicy 238 = .ok (.bipush 16, 2) := by decide +kernel
theorem dX12_readPolicy_240 : decode cX12_readPolicy 240 = .ok (.sipush 1500, 3) := by decide +kernel
theorem dX12_readPolicy_243 : decode cX12_readPolicy 243 = .ok (.invokevirtual 157, 3) := by decide +kernel
theorem dX12_readPolicy_251 : decode cX12_readPolicy 251 = .ok (.aload_n 0, 1) := by decide +kernel
theorem dX12_readPolicy_252 : decode cX12_readPolicy 252 = .ok (.aload_n 0, 1) := by decide +kernel
theorem dX12_readPolicy_259 : decode cX12_readPolicy 259 = .ok (.aload_n 0, 1) := by decide +kernel
theorem dX12_readPolicy_260 : decode cX12_readPolicy 260 = .ok (.iconst 1, 1) := by decide +kernel
theorem dX12_readPolicy_261 : decode cX12_readPolicy 261 = .ok (.bipush 7, 2) := by decide +kernel
theorem dX12_readPolicy_263 : decode cX12_readPolicy 263 = .ok (.invokevirtual 157, 3) := by decide +kernel
theorem dX12_readPolicy_271 : decode cX12_readPolicy 271 = .ok (.aload_n 0, 1) := by decide +kernel
theorem dX12_readPolicy_272 : decode cX12_readPolicy 272 = .ok (.aload_n 0, 1) := by decide +kernel
theorem dX12_readPolicy_279 : decode cX12_readPolicy 279 = .ok (.aload_n 0, 1) := by decide +kernel
theorem dX12_readPolicy_280 : decode cX12_readPolicy 280 = .ok (.iconst 4, 1) := by decide +kernel
theorem dX12_readPolicy_281 : decode cX12_readPolicy 281 = .ok (.bipush 64, 2) := by decide +kernel
theorem dX12_readPolicy_283 : decode cX12_readPolicy 283 = .ok (.invokevirtual 157, 3) := by decide +kernel
theorem dX12_readPolicy_291 : decode cX12_readPolicy 291 = .ok (.aload_n 0, 1) := by decide +kernel
theorem dX12_readPolicy_292 : decode cX12_readPolicy 292 = .ok (.aload_n 0, 1) := by decide +kernel
theorem dX12_readPolicy_299 : decode cX12_readPolicy 299 = .ok (.goto 12, 3) := by decide +kernel
theorem dX12_readPolicy_296 : decode cX12_readPolicy 296 = .ok (.putfield 174, 3) := by decide +kernel
theorem dX12_readPolicy_293 : decode cX12_readPolicy 293 = .ok (.getfield 147, 3) := by decide +kernel
theorem dX12_readPolicy_289 : decode cX12_readPolicy 289 = .ok (.iconst 0, 1) := by decide +kernel
theorem dX12_readPolicy_290 : decode cX12_readPolicy 290 = .ok (.ireturn, 1) := by decide +kernel
theorem dX12_readPolicy_286 : decode cX12_readPolicy 286 = .ok (.ifCond .ne 5, 3) := by decide +kernel
theorem dX12_readPolicy_276 : decode cX12_readPolicy 276 = .ok (.putfield 171, 3) := by decide +kernel
theorem dX12_readPolicy_273 : decode cX12_readPolicy 273 = .ok (.getfield 147, 3) := by decide +kernel
theorem dX12_readPolicy_269 : decode cX12_readPolicy 269 = .ok (.iconst 0, 1) := by decide +kernel
theorem dX12_readPolicy_270 : decode cX12_readPolicy 270 = .ok (.ireturn, 1) := by decide +kernel
theorem dX12_readPolicy_266 : decode cX12_readPolicy 266 = .ok (.ifCond .ne 5, 3) := by decide +kernel
theorem dX12_readPolicy_256 : decode cX12_readPolicy 256 = .ok (.putfield 168, 3) := by decide +kernel
theorem dX12_readPolicy_253 : decode cX12_readPolicy 253 = .ok (.getfield 147, 3) := by decide +kernel
theorem dX12_readPolicy_249 : decode cX12_readPolicy 249 = .ok (.iconst 0, 1) := by decide +kernel
theorem dX12_readPolicy_250 : decode cX12_readPolicy 250 = .ok (.ireturn, 1) := by decide +kernel
theorem dX12_readPolicy_246 : decode cX12_readPolicy 246 = .ok (.ifCond .ne 5, 3) := by decide +kernel
theorem dX12_readPolicy_234 : decode cX12_readPolicy 234 = .ok (.putfield 165, 3) := by decide +kernel
theorem dX12_readPolicy_231 : decode cX12_readPolicy 231 = .ok (.getfield 147, 3) := by decide +kernel
theorem dX12_readPolicy_227 : decode cX12_readPolicy 227 = .ok (.iconst 0, 1) := by decide +kernel
theorem dX12_readPolicy_228 : decode cX12_readPolicy 228 = .ok (.ireturn, 1) := by decide +kernel
theorem dX12_readPolicy_224 : decode cX12_readPolicy 224 = .ok (.ifCond .ne 5, 3) := by decide +kernel
theorem dX12_readPolicy_212 : decode cX12_readPolicy 212 = .ok (.if_icmp .ne 90, 3) := by decide +kernel
theorem dX12_readPolicy_208 : decode cX12_readPolicy 208 = .ok (.getfield 162, 3) := by decide +kernel
theorem dX12_readPolicy_198 : decode cX12_readPolicy 198 = .ok (.aload_n 0, 1) := by decide +kernel
theorem dX12_readPolicy_199 : decode cX12_readPolicy 199 = .ok (.aload_n 0, 1) := by decide +kernel
theorem dX12_readPolicy_203 : decode cX12_readPolicy 203 = .ok (.invokevirtual 144, 3) := by decide +kernel
theorem dX12_readPolicy_206 : decode cX12_readPolicy 206 = .ok (.ireturn, 1) := by decide +kernel
theorem dX12_readPolicy_200 : decode cX12_readPolicy 200 = .ok (.getfield 127, 3) := by decide +kernel
theorem dX12_readPolicy_195 : decode cX12_readPolicy 195 = .ok (.ifCond .ge 12, 3) := by decide +kernel
theorem dX12_readPolicy_192 : decode cX12_readPolicy 192 = .ok (.getfield 162, 3) := by decide +kernel
theorem dX12_readPolicy_311 : decode cX12_readPolicy 311 = .ok (.aload_n 0, 1) := by decide +kernel
theorem dX12_readPolicy_334 : decode cX12_readPolicy 334 = .ok (.aload_n 0, 1) := by decide +kernel
theorem dX12_readPolicy_335 : decode cX12_readPolicy 335 = .ok (.invokevirtual 180, 3) := by decide +kernel
theorem dX12_readPolicy_341 : decode cX12_readPolicy 341 = .ok (.iconst 0, 1) := by decide +kernel
theorem dX12_readPolicy_342 : decode cX12_readPolicy 342 = .ok (.ireturn, 1) := by decide +kernel
theorem dX12_readPolicy_338 : decode cX12_readPolicy 338 = .ok (.ifCond .ne 5, 3) := by decide +kernel
theorem dX12_readPolicy_318 : decode cX12_readPolicy 318 = .ok (.aload_n 0, 1) := by decide +kernel
theorem dX12_readPolicy_322 : decode cX12_readPolicy 322 = .ok (.iconst 4, 1) := by decide +kernel
theorem dX12_readPolicy_326 : decode cX12_readPolicy 326 = .ok (.aload_n 0, 1) := by decide +kernel
theorem dX12_readPolicy_330 : decode cX12_readPolicy 330 = .ok (.iconst 5, 1) := by decide +kernel
theorem dX12_readPolicy_331 : decode cX12_readPolicy 331 = .ok (.if_icmp .ne 12, 3) := by decide +kernel
theorem dX12_readPolicy_327 : decode cX12_readPolicy 327 = .ok (.getfield 162, 3) := by decide +kernel
theorem dX12_readPolicy_323 : decode cX12_readPolicy 323 = .ok (.if_icmp .eq 11, 3) := by decide +kernel
theorem dX12_readPolicy_319 : decode cX12_readPolicy 319 = .ok (.getfield 162, 3) := by decide +kernel
theorem dX12_readPolicy_315 : decode cX12_readPolicy 315 = .ok (.ifCond .eq 19, 3) := by decide +kernel
theorem dX12_readPolicy_312 : decode cX12_readPolicy 312 = .ok (.getfield 162, 3) := by decide +kernel
theorem dX12_readPolicy_343 : decode cX12_readPolicy 343 = .ok (.aload_n 0, 1) := by decide +kernel
theorem dX12_readPolicy_347 : decode cX12_readPolicy 347 = .ok (.iconst 5, 1) := by decide +kernel
theorem dX12_readPolicy_351 : decode cX12_readPolicy 351 = .ok (.aload_n 0, 1) := by decide +kernel
theorem dX12_readPolicy_352 : decode cX12_readPolicy 352 = .ok (.iconst 1, 1) := by decide +kernel
theorem dX12_readPolicy_353 : decode cX12_readPolicy 353 = .ok (.bipush 50, 2) := by decide +kernel
theorem dX12_readPolicy_355 : decode cX12_readPolicy 355 = .ok (.invokevirtual 157, 3) := by decide +kernel
theorem dX12_readPolicy_363 : decode cX12_readPolicy 363 = .ok (.aload_n 0, 1) := by decide +kernel
theorem dX12_readPolicy_364 : decode cX12_readPolicy 364 = .ok (.aload_n 0, 1) := by decide +kernel
theorem dX12_readPolicy_371 : decode cX12_readPolicy 371 = .ok (.aload_n 0, 1) := by decide +kernel
theorem dX12_readPolicy_372 : decode cX12_readPolicy 372 = .ok (.invokevirtual 140, 3) := by decide +kernel
theorem dX12_readPolicy_387 : decode cX12_readPolicy 387 = .ok (.aload_n 0, 1) := by decide +kernel
theorem dX12_readPolicy_388 : decode cX12_readPolicy 388 = .ok (.aload_n 0, 1) := by decide +kernel
theorem dX12_readPolicy_389 : decode cX12_readPolicy 389 = .ok (.bipush 112, 2) := by decide +kernel
theorem dX12_readPolicy_391 : decode cX12_readPolicy 391 = .ok (.bipush 105, 2) := by decide +kernel
theorem dX12_readPolicy_393 : decode cX12_readPolicy 393 = .ok (.bipush 99, 2) := by decide +kernel
theorem dX12_readPolicy_395 : decode cX12_readPolicy 395 = .ok (.bipush 116, 2) := by decide +kernel
theorem dX12_readPolicy_397 : decode cX12_readPolicy 397 = .ok (.bipush 117, 2) := by decide +kernel
theorem dX12_readPolicy_399 : decode cX12_readPolicy 399 = .ok (.bipush 114, 2) := by decide +kernel
theorem dX12_readPolicy_401 : decode cX12_readPolicy 401 = .ok (.bipush 101, 2) := by decide +kernel
theorem dX12_readPolicy_403 : decode cX12_readPolicy 403 = .ok (.invokevirtual 150, 3) := by decide +kernel
theorem dX12_readPolicy_409 : decode cX12_readPolicy 409 = .ok (.aload_n 0, 1) := by decide +kernel
theorem dX12_readPolicy_416 : decode cX12_readPolicy 416 = .ok (.aload_n 0, 1) := by decide +kernel
theorem dX12_readPolicy_417 : decode cX12_readPolicy 417 = .ok (.bipush 110, 2) := by decide +kernel
theorem dX12_readPolicy_419 : decode cX12_readPolicy 419 = .ok (.bipush 101, 2) := by decide +kernel
theorem dX12_readPolicy_421 : decode cX12_readPolicy 421 = .ok (.bipush 119, 2) := by decide +kernel
theorem dX12_readPolicy_423 : decode cX12_readPolicy 423 = .ok (.bipush 115, 2) := by decide +kernel
theorem dX12_readPolicy_425 : decode cX12_readPolicy 425 = .ok (.iconst 0, 1) := by decide +kernel
theorem dX12_readPolicy_426 : decode cX12_readPolicy 426 = .ok (.iconst 0, 1) := by decide +kernel
theorem dX12_readPolicy_427 : decode cX12_readPolicy 427 = .ok (.iconst 0, 1) := by decide +kernel
theorem dX12_readPolicy_428 : decode cX12_readPolicy 428 = .ok (.invokevirtual 150, 3) := by decide +kernel
theorem dX12_readPolicy_434 : decode cX12_readPolicy 434 = .ok (.aload_n 0, 1) := by decide +kernel
theorem dX12_readPolicy_435 : decode cX12_readPolicy 435 = .ok (.aload_n 0, 1) := by decide +kernel
theorem dX12_readPolicy_439 : decode cX12_readPolicy 439 = .ok (.invokevirtual 144, 3) := by decide +kernel
theorem dX12_readPolicy_442 : decode cX12_readPolicy 442 = .ok (.ireturn, 1) := by decide +kernel
theorem dX12_readPolicy_436 : decode cX12_readPolicy 436 = .ok (.getfield 127, 3) := by decide +kernel
theorem dX12_readPolicy_431 : decode cX12_readPolicy 431 = .ok (.ifCond .ne 12, 3) := by decide +kernel
theorem dX12_readPolicy_413 : decode cX12_readPolicy 413 = .ok (.ifCond .ne 30, 3) := by decide +kernel
theorem dX12_readPolicy_410 : decode cX12_readPolicy 410 = .ok (.getfield 186, 3) := by decide +kernel
theorem dX12_readPolicy_406 : decode cX12_readPolicy 406 = .ok (.putfield 186, 3) := by decide +kernel
theorem dX12_readPolicy_378 : decode cX12_readPolicy 378 = .ok (.aload_n 0, 1) := by decide +kernel
theorem dX12_readPolicy_379 : decode cX12_readPolicy 379 = .ok (.aload_n 0, 1) := by decide +kernel
theorem dX12_readPolicy_383 : decode cX12_readPolicy 383 = .ok (.invokevirtual 144, 3) := by decide +kernel
theorem dX12_readPolicy_386 : decode cX12_readPolicy 386 = .ok (.ireturn, 1) := by decide +kernel
theorem dX12_readPolicy_380 : decode cX12_readPolicy 380 = .ok (.getfield 124, 3) := by decide +kernel
theorem dX12_readPolicy_375 : decode cX12_readPolicy 375 = .ok (.ifCond .ne 12, 3) := by decide +kernel
theorem dX12_readPolicy_368 : decode cX12_readPolicy 368 = .ok (.putfield 183, 3) := by decide +kernel
theorem dX12_readPolicy_365 : decode cX12_readPolicy 365 = .ok (.getfield 147, 3) := by decide +kernel
theorem dX12_readPolicy_361 : decode cX12_readPolicy 361 = .ok (.iconst 0, 1) := by decide +kernel
theorem dX12_readPolicy_362 : decode cX12_readPolicy 362 = .ok (.ireturn, 1) := by decide +kernel
theorem dX12_readPolicy_358 : decode cX12_readPolicy 358 = .ok (.ifCond .ne 5, 3) := by decide +kernel
theorem dX12_readPolicy_348 : decode cX12_readPolicy 348 = .ok (.if_icmp .ne 95, 3) := by decide +kernel
theorem dX12_readPolicy_344 : decode cX12_readPolicy 344 = .ok (.getfield 162, 3) := by decide +kernel
theorem dX12_readPolicy_443 : decode cX12_readPolicy 443 = .ok (.aload_n 0, 1) := by decide +kernel
theorem dX12_readPolicy_447 : decode cX12_readPolicy 447 = .ok (.bipush 6, 2) := by decide +kernel
theorem dX12_readPolicy_452 : decode cX12_readPolicy 452 = .ok (.aload_n 0, 1) := by decide +kernel
theorem dX12_readPolicy_453 : decode cX12_readPolicy 453 = .ok (.bipush 16, 2) := by decide +kernel
theorem dX12_readPolicy_455 : decode cX12_readPolicy 455 = .ok (.sipush 256, 3) := by decide +kernel
theorem dX12_readPolicy_458 : decode cX12_readPolicy 458 = .ok (.invokevirtual 157, 3) := by decide +kernel
theorem dX12_readPolicy_466 : decode cX12_readPolicy 466 = .ok (.aload_n 0, 1) := by decide +kernel
theorem dX12_readPolicy_467 : decode cX12_readPolicy 467 = .ok (.aload_n 0, 1) := by decide +kernel
theorem dX12_readPolicy_474 : decode cX12_readPolicy 474 = .ok (.iconst 4, 1) := by decide +kernel
theorem dX12_readPolicy_475 : decode cX12_readPolicy 475 = .ok (.aload_n 0, 1) := by decide +kernel
theorem dX12_readPolicy_479 : decode cX12_readPolicy 479 = .ok (.imul, 1) := by decide +kernel
theorem dX12_readPolicy_480 : decode cX12_readPolicy 480 = .ok (.aload_n 0, 1) := by decide +kernel
theorem dX12_readPolicy_496 : decode cX12_readPolicy 496 = .ok (.aload_n 0, 1) := by decide +kernel
theorem dX12_readPolicy_497 : decode cX12_readPolicy 497 = .ok (.iconst 0, 1) := by decide +kernel
theorem dX12_readPolicy_498 : decode cX12_readPolicy 498 = .ok (.bipush 100, 2) := by decide +kernel
theorem dX12_readPolicy_500 : decode cX12_readPolicy 500 = .ok (.invokevirtual 157, 3) := by decide +kernel
theorem dX12_readPolicy_508 : decode cX12_readPolicy 508 = .ok (.aload_n 0, 1) := by decide +kernel
theorem dX12_readPolicy_509 : decode cX12_readPolicy 509 = .ok (.aload_n 0, 1) := by decide +kernel
theorem dX12_readPolicy_513 : decode cX12_readPolicy 513 = .ok (.putfield 193, 3) := by decide +kernel
theorem dX12_readPolicy_510 : decode cX12_readPolicy 510 = .ok (.getfield 147, 3) := by decide +kernel
theorem dX12_readPolicy_506 : decode cX12_readPolicy 506 = .ok (.iconst 0, 1) := by decide +kernel
theorem dX12_readPolicy_507 : decode cX12_readPolicy 507 = .ok (.ireturn, 1) := by decide +kernel
theorem dX12_readPolicy_503 : decode cX12_readPolicy 503 = .ok (.ifCond .ne 5, 3) := by decide +kernel
theorem dX12_readPolicy_487 : decode cX12_readPolicy 487 = .ok (.aload_n 0, 1) := by decide +kernel
theorem dX12_readPolicy_488 : decode cX12_readPolicy 488 = .ok (.aload_n 0, 1) := by decide +kernel
theorem dX12_readPolicy_492 : decode cX12_readPolicy 492 = .ok (.invokevirtual 144, 3) := by decide +kernel
theorem dX12_readPolicy_495 : decode cX12_readPolicy 495 = .ok (.ireturn, 1) := by decide +kernel
theorem dX12_readPolicy_489 : decode cX12_readPolicy 489 = .ok (.getfield 127, 3) := by decide +kernel
theorem dX12_readPolicy_484 : decode cX12_readPolicy 484 = .ok (.if_icmp .le 12, 3) := by decide +kernel
theorem dX12_readPolicy_481 : decode cX12_readPolicy 481 = .ok (.getfield 159, 3) := by decide +kernel
theorem dX12_readPolicy_476 : decode cX12_readPolicy 476 = .ok (.getfield 190, 3) := by decide +kernel
theorem dX12_readPolicy_471 : decode cX12_readPolicy 471 = .ok (.putfield 190, 3) := by decide +kernel
theorem dX12_readPolicy_468 : decode cX12_readPolicy 468 = .ok (.getfield 147, 3) := by decide +kernel
theorem dX12_readPolicy_464 : decode cX12_readPolicy 464 = .ok (.iconst 0, 1) := by decide +kernel
theorem dX12_readPolicy_465 : decode cX12_readPolicy 465 = .ok (.ireturn, 1) := by decide +kernel
theorem dX12_readPolicy_461 : decode cX12_readPolicy 461 = .ok (.ifCond .ne 5, 3) := by decide +kernel
theorem dX12_readPolicy_449 : decode cX12_readPolicy 449 = .ok (.if_icmp .ne 67, 3) := by decide +kernel
theorem dX12_readPolicy_444 : decode cX12_readPolicy 444 = .ok (.getfield 162, 3) := by decide +kernel
theorem dX12_readPolicy_516 : decode cX12_readPolicy 516 = .ok (.aload_n 0, 1) := by decide +kernel
theorem dX12_readPolicy_517 : decode cX12_readPolicy 517 = .ok (.invokevirtual 140, 3) := by decide +kernel
theorem dX12_readPolicy_534 : decode cX12_readPolicy 534 = .ok (.iconst 1, 1) := by decide +kernel
theorem dX12_readPolicy_535 : decode cX12_readPolicy 535 = .ok (.goto 4, 3) := by decide +kernel
theorem dX12_readPolicy_539 : decode cX12_readPolicy 539 = .ok (.ireturn, 1) := by decide +kernel
theorem dX12_readPolicy_523 : decode cX12_readPolicy 523 = .ok (.aload_n 0, 1) := by decide +kernel
theorem dX12_readPolicy_524 : decode cX12_readPolicy 524 = .ok (.aload_n 0, 1) := by decide +kernel
theorem dX12_readPolicy_528 : decode cX12_readPolicy 528 = .ok (.invokevirtual 144, 3) := by decide +kernel
theorem dX12_readPolicy_531 : decode cX12_readPolicy 531 = .ok (.ifCond .eq 7, 3) := by decide +kernel
theorem dX12_readPolicy_538 : decode cX12_readPolicy 538 = .ok (.iconst 0, 1) := by decide +kernel
theorem dX12_readPolicy_525 : decode cX12_readPolicy 525 = .ok (.getfield 127, 3) := by decide +kernel
theorem dX12_readPolicy_520 : decode cX12_readPolicy 520 = .ok (.ifCond .eq 14, 3) := by decide +kernel
def wr_172 (c k : Nat) : Bool := (Nat.beq c 94 && (Nat.beq k 20 || Nat.beq k 21 || Nat.beq k 22 || Nat.beq k 23 || Nat.beq k 24 || Nat.beq k 25 || Nat.beq k 26 || Nat.beq k 27 || Nat.beq k 28 || Nat.beq k 29 || Nat.beq k 30 || Nat.beq k 67 || Nat.beq k 68 || Nat.beq k 69 || Nat.beq k 70 || Nat.beq k 71))
theorem ws_173_172 : ∀ c k, wr_173 c k = true → wr_172 c k = true := by
  intro c k h
  simp only [wr_173, wr_172, Bool.or_eq_true, Bool.and_eq_true, Nat.beq_eq] at h ⊢
  omega
theorem ws_175_172 : ∀ c k, wr_175 c k = true → wr_172 c k = true := fun _ _ h => by cases h
theorem ws_177_172 : ∀ c k, wr_177 c k = true → wr_172 c k = true := by
  intro c k h
  simp only [wr_177, wr_172, Bool.or_eq_true, Bool.and_eq_true, Nat.beq_eq] at h ⊢
  omega
theorem ws_178_172 : ∀ c k, wr_178 c k = true → wr_172 c k = true := by
  intro c k h
  simp only [wr_178, wr_172, Bool.or_eq_true, Bool.and_eq_true, Nat.beq_eq] at h ⊢
  omega
theorem ws_179_172 : ∀ c k, wr_179 c k = true → wr_172 c k = true := by
  intro c k h
  simp only [wr_179, wr_172, Bool.or_eq_true, Bool.and_eq_true, Nat.beq_eq] at h ⊢
  omega
theorem g_172_0 {X : Nat × (Nat → Int32)} {m : Nat → Nat → Int32} {P : Option ma_V → (Nat → Nat → Int32) → Prop}  (h : zm X 0 0 173 0 [(0, .inr (.inr (some 94)))] (ma_u m 94 67 (0 : Int32)) (zmi (fun v2 m1 => if v2 = 0 then (P (some (.inl (0 : Int32))) (ma_u m1 94 70 (m1 94 4))) else (zm X 1 22 175 0 [(0, .inr (.inr (some 94))), (1, .inl (115 : Int32)), (2, .inl (119 : Int32)), (3, .inl (101 : Int32)), (4, .inl (101 : Int32)), (5, .inl (112 : Int32)), (6, .inl (0 : Int32)), (7, .inl (0 : Int32))] m1 (zmi (fun v4 m3 => if v4 = 0 then (zm X 1 22 175 0 [(0, .inr (.inr (some 94))), (1, .inl (115 : Int32)), (2, .inl (108 : Int32)), (3, .inl (105 : Int32)), (4, .inl (100 : Int32)), (5, .inl (101 : Int32)), (6, .inl (0 : Int32)), (7, .inl (0 : Int32))] m3 (zmi (fun v6 m5 => if v6 = 0 then (zm X 1 22 175 0 [(0, .inr (.inr (some 94))), (1, .inl (104 : Int32)), (2, .inl (97 : Int32)), (3, .inl (108 : Int32)), (4, .inl (118 : Int32)), (5, .inl (101 : Int32)), (6, .inl (115 : Int32)), (7, .inl (0 : Int32))] m5 (zmi (fun v8 m7 => if v8 = 0 then (zm X 1 22 175 0 [(0, .inr (.inr (some 94))), (1, .inl (97 : Int32)), (2, .inl (103 : Int32)), (3, .inl (101 : Int32)), (4, .inl (115 : Int32)), (5, .inl (0 : Int32)), (6, .inl (0 : Int32)), (7, .inl (0 : Int32))] m7 (zmi (fun v10 m9 => if v10 = 0 then (zm X 1 22 175 0 [(0, .inr (.inr (some 94))), (1, .inl (99 : Int32)), (2, .inl (111 : Int32)), (3, .inl (117 : Int32)), (4, .inl (110 : Int32)), (5, .inl (116 : Int32)), (6, .inl (115 : Int32)), (7, .inl (0 : Int32))] m9 (zmi (fun v12 m11 => if v12 = 0 then (zm X 1 22 175 0 [(0, .inr (.inr (some 94))), (1, .inl (115 : Int32)), (2, .inl (116 : Int32)), (3, .inl (101 : Int32)), (4, .inl (112 : Int32)), (5, .inl (115 : Int32)), (6, .inl (0 : Int32)), (7, .inl (0 : Int32))] m11 (zmi (fun v14 m13 => if v14 = 0 then (zm X 1 22 175 0 [(0, .inr (.inr (some 94))), (1, .inl (114 : Int32)), (2, .inl (101 : Int32)), (3, .inl (103 : Int32)), (4, .inl (105 : Int32)), (5, .inl (111 : Int32)), (6, .inl (110 : Int32)), (7, .inl (115 : Int32))] m13 (zmi (fun v16 m15 => if v16 = 0 then (zm X 3 70 172 191 [(0, .inr (.inr (some 94)))] (ma_u m15 94 20 (-1 : Int32)) P) else (zm X 3 70 172 191 [(0, .inr (.inr (some 94)))] (ma_u m15 94 20 (6 : Int32)) P)))) else (zm X 3 70 172 191 [(0, .inr (.inr (some 94)))] (ma_u m13 94 20 (5 : Int32)) P)))) else (zm X 3 70 172 191 [(0, .inr (.inr (some 94)))] (ma_u m11 94 20 (4 : Int32)) P)))) else (zm X 3 70 172 191 [(0, .inr (.inr (some 94)))] (ma_u m9 94 20 (3 : Int32)) P)))) else (zm X 3 70 172 191 [(0, .inr (.inr (some 94)))] (ma_u m7 94 20 (2 : Int32)) P)))) else (zm X 3 70 172 191 [(0, .inr (.inr (some 94)))] (ma_u m5 94 20 (1 : Int32)) P)))) else (zm X 3 70 172 191 [(0, .inr (.inr (some 94)))] (ma_u m3 94 20 (0 : Int32)) P))))))) : zm X 3 70 172 0 [(0, .inr (.inr (some 94)))] m P := by
  intro d w S Q hd hw hS hm HQ
  subst hm
  refine zw_push hm_172 dX12_readPolicy_0 (v := .inr (.inr (some 94))) rfl ?_
  refine zw_push hm_172 dX12_readPolicy_1 (v := .inl (0 : Int32)) rfl ?_
  refine zw_pf hm_172 dX12_readPolicy_2 (zT_is hS s_94) (zT_t hS s_94) p_12_121_12 zk_int ?_
  refine zw_push hm_172 dX12_readPolicy_5 (v := .inr (.inr (some 94))) rfl ?_
  refine zw_cv hm_172 dX12_readPolicy_6 v_12_140_12 hm_173 [] [] rfl (zT_rt (zT_pi hS) s_94 rfl) ⟨by omega, by omega⟩ rfl (h _ _ (ma_put S 94 67 (.inl (0 : Int32))) _ (by omega) (by omega) (zT_pi hS) rfl (fun o9 m1 hv => ?_))
  obtain ⟨v2, rfl, h⟩ := zmi_of hv
  show ma_wp X d w 172 9 [(0, .inr (.inr (some 94)))] [.inl v2] (zst S m1) _
  refine zw_if0 hm_172 dX12_readPolicy_9 (t := 21) rfl zc0_ne ?_ ?_
  · intro hc
    rw [if_neg hc] at h
    refine zw_push hm_172 dX12_readPolicy_21 (v := .inr (.inr (some 94))) rfl ?_
    refine zw_push hm_172 dX12_readPolicy_22 (v := .inr (.inr (some 94))) rfl ?_
    refine zw_push hm_172 dX12_readPolicy_23 (v := .inl (115 : Int32)) rfl ?_
    refine zw_push hm_172 dX12_readPolicy_25 (v := .inl (119 : Int32)) rfl ?_
    refine zw_push hm_172 dX12_readPolicy_27 (v := .inl (101 : Int32)) rfl ?_
    refine zw_push hm_172 dX12_readPolicy_29 (v := .inl (101 : Int32)) rfl ?_
    refine zw_push hm_172 dX12_readPolicy_31 (v := .inl (112 : Int32)) rfl ?_
    refine zw_push hm_172 dX12_readPolicy_33 (v := .inl (0 : Int32)) rfl ?_
    refine zw_push hm_172 dX12_readPolicy_34 (v := .inl (0 : Int32)) rfl ?_
    refine zw_cv hm_172 dX12_readPolicy_35 v_12_150_12 hm_175 [.inl (0 : Int32), .inl (0 : Int32), .inl (112 : Int32), .inl (101 : Int32), .inl (101 : Int32), .inl (119 : Int32), .inl (115 : Int32)] [.inr (.inr (some 94))] rfl (zT_rt (zT_zst hS m1) s_94 rfl) ⟨by omega, by omega⟩ rfl (h _ _ (zst S m1) _ (by omega) (by omega) (zT_zst hS m1) rfl (fun o9 m3 hv => ?_))
    obtain ⟨v4, rfl, h⟩ := zmi_of hv
    show ma_wp X d w 172 38 [(0, .inr (.inr (some 94)))] [.inl v4, .inr (.inr (some 94))] (zst S m3) _
    refine zw_if0 hm_172 dX12_readPolicy_38 (t := 45) rfl zc0_eq ?_ ?_
    · intro hc
      rw [if_pos hc] at h
      refine zw_push hm_172 dX12_readPolicy_45 (v := .inr (.inr (some 94))) rfl ?_
      refine zw_push hm_172 dX12_readPolicy_46 (v := .inl (115 : Int32)) rfl ?_
      refine zw_push hm_172 dX12_readPolicy_48 (v := .inl (108 : Int32)) rfl ?_
      refine zw_push hm_172 dX12_readPolicy_50 (v := .inl (105 : Int32)) rfl ?_
      refine zw_push hm_172 dX12_readPolicy_52 (v := .inl (100 : Int32)) rfl ?_
      refine zw_push hm_172 dX12_readPolicy_54 (v := .inl (101 : Int32)) rfl ?_
      refine zw_push hm_172 dX12_readPolicy_56 (v := .inl (0 : Int32)) rfl ?_
      refine zw_push hm_172 dX12_readPolicy_57 (v := .inl (0 : Int32)) rfl ?_
      refine zw_cv hm_172 dX12_readPolicy_58 v_12_150_12 hm_175 [.inl (0 : Int32), .inl (0 : Int32), .inl (101 : Int32), .inl (100 : Int32), .inl (105 : Int32), .inl (108 : Int32), .inl (115 : Int32)] [.inr (.inr (some 94))] rfl (zT_rt (zT_zst hS m3) s_94 rfl) ⟨by omega, by omega⟩ rfl (h _ _ (zst S m3) _ (by omega) (by omega) (zT_zst hS m3) rfl (fun o9 m5 hv => ?_))
      obtain ⟨v6, rfl, h⟩ := zmi_of hv
      show ma_wp X d w 172 61 [(0, .inr (.inr (some 94)))] [.inl v6, .inr (.inr (some 94))] (zst S m5) _
      refine zw_if0 hm_172 dX12_readPolicy_61 (t := 68) rfl zc0_eq ?_ ?_
      · intro hc
        rw [if_pos hc] at h
        refine zw_push hm_172 dX12_readPolicy_68 (v := .inr (.inr (some 94))) rfl ?_
        refine zw_push hm_172 dX12_readPolicy_69 (v := .inl (104 : Int32)) rfl ?_
        refine zw_push hm_172 dX12_readPolicy_71 (v := .inl (97 : Int32)) rfl ?_
        refine zw_push hm_172 dX12_readPolicy_73 (v := .inl (108 : Int32)) rfl ?_
        refine zw_push hm_172 dX12_readPolicy_75 (v := .inl (118 : Int32)) rfl ?_
        refine zw_push hm_172 dX12_readPolicy_77 (v := .inl (101 : Int32)) rfl ?_
        refine zw_push hm_172 dX12_readPolicy_79 (v := .inl (115 : Int32)) rfl ?_
        refine zw_push hm_172 dX12_readPolicy_81 (v := .inl (0 : Int32)) rfl ?_
        refine zw_cv hm_172 dX12_readPolicy_82 v_12_150_12 hm_175 [.inl (0 : Int32), .inl (115 : Int32), .inl (101 : Int32), .inl (118 : Int32), .inl (108 : Int32), .inl (97 : Int32), .inl (104 : Int32)] [.inr (.inr (some 94))] rfl (zT_rt (zT_zst hS m5) s_94 rfl) ⟨by omega, by omega⟩ rfl (h _ _ (zst S m5) _ (by omega) (by omega) (zT_zst hS m5) rfl (fun o9 m7 hv => ?_))
        obtain ⟨v8, rfl, h⟩ := zmi_of hv
        show ma_wp X d w 172 85 [(0, .inr (.inr (some 94)))] [.inl v8, .inr (.inr (some 94))] (zst S m7) _
        refine zw_if0 hm_172 dX12_readPolicy_85 (t := 92) rfl zc0_eq ?_ ?_
        · intro hc
          rw [if_pos hc] at h
          refine zw_push hm_172 dX12_readPolicy_92 (v := .inr (.inr (some 94))) rfl ?_
          refine zw_push hm_172 dX12_readPolicy_93 (v := .inl (97 : Int32)) rfl ?_
          refine zw_push hm_172 dX12_readPolicy_95 (v := .inl (103 : Int32)) rfl ?_
          refine zw_push hm_172 dX12_readPolicy_97 (v := .inl (101 : Int32)) rfl ?_
          refine zw_push hm_172 dX12_readPolicy_99 (v := .inl (115 : Int32)) rfl ?_
          refine zw_push hm_172 dX12_readPolicy_101 (v := .inl (0 : Int32)) rfl ?_
          refine zw_push hm_172 dX12_readPolicy_102 (v := .inl (0 : Int32)) rfl ?_
          refine zw_push hm_172 dX12_readPolicy_103 (v := .inl (0 : Int32)) rfl ?_
          refine zw_cv hm_172 dX12_readPolicy_104 v_12_150_12 hm_175 [.inl (0 : Int32), .inl (0 : Int32), .inl (0 : Int32), .inl (115 : Int32), .inl (101 : Int32), .inl (103 : Int32), .inl (97 : Int32)] [.inr (.inr (some 94))] rfl (zT_rt (zT_zst hS m7) s_94 rfl) ⟨by omega, by omega⟩ rfl (h _ _ (zst S m7) _ (by omega) (by omega) (zT_zst hS m7) rfl (fun o9 m9 hv => ?_))
          obtain ⟨v10, rfl, h⟩ := zmi_of hv
          show ma_wp X d w 172 107 [(0, .inr (.inr (some 94)))] [.inl v10, .inr (.inr (some 94))] (zst S m9) _
          refine zw_if0 hm_172 dX12_readPolicy_107 (t := 114) rfl zc0_eq ?_ ?_
          · intro hc
            rw [if_pos hc] at h
            refine zw_push hm_172 dX12_readPolicy_114 (v := .inr (.inr (some 94))) rfl ?_
            refine zw_push hm_172 dX12_readPolicy_115 (v := .inl (99 : Int32)) rfl ?_
            refine zw_push hm_172 dX12_readPolicy_117 (v := .inl (111 : Int32)) rfl ?_
            refine zw_push hm_172 dX12_readPolicy_119 (v := .inl (117 : Int32)) rfl ?_
            refine zw_push hm_172 dX12_readPolicy_121 (v := .inl (110 : Int32)) rfl ?_
            refine zw_push hm_172 dX12_readPolicy_123 (v := .inl (116 : Int32)) rfl ?_
            refine zw_push hm_172 dX12_readPolicy_125 (v := .inl (115 : Int32)) rfl ?_
            refine zw_push hm_172 dX12_readPolicy_127 (v := .inl (0 : Int32)) rfl ?_
            refine zw_cv hm_172 dX12_readPolicy_128 v_12_150_12 hm_175 [.inl (0 : Int32), .inl (115 : Int32), .inl (116 : Int32), .inl (110 : Int32), .inl (117 : Int32), .inl (111 : Int32), .inl (99 : Int32)] [.inr (.inr (some 94))] rfl (zT_rt (zT_zst hS m9) s_94 rfl) ⟨by omega, by omega⟩ rfl (h _ _ (zst S m9) _ (by omega) (by omega) (zT_zst hS m9) rfl (fun o9 m11 hv => ?_))
            obtain ⟨v12, rfl, h⟩ := zmi_of hv
            show ma_wp X d w 172 131 [(0, .inr (.inr (some 94)))] [.inl v12, .inr (.inr (some 94))] (zst S m11) _
            refine zw_if0 hm_172 dX12_readPolicy_131 (t := 138) rfl zc0_eq ?_ ?_
            · intro hc
              rw [if_pos hc] at h
              refine zw_push hm_172 dX12_readPolicy_138 (v := .inr (.inr (some 94))) rfl ?_
              refine zw_push hm_172 dX12_readPolicy_139 (v := .inl (115 : Int32)) rfl ?_
              refine zw_push hm_172 dX12_readPolicy_141 (v := .inl (116 : Int32)) rfl ?_
              refine zw_push hm_172 dX12_readPolicy_143 (v := .inl (101 : Int32)) rfl ?_
              refine zw_push hm_172 dX12_readPolicy_145 (v := .inl (112 : Int32)) rfl ?_
              refine zw_push hm_172 dX12_readPolicy_147 (v := .inl (115 : Int32)) rfl ?_
              refine zw_push hm_172 dX12_readPolicy_149 (v := .inl (0 : Int32)) rfl ?_
              refine zw_push hm_172 dX12_readPolicy_150 (v := .inl (0 : Int32)) rfl ?_
              refine zw_cv hm_172 dX12_readPolicy_151 v_12_150_12 hm_175 [.inl (0 : Int32), .inl (0 : Int32), .inl (115 : Int32), .inl (112 : Int32), .inl (101 : Int32), .inl (116 : Int32), .inl (115 : Int32)] [.inr (.inr (some 94))] rfl (zT_rt (zT_zst hS m11) s_94 rfl) ⟨by omega, by omega⟩ rfl (h _ _ (zst S m11) _ (by omega) (by omega) (zT_zst hS m11) rfl (fun o9 m13 hv => ?_))
              obtain ⟨v14, rfl, h⟩ := zmi_of hv
              show ma_wp X d w 172 154 [(0, .inr (.inr (some 94)))] [.inl v14, .inr (.inr (some 94))] (zst S m13) _
              refine zw_if0 hm_172 dX12_readPolicy_154 (t := 161) rfl zc0_eq ?_ ?_
              · intro hc
                rw [if_pos hc] at h
                refine zw_push hm_172 dX12_readPolicy_161 (v := .inr (.inr (some 94))) rfl ?_
                refine zw_push hm_172 dX12_readPolicy_162 (v := .inl (114 : Int32)) rfl ?_
                refine zw_push hm_172 dX12_readPolicy_164 (v := .inl (101 : Int32)) rfl ?_
                refine zw_push hm_172 dX12_readPolicy_166 (v := .inl (103 : Int32)) rfl ?_
                refine zw_push hm_172 dX12_readPolicy_168 (v := .inl (105 : Int32)) rfl ?_
                refine zw_push hm_172 dX12_readPolicy_170 (v := .inl (111 : Int32)) rfl ?_
                refine zw_push hm_172 dX12_readPolicy_172 (v := .inl (110 : Int32)) rfl ?_
                refine zw_push hm_172 dX12_readPolicy_174 (v := .inl (115 : Int32)) rfl ?_
                refine zw_cv hm_172 dX12_readPolicy_176 v_12_150_12 hm_175 [.inl (115 : Int32), .inl (110 : Int32), .inl (111 : Int32), .inl (105 : Int32), .inl (103 : Int32), .inl (101 : Int32), .inl (114 : Int32)] [.inr (.inr (some 94))] rfl (zT_rt (zT_zst hS m13) s_94 rfl) ⟨by omega, by omega⟩ rfl (h _ _ (zst S m13) _ (by omega) (by omega) (zT_zst hS m13) rfl (fun o9 m15 hv => ?_))
                obtain ⟨v16, rfl, h⟩ := zmi_of hv
                show ma_wp X d w 172 179 [(0, .inr (.inr (some 94)))] [.inl v16, .inr (.inr (some 94))] (zst S m15) _
                refine zw_if0 hm_172 dX12_readPolicy_179 (t := 187) rfl zc0_eq ?_ ?_
                · intro hc
                  rw [if_pos hc] at h
                  refine zw_push hm_172 dX12_readPolicy_187 (v := .inl (-1 : Int32)) rfl ?_
                  refine zw_pf hm_172 dX12_readPolicy_188 (zT_is (zT_zst hS m15) s_94) (zT_t (zT_zst hS m15) s_94) p_12_162_12 zk_int ?_
                  exact (h d w _ Q (by omega) (by omega) (zT_pi (zT_zst hS m15)) rfl HQ)
                · intro hc
                  rw [if_neg hc] at h
                  refine zw_push hm_172 dX12_readPolicy_182 (v := .inl (6 : Int32)) rfl ?_
                  refine zw_goto hm_172 dX12_readPolicy_184 (t := 188) rfl ?_
                  refine zw_pf hm_172 dX12_readPolicy_188 (zT_is (zT_zst hS m15) s_94) (zT_t (zT_zst hS m15) s_94) p_12_162_12 zk_int ?_
                  exact (h d w _ Q (by omega) (by omega) (zT_pi (zT_zst hS m15)) rfl HQ)
              · intro hc
                rw [if_neg hc] at h
                refine zw_push hm_172 dX12_readPolicy_157 (v := .inl (5 : Int32)) rfl ?_
                refine zw_goto hm_172 dX12_readPolicy_158 (t := 188) rfl ?_
                refine zw_pf hm_172 dX12_readPolicy_188 (zT_is (zT_zst hS m13) s_94) (zT_t (zT_zst hS m13) s_94) p_12_162_12 zk_int ?_
                exact (h d w _ Q (by omega) (by omega) (zT_pi (zT_zst hS m13)) rfl HQ)
            · intro hc
              rw [if_neg hc] at h
              refine zw_push hm_172 dX12_readPolicy_134 (v := .inl (4 : Int32)) rfl ?_
              refine zw_goto hm_172 dX12_readPolicy_135 (t := 188) rfl ?_
              refine zw_pf hm_172 dX12_readPolicy_188 (zT_is (zT_zst hS m11) s_94) (zT_t (zT_zst hS m11) s_94) p_12_162_12 zk_int ?_
              exact (h d w _ Q (by omega) (by omega) (zT_pi (zT_zst hS m11)) rfl HQ)
          · intro hc
            rw [if_neg hc] at h
            refine zw_push hm_172 dX12_readPolicy_110 (v := .inl (3 : Int32)) rfl ?_
            refine zw_goto hm_172 dX12_readPolicy_111 (t := 188) rfl ?_
            refine zw_pf hm_172 dX12_readPolicy_188 (zT_is (zT_zst hS m9) s_94) (zT_t (zT_zst hS m9) s_94) p_12_162_12 zk_int ?_
            exact (h d w _ Q (by omega) (by omega) (zT_pi (zT_zst hS m9)) rfl HQ)
        · intro hc
          rw [if_neg hc] at h
          refine zw_push hm_172 dX12_readPolicy_88 (v := .inl (2 : Int32)) rfl ?_
          refine zw_goto hm_172 dX12_readPolicy_89 (t := 188) rfl ?_
          refine zw_pf hm_172 dX12_readPolicy_188 (zT_is (zT_zst hS m7) s_94) (zT_t (zT_zst hS m7) s_94) p_12_162_12 zk_int ?_
          exact (h d w _ Q (by omega) (by omega) (zT_pi (zT_zst hS m7)) rfl HQ)
      · intro hc
        rw [if_neg hc] at h
        refine zw_push hm_172 dX12_readPolicy_64 (v := .inl (1 : Int32)) rfl ?_
        refine zw_goto hm_172 dX12_readPolicy_65 (t := 188) rfl ?_
        refine zw_pf hm_172 dX12_readPolicy_188 (zT_is (zT_zst hS m5) s_94) (zT_t (zT_zst hS m5) s_94) p_12_162_12 zk_int ?_
        exact (h d w _ Q (by omega) (by omega) (zT_pi (zT_zst hS m5)) rfl HQ)
    · intro hc
      rw [if_neg hc] at h
      refine zw_push hm_172 dX12_readPolicy_41 (v := .inl (0 : Int32)) rfl ?_
      refine zw_goto hm_172 dX12_readPolicy_42 (t := 188) rfl ?_
      refine zw_pf hm_172 dX12_readPolicy_188 (zT_is (zT_zst hS m3) s_94) (zT_t (zT_zst hS m3) s_94) p_12_162_12 zk_int ?_
      exact (h d w _ Q (by omega) (by omega) (zT_pi (zT_zst hS m3)) rfl HQ)
  · intro hc
    rw [if_pos (Classical.not_not.mp hc)] at h
    refine zw_push hm_172 dX12_readPolicy_12 (v := .inr (.inr (some 94))) rfl ?_
    refine zw_push hm_172 dX12_readPolicy_13 (v := .inr (.inr (some 94))) rfl ?_
    refine zw_gf hm_172 dX12_readPolicy_14 (v := .inl (m1 94 4)) (zT_is (zT_zst hS m1) s_94) (zT_t (zT_zst hS m1) s_94) rfl f_12_124_12 rfl ?_
    refine zw_cv hm_172 dX12_readPolicy_17 v_12_144_12 hm_174 [.inl (m1 94 4)] [] rfl (zT_rt (zT_zst hS m1) s_94 rfl) ⟨by omega, by omega⟩ rfl ?_
    show ma_wp X (d - 1) (w - 21) 174 0 [(0, .inr (.inr (some 94))), (1, .inl (m1 94 4))] [] (zst S m1) _
    refine zw_push hm_174 dX12_wrong_0 (v := .inr (.inr (some 94))) rfl ?_
    refine zw_push hm_174 dX12_wrong_1 (v := .inl (m1 94 4)) rfl ?_
    refine zw_pf hm_174 dX12_wrong_2 (zT_is (zT_zst hS m1) s_94) (zT_t (zT_zst hS m1) s_94) p_12_133_12 zk_int ?_
    refine zw_push hm_174 dX12_wrong_5 (v := .inl (0 : Int32)) rfl ?_
    refine zw_bret hm_174 dX12_wrong_6 (by decide) ?_
    show ma_wp X d w 172 20 [(0, .inr (.inr (some 94)))] [.inl (0 : Int32)] (ma_put (zst S m1) 94 70 (.inl (m1 94 4))) _
    exact zw_bret hm_172 dX12_readPolicy_20 (by decide) (HQ _ _ h)
theorem g_172_191 {X : Nat × (Nat → Int32)} {m : Nat → Nat → Int32} {P : Option ma_V → (Nat → Nat → Int32) → Prop}  (h : if 0 ≤ (m 94 20) then (if (m 94 20) = (3 : Int32) then (zm X 1 21 177 0 [(0, .inr (.inr (some 94))), (1, .inl (16 : Int32)), (2, .inl (1500 : Int32))] m (zmi (fun v4 m3 => if v4 = 0 then (P (some (.inl (0 : Int32))) m3) else (zm X 1 21 177 0 [(0, .inr (.inr (some 94))), (1, .inl (16 : Int32)), (2, .inl (1500 : Int32))] (ma_u m3 94 23 (m3 94 71)) (zmi (fun v6 m5 => if v6 = 0 then (P (some (.inl (0 : Int32))) m5) else (zm X 1 21 177 0 [(0, .inr (.inr (some 94))), (1, .inl (1 : Int32)), (2, .inl (7 : Int32))] (ma_u m5 94 24 (m5 94 71)) (zmi (fun v8 m7 => if v8 = 0 then (P (some (.inl (0 : Int32))) m7) else (zm X 1 21 177 0 [(0, .inr (.inr (some 94))), (1, .inl (4 : Int32)), (2, .inl (64 : Int32))] (ma_u m7 94 25 (m7 94 71)) (zmi (fun v10 m9 => if v10 = 0 then (P (some (.inl (0 : Int32))) m9) else (zm X 3 70 172 311 [(0, .inr (.inr (some 94)))] (ma_u m9 94 26 (m9 94 71)) P))))))))))))) else (zm X 2 47 178 0 [(0, .inr (.inr (some 94)))] m (zmi (fun v2 m1 => if v2 = 0 then (P (some (.inl (0 : Int32))) m1) else (zm X 3 70 172 311 [(0, .inr (.inr (some 94)))] m1 P))))) else (P (some (.inl (0 : Int32))) (ma_u m 94 70 (m 94 68)))) : zm X 3 70 172 191 [(0, .inr (.inr (some 94)))] m P := by
  intro d w S Q hd hw hS hm HQ
  subst hm
  refine zw_push hm_172 dX12_readPolicy_191 (v := .inr (.inr (some 94))) rfl ?_
  refine zw_gf hm_172 dX12_readPolicy_192 (v := .inl ((mI S) 94 20)) (zT_is hS s_94) (zT_t hS s_94) rfl f_12_162_12 rfl ?_
  refine zw_if0 hm_172 dX12_readPolicy_195 (t := 207) rfl zc0_ge ?_ ?_
  · intro hc
    rw [if_pos hc] at h
    refine zw_push hm_172 dX12_readPolicy_207 (v := .inr (.inr (some 94))) rfl ?_
    refine zw_gf hm_172 dX12_readPolicy_208 (v := .inl ((mI S) 94 20)) (zT_is hS s_94) (zT_t hS s_94) rfl f_12_162_12 rfl ?_
    refine zw_push hm_172 dX12_readPolicy_211 (v := .inl (3 : Int32)) rfl ?_
    refine zw_if2 hm_172 dX12_readPolicy_212 (t := 302) rfl zc2_ne ?_ ?_
    · intro hc
      rw [if_neg hc] at h
      refine zw_push hm_172 dX12_readPolicy_302 (v := .inr (.inr (some 94))) rfl ?_
      refine zw_cv hm_172 dX12_readPolicy_303 v_12_177_12 hm_178 [] [] rfl (zT_rt hS s_94 rfl) ⟨by omega, by omega⟩ rfl (h _ _ S _ (by omega) (by omega) hS rfl (fun o9 m1 hv => ?_))
      obtain ⟨v2, rfl, h⟩ := zmi_of hv
      show ma_wp X d w 172 306 [(0, .inr (.inr (some 94)))] [.inl v2] (zst S m1) _
      refine zw_if0 hm_172 dX12_readPolicy_306 (t := 311) rfl zc0_ne ?_ ?_
      · intro hc
        rw [if_neg hc] at h
        exact (h d w _ Q (by omega) (by omega) (zT_zst hS m1) rfl HQ)
      · intro hc
        rw [if_pos (Classical.not_not.mp hc)] at h
        refine zw_push hm_172 dX12_readPolicy_309 (v := .inl (0 : Int32)) rfl ?_
        exact zw_bret hm_172 dX12_readPolicy_310 (by decide) (HQ _ _ h)
    · intro hc
      rw [if_pos (Classical.not_not.mp hc)] at h
      refine zw_push hm_172 dX12_readPolicy_215 (v := .inr (.inr (some 94))) rfl ?_
      refine zw_push hm_172 dX12_readPolicy_216 (v := .inl (16 : Int32)) rfl ?_
      refine zw_push hm_172 dX12_readPolicy_218 (v := .inl (1500 : Int32)) rfl ?_
      refine zw_cv hm_172 dX12_readPolicy_221 v_12_157_12 hm_177 [.inl (1500 : Int32), .inl (16 : Int32)] [] rfl (zT_rt hS s_94 rfl) ⟨by omega, by omega⟩ rfl (h _ _ S _ (by omega) (by omega) hS rfl (fun o9 m3 hv => ?_))
      obtain ⟨v4, rfl, h⟩ := zmi_of hv
      show ma_wp X d w 172 224 [(0, .inr (.inr (some 94)))] [.inl v4] (zst S m3) _
      refine zw_if0 hm_172 dX12_readPolicy_224 (t := 229) rfl zc0_ne ?_ ?_
      · intro hc
        rw [if_neg hc] at h
        refine zw_push hm_172 dX12_readPolicy_229 (v := .inr (.inr (some 94))) rfl ?_
        refine zw_push hm_172 dX12_readPolicy_230 (v := .inr (.inr (some 94))) rfl ?_
        refine zw_gf hm_172 dX12_readPolicy_231 (v := .inl (m3 94 71)) (zT_is (zT_zst hS m3) s_94) (zT_t (zT_zst hS m3) s_94) rfl f_12_147_12 rfl ?_
        refine zw_pf hm_172 dX12_readPolicy_234 (zT_is (zT_zst hS m3) s_94) (zT_t (zT_zst hS m3) s_94) p_12_165_12 zk_int ?_
        refine zw_push hm_172 dX12_readPolicy_237 (v := .inr (.inr (some 94))) rfl ?_
        refine zw_push hm_172 dX12_readPolicy_238 (v := .inl (16 : Int32)) rfl ?_
        refine zw_push hm_172 dX12_readPolicy_240 (v := .inl (1500 : Int32)) rfl ?_
        refine zw_cv hm_172 dX12_readPolicy_243 v_12_157_12 hm_177 [.inl (1500 : Int32), .inl (16 : Int32)] [] rfl (zT_rt (zT_pi (zT_zst hS m3)) s_94 rfl) ⟨by omega, by omega⟩ rfl (h _ _ (ma_put (zst S m3) 94 23 (.inl (m3 94 71))) _ (by omega) (by omega) (zT_pi (zT_zst hS m3)) rfl (fun o9 m5 hv => ?_))
        obtain ⟨v6, rfl, h⟩ := zmi_of hv
        show ma_wp X d w 172 246 [(0, .inr (.inr (some 94)))] [.inl v6] (zst S m5) _
        refine zw_if0 hm_172 dX12_readPolicy_246 (t := 251) rfl zc0_ne ?_ ?_
        · intro hc
          rw [if_neg hc] at h
          refine zw_push hm_172 dX12_readPolicy_251 (v := .inr (.inr (some 94))) rfl ?_
          refine zw_push hm_172 dX12_readPolicy_252 (v := .inr (.inr (some 94))) rfl ?_
          refine zw_gf hm_172 dX12_readPolicy_253 (v := .inl (m5 94 71)) (zT_is (zT_zst hS m5) s_94) (zT_t (zT_zst hS m5) s_94) rfl f_12_147_12 rfl ?_
          refine zw_pf hm_172 dX12_readPolicy_256 (zT_is (zT_zst hS m5) s_94) (zT_t (zT_zst hS m5) s_94) p_12_168_12 zk_int ?_
          refine zw_push hm_172 dX12_readPolicy_259 (v := .inr (.inr (some 94))) rfl ?_
          refine zw_push hm_172 dX12_readPolicy_260 (v := .inl (1 : Int32)) rfl ?_
          refine zw_push hm_172 dX12_readPolicy_261 (v := .inl (7 : Int32)) rfl ?_
          refine zw_cv hm_172 dX12_readPolicy_263 v_12_157_12 hm_177 [.inl (7 : Int32), .inl (1 : Int32)] [] rfl (zT_rt (zT_pi (zT_zst hS m5)) s_94 rfl) ⟨by omega, by omega⟩ rfl (h _ _ (ma_put (zst S m5) 94 24 (.inl (m5 94 71))) _ (by omega) (by omega) (zT_pi (zT_zst hS m5)) rfl (fun o9 m7 hv => ?_))
          obtain ⟨v8, rfl, h⟩ := zmi_of hv
          show ma_wp X d w 172 266 [(0, .inr (.inr (some 94)))] [.inl v8] (zst S m7) _
          refine zw_if0 hm_172 dX12_readPolicy_266 (t := 271) rfl zc0_ne ?_ ?_
          · intro hc
            rw [if_neg hc] at h
            refine zw_push hm_172 dX12_readPolicy_271 (v := .inr (.inr (some 94))) rfl ?_
            refine zw_push hm_172 dX12_readPolicy_272 (v := .inr (.inr (some 94))) rfl ?_
            refine zw_gf hm_172 dX12_readPolicy_273 (v := .inl (m7 94 71)) (zT_is (zT_zst hS m7) s_94) (zT_t (zT_zst hS m7) s_94) rfl f_12_147_12 rfl ?_
            refine zw_pf hm_172 dX12_readPolicy_276 (zT_is (zT_zst hS m7) s_94) (zT_t (zT_zst hS m7) s_94) p_12_171_12 zk_int ?_
            refine zw_push hm_172 dX12_readPolicy_279 (v := .inr (.inr (some 94))) rfl ?_
            refine zw_push hm_172 dX12_readPolicy_280 (v := .inl (4 : Int32)) rfl ?_
            refine zw_push hm_172 dX12_readPolicy_281 (v := .inl (64 : Int32)) rfl ?_
            refine zw_cv hm_172 dX12_readPolicy_283 v_12_157_12 hm_177 [.inl (64 : Int32), .inl (4 : Int32)] [] rfl (zT_rt (zT_pi (zT_zst hS m7)) s_94 rfl) ⟨by omega, by omega⟩ rfl (h _ _ (ma_put (zst S m7) 94 25 (.inl (m7 94 71))) _ (by omega) (by omega) (zT_pi (zT_zst hS m7)) rfl (fun o9 m9 hv => ?_))
            obtain ⟨v10, rfl, h⟩ := zmi_of hv
            show ma_wp X d w 172 286 [(0, .inr (.inr (some 94)))] [.inl v10] (zst S m9) _
            refine zw_if0 hm_172 dX12_readPolicy_286 (t := 291) rfl zc0_ne ?_ ?_
            · intro hc
              rw [if_neg hc] at h
              refine zw_push hm_172 dX12_readPolicy_291 (v := .inr (.inr (some 94))) rfl ?_
              refine zw_push hm_172 dX12_readPolicy_292 (v := .inr (.inr (some 94))) rfl ?_
              refine zw_gf hm_172 dX12_readPolicy_293 (v := .inl (m9 94 71)) (zT_is (zT_zst hS m9) s_94) (zT_t (zT_zst hS m9) s_94) rfl f_12_147_12 rfl ?_
              refine zw_pf hm_172 dX12_readPolicy_296 (zT_is (zT_zst hS m9) s_94) (zT_t (zT_zst hS m9) s_94) p_12_174_12 zk_int ?_
              refine zw_goto hm_172 dX12_readPolicy_299 (t := 311) rfl ?_
              exact (h d w _ Q (by omega) (by omega) (zT_pi (zT_zst hS m9)) rfl HQ)
            · intro hc
              rw [if_pos (Classical.not_not.mp hc)] at h
              refine zw_push hm_172 dX12_readPolicy_289 (v := .inl (0 : Int32)) rfl ?_
              exact zw_bret hm_172 dX12_readPolicy_290 (by decide) (HQ _ _ h)
          · intro hc
            rw [if_pos (Classical.not_not.mp hc)] at h
            refine zw_push hm_172 dX12_readPolicy_269 (v := .inl (0 : Int32)) rfl ?_
            exact zw_bret hm_172 dX12_readPolicy_270 (by decide) (HQ _ _ h)
        · intro hc
          rw [if_pos (Classical.not_not.mp hc)] at h
          refine zw_push hm_172 dX12_readPolicy_249 (v := .inl (0 : Int32)) rfl ?_
          exact zw_bret hm_172 dX12_readPolicy_250 (by decide) (HQ _ _ h)
      · intro hc
        rw [if_pos (Classical.not_not.mp hc)] at h
        refine zw_push hm_172 dX12_readPolicy_227 (v := .inl (0 : Int32)) rfl ?_
        exact zw_bret hm_172 dX12_readPolicy_228 (by decide) (HQ _ _ h)
  · intro hc
    rw [if_neg hc] at h
    refine zw_push hm_172 dX12_readPolicy_198 (v := .inr (.inr (some 94))) rfl ?_
    refine zw_push hm_172 dX12_readPolicy_199 (v := .inr (.inr (some 94))) rfl ?_
    refine zw_gf hm_172 dX12_readPolicy_200 (v := .inl ((mI S) 94 68)) (zT_is hS s_94) (zT_t hS s_94) rfl f_12_127_12 rfl ?_
    refine zw_cv hm_172 dX12_readPolicy_203 v_12_144_12 hm_174 [.inl ((mI S) 94 68)] [] rfl (zT_rt hS s_94 rfl) ⟨by omega, by omega⟩ rfl ?_
    show ma_wp X (d - 1) (w - 21) 174 0 [(0, .inr (.inr (some 94))), (1, .inl ((mI S) 94 68))] [] S _
    refine zw_push hm_174 dX12_wrong_0 (v := .inr (.inr (some 94))) rfl ?_
    refine zw_push hm_174 dX12_wrong_1 (v := .inl ((mI S) 94 68)) rfl ?_
    refine zw_pf hm_174 dX12_wrong_2 (zT_is hS s_94) (zT_t hS s_94) p_12_133_12 zk_int ?_
    refine zw_push hm_174 dX12_wrong_5 (v := .inl (0 : Int32)) rfl ?_
    refine zw_bret hm_174 dX12_wrong_6 (by decide) ?_
    show ma_wp X d w 172 206 [(0, .inr (.inr (some 94)))] [.inl (0 : Int32)] (ma_put S 94 70 (.inl ((mI S) 94 68))) _
    exact zw_bret hm_172 dX12_readPolicy_206 (by decide) (HQ _ _ h)
theorem g_172_311 {X : Nat × (Nat → Int32)} {m : Nat → Nat → Int32} {P : Option ma_V → (Nat → Nat → Int32) → Prop}  (h : if (m 94 20) = 0 then (zm X 2 50 179 0 [(0, .inr (.inr (some 94)))] m (zmi (fun v2 m1 => if v2 = 0 then (P (some (.inl (0 : Int32))) m1) else (zm X 3 70 172 343 [(0, .inr (.inr (some 94)))] m1 P)))) else (if (m 94 20) = (4 : Int32) then (zm X 2 50 179 0 [(0, .inr (.inr (some 94)))] m (zmi (fun v4 m3 => if v4 = 0 then (P (some (.inl (0 : Int32))) m3) else (zm X 3 70 172 343 [(0, .inr (.inr (some 94)))] m3 P)))) else (if (m 94 20) = (5 : Int32) then (zm X 2 50 179 0 [(0, .inr (.inr (some 94)))] m (zmi (fun v6 m5 => if v6 = 0 then (P (some (.inl (0 : Int32))) m5) else (zm X 3 70 172 343 [(0, .inr (.inr (some 94)))] m5 P)))) else (zm X 3 70 172 343 [(0, .inr (.inr (some 94)))] m P)))) : zm X 3 70 172 311 [(0, .inr (.inr (some 94)))] m P := by
  intro d w S Q hd hw hS hm HQ
  subst hm
  refine zw_push hm_172 dX12_readPolicy_311 (v := .inr (.inr (some 94))) rfl ?_
  refine zw_gf hm_172 dX12_readPolicy_312 (v := .inl ((mI S) 94 20)) (zT_is hS s_94) (zT_t hS s_94) rfl f_12_162_12 rfl ?_
  refine zw_if0 hm_172 dX12_readPolicy_315 (t := 334) rfl zc0_eq ?_ ?_
  · intro hc
    rw [if_pos hc] at h
    refine zw_push hm_172 dX12_readPolicy_334 (v := .inr (.inr (some 94))) rfl ?_
    refine zw_cv hm_172 dX12_readPolicy_335 v_12_180_12 hm_179 [] [] rfl (zT_rt hS s_94 rfl) ⟨by omega, by omega⟩ rfl (h _ _ S _ (by omega) (by omega) hS rfl (fun o9 m1 hv => ?_))
    obtain ⟨v2, rfl, h⟩ := zmi_of hv
    show ma_wp X d w 172 338 [(0, .inr (.inr (some 94)))] [.inl v2] (zst S m1) _
    refine zw_if0 hm_172 dX12_readPolicy_338 (t := 343) rfl zc0_ne ?_ ?_
    · intro hc
      rw [if_neg hc] at h
      exact (h d w _ Q (by omega) (by omega) (zT_zst hS m1) rfl HQ)
    · intro hc
      rw [if_pos (Classical.not_not.mp hc)] at h
      refine zw_push hm_172 dX12_readPolicy_341 (v := .inl (0 : Int32)) rfl ?_
      exact zw_bret hm_172 dX12_readPolicy_342 (by decide) (HQ _ _ h)
  · intro hc
    rw [if_neg hc] at h
    refine zw_push hm_172 dX12_readPolicy_318 (v := .inr (.inr (some 94))) rfl ?_
    refine zw_gf hm_172 dX12_readPolicy_319 (v := .inl ((mI S) 94 20)) (zT_is hS s_94) (zT_t hS s_94) rfl f_12_162_12 rfl ?_
    refine zw_push hm_172 dX12_readPolicy_322 (v := .inl (4 : Int32)) rfl ?_
    refine zw_if2 hm_172 dX12_readPolicy_323 (t := 334) rfl zc2_eq ?_ ?_
    · intro hc
      rw [if_pos hc] at h
      refine zw_push hm_172 dX12_readPolicy_334 (v := .inr (.inr (some 94))) rfl ?_
      refine zw_cv hm_172 dX12_readPolicy_335 v_12_180_12 hm_179 [] [] rfl (zT_rt hS s_94 rfl) ⟨by omega, by omega⟩ rfl (h _ _ S _ (by omega) (by omega) hS rfl (fun o9 m3 hv => ?_))
      obtain ⟨v4, rfl, h⟩ := zmi_of hv
      show ma_wp X d w 172 338 [(0, .inr (.inr (some 94)))] [.inl v4] (zst S m3) _
      refine zw_if0 hm_172 dX12_readPolicy_338 (t := 343) rfl zc0_ne ?_ ?_
      · intro hc
        rw [if_neg hc] at h
        exact (h d w _ Q (by omega) (by omega) (zT_zst hS m3) rfl HQ)
      · intro hc
        rw [if_pos (Classical.not_not.mp hc)] at h
        refine zw_push hm_172 dX12_readPolicy_341 (v := .inl (0 : Int32)) rfl ?_
        exact zw_bret hm_172 dX12_readPolicy_342 (by decide) (HQ _ _ h)
    · intro hc
      rw [if_neg hc] at h
      refine zw_push hm_172 dX12_readPolicy_326 (v := .inr (.inr (some 94))) rfl ?_
      refine zw_gf hm_172 dX12_readPolicy_327 (v := .inl ((mI S) 94 20)) (zT_is hS s_94) (zT_t hS s_94) rfl f_12_162_12 rfl ?_
      refine zw_push hm_172 dX12_readPolicy_330 (v := .inl (5 : Int32)) rfl ?_
      refine zw_if2 hm_172 dX12_readPolicy_331 (t := 343) rfl zc2_ne ?_ ?_
      · intro hc
        rw [if_neg hc] at h
        exact (h d w _ Q (by omega) (by omega) hS rfl HQ)
      · intro hc
        rw [if_pos (Classical.not_not.mp hc)] at h
        refine zw_push hm_172 dX12_readPolicy_334 (v := .inr (.inr (some 94))) rfl ?_
        refine zw_cv hm_172 dX12_readPolicy_335 v_12_180_12 hm_179 [] [] rfl (zT_rt hS s_94 rfl) ⟨by omega, by omega⟩ rfl (h _ _ S _ (by omega) (by omega) hS rfl (fun o9 m5 hv => ?_))
        obtain ⟨v6, rfl, h⟩ := zmi_of hv
        show ma_wp X d w 172 338 [(0, .inr (.inr (some 94)))] [.inl v6] (zst S m5) _
        refine zw_if0 hm_172 dX12_readPolicy_338 (t := 343) rfl zc0_ne ?_ ?_
        · intro hc
          rw [if_neg hc] at h
          exact (h d w _ Q (by omega) (by omega) (zT_zst hS m5) rfl HQ)
        · intro hc
          rw [if_pos (Classical.not_not.mp hc)] at h
          refine zw_push hm_172 dX12_readPolicy_341 (v := .inl (0 : Int32)) rfl ?_
          exact zw_bret hm_172 dX12_readPolicy_342 (by decide) (HQ _ _ h)
theorem g_172_343 {X : Nat × (Nat → Int32)} {m : Nat → Nat → Int32} {P : Option ma_V → (Nat → Nat → Int32) → Prop}  (h : if (m 94 20) = (5 : Int32) then (zm X 1 21 177 0 [(0, .inr (.inr (some 94))), (1, .inl (1 : Int32)), (2, .inl (50 : Int32))] m (zmi (fun v2 m1 => if v2 = 0 then (P (some (.inl (0 : Int32))) m1) else (zm X 0 0 173 0 [(0, .inr (.inr (some 94)))] (ma_u m1 94 27 (m1 94 71)) (zmi (fun v4 m3 => if v4 = 0 then (P (some (.inl (0 : Int32))) (ma_u m3 94 70 (m3 94 4))) else (zm X 1 22 175 0 [(0, .inr (.inr (some 94))), (1, .inl (112 : Int32)), (2, .inl (105 : Int32)), (3, .inl (99 : Int32)), (4, .inl (116 : Int32)), (5, .inl (117 : Int32)), (6, .inl (114 : Int32)), (7, .inl (101 : Int32))] m3 (zmi (fun v6 m5 => (v6 = 0 ∨ v6 = 1) ∧ (if v6 = 0 then (zm X 1 22 175 0 [(0, .inr (.inr (some 94))), (1, .inl (110 : Int32)), (2, .inl (101 : Int32)), (3, .inl (119 : Int32)), (4, .inl (115 : Int32)), (5, .inl (0 : Int32)), (6, .inl (0 : Int32)), (7, .inl (0 : Int32))] (ma_u m5 94 30 v6) (zmi (fun v8 m7 => if v8 = 0 then (P (some (.inl (0 : Int32))) (ma_u m7 94 70 (m7 94 68))) else (zm X 3 70 172 443 [(0, .inr (.inr (some 94)))] m7 P)))) else (zm X 3 70 172 443 [(0, .inr (.inr (some 94)))] (ma_u m5 94 30 v6) P))))))))))) else (zm X 3 70 172 443 [(0, .inr (.inr (some 94)))] m P)) : zm X 3 70 172 343 [(0, .inr (.inr (some 94)))] m P := by
  intro d w S Q hd hw hS hm HQ
  subst hm
  refine zw_push hm_172 dX12_readPolicy_343 (v := .inr (.inr (some 94))) rfl ?_
  refine zw_gf hm_172 dX12_readPolicy_344 (v := .inl ((mI S) 94 20)) (zT_is hS s_94) (zT_t hS s_94) rfl f_12_162_12 rfl ?_
  refine zw_push hm_172 dX12_readPolicy_347 (v := .inl (5 : Int32)) rfl ?_
  refine zw_if2 hm_172 dX12_readPolicy_348 (t := 443) rfl zc2_ne ?_ ?_
  · intro hc
    rw [if_neg hc] at h
    exact (h d w _ Q (by omega) (by omega) hS rfl HQ)
  · intro hc
    rw [if_pos (Classical.not_not.mp hc)] at h
    refine zw_push hm_172 dX12_readPolicy_351 (v := .inr (.inr (some 94))) rfl ?_
    refine zw_push hm_172 dX12_readPolicy_352 (v := .inl (1 : Int32)) rfl ?_
    refine zw_push hm_172 dX12_readPolicy_353 (v := .inl (50 : Int32)) rfl ?_
    refine zw_cv hm_172 dX12_readPolicy_355 v_12_157_12 hm_177 [.inl (50 : Int32), .inl (1 : Int32)] [] rfl (zT_rt hS s_94 rfl) ⟨by omega, by omega⟩ rfl (h _ _ S _ (by omega) (by omega) hS rfl (fun o9 m1 hv => ?_))
    obtain ⟨v2, rfl, h⟩ := zmi_of hv
    show ma_wp X d w 172 358 [(0, .inr (.inr (some 94)))] [.inl v2] (zst S m1) _
    refine zw_if0 hm_172 dX12_readPolicy_358 (t := 363) rfl zc0_ne ?_ ?_
    · intro hc
      rw [if_neg hc] at h
      refine zw_push hm_172 dX12_readPolicy_363 (v := .inr (.inr (some 94))) rfl ?_
      refine zw_push hm_172 dX12_readPolicy_364 (v := .inr (.inr (some 94))) rfl ?_
      refine zw_gf hm_172 dX12_readPolicy_365 (v := .inl (m1 94 71)) (zT_is (zT_zst hS m1) s_94) (zT_t (zT_zst hS m1) s_94) rfl f_12_147_12 rfl ?_
      refine zw_pf hm_172 dX12_readPolicy_368 (zT_is (zT_zst hS m1) s_94) (zT_t (zT_zst hS m1) s_94) p_12_183_12 zk_int ?_
      refine zw_push hm_172 dX12_readPolicy_371 (v := .inr (.inr (some 94))) rfl ?_
      refine zw_cv hm_172 dX12_readPolicy_372 v_12_140_12 hm_173 [] [] rfl (zT_rt (zT_pi (zT_zst hS m1)) s_94 rfl) ⟨by omega, by omega⟩ rfl (h _ _ (ma_put (zst S m1) 94 27 (.inl (m1 94 71))) _ (by omega) (by omega) (zT_pi (zT_zst hS m1)) rfl (fun o9 m3 hv => ?_))
      obtain ⟨v4, rfl, h⟩ := zmi_of hv
      show ma_wp X d w 172 375 [(0, .inr (.inr (some 94)))] [.inl v4] (zst S m3) _
      refine zw_if0 hm_172 dX12_readPolicy_375 (t := 387) rfl zc0_ne ?_ ?_
      · intro hc
        rw [if_neg hc] at h
        refine zw_push hm_172 dX12_readPolicy_387 (v := .inr (.inr (some 94))) rfl ?_
        refine zw_push hm_172 dX12_readPolicy_388 (v := .inr (.inr (some 94))) rfl ?_
        refine zw_push hm_172 dX12_readPolicy_389 (v := .inl (112 : Int32)) rfl ?_
        refine zw_push hm_172 dX12_readPolicy_391 (v := .inl (105 : Int32)) rfl ?_
        refine zw_push hm_172 dX12_readPolicy_393 (v := .inl (99 : Int32)) rfl ?_
        refine zw_push hm_172 dX12_readPolicy_395 (v := .inl (116 : Int32)) rfl ?_
        refine zw_push hm_172 dX12_readPolicy_397 (v := .inl (117 : Int32)) rfl ?_
        refine zw_push hm_172 dX12_readPolicy_399 (v := .inl (114 : Int32)) rfl ?_
        refine zw_push hm_172 dX12_readPolicy_401 (v := .inl (101 : Int32)) rfl ?_
        refine zw_cv hm_172 dX12_readPolicy_403 v_12_150_12 hm_175 [.inl (101 : Int32), .inl (114 : Int32), .inl (117 : Int32), .inl (116 : Int32), .inl (99 : Int32), .inl (105 : Int32), .inl (112 : Int32)] [.inr (.inr (some 94))] rfl (zT_rt (zT_zst hS m3) s_94 rfl) ⟨by omega, by omega⟩ rfl (h _ _ (zst S m3) _ (by omega) (by omega) (zT_zst hS m3) rfl (fun o9 m5 hv => ?_))
        obtain ⟨v6, rfl, h⟩ := zmi_of hv
        show ma_wp X d w 172 406 [(0, .inr (.inr (some 94)))] [.inl v6, .inr (.inr (some 94))] (zst S m5) _
        obtain ⟨hg2, h⟩ := h
        refine zw_pf hm_172 dX12_readPolicy_406 (zT_is (zT_zst hS m5) s_94) (zT_t (zT_zst hS m5) s_94) p_12_186_12 (zk_bool hg2) ?_
        refine zw_push hm_172 dX12_readPolicy_409 (v := .inr (.inr (some 94))) rfl ?_
        refine zw_gf hm_172 dX12_readPolicy_410 (v := .inl v6) (zT_is (zT_pi (zT_zst hS m5)) s_94) (zT_t (zT_pi (zT_zst hS m5)) s_94) rfl f_12_186_12 rfl ?_
        refine zw_if0 hm_172 dX12_readPolicy_413 (t := 443) rfl zc0_ne ?_ ?_
        · intro hc
          rw [if_neg hc] at h
          exact (h d w _ Q (by omega) (by omega) (zT_pi (zT_zst hS m5)) rfl HQ)
        · intro hc
          rw [if_pos (Classical.not_not.mp hc)] at h
          refine zw_push hm_172 dX12_readPolicy_416 (v := .inr (.inr (some 94))) rfl ?_
          refine zw_push hm_172 dX12_readPolicy_417 (v := .inl (110 : Int32)) rfl ?_
          refine zw_push hm_172 dX12_readPolicy_419 (v := .inl (101 : Int32)) rfl ?_
          refine zw_push hm_172 dX12_readPolicy_421 (v := .inl (119 : Int32)) rfl ?_
          refine zw_push hm_172 dX12_readPolicy_423 (v := .inl (115 : Int32)) rfl ?_
          refine zw_push hm_172 dX12_readPolicy_425 (v := .inl (0 : Int32)) rfl ?_
          refine zw_push hm_172 dX12_readPolicy_426 (v := .inl (0 : Int32)) rfl ?_
          refine zw_push hm_172 dX12_readPolicy_427 (v := .inl (0 : Int32)) rfl ?_
          refine zw_cv hm_172 dX12_readPolicy_428 v_12_150_12 hm_175 [.inl (0 : Int32), .inl (0 : Int32), .inl (0 : Int32), .inl (115 : Int32), .inl (119 : Int32), .inl (101 : Int32), .inl (110 : Int32)] [] rfl (zT_rt (zT_pi (zT_zst hS m5)) s_94 rfl) ⟨by omega, by omega⟩ rfl (h _ _ (ma_put (zst S m5) 94 30 (.inl v6)) _ (by omega) (by omega) (zT_pi (zT_zst hS m5)) rfl (fun o9 m7 hv => ?_))
          obtain ⟨v8, rfl, h⟩ := zmi_of hv
          show ma_wp X d w 172 431 [(0, .inr (.inr (some 94)))] [.inl v8] (zst S m7) _
          refine zw_if0 hm_172 dX12_readPolicy_431 (t := 443) rfl zc0_ne ?_ ?_
          · intro hc
            rw [if_neg hc] at h
            exact (h d w _ Q (by omega) (by omega) (zT_zst hS m7) rfl HQ)
          · intro hc
            rw [if_pos (Classical.not_not.mp hc)] at h
            refine zw_push hm_172 dX12_readPolicy_434 (v := .inr (.inr (some 94))) rfl ?_
            refine zw_push hm_172 dX12_readPolicy_435 (v := .inr (.inr (some 94))) rfl ?_
            refine zw_gf hm_172 dX12_readPolicy_436 (v := .inl (m7 94 68)) (zT_is (zT_zst hS m7) s_94) (zT_t (zT_zst hS m7) s_94) rfl f_12_127_12 rfl ?_
            refine zw_cv hm_172 dX12_readPolicy_439 v_12_144_12 hm_174 [.inl (m7 94 68)] [] rfl (zT_rt (zT_zst hS m7) s_94 rfl) ⟨by omega, by omega⟩ rfl ?_
            show ma_wp X (d - 1) (w - 21) 174 0 [(0, .inr (.inr (some 94))), (1, .inl (m7 94 68))] [] (zst S m7) _
            refine zw_push hm_174 dX12_wrong_0 (v := .inr (.inr (some 94))) rfl ?_
            refine zw_push hm_174 dX12_wrong_1 (v := .inl (m7 94 68)) rfl ?_
            refine zw_pf hm_174 dX12_wrong_2 (zT_is (zT_zst hS m7) s_94) (zT_t (zT_zst hS m7) s_94) p_12_133_12 zk_int ?_
            refine zw_push hm_174 dX12_wrong_5 (v := .inl (0 : Int32)) rfl ?_
            refine zw_bret hm_174 dX12_wrong_6 (by decide) ?_
            show ma_wp X d w 172 442 [(0, .inr (.inr (some 94)))] [.inl (0 : Int32)] (ma_put (zst S m7) 94 70 (.inl (m7 94 68))) _
            exact zw_bret hm_172 dX12_readPolicy_442 (by decide) (HQ _ _ h)
      · intro hc
        rw [if_pos (Classical.not_not.mp hc)] at h
        refine zw_push hm_172 dX12_readPolicy_378 (v := .inr (.inr (some 94))) rfl ?_
        refine zw_push hm_172 dX12_readPolicy_379 (v := .inr (.inr (some 94))) rfl ?_
        refine zw_gf hm_172 dX12_readPolicy_380 (v := .inl (m3 94 4)) (zT_is (zT_zst hS m3) s_94) (zT_t (zT_zst hS m3) s_94) rfl f_12_124_12 rfl ?_
        refine zw_cv hm_172 dX12_readPolicy_383 v_12_144_12 hm_174 [.inl (m3 94 4)] [] rfl (zT_rt (zT_zst hS m3) s_94 rfl) ⟨by omega, by omega⟩ rfl ?_
        show ma_wp X (d - 1) (w - 21) 174 0 [(0, .inr (.inr (some 94))), (1, .inl (m3 94 4))] [] (zst S m3) _
        refine zw_push hm_174 dX12_wrong_0 (v := .inr (.inr (some 94))) rfl ?_
        refine zw_push hm_174 dX12_wrong_1 (v := .inl (m3 94 4)) rfl ?_
        refine zw_pf hm_174 dX12_wrong_2 (zT_is (zT_zst hS m3) s_94) (zT_t (zT_zst hS m3) s_94) p_12_133_12 zk_int ?_
        refine zw_push hm_174 dX12_wrong_5 (v := .inl (0 : Int32)) rfl ?_
        refine zw_bret hm_174 dX12_wrong_6 (by decide) ?_
        show ma_wp X d w 172 386 [(0, .inr (.inr (some 94)))] [.inl (0 : Int32)] (ma_put (zst S m3) 94 70 (.inl (m3 94 4))) _
        exact zw_bret hm_172 dX12_readPolicy_386 (by decide) (HQ _ _ h)
    · intro hc
      rw [if_pos (Classical.not_not.mp hc)] at h
      refine zw_push hm_172 dX12_readPolicy_361 (v := .inl (0 : Int32)) rfl ?_
      exact zw_bret hm_172 dX12_readPolicy_362 (by decide) (HQ _ _ h)
theorem g_172_443 {X : Nat × (Nat → Int32)} {m : Nat → Nat → Int32} {P : Option ma_V → (Nat → Nat → Int32) → Prop}  (h : if (m 94 20) = (6 : Int32) then (zm X 1 21 177 0 [(0, .inr (.inr (some 94))), (1, .inl (16 : Int32)), (2, .inl (256 : Int32))] m (zmi (fun v2 m1 => if v2 = 0 then (P (some (.inl (0 : Int32))) m1) else (if ((4 : Int32) * (m1 94 71)) ≤ (m1 94 21) then (zm X 1 21 177 0 [(0, .inr (.inr (some 94))), (1, .inl (0 : Int32)), (2, .inl (100 : Int32))] (ma_u m1 94 28 (m1 94 71)) (zmi (fun v4 m3 => if v4 = 0 then (P (some (.inl (0 : Int32))) m3) else (zm X 3 70 172 516 [(0, .inr (.inr (some 94)))] (ma_u m3 94 29 (m3 94 71)) P)))) else (P (some (.inl (0 : Int32))) (ma_u (ma_u m1 94 28 (m1 94 71)) 94 70 (m1 94 68))))))) else (zm X 3 70 172 516 [(0, .inr (.inr (some 94)))] m P)) : zm X 3 70 172 443 [(0, .inr (.inr (some 94)))] m P := by
  intro d w S Q hd hw hS hm HQ
  subst hm
  refine zw_push hm_172 dX12_readPolicy_443 (v := .inr (.inr (some 94))) rfl ?_
  refine zw_gf hm_172 dX12_readPolicy_444 (v := .inl ((mI S) 94 20)) (zT_is hS s_94) (zT_t hS s_94) rfl f_12_162_12 rfl ?_
  refine zw_push hm_172 dX12_readPolicy_447 (v := .inl (6 : Int32)) rfl ?_
  refine zw_if2 hm_172 dX12_readPolicy_449 (t := 516) rfl zc2_ne ?_ ?_
  · intro hc
    rw [if_neg hc] at h
    exact (h d w _ Q (by omega) (by omega) hS rfl HQ)
  · intro hc
    rw [if_pos (Classical.not_not.mp hc)] at h
    refine zw_push hm_172 dX12_readPolicy_452 (v := .inr (.inr (some 94))) rfl ?_
    refine zw_push hm_172 dX12_readPolicy_453 (v := .inl (16 : Int32)) rfl ?_
    refine zw_push hm_172 dX12_readPolicy_455 (v := .inl (256 : Int32)) rfl ?_
    refine zw_cv hm_172 dX12_readPolicy_458 v_12_157_12 hm_177 [.inl (256 : Int32), .inl (16 : Int32)] [] rfl (zT_rt hS s_94 rfl) ⟨by omega, by omega⟩ rfl (h _ _ S _ (by omega) (by omega) hS rfl (fun o9 m1 hv => ?_))
    obtain ⟨v2, rfl, h⟩ := zmi_of hv
    show ma_wp X d w 172 461 [(0, .inr (.inr (some 94)))] [.inl v2] (zst S m1) _
    refine zw_if0 hm_172 dX12_readPolicy_461 (t := 466) rfl zc0_ne ?_ ?_
    · intro hc
      rw [if_neg hc] at h
      refine zw_push hm_172 dX12_readPolicy_466 (v := .inr (.inr (some 94))) rfl ?_
      refine zw_push hm_172 dX12_readPolicy_467 (v := .inr (.inr (some 94))) rfl ?_
      refine zw_gf hm_172 dX12_readPolicy_468 (v := .inl (m1 94 71)) (zT_is (zT_zst hS m1) s_94) (zT_t (zT_zst hS m1) s_94) rfl f_12_147_12 rfl ?_
      refine zw_pf hm_172 dX12_readPolicy_471 (zT_is (zT_zst hS m1) s_94) (zT_t (zT_zst hS m1) s_94) p_12_190_12 zk_int ?_
      refine zw_push hm_172 dX12_readPolicy_474 (v := .inl (4 : Int32)) rfl ?_
      refine zw_push hm_172 dX12_readPolicy_475 (v := .inr (.inr (some 94))) rfl ?_
      refine zw_gf hm_172 dX12_readPolicy_476 (v := .inl (m1 94 71)) (zT_is (zT_pi (zT_zst hS m1)) s_94) (zT_t (zT_pi (zT_zst hS m1)) s_94) rfl f_12_190_12 rfl ?_
      refine zw_stk hm_172 dX12_readPolicy_479 (st₉ := [.inl ((4 : Int32) * (m1 94 71))]) rfl rfl ?_
      refine zw_push hm_172 dX12_readPolicy_480 (v := .inr (.inr (some 94))) rfl ?_
      refine zw_gf hm_172 dX12_readPolicy_481 (v := .inl (m1 94 21)) (zT_is (zT_pi (zT_zst hS m1)) s_94) (zT_t (zT_pi (zT_zst hS m1)) s_94) rfl f_12_159_12 rfl ?_
      refine zw_if2 hm_172 dX12_readPolicy_484 (t := 496) rfl zc2_le ?_ ?_
      · intro hc
        rw [if_pos hc] at h
        refine zw_push hm_172 dX12_readPolicy_496 (v := .inr (.inr (some 94))) rfl ?_
        refine zw_push hm_172 dX12_readPolicy_497 (v := .inl (0 : Int32)) rfl ?_
        refine zw_push hm_172 dX12_readPolicy_498 (v := .inl (100 : Int32)) rfl ?_
        refine zw_cv hm_172 dX12_readPolicy_500 v_12_157_12 hm_177 [.inl (100 : Int32), .inl (0 : Int32)] [] rfl (zT_rt (zT_pi (zT_zst hS m1)) s_94 rfl) ⟨by omega, by omega⟩ rfl (h _ _ (ma_put (zst S m1) 94 28 (.inl (m1 94 71))) _ (by omega) (by omega) (zT_pi (zT_zst hS m1)) rfl (fun o9 m3 hv => ?_))
        obtain ⟨v4, rfl, h⟩ := zmi_of hv
        show ma_wp X d w 172 503 [(0, .inr (.inr (some 94)))] [.inl v4] (zst S m3) _
        refine zw_if0 hm_172 dX12_readPolicy_503 (t := 508) rfl zc0_ne ?_ ?_
        · intro hc
          rw [if_neg hc] at h
          refine zw_push hm_172 dX12_readPolicy_508 (v := .inr (.inr (some 94))) rfl ?_
          refine zw_push hm_172 dX12_readPolicy_509 (v := .inr (.inr (some 94))) rfl ?_
          refine zw_gf hm_172 dX12_readPolicy_510 (v := .inl (m3 94 71)) (zT_is (zT_zst hS m3) s_94) (zT_t (zT_zst hS m3) s_94) rfl f_12_147_12 rfl ?_
          refine zw_pf hm_172 dX12_readPolicy_513 (zT_is (zT_zst hS m3) s_94) (zT_t (zT_zst hS m3) s_94) p_12_193_12 zk_int ?_
          exact (h d w _ Q (by omega) (by omega) (zT_pi (zT_zst hS m3)) rfl HQ)
        · intro hc
          rw [if_pos (Classical.not_not.mp hc)] at h
          refine zw_push hm_172 dX12_readPolicy_506 (v := .inl (0 : Int32)) rfl ?_
          exact zw_bret hm_172 dX12_readPolicy_507 (by decide) (HQ _ _ h)
      · intro hc
        rw [if_neg hc] at h
        refine zw_push hm_172 dX12_readPolicy_487 (v := .inr (.inr (some 94))) rfl ?_
        refine zw_push hm_172 dX12_readPolicy_488 (v := .inr (.inr (some 94))) rfl ?_
        refine zw_gf hm_172 dX12_readPolicy_489 (v := .inl (m1 94 68)) (zT_is (zT_pi (zT_zst hS m1)) s_94) (zT_t (zT_pi (zT_zst hS m1)) s_94) rfl f_12_127_12 rfl ?_
        refine zw_cv hm_172 dX12_readPolicy_492 v_12_144_12 hm_174 [.inl (m1 94 68)] [] rfl (zT_rt (zT_pi (zT_zst hS m1)) s_94 rfl) ⟨by omega, by omega⟩ rfl ?_
        show ma_wp X (d - 1) (w - 21) 174 0 [(0, .inr (.inr (some 94))), (1, .inl (m1 94 68))] [] (ma_put (zst S m1) 94 28 (.inl (m1 94 71))) _
        refine zw_push hm_174 dX12_wrong_0 (v := .inr (.inr (some 94))) rfl ?_
        refine zw_push hm_174 dX12_wrong_1 (v := .inl (m1 94 68)) rfl ?_
        refine zw_pf hm_174 dX12_wrong_2 (zT_is (zT_pi (zT_zst hS m1)) s_94) (zT_t (zT_pi (zT_zst hS m1)) s_94) p_12_133_12 zk_int ?_
        refine zw_push hm_174 dX12_wrong_5 (v := .inl (0 : Int32)) rfl ?_
        refine zw_bret hm_174 dX12_wrong_6 (by decide) ?_
        show ma_wp X d w 172 495 [(0, .inr (.inr (some 94)))] [.inl (0 : Int32)] (ma_put (ma_put (zst S m1) 94 28 (.inl (m1 94 71))) 94 70 (.inl (m1 94 68))) _
        exact zw_bret hm_172 dX12_readPolicy_495 (by decide) (HQ _ _ h)
    · intro hc
      rw [if_pos (Classical.not_not.mp hc)] at h
      refine zw_push hm_172 dX12_readPolicy_464 (v := .inl (0 : Int32)) rfl ?_
      exact zw_bret hm_172 dX12_readPolicy_465 (by decide) (HQ _ _ h)
theorem g_172_516 {X : Nat × (Nat → Int32)} {m : Nat → Nat → Int32} {P : Option ma_V → (Nat → Nat → Int32) → Prop}  (h : zm X 0 0 173 0 [(0, .inr (.inr (some 94)))] m (zmi (fun v2 m1 => if v2 = 0 then (P (some (.inl (1 : Int32))) m1) else (P (some (.inl (0 : Int32))) (ma_u m1 94 70 (m1 94 68)))))) : zm X 3 70 172 516 [(0, .inr (.inr (some 94)))] m P := by
  intro d w S Q hd hw hS hm HQ
  subst hm
  refine zw_push hm_172 dX12_readPolicy_516 (v := .inr (.inr (some 94))) rfl ?_
  refine zw_cv hm_172 dX12_readPolicy_517 v_12_140_12 hm_173 [] [] rfl (zT_rt hS s_94 rfl) ⟨by omega, by omega⟩ rfl (h _ _ S _ (by omega) (by omega) hS rfl (fun o9 m1 hv => ?_))
  obtain ⟨v2, rfl, h⟩ := zmi_of hv
  show ma_wp X d w 172 520 [(0, .inr (.inr (some 94)))] [.inl v2] (zst S m1) _
  refine zw_if0 hm_172 dX12_readPolicy_520 (t := 534) rfl zc0_eq ?_ ?_
  · intro hc
    rw [if_pos hc] at h
    refine zw_push hm_172 dX12_readPolicy_534 (v := .inl (1 : Int32)) rfl ?_
    refine zw_goto hm_172 dX12_readPolicy_535 (t := 539) rfl ?_
    exact zw_bret hm_172 dX12_readPolicy_539 (by decide) (HQ _ _ h)
  · intro hc
    rw [if_neg hc] at h
    refine zw_push hm_172 dX12_readPolicy_523 (v := .inr (.inr (some 94))) rfl ?_
    refine zw_push hm_172 dX12_readPolicy_524 (v := .inr (.inr (some 94))) rfl ?_
    refine zw_gf hm_172 dX12_readPolicy_525 (v := .inl (m1 94 68)) (zT_is (zT_zst hS m1) s_94) (zT_t (zT_zst hS m1) s_94) rfl f_12_127_12 rfl ?_
    refine zw_cv hm_172 dX12_readPolicy_528 v_12_144_12 hm_174 [.inl (m1 94 68)] [] rfl (zT_rt (zT_zst hS m1) s_94 rfl) ⟨by omega, by omega⟩ rfl ?_
    show ma_wp X (d - 1) (w - 21) 174 0 [(0, .inr (.inr (some 94))), (1, .inl (m1 94 68))] [] (zst S m1) _
    refine zw_push hm_174 dX12_wrong_0 (v := .inr (.inr (some 94))) rfl ?_
    refine zw_push hm_174 dX12_wrong_1 (v := .inl (m1 94 68)) rfl ?_
    refine zw_pf hm_174 dX12_wrong_2 (zT_is (zT_zst hS m1) s_94) (zT_t (zT_zst hS m1) s_94) p_12_133_12 zk_int ?_
    refine zw_push hm_174 dX12_wrong_5 (v := .inl (0 : Int32)) rfl ?_
    refine zw_bret hm_174 dX12_wrong_6 (by decide) ?_
    show ma_wp X d w 172 531 [(0, .inr (.inr (some 94)))] [.inl (0 : Int32)] (ma_put (zst S m1) 94 70 (.inl (m1 94 68))) _
    refine zw_if0 hm_172 dX12_readPolicy_531 (t := 538) rfl zc0_eq (fun _ => ?_) (fun hc => absurd (by decide) hc)
    refine zw_push hm_172 dX12_readPolicy_538 (v := .inl (0 : Int32)) rfl ?_
    exact zw_bret hm_172 dX12_readPolicy_539 (by decide) (HQ _ _ h)
