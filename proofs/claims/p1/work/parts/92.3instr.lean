/-! instructions, decoded -/
theorem dF16_4 : decode method_18_code 4 = .ok (.invokevirtual 73, 3) := by decide +kernel
theorem dF17_0 : decode method_19_code 0 = .ok (.aload_n 3, 1) := by decide +kernel
theorem dF17_1 : decode method_19_code 1 = .ok (.iconst 0, 1) := by decide +kernel
theorem dF17_2 : decode method_19_code 2 = .ok (.aload_n 0, 1) := by decide +kernel
theorem dF17_3 : decode method_19_code 3 = .ok (.iload_n 1, 1) := by decide +kernel
theorem dF17_4 : decode method_19_code 4 = .ok (.iload_n 2, 1) := by decide +kernel
theorem dF17_8 : decode method_19_code 8 = .ok (.i2l, 1) := by decide +kernel
theorem dF17_9 : decode method_19_code 9 = .ok (.lastore, 1) := by decide +kernel
theorem dF17_10 : decode method_19_code 10 = .ok (.goto 15, 3) := by decide +kernel
theorem dF17_25 : decode method_19_code 25 = .ok (.iconst 0, 1) := by decide +kernel
theorem dF17_26 : decode method_19_code 26 = .ok (.ireturn, 1) := by decide +kernel
theorem dF17_5 : decode method_19_code 5 = .ok (.invokevirtual 76, 3) := by decide +kernel
theorem dF18_0 : decode method_20_code 0 = .ok (.aload_n 3, 1) := by decide +kernel
theorem dF18_1 : decode method_20_code 1 = .ok (.iconst 0, 1) := by decide +kernel
theorem dF18_2 : decode method_20_code 2 = .ok (.aload_n 0, 1) := by decide +kernel
theorem dF18_3 : decode method_20_code 3 = .ok (.iload_n 1, 1) := by decide +kernel
theorem dF18_4 : decode method_20_code 4 = .ok (.iload_n 2, 1) := by decide +kernel
theorem dF18_8 : decode method_20_code 8 = .ok (.i2l, 1) := by decide +kernel
theorem dF18_9 : decode method_20_code 9 = .ok (.lastore, 1) := by decide +kernel
theorem dF18_10 : decode method_20_code 10 = .ok (.goto 19, 3) := by decide +kernel
theorem dF18_29 : decode method_20_code 29 = .ok (.iconst 0, 1) := by decide +kernel
theorem dF18_30 : decode method_20_code 30 = .ok (.ireturn, 1) := by decide +kernel
theorem dF18_5 : decode method_20_code 5 = .ok (.invokevirtual 79, 3) := by decide +kernel
theorem dF19_0 : decode method_21_code 0 = .ok (.aload_n 2, 1) := by decide +kernel
theorem dF19_1 : decode method_21_code 1 = .ok (.iconst 0, 1) := by decide +kernel
theorem dF19_2 : decode method_21_code 2 = .ok (.aload_n 0, 1) := by decide +kernel
theorem dF19_3 : decode method_21_code 3 = .ok (.iload_n 1, 1) := by decide +kernel
theorem dF19_7 : decode method_21_code 7 = .ok (.i2l, 1) := by decide +kernel
theorem dF19_8 : decode method_21_code 8 = .ok (.lastore, 1) := by decide +kernel
theorem dF19_9 : decode method_21_code 9 = .ok (.goto 9, 3) := by decide +kernel
theorem dF19_18 : decode method_21_code 18 = .ok (.iconst 0, 1) := by decide +kernel
theorem dF19_19 : decode method_21_code 19 = .ok (.ireturn, 1) := by decide +kernel
theorem dF19_4 : decode method_21_code 4 = .ok (.invokevirtual 82, 3) := by decide +kernel
theorem dX11_addBytes_0 : decode cX11_addBytes 0 = .ok (.bipush 24, 2) := by decide +kernel
theorem dX11_addBytes_2 : decode cX11_addBytes 2 = .ok (.istore_n 2, 1) := by decide +kernel
theorem dX11_addBytes_3 : decode cX11_addBytes 3 = .ok (.iload_n 2, 1) := by decide +kernel
theorem dX11_addBytes_7 : decode cX11_addBytes 7 = .ok (.aload_n 0, 1) := by decide +kernel
theorem dX11_addBytes_8 : decode cX11_addBytes 8 = .ok (.getfield 68, 3) := by decide +kernel
theorem dX11_addBytes_11 : decode cX11_addBytes 11 = .ok (.bipush 100, 2) := by decide +kernel
theorem dX11_addBytes_16 : decode cX11_addBytes 16 = .ok (.aload_n 0, 1) := by decide +kernel
theorem dX11_addBytes_17 : decode cX11_addBytes 17 = .ok (.getfield 9, 3) := by decide +kernel
theorem dX11_addBytes_20 : decode cX11_addBytes 20 = .ok (.aload_n 0, 1) := by decide +kernel
theorem dX11_addBytes_21 : decode cX11_addBytes 21 = .ok (.getfield 68, 3) := by decide +kernel
theorem dX11_addBytes_24 : decode cX11_addBytes 24 = .ok (.iload_n 1, 1) := by decide +kernel
theorem dX11_addBytes_25 : decode cX11_addBytes 25 = .ok (.iload_n 2, 1) := by decide +kernel
theorem dX11_addBytes_26 : decode cX11_addBytes 26 = .ok (.iushr, 1) := by decide +kernel
theorem dX11_addBytes_27 : decode cX11_addBytes 27 = .ok (.i2b, 1) := by decide +kernel
theorem dX11_addBytes_29 : decode cX11_addBytes 29 = .ok (.aload_n 0, 1) := by decide +kernel
theorem dX11_addBytes_30 : decode cX11_addBytes 30 = .ok (.dup, 1) := by decide +kernel
theorem dX11_addBytes_31 : decode cX11_addBytes 31 = .ok (.getfield 68, 3) := by decide +kernel
theorem dX11_addBytes_34 : decode cX11_addBytes 34 = .ok (.iconst 1, 1) := by decide +kernel
theorem dX11_addBytes_35 : decode cX11_addBytes 35 = .ok (.iadd, 1) := by decide +kernel
theorem dX11_addBytes_39 : decode cX11_addBytes 39 = .ok (.iinc 2 (-8), 3) := by decide +kernel
theorem dX11_addBytes_42 : decode cX11_addBytes 42 = .ok (.goto (-39), 3) := by decide +kernel
theorem dX11_addBytes_36 : decode cX11_addBytes 36 = .ok (.putfield 68, 3) := by decide +kernel
theorem dX11_addBytes_28 : decode cX11_addBytes 28 = .ok (.bastore, 1) := by decide +kernel
theorem dX11_addBytes_13 : decode cX11_addBytes 13 = .ok (.if_icmp .ge 32, 3) := by decide +kernel
theorem dX11_addBytes_4 : decode cX11_addBytes 4 = .ok (.ifCond .lt 41, 3) := by decide +kernel
theorem dX11_addBytes_45 : decode cX11_addBytes 45 = .ok (.return_, 1) := by decide +kernel
theorem dX12_four_0 : decode cX12_four 0 = .ok (.bipush 24, 2) := by decide +kernel
theorem dX12_four_2 : decode cX12_four 2 = .ok (.istore_n 2, 1) := by decide +kernel
theorem dX12_four_3 : decode cX12_four 3 = .ok (.iload_n 2, 1) := by decide +kernel
theorem dX12_four_36 : decode cX12_four 36 = .ok (.return_, 1) := by decide +kernel
theorem dX12_four_7 : decode cX12_four 7 = .ok (.aload_n 0, 1) := by decide +kernel
theorem dX12_four_8 : decode cX12_four 8 = .ok (.getfield 13, 3) := by decide +kernel
theorem dX12_four_11 : decode cX12_four 11 = .ok (.aload_n 0, 1) := by decide +kernel
theorem dX12_four_12 : decode cX12_four 12 = .ok (.getfield 107, 3) := by decide +kernel
theorem dX12_four_15 : decode cX12_four 15 = .ok (.iload_n 1, 1) := by decide +kernel
theorem dX12_four_16 : decode cX12_four 16 = .ok (.iload_n 2, 1) := by decide +kernel
theorem dX12_four_17 : decode cX12_four 17 = .ok (.ishr, 1) := by decide +kernel
theorem dX12_four_18 : decode cX12_four 18 = .ok (.i2b, 1) := by decide +kernel
theorem dX12_four_20 : decode cX12_four 20 = .ok (.aload_n 0, 1) := by decide +kernel
theorem dX12_four_21 : decode cX12_four 21 = .ok (.dup, 1) := by decide +kernel
theorem dX12_four_22 : decode cX12_four 22 = .ok (.getfield 107, 3) := by decide +kernel
theorem dX12_four_25 : decode cX12_four 25 = .ok (.iconst 1, 1) := by decide +kernel
theorem dX12_four_26 : decode cX12_four 26 = .ok (.iadd, 1) := by decide +kernel
theorem dX12_four_30 : decode cX12_four 30 = .ok (.iinc 2 (-8), 3) := by decide +kernel
theorem dX12_four_33 : decode cX12_four 33 = .ok (.goto (-30), 3) := by decide +kernel
theorem dX12_four_27 : decode cX12_four 27 = .ok (.putfield 107, 3) := by decide +kernel
theorem dX12_four_19 : decode cX12_four 19 = .ok (.bastore, 1) := by decide +kernel
theorem dX12_four_4 : decode cX12_four 4 = .ok (.ifCond .lt 32, 3) := by decide +kernel
theorem dF0_23 : decode code 23 = .ok (.iload 4, 2) := by decide +kernel
theorem dF0_25 : decode code 25 = .ok (.aload_n 0, 1) := by decide +kernel
theorem dF0_26 : decode code 26 = .ok (.arraylength, 1) := by decide +kernel
theorem dF0_27 : decode code 27 = .ok (.bipush 6, 2) := by decide +kernel
theorem dF0_29 : decode code 29 = .ok (.isub, 1) := by decide +kernel
theorem dF0_1467 : decode code 1467 = .ok (.iconst 1, 1) := by decide +kernel
theorem dF0_1468 : decode code 1468 = .ok (.ireturn, 1) := by decide +kernel
theorem dF0_33 : decode code 33 = .ok (.aload_n 0, 1) := by decide +kernel
theorem dF0_34 : decode code 34 = .ok (.iload 4, 2) := by decide +kernel
theorem dF0_37 : decode code 37 = .ok (.bipush 31, 2) := by decide +kernel
theorem dF0_39 : decode code 39 = .ok (.iand, 1) := by decide +kernel
theorem dF0_36 : decode code 36 = .ok (.iaload, 1) := by decide +kernel
theorem dF0_30 : decode code 30 = .ok (.if_icmp .gt 1437, 3) := by decide +kernel
theorem dF0_136 : decode code 136 = .ok (.aload_n 1, 1) := by decide +kernel
theorem dF0_137 : decode code 137 = .ok (.aload_n 0, 1) := by decide +kernel
theorem dF0_138 : decode code 138 = .ok (.iload 4, 2) := by decide +kernel
theorem dF0_140 : decode code 140 = .ok (.iconst 1, 1) := by decide +kernel
theorem dF0_141 : decode code 141 = .ok (.iadd, 1) := by decide +kernel
theorem dF0_143 : decode code 143 = .ok (.aload_n 0, 1) := by decide +kernel
theorem dF0_144 : decode code 144 = .ok (.iload 4, 2) := by decide +kernel
theorem dF0_146 : decode code 146 = .ok (.iconst 2, 1) := by decide +kernel
theorem dF0_147 : decode code 147 = .ok (.iadd, 1) := by decide +kernel
theorem dF0_149 : decode code 149 = .ok (.aload_n 0, 1) := by decide +kernel
theorem dF0_150 : decode code 150 = .ok (.iload 4, 2) := by decide +kernel
theorem dF0_152 : decode code 152 = .ok (.iconst 3, 1) := by decide +kernel
theorem dF0_153 : decode code 153 = .ok (.iadd, 1) := by decide +kernel
theorem dF0_155 : decode code 155 = .ok (.aload_n 0, 1) := by decide +kernel
theorem dF0_156 : decode code 156 = .ok (.iload 4, 2) := by decide +kernel
theorem dF0_158 : decode code 158 = .ok (.iconst 4, 1) := by decide +kernel
theorem dF0_159 : decode code 159 = .ok (.iadd, 1) := by decide +kernel
theorem dF0_161 : decode code 161 = .ok (.aload_n 0, 1) := by decide +kernel
theorem dF0_162 : decode code 162 = .ok (.iload 4, 2) := by decide +kernel
theorem dF0_164 : decode code 164 = .ok (.iconst 5, 1) := by decide +kernel
theorem dF0_165 : decode code 165 = .ok (.iadd, 1) := by decide +kernel
theorem dF0_167 : decode code 167 = .ok (.aload_n 3, 1) := by decide +kernel
theorem dF0_171 : decode code 171 = .ok (.istore 5, 2) := by decide +kernel
theorem dF0_173 : decode code 173 = .ok (.aload_n 2, 1) := by decide +kernel
theorem dF0_174 : decode code 174 = .ok (.aload_n 0, 1) := by decide +kernel
theorem dF0_175 : decode code 175 = .ok (.iload 4, 2) := by decide +kernel
theorem dF0_177 : decode code 177 = .ok (.iconst 1, 1) := by decide +kernel
theorem dF0_178 : decode code 178 = .ok (.iadd, 1) := by decide +kernel
theorem dF0_180 : decode code 180 = .ok (.aload_n 0, 1) := by decide +kernel
theorem dF0_181 : decode code 181 = .ok (.iload 4, 2) := by decide +kernel
theorem dF0_183 : decode code 183 = .ok (.iconst 2, 1) := by decide +kernel
theorem dF0_184 : decode code 184 = .ok (.iadd, 1) := by decide +kernel
theorem dF0_186 : decode code 186 = .ok (.aload_n 0, 1) := by decide +kernel
theorem dF0_187 : decode code 187 = .ok (.iload 4, 2) := by decide +kernel
theorem dF0_189 : decode code 189 = .ok (.iconst 3, 1) := by decide +kernel
theorem dF0_190 : decode code 190 = .ok (.iadd, 1) := by decide +kernel
theorem dF0_192 : decode code 192 = .ok (.aload_n 0, 1) := by decide +kernel
theorem dF0_193 : decode code 193 = .ok (.iload 4, 2) := by decide +kernel
theorem dF0_195 : decode code 195 = .ok (.iconst 4, 1) := by decide +kernel
theorem dF0_196 : decode code 196 = .ok (.iadd, 1) := by decide +kernel
theorem dF0_198 : decode code 198 = .ok (.aload_n 0, 1) := by decide +kernel
theorem dF0_199 : decode code 199 = .ok (.iload 4, 2) := by decide +kernel
theorem dF0_201 : decode code 201 = .ok (.iconst 5, 1) := by decide +kernel
theorem dF0_202 : decode code 202 = .ok (.iadd, 1) := by decide +kernel
theorem dF0_207 : decode code 207 = .ok (.istore 6, 2) := by decide +kernel
theorem dF0_209 : decode code 209 = .ok (.aload_n 2, 1) := by decide +kernel
theorem dX12_thrown_0 : decode cX12_thrown 0 = .ok (.aload_n 0, 1) := by decide +kernel
theorem dX12_thrown_1 : decode cX12_thrown 1 = .ok (.getfield 1, 3) := by decide +kernel
theorem dF0_213 : decode code 213 = .ok (.iload 5, 2) := by decide +kernel
theorem dF0_220 : decode code 220 = .ok (.iload 5, 2) := by decide +kernel
theorem dF0_237 : decode code 237 = .ok (.goto 1224, 3) := by decide +kernel
theorem dF0_225 : decode code 225 = .ok (.aload_n 3, 1) := by decide +kernel
theorem dF0_226 : decode code 226 = .ok (.iconst 0, 1) := by decide +kernel
theorem dF0_227 : decode code 227 = .ok (.laload, 1) := by decide +kernel
theorem dF0_228 : decode code 228 = .ok (.iload 6, 2) := by decide +kernel
theorem dF0_230 : decode code 230 = .ok (.i2l, 1) := by decide +kernel
theorem dF0_231 : decode code 231 = .ok (.lcmp, 1) := by decide +kernel
theorem dF0_235 : decode code 235 = .ok (.iconst 0, 1) := by decide +kernel
theorem dF0_236 : decode code 236 = .ok (.ireturn, 1) := by decide +kernel
theorem dF0_232 : decode code 232 = .ok (.ifCond .eq 5, 3) := by decide +kernel
theorem dF0_222 : decode code 222 = .ok (.ifCond .ne 15, 3) := by decide +kernel
theorem dF0_218 : decode code 218 = .ok (.iconst 0, 1) := by decide +kernel
theorem dF0_219 : decode code 219 = .ok (.ireturn, 1) := by decide +kernel
theorem dF0_215 : decode code 215 = .ok (.if_icmp .eq 5, 3) := by decide +kernel
theorem dX12_thrown_4 : decode cX12_thrown 4 = .ok (.ireturn, 1) := by decide +kernel
theorem dF0_210 : decode code 210 = .ok (.invokevirtual 95, 3) := by decide +kernel
theorem dF0_204 : decode code 204 = .ok (.invokevirtual 94, 3) := by decide +kernel
theorem dF0_203 : decode code 203 = .ok (.iaload, 1) := by decide +kernel
theorem dF0_197 : decode code 197 = .ok (.iaload, 1) := by decide +kernel
theorem dF0_191 : decode code 191 = .ok (.iaload, 1) := by decide +kernel
theorem dF0_185 : decode code 185 = .ok (.iaload, 1) := by decide +kernel
theorem dF0_179 : decode code 179 = .ok (.iaload, 1) := by decide +kernel
theorem dF0_168 : decode code 168 = .ok (.invokestatic 89, 3) := by decide +kernel
theorem dF0_166 : decode code 166 = .ok (.iaload, 1) := by decide +kernel
theorem dF0_160 : decode code 160 = .ok (.iaload, 1) := by decide +kernel
theorem dF0_154 : decode code 154 = .ok (.iaload, 1) := by decide +kernel
theorem dF0_148 : decode code 148 = .ok (.iaload, 1) := by decide +kernel
theorem dF0_142 : decode code 142 = .ok (.iaload, 1) := by decide +kernel
theorem dF0_240 : decode code 240 = .ok (.aload_n 1, 1) := by decide +kernel
theorem dF0_241 : decode code 241 = .ok (.aload_n 0, 1) := by decide +kernel
theorem dF0_242 : decode code 242 = .ok (.iload 4, 2) := by decide +kernel
theorem dF0_244 : decode code 244 = .ok (.iconst 1, 1) := by decide +kernel
theorem dF0_245 : decode code 245 = .ok (.iadd, 1) := by decide +kernel
theorem dF0_247 : decode code 247 = .ok (.aload_n 3, 1) := by decide +kernel
theorem dF0_251 : decode code 251 = .ok (.istore 5, 2) := by decide +kernel
theorem dF0_253 : decode code 253 = .ok (.aload_n 2, 1) := by decide +kernel
theorem dF0_254 : decode code 254 = .ok (.aload_n 0, 1) := by decide +kernel
theorem dF0_255 : decode code 255 = .ok (.iload 4, 2) := by decide +kernel
theorem dF0_257 : decode code 257 = .ok (.iconst 1, 1) := by decide +kernel
theorem dF0_258 : decode code 258 = .ok (.iadd, 1) := by decide +kernel
theorem dF0_263 : decode code 263 = .ok (.istore 6, 2) := by decide +kernel
theorem dF0_265 : decode code 265 = .ok (.aload_n 2, 1) := by decide +kernel
theorem dF0_269 : decode code 269 = .ok (.iload 5, 2) := by decide +kernel
theorem dF0_276 : decode code 276 = .ok (.iload 5, 2) := by decide +kernel
theorem dF0_293 : decode code 293 = .ok (.goto 1168, 3) := by decide +kernel
theorem dF0_281 : decode code 281 = .ok (.aload_n 3, 1) := by decide +kernel
theorem dF0_282 : decode code 282 = .ok (.iconst 0, 1) := by decide +kernel
theorem dF0_283 : decode code 283 = .ok (.laload, 1) := by decide +kernel
theorem dF0_284 : decode code 284 = .ok (.iload 6, 2) := by decide +kernel
theorem dF0_286 : decode code 286 = .ok (.i2l, 1) := by decide +kernel
theorem dF0_287 : decode code 287 = .ok (.lcmp, 1) := by decide +kernel
theorem dF0_291 : decode code 291 = .ok (.iconst 0, 1) := by decide +kernel
theorem dF0_292 : decode code 292 = .ok (.ireturn, 1) := by decide +kernel
theorem dF0_288 : decode code 288 = .ok (.ifCond .eq 5, 3) := by decide +kernel
theorem dF0_278 : decode code 278 = .ok (.ifCond .ne 15, 3) := by decide +kernel
theorem dF0_274 : decode code 274 = .ok (.iconst 0, 1) := by decide +kernel
theorem dF0_275 : decode code 275 = .ok (.ireturn, 1) := by decide +kernel
theorem dF0_271 : decode code 271 = .ok (.if_icmp .eq 5, 3) := by decide +kernel
theorem dF0_266 : decode code 266 = .ok (.invokevirtual 95, 3) := by decide +kernel
theorem dF0_260 : decode code 260 = .ok (.invokevirtual 101, 3) := by decide +kernel
theorem dF0_259 : decode code 259 = .ok (.iaload, 1) := by decide +kernel
theorem dF0_248 : decode code 248 = .ok (.invokestatic 98, 3) := by decide +kernel
theorem dF0_246 : decode code 246 = .ok (.iaload, 1) := by decide +kernel
theorem dF0_296 : decode code 296 = .ok (.aload_n 1, 1) := by decide +kernel
theorem dF0_297 : decode code 297 = .ok (.aload_n 0, 1) := by decide +kernel
theorem dF0_298 : decode code 298 = .ok (.iload 4, 2) := by decide +kernel
theorem dF0_300 : decode code 300 = .ok (.iconst 1, 1) := by decide +kernel
theorem dF0_301 : decode code 301 = .ok (.iadd, 1) := by decide +kernel
theorem dF0_303 : decode code 303 = .ok (.aload_n 0, 1) := by decide +kernel
theorem dF0_304 : decode code 304 = .ok (.iload 4, 2) := by decide +kernel
theorem dF0_306 : decode code 306 = .ok (.iconst 2, 1) := by decide +kernel
theorem dF0_307 : decode code 307 = .ok (.iadd, 1) := by decide +kernel
theorem dF0_309 : decode code 309 = .ok (.aload_n 3, 1) := by decide +kernel
theorem dF0_313 : decode code 313 = .ok (.istore 5, 2) := by decide +kernel
theorem dF0_315 : decode code 315 = .ok (.aload_n 2, 1) := by decide +kernel
theorem dF0_316 : decode code 316 = .ok (.aload_n 0, 1) := by decide +kernel
theorem dF0_317 : decode code 317 = .ok (.iload 4, 2) := by decide +kernel
theorem dF0_319 : decode code 319 = .ok (.iconst 1, 1) := by decide +kernel
theorem dF0_320 : decode code 320 = .ok (.iadd, 1) := by decide +kernel
theorem dF0_322 : decode code 322 = .ok (.aload_n 0, 1) := by decide +kernel
theorem dF0_323 : decode code 323 = .ok (.iload 4, 2) := by decide +kernel
theorem dF0_325 : decode code 325 = .ok (.iconst 2, 1) := by decide +kernel
theorem dF0_326 : decode code 326 = .ok (.iadd, 1) := by decide +kernel
theorem dF0_331 : decode code 331 = .ok (.istore 6, 2) := by decide +kernel
theorem dF0_333 : decode code 333 = .ok (.aload_n 2, 1) := by decide +kernel
theorem dF0_337 : decode code 337 = .ok (.iload 5, 2) := by decide +kernel
theorem dF0_344 : decode code 344 = .ok (.iload 5, 2) := by decide +kernel
theorem dF0_361 : decode code 361 = .ok (.goto 1100, 3) := by decide +kernel
theorem dF0_349 : decode code 349 = .ok (.aload_n 3, 1) := by decide +kernel
theorem dF0_350 : decode code 350 = .ok (.iconst 0, 1) := by decide +kernel
theorem dF0_351 : decode code 351 = .ok (.laload, 1) := by decide +kernel
theorem dF0_352 : decode code 352 = .ok (.iload 6, 2) := by decide +kernel
theorem dF0_354 : decode code 354 = .ok (.i2l, 1) := by decide +kernel
theorem dF0_355 : decode code 355 = .ok (.lcmp, 1) := by decide +kernel
theorem dF0_359 : decode code 359 = .ok (.iconst 0, 1) := by decide +kernel
theorem dF0_360 : decode code 360 = .ok (.ireturn, 1) := by decide +kernel
theorem dF0_356 : decode code 356 = .ok (.ifCond .eq 5, 3) := by decide +kernel
theorem dF0_346 : decode code 346 = .ok (.ifCond .ne 15, 3) := by decide +kernel
theorem dF0_342 : decode code 342 = .ok (.iconst 0, 1) := by decide +kernel
theorem dF0_343 : decode code 343 = .ok (.ireturn, 1) := by decide +kernel
theorem dF0_339 : decode code 339 = .ok (.if_icmp .eq 5, 3) := by decide +kernel
theorem dF0_334 : decode code 334 = .ok (.invokevirtual 95, 3) := by decide +kernel
theorem dF0_328 : decode code 328 = .ok (.invokevirtual 105, 3) := by decide +kernel
theorem dF0_327 : decode code 327 = .ok (.iaload, 1) := by decide +kernel
theorem dF0_321 : decode code 321 = .ok (.iaload, 1) := by decide +kernel
theorem dF0_310 : decode code 310 = .ok (.invokestatic 102, 3) := by decide +kernel
theorem dF0_308 : decode code 308 = .ok (.iaload, 1) := by decide +kernel
theorem dF0_302 : decode code 302 = .ok (.iaload, 1) := by decide +kernel
theorem dF0_364 : decode code 364 = .ok (.aload_n 1, 1) := by decide +kernel
theorem dF0_368 : decode code 368 = .ok (.aload_n 2, 1) := by decide +kernel
theorem dF0_375 : decode code 375 = .ok (.iconst 0, 1) := by decide +kernel
theorem dF0_376 : decode code 376 = .ok (.ireturn, 1) := by decide +kernel
theorem dF0_372 : decode code 372 = .ok (.if_icmp .eq 1089, 3) := by decide +kernel
theorem dF0_369 : decode code 369 = .ok (.invokevirtual 109, 3) := by decide +kernel
theorem dF0_365 : decode code 365 = .ok (.invokevirtual 106, 3) := by decide +kernel
theorem dF0_377 : decode code 377 = .ok (.aload_n 1, 1) := by decide +kernel
theorem dF0_378 : decode code 378 = .ok (.aload_n 0, 1) := by decide +kernel
theorem dF0_379 : decode code 379 = .ok (.iload 4, 2) := by decide +kernel
theorem dF0_381 : decode code 381 = .ok (.iconst 1, 1) := by decide +kernel
theorem dF0_382 : decode code 382 = .ok (.iadd, 1) := by decide +kernel
theorem dF0_384 : decode code 384 = .ok (.aload_n 0, 1) := by decide +kernel
theorem dF0_385 : decode code 385 = .ok (.iload 4, 2) := by decide +kernel
theorem dF0_387 : decode code 387 = .ok (.iconst 2, 1) := by decide +kernel
theorem dF0_388 : decode code 388 = .ok (.iadd, 1) := by decide +kernel
theorem dF0_390 : decode code 390 = .ok (.aload_n 3, 1) := by decide +kernel
theorem dF0_394 : decode code 394 = .ok (.istore 5, 2) := by decide +kernel
theorem dF0_396 : decode code 396 = .ok (.aload_n 2, 1) := by decide +kernel
theorem dF0_397 : decode code 397 = .ok (.aload_n 0, 1) := by decide +kernel
theorem dF0_398 : decode code 398 = .ok (.iload 4, 2) := by decide +kernel
theorem dF0_400 : decode code 400 = .ok (.iconst 1, 1) := by decide +kernel
theorem dF0_401 : decode code 401 = .ok (.iadd, 1) := by decide +kernel
theorem dF0_403 : decode code 403 = .ok (.aload_n 0, 1) := by decide +kernel
theorem dF0_404 : decode code 404 = .ok (.iload 4, 2) := by decide +kernel
theorem dF0_406 : decode code 406 = .ok (.iconst 2, 1) := by decide +kernel
theorem dF0_407 : decode code 407 = .ok (.iadd, 1) := by decide +kernel
theorem dF0_412 : decode code 412 = .ok (.istore 6, 2) := by decide +kernel
theorem dF0_414 : decode code 414 = .ok (.aload_n 2, 1) := by decide +kernel
theorem dF0_418 : decode code 418 = .ok (.iload 5, 2) := by decide +kernel
theorem dF0_425 : decode code 425 = .ok (.iload 5, 2) := by decide +kernel
theorem dF0_442 : decode code 442 = .ok (.goto 1019, 3) := by decide +kernel
theorem dF0_430 : decode code 430 = .ok (.aload_n 3, 1) := by decide +kernel
theorem dF0_431 : decode code 431 = .ok (.iconst 0, 1) := by decide +kernel
theorem dF0_432 : decode code 432 = .ok (.laload, 1) := by decide +kernel
theorem dF0_433 : decode code 433 = .ok (.iload 6, 2) := by decide +kernel
theorem dF0_435 : decode code 435 = .ok (.i2l, 1) := by decide +kernel
theorem dF0_436 : decode code 436 = .ok (.lcmp, 1) := by decide +kernel
theorem dF0_440 : decode code 440 = .ok (.iconst 0, 1) := by decide +kernel
theorem dF0_441 : decode code 441 = .ok (.ireturn, 1) := by decide +kernel
theorem dF0_437 : decode code 437 = .ok (.ifCond .eq 5, 3) := by decide +kernel
theorem dF0_427 : decode code 427 = .ok (.ifCond .ne 15, 3) := by decide +kernel
theorem dF0_423 : decode code 423 = .ok (.iconst 0, 1) := by decide +kernel
theorem dF0_424 : decode code 424 = .ok (.ireturn, 1) := by decide +kernel
theorem dF0_420 : decode code 420 = .ok (.if_icmp .eq 5, 3) := by decide +kernel
theorem dF0_415 : decode code 415 = .ok (.invokevirtual 95, 3) := by decide +kernel
theorem dF0_409 : decode code 409 = .ok (.invokevirtual 112, 3) := by decide +kernel
theorem dF0_408 : decode code 408 = .ok (.iaload, 1) := by decide +kernel
theorem dF0_402 : decode code 402 = .ok (.iaload, 1) := by decide +kernel
theorem dF0_391 : decode code 391 = .ok (.invokestatic 110, 3) := by decide +kernel
theorem dF0_389 : decode code 389 = .ok (.iaload, 1) := by decide +kernel
theorem dF0_383 : decode code 383 = .ok (.iaload, 1) := by decide +kernel
theorem dF0_445 : decode code 445 = .ok (.aload_n 1, 1) := by decide +kernel
theorem dF0_446 : decode code 446 = .ok (.aload_n 0, 1) := by decide +kernel
theorem dF0_447 : decode code 447 = .ok (.iload 4, 2) := by decide +kernel
theorem dF0_449 : decode code 449 = .ok (.iconst 1, 1) := by decide +kernel
theorem dF0_450 : decode code 450 = .ok (.iadd, 1) := by decide +kernel
theorem dF0_459 : decode code 459 = .ok (.iconst 0, 1) := by decide +kernel
theorem dF0_460 : decode code 460 = .ok (.aload_n 0, 1) := by decide +kernel
theorem dF0_461 : decode code 461 = .ok (.iload 4, 2) := by decide +kernel
theorem dF0_463 : decode code 463 = .ok (.iconst 2, 1) := by decide +kernel
theorem dF0_464 : decode code 464 = .ok (.iadd, 1) := by decide +kernel
theorem dF0_466 : decode code 466 = .ok (.aload_n 0, 1) := by decide +kernel
theorem dF0_467 : decode code 467 = .ok (.iload 4, 2) := by decide +kernel
theorem dF0_469 : decode code 469 = .ok (.iconst 3, 1) := by decide +kernel
theorem dF0_470 : decode code 470 = .ok (.iadd, 1) := by decide +kernel
theorem dF0_472 : decode code 472 = .ok (.aload_n 3, 1) := by decide +kernel
theorem dF0_476 : decode code 476 = .ok (.istore 5, 2) := by decide +kernel
theorem dF0_478 : decode code 478 = .ok (.aload_n 2, 1) := by decide +kernel
theorem dF0_479 : decode code 479 = .ok (.aload_n 0, 1) := by decide +kernel
theorem dF0_480 : decode code 480 = .ok (.iload 4, 2) := by decide +kernel
theorem dF0_482 : decode code 482 = .ok (.iconst 1, 1) := by decide +kernel
theorem dF0_483 : decode code 483 = .ok (.iadd, 1) := by decide +kernel
theorem dF0_492 : decode code 492 = .ok (.iconst 0, 1) := by decide +kernel
theorem dF0_493 : decode code 493 = .ok (.aload_n 0, 1) := by decide +kernel
theorem dF0_494 : decode code 494 = .ok (.iload 4, 2) := by decide +kernel
theorem dF0_496 : decode code 496 = .ok (.iconst 2, 1) := by decide +kernel
theorem dF0_497 : decode code 497 = .ok (.iadd, 1) := by decide +kernel
theorem dF0_499 : decode code 499 = .ok (.aload_n 0, 1) := by decide +kernel
theorem dF0_500 : decode code 500 = .ok (.iload 4, 2) := by decide +kernel
theorem dF0_502 : decode code 502 = .ok (.iconst 3, 1) := by decide +kernel
theorem dF0_503 : decode code 503 = .ok (.iadd, 1) := by decide +kernel
theorem dF0_508 : decode code 508 = .ok (.istore 6, 2) := by decide +kernel
theorem dF0_510 : decode code 510 = .ok (.aload_n 2, 1) := by decide +kernel
theorem dF0_514 : decode code 514 = .ok (.iload 5, 2) := by decide +kernel
theorem dF0_521 : decode code 521 = .ok (.iload 5, 2) := by decide +kernel
theorem dF0_538 : decode code 538 = .ok (.goto 923, 3) := by decide +kernel
theorem dF0_526 : decode code 526 = .ok (.aload_n 3, 1) := by decide +kernel
theorem dF0_527 : decode code 527 = .ok (.iconst 0, 1) := by decide +kernel
theorem dF0_528 : decode code 528 = .ok (.laload, 1) := by decide +kernel
theorem dF0_529 : decode code 529 = .ok (.iload 6, 2) := by decide +kernel
theorem dF0_531 : decode code 531 = .ok (.i2l, 1) := by decide +kernel
theorem dF0_532 : decode code 532 = .ok (.lcmp, 1) := by decide +kernel
theorem dF0_536 : decode code 536 = .ok (.iconst 0, 1) := by decide +kernel
theorem dF0_537 : decode code 537 = .ok (.ireturn, 1) := by decide +kernel
theorem dF0_533 : decode code 533 = .ok (.ifCond .eq 5, 3) := by decide +kernel
theorem dF0_523 : decode code 523 = .ok (.ifCond .ne 15, 3) := by decide +kernel
theorem dF0_519 : decode code 519 = .ok (.iconst 0, 1) := by decide +kernel
theorem dF0_520 : decode code 520 = .ok (.ireturn, 1) := by decide +kernel
theorem dF0_516 : decode code 516 = .ok (.if_icmp .eq 5, 3) := by decide +kernel
theorem dF0_511 : decode code 511 = .ok (.invokevirtual 95, 3) := by decide +kernel
theorem dF0_505 : decode code 505 = .ok (.invokevirtual 116, 3) := by decide +kernel
theorem dF0_504 : decode code 504 = .ok (.iaload, 1) := by decide +kernel
theorem dF0_498 : decode code 498 = .ok (.iaload, 1) := by decide +kernel
theorem dF0_488 : decode code 488 = .ok (.iconst 1, 1) := by decide +kernel
theorem dF0_489 : decode code 489 = .ok (.goto 4, 3) := by decide +kernel
theorem dF0_485 : decode code 485 = .ok (.ifCond .eq 7, 3) := by decide +kernel
theorem dF0_484 : decode code 484 = .ok (.iaload, 1) := by decide +kernel
theorem dF0_473 : decode code 473 = .ok (.invokestatic 113, 3) := by decide +kernel
theorem dF0_471 : decode code 471 = .ok (.iaload, 1) := by decide +kernel
theorem dF0_465 : decode code 465 = .ok (.iaload, 1) := by decide +kernel
theorem dF0_455 : decode code 455 = .ok (.iconst 1, 1) := by decide +kernel
theorem dF0_456 : decode code 456 = .ok (.goto 4, 3) := by decide +kernel
theorem dF0_452 : decode code 452 = .ok (.ifCond .eq 7, 3) := by decide +kernel
theorem dF0_451 : decode code 451 = .ok (.iaload, 1) := by decide +kernel
theorem dF0_541 : decode code 541 = .ok (.aload_n 1, 1) := by decide +kernel
theorem dF0_542 : decode code 542 = .ok (.aload_n 0, 1) := by decide +kernel
theorem dF0_543 : decode code 543 = .ok (.iload 4, 2) := by decide +kernel
theorem dF0_545 : decode code 545 = .ok (.iconst 1, 1) := by decide +kernel
theorem dF0_546 : decode code 546 = .ok (.iadd, 1) := by decide +kernel
theorem dF0_548 : decode code 548 = .ok (.aload_n 0, 1) := by decide +kernel
theorem dF0_549 : decode code 549 = .ok (.iload 4, 2) := by decide +kernel
theorem dF0_551 : decode code 551 = .ok (.iconst 2, 1) := by decide +kernel
theorem dF0_552 : decode code 552 = .ok (.iadd, 1) := by decide +kernel
theorem dF0_554 : decode code 554 = .ok (.aload_n 0, 1) := by decide +kernel
theorem dF0_555 : decode code 555 = .ok (.iload 4, 2) := by decide +kernel
theorem dF0_557 : decode code 557 = .ok (.iconst 3, 1) := by decide +kernel
theorem dF0_558 : decode code 558 = .ok (.iadd, 1) := by decide +kernel
theorem dF0_560 : decode code 560 = .ok (.aload_n 3, 1) := by decide +kernel
theorem dF0_564 : decode code 564 = .ok (.istore 5, 2) := by decide +kernel
theorem dF0_566 : decode code 566 = .ok (.aload_n 2, 1) := by decide +kernel
theorem dF0_567 : decode code 567 = .ok (.aload_n 0, 1) := by decide +kernel
theorem dF0_568 : decode code 568 = .ok (.iload 4, 2) := by decide +kernel
theorem dF0_570 : decode code 570 = .ok (.iconst 1, 1) := by decide +kernel
theorem dF0_571 : decode code 571 = .ok (.iadd, 1) := by decide +kernel
theorem dF0_573 : decode code 573 = .ok (.aload_n 0, 1) := by decide +kernel
theorem dF0_574 : decode code 574 = .ok (.iload 4, 2) := by decide +kernel
theorem dF0_576 : decode code 576 = .ok (.iconst 2, 1) := by decide +kernel
theorem dF0_577 : decode code 577 = .ok (.iadd, 1) := by decide +kernel
theorem dF0_579 : decode code 579 = .ok (.aload_n 0, 1) := by decide +kernel
theorem dF0_580 : decode code 580 = .ok (.iload 4, 2) := by decide +kernel
theorem dF0_582 : decode code 582 = .ok (.iconst 3, 1) := by decide +kernel
theorem dF0_583 : decode code 583 = .ok (.iadd, 1) := by decide +kernel
theorem dF0_588 : decode code 588 = .ok (.istore 6, 2) := by decide +kernel
theorem dF0_590 : decode code 590 = .ok (.aload_n 2, 1) := by decide +kernel
theorem dF0_594 : decode code 594 = .ok (.iload 5, 2) := by decide +kernel
theorem dF0_601 : decode code 601 = .ok (.iload 5, 2) := by decide +kernel
theorem dF0_618 : decode code 618 = .ok (.goto 843, 3) := by decide +kernel
theorem dF0_606 : decode code 606 = .ok (.aload_n 3, 1) := by decide +kernel
theorem dF0_607 : decode code 607 = .ok (.iconst 0, 1) := by decide +kernel
theorem dF0_608 : decode code 608 = .ok (.laload, 1) := by decide +kernel
theorem dF0_609 : decode code 609 = .ok (.iload 6, 2) := by decide +kernel
theorem dF0_611 : decode code 611 = .ok (.i2l, 1) := by decide +kernel
theorem dF0_612 : decode code 612 = .ok (.lcmp, 1) := by decide +kernel
theorem dF0_616 : decode code 616 = .ok (.iconst 0, 1) := by decide +kernel
theorem dF0_617 : decode code 617 = .ok (.ireturn, 1) := by decide +kernel
theorem dF0_613 : decode code 613 = .ok (.ifCond .eq 5, 3) := by decide +kernel
theorem dF0_603 : decode code 603 = .ok (.ifCond .ne 15, 3) := by decide +kernel
theorem dF0_599 : decode code 599 = .ok (.iconst 0, 1) := by decide +kernel
theorem dF0_600 : decode code 600 = .ok (.ireturn, 1) := by decide +kernel
theorem dF0_596 : decode code 596 = .ok (.if_icmp .eq 5, 3) := by decide +kernel
theorem dF0_591 : decode code 591 = .ok (.invokevirtual 95, 3) := by decide +kernel
theorem dF0_585 : decode code 585 = .ok (.invokevirtual 120, 3) := by decide +kernel
theorem dF0_584 : decode code 584 = .ok (.iaload, 1) := by decide +kernel
theorem dF0_578 : decode code 578 = .ok (.iaload, 1) := by decide +kernel
theorem dF0_572 : decode code 572 = .ok (.iaload, 1) := by decide +kernel
theorem dF0_561 : decode code 561 = .ok (.invokestatic 117, 3) := by decide +kernel
theorem dF0_559 : decode code 559 = .ok (.iaload, 1) := by decide +kernel
theorem dF0_553 : decode code 553 = .ok (.iaload, 1) := by decide +kernel
theorem dF0_547 : decode code 547 = .ok (.iaload, 1) := by decide +kernel
theorem dF0_621 : decode code 621 = .ok (.aload_n 1, 1) := by decide +kernel
theorem dF0_622 : decode code 622 = .ok (.aload_n 0, 1) := by decide +kernel
theorem dF0_623 : decode code 623 = .ok (.iload 4, 2) := by decide +kernel
theorem dF0_625 : decode code 625 = .ok (.iconst 1, 1) := by decide +kernel
theorem dF0_626 : decode code 626 = .ok (.iadd, 1) := by decide +kernel
theorem dF0_628 : decode code 628 = .ok (.aload_n 0, 1) := by decide +kernel
theorem dF0_629 : decode code 629 = .ok (.iload 4, 2) := by decide +kernel
theorem dF0_631 : decode code 631 = .ok (.iconst 2, 1) := by decide +kernel
theorem dF0_632 : decode code 632 = .ok (.iadd, 1) := by decide +kernel
theorem dF0_634 : decode code 634 = .ok (.aload_n 0, 1) := by decide +kernel
theorem dF0_635 : decode code 635 = .ok (.iload 4, 2) := by decide +kernel
theorem dF0_637 : decode code 637 = .ok (.iconst 3, 1) := by decide +kernel
theorem dF0_638 : decode code 638 = .ok (.iadd, 1) := by decide +kernel
theorem dF0_640 : decode code 640 = .ok (.aload_n 3, 1) := by decide +kernel
theorem dF0_644 : decode code 644 = .ok (.istore 5, 2) := by decide +kernel
theorem dF0_646 : decode code 646 = .ok (.aload_n 2, 1) := by decide +kernel
theorem dF0_647 : decode code 647 = .ok (.aload_n 0, 1) := by decide +kernel
theorem dF0_648 : decode code 648 = .ok (.iload 4, 2) := by decide +kernel
theorem dF0_650 : decode code 650 = .ok (.iconst 1, 1) := by decide +kernel
theorem dF0_651 : decode code 651 = .ok (.iadd, 1) := by decide +kernel
theorem dF0_653 : decode code 653 = .ok (.aload_n 0, 1) := by decide +kernel
theorem dF0_654 : decode code 654 = .ok (.iload 4, 2) := by decide +kernel
theorem dF0_656 : decode code 656 = .ok (.iconst 2, 1) := by decide +kernel
theorem dF0_657 : decode code 657 = .ok (.iadd, 1) := by decide +kernel
theorem dF0_659 : decode code 659 = .ok (.aload_n 0, 1) := by decide +kernel
theorem dF0_660 : decode code 660 = .ok (.iload 4, 2) := by decide +kernel
theorem dF0_662 : decode code 662 = .ok (.iconst 3, 1) := by decide +kernel
theorem dF0_663 : decode code 663 = .ok (.iadd, 1) := by decide +kernel
theorem dF0_668 : decode code 668 = .ok (.istore 6, 2) := by decide +kernel
theorem dF0_670 : decode code 670 = .ok (.aload_n 2, 1) := by decide +kernel
theorem dF0_674 : decode code 674 = .ok (.iload 5, 2) := by decide +kernel
theorem dF0_681 : decode code 681 = .ok (.iload 5, 2) := by decide +kernel
theorem dF0_698 : decode code 698 = .ok (.goto 763, 3) := by decide +kernel
theorem dF0_686 : decode code 686 = .ok (.aload_n 3, 1) := by decide +kernel
theorem dF0_687 : decode code 687 = .ok (.iconst 0, 1) := by decide +kernel
theorem dF0_688 : decode code 688 = .ok (.laload, 1) := by decide +kernel
theorem dF0_689 : decode code 689 = .ok (.iload 6, 2) := by decide +kernel
theorem dF0_691 : decode code 691 = .ok (.i2l, 1) := by decide +kernel
theorem dF0_692 : decode code 692 = .ok (.lcmp, 1) := by decide +kernel
theorem dF0_696 : decode code 696 = .ok (.iconst 0, 1) := by decide +kernel
theorem dF0_697 : decode code 697 = .ok (.ireturn, 1) := by decide +kernel
theorem dF0_693 : decode code 693 = .ok (.ifCond .eq 5, 3) := by decide +kernel
theorem dF0_683 : decode code 683 = .ok (.ifCond .ne 15, 3) := by decide +kernel
theorem dF0_679 : decode code 679 = .ok (.iconst 0, 1) := by decide +kernel
theorem dF0_680 : decode code 680 = .ok (.ireturn, 1) := by decide +kernel
theorem dF0_676 : decode code 676 = .ok (.if_icmp .eq 5, 3) := by decide +kernel
theorem dF0_671 : decode code 671 = .ok (.invokevirtual 95, 3) := by decide +kernel
theorem dF0_665 : decode code 665 = .ok (.invokevirtual 123, 3) := by decide +kernel
theorem dF0_664 : decode code 664 = .ok (.iaload, 1) := by decide +kernel
theorem dF0_658 : decode code 658 = .ok (.iaload, 1) := by decide +kernel
theorem dF0_652 : decode code 652 = .ok (.iaload, 1) := by decide +kernel
theorem dF0_641 : decode code 641 = .ok (.invokestatic 121, 3) := by decide +kernel
theorem dF0_639 : decode code 639 = .ok (.iaload, 1) := by decide +kernel
theorem dF0_633 : decode code 633 = .ok (.iaload, 1) := by decide +kernel
theorem dF0_627 : decode code 627 = .ok (.iaload, 1) := by decide +kernel
theorem dF0_701 : decode code 701 = .ok (.aload_n 1, 1) := by decide +kernel
theorem dF0_702 : decode code 702 = .ok (.aload_n 0, 1) := by decide +kernel
theorem dF0_703 : decode code 703 = .ok (.iload 4, 2) := by decide +kernel
theorem dF0_705 : decode code 705 = .ok (.iconst 1, 1) := by decide +kernel
theorem dF0_706 : decode code 706 = .ok (.iadd, 1) := by decide +kernel
theorem dF0_708 : decode code 708 = .ok (.aload_n 0, 1) := by decide +kernel
theorem dF0_709 : decode code 709 = .ok (.iload 4, 2) := by decide +kernel
theorem dF0_711 : decode code 711 = .ok (.iconst 2, 1) := by decide +kernel
theorem dF0_712 : decode code 712 = .ok (.iadd, 1) := by decide +kernel
theorem dF0_714 : decode code 714 = .ok (.aload_n 3, 1) := by decide +kernel
theorem dF0_718 : decode code 718 = .ok (.istore 5, 2) := by decide +kernel
theorem dF0_720 : decode code 720 = .ok (.aload_n 2, 1) := by decide +kernel
theorem dF0_721 : decode code 721 = .ok (.aload_n 0, 1) := by decide +kernel
theorem dF0_722 : decode code 722 = .ok (.iload 4, 2) := by decide +kernel
theorem dF0_724 : decode code 724 = .ok (.iconst 1, 1) := by decide +kernel
theorem dF0_725 : decode code 725 = .ok (.iadd, 1) := by decide +kernel
theorem dF0_727 : decode code 727 = .ok (.aload_n 0, 1) := by decide +kernel
theorem dF0_728 : decode code 728 = .ok (.iload 4, 2) := by decide +kernel
theorem dF0_730 : decode code 730 = .ok (.iconst 2, 1) := by decide +kernel
theorem dF0_731 : decode code 731 = .ok (.iadd, 1) := by decide +kernel
theorem dF0_736 : decode code 736 = .ok (.istore 6, 2) := by decide +kernel
theorem dF0_738 : decode code 738 = .ok (.aload_n 2, 1) := by decide +kernel
theorem dF0_742 : decode code 742 = .ok (.iload 5, 2) := by decide +kernel
theorem dF0_749 : decode code 749 = .ok (.iload 5, 2) := by decide +kernel
theorem dF0_766 : decode code 766 = .ok (.goto 695, 3) := by decide +kernel
theorem dF0_754 : decode code 754 = .ok (.aload_n 3, 1) := by decide +kernel
theorem dF0_755 : decode code 755 = .ok (.iconst 0, 1) := by decide +kernel
theorem dF0_756 : decode code 756 = .ok (.laload, 1) := by decide +kernel
theorem dF0_757 : decode code 757 = .ok (.iload 6, 2) := by decide +kernel
theorem dF0_759 : decode code 759 = .ok (.i2l, 1) := by decide +kernel
theorem dF0_760 : decode code 760 = .ok (.lcmp, 1) := by decide +kernel
theorem dF0_764 : decode code 764 = .ok (.iconst 0, 1) := by decide +kernel
theorem dF0_765 : decode code 765 = .ok (.ireturn, 1) := by decide +kernel
theorem dF0_761 : decode code 761 = .ok (.ifCond .eq 5, 3) := by decide +kernel
theorem dF0_751 : decode code 751 = .ok (.ifCond .ne 15, 3) := by decide +kernel
theorem dF0_747 : decode code 747 = .ok (.iconst 0, 1) := by decide +kernel
theorem dF0_748 : decode code 748 = .ok (.ireturn, 1) := by decide +kernel
theorem dF0_744 : decode code 744 = .ok (.if_icmp .eq 5, 3) := by decide +kernel
theorem dF0_739 : decode code 739 = .ok (.invokevirtual 95, 3) := by decide +kernel
theorem dF0_733 : decode code 733 = .ok (.invokevirtual 126, 3) := by decide +kernel
theorem dF0_732 : decode code 732 = .ok (.iaload, 1) := by decide +kernel
theorem dF0_726 : decode code 726 = .ok (.iaload, 1) := by decide +kernel
theorem dF0_715 : decode code 715 = .ok (.invokestatic 124, 3) := by decide +kernel
theorem dF0_713 : decode code 713 = .ok (.iaload, 1) := by decide +kernel
theorem dF0_707 : decode code 707 = .ok (.iaload, 1) := by decide +kernel
theorem dF0_769 : decode code 769 = .ok (.aload_n 1, 1) := by decide +kernel
theorem dF0_770 : decode code 770 = .ok (.aload_n 0, 1) := by decide +kernel
theorem dF0_771 : decode code 771 = .ok (.iload 4, 2) := by decide +kernel
theorem dF0_773 : decode code 773 = .ok (.iconst 1, 1) := by decide +kernel
theorem dF0_774 : decode code 774 = .ok (.iadd, 1) := by decide +kernel
theorem dF0_776 : decode code 776 = .ok (.aload_n 0, 1) := by decide +kernel
theorem dF0_777 : decode code 777 = .ok (.iload 4, 2) := by decide +kernel
theorem dF0_779 : decode code 779 = .ok (.iconst 2, 1) := by decide +kernel
theorem dF0_780 : decode code 780 = .ok (.iadd, 1) := by decide +kernel
theorem dF0_782 : decode code 782 = .ok (.aload_n 3, 1) := by decide +kernel
theorem dF0_786 : decode code 786 = .ok (.istore 5, 2) := by decide +kernel
theorem dF0_788 : decode code 788 = .ok (.aload_n 2, 1) := by decide +kernel
theorem dF0_789 : decode code 789 = .ok (.aload_n 0, 1) := by decide +kernel
theorem dF0_790 : decode code 790 = .ok (.iload 4, 2) := by decide +kernel
theorem dF0_792 : decode code 792 = .ok (.iconst 1, 1) := by decide +kernel
theorem dF0_793 : decode code 793 = .ok (.iadd, 1) := by decide +kernel
theorem dF0_795 : decode code 795 = .ok (.aload_n 0, 1) := by decide +kernel
theorem dF0_796 : decode code 796 = .ok (.iload 4, 2) := by decide +kernel
theorem dF0_798 : decode code 798 = .ok (.iconst 2, 1) := by decide +kernel
theorem dF0_799 : decode code 799 = .ok (.iadd, 1) := by decide +kernel
theorem dF0_804 : decode code 804 = .ok (.istore 6, 2) := by decide +kernel
theorem dF0_806 : decode code 806 = .ok (.aload_n 2, 1) := by decide +kernel
theorem dF0_810 : decode code 810 = .ok (.iload 5, 2) := by decide +kernel
theorem dF0_817 : decode code 817 = .ok (.iload 5, 2) := by decide +kernel
theorem dF0_834 : decode code 834 = .ok (.goto 627, 3) := by decide +kernel
theorem dF0_822 : decode code 822 = .ok (.aload_n 3, 1) := by decide +kernel
theorem dF0_823 : decode code 823 = .ok (.iconst 0, 1) := by decide +kernel
theorem dF0_824 : decode code 824 = .ok (.laload, 1) := by decide +kernel
theorem dF0_825 : decode code 825 = .ok (.iload 6, 2) := by decide +kernel
theorem dF0_827 : decode code 827 = .ok (.i2l, 1) := by decide +kernel
theorem dF0_828 : decode code 828 = .ok (.lcmp, 1) := by decide +kernel
theorem dF0_832 : decode code 832 = .ok (.iconst 0, 1) := by decide +kernel
theorem dF0_833 : decode code 833 = .ok (.ireturn, 1) := by decide +kernel
theorem dF0_829 : decode code 829 = .ok (.ifCond .eq 5, 3) := by decide +kernel
theorem dF0_819 : decode code 819 = .ok (.ifCond .ne 15, 3) := by decide +kernel
theorem dF0_815 : decode code 815 = .ok (.iconst 0, 1) := by decide +kernel
theorem dF0_816 : decode code 816 = .ok (.ireturn, 1) := by decide +kernel
theorem dF0_812 : decode code 812 = .ok (.if_icmp .eq 5, 3) := by decide +kernel
theorem dF0_807 : decode code 807 = .ok (.invokevirtual 95, 3) := by decide +kernel
theorem dF0_801 : decode code 801 = .ok (.invokevirtual 129, 3) := by decide +kernel
theorem dF0_800 : decode code 800 = .ok (.iaload, 1) := by decide +kernel
theorem dF0_794 : decode code 794 = .ok (.iaload, 1) := by decide +kernel
theorem dF0_783 : decode code 783 = .ok (.invokestatic 127, 3) := by decide +kernel
theorem dF0_781 : decode code 781 = .ok (.iaload, 1) := by decide +kernel
theorem dF0_775 : decode code 775 = .ok (.iaload, 1) := by decide +kernel
theorem dF0_837 : decode code 837 = .ok (.aload_n 1, 1) := by decide +kernel
theorem dF0_838 : decode code 838 = .ok (.aload_n 0, 1) := by decide +kernel
theorem dF0_839 : decode code 839 = .ok (.iload 4, 2) := by decide +kernel
theorem dF0_841 : decode code 841 = .ok (.iconst 1, 1) := by decide +kernel
theorem dF0_842 : decode code 842 = .ok (.iadd, 1) := by decide +kernel
theorem dF0_844 : decode code 844 = .ok (.aload_n 0, 1) := by decide +kernel
theorem dF0_845 : decode code 845 = .ok (.iload 4, 2) := by decide +kernel
theorem dF0_847 : decode code 847 = .ok (.iconst 2, 1) := by decide +kernel
theorem dF0_848 : decode code 848 = .ok (.iadd, 1) := by decide +kernel
theorem dF0_850 : decode code 850 = .ok (.aload_n 3, 1) := by decide +kernel
theorem dF0_854 : decode code 854 = .ok (.istore 5, 2) := by decide +kernel
theorem dF0_856 : decode code 856 = .ok (.aload_n 2, 1) := by decide +kernel
theorem dF0_857 : decode code 857 = .ok (.aload_n 0, 1) := by decide +kernel
theorem dF0_858 : decode code 858 = .ok (.iload 4, 2) := by decide +kernel
theorem dF0_860 : decode code 860 = .ok (.iconst 1, 1) := by decide +kernel
theorem dF0_861 : decode code 861 = .ok (.iadd, 1) := by decide +kernel
theorem dF0_863 : decode code 863 = .ok (.aload_n 0, 1) := by decide +kernel
theorem dF0_864 : decode code 864 = .ok (.iload 4, 2) := by decide +kernel
theorem dF0_866 : decode code 866 = .ok (.iconst 2, 1) := by decide +kernel
theorem dF0_867 : decode code 867 = .ok (.iadd, 1) := by decide +kernel
theorem dF0_872 : decode code 872 = .ok (.istore 6, 2) := by decide +kernel
theorem dF0_874 : decode code 874 = .ok (.aload_n 2, 1) := by decide +kernel
theorem dF0_878 : decode code 878 = .ok (.iload 5, 2) := by decide +kernel
theorem dF0_885 : decode code 885 = .ok (.iload 5, 2) := by decide +kernel
theorem dF0_902 : decode code 902 = .ok (.goto 559, 3) := by decide +kernel
theorem dF0_890 : decode code 890 = .ok (.aload_n 3, 1) := by decide +kernel
theorem dF0_891 : decode code 891 = .ok (.iconst 0, 1) := by decide +kernel
theorem dF0_892 : decode code 892 = .ok (.laload, 1) := by decide +kernel
theorem dF0_893 : decode code 893 = .ok (.iload 6, 2) := by decide +kernel
theorem dF0_895 : decode code 895 = .ok (.i2l, 1) := by decide +kernel
theorem dF0_896 : decode code 896 = .ok (.lcmp, 1) := by decide +kernel
theorem dF0_900 : decode code 900 = .ok (.iconst 0, 1) := by decide +kernel
theorem dF0_901 : decode code 901 = .ok (.ireturn, 1) := by decide +kernel
