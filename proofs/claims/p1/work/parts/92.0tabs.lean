/-! tables that the backward rows use -/
set_option maxRecDepth 100000 in
theorem hm_81 : ma_md 81 = some (7, yX7_thingAt, cX7_thingAt, 2, (some (FieldType.object "CollectorHouse$Thing"))) := rfl
set_option maxRecDepth 100000 in
theorem hm_98 : ma_md 98 = some (7, yX7_takeWish, cX7_takeWish, 3, (some (FieldType.object "CollectorHouse$Thing"))) := rfl
set_option maxRecDepth 100000 in
theorem hm_127 : ma_md 127 = some (11, yX11_heap, cX11_heap, 2, (some (FieldType.int))) := rfl
set_option maxRecDepth 100000 in
theorem hm_137 : ma_md 137 = some (11, yX11_feed, cX11_feed, 6, (some (FieldType.int))) := rfl
set_option maxRecDepth 100000 in
theorem hm_138 : ma_md 138 = some (11, yX11_addBytes, cX11_addBytes, 3, none) := rfl
set_option maxRecDepth 100000 in
theorem hm_139 : ma_md 139 = some (11, yX11_end, cX11_end, 2, (some (FieldType.int))) := rfl
set_option maxRecDepth 100000 in
theorem hm_140 : ma_md 140 = some (11, yX11_kind, cX11_kind, 3, (some (FieldType.int))) := rfl
set_option maxRecDepth 100000 in
theorem hm_141 : ma_md 141 = some (11, yX11_make, cX11_make, 3, (some (FieldType.int))) := rfl
set_option maxRecDepth 100000 in
theorem hm_142 : ma_md 142 = some (11, yX11_isSlot, cX11_isSlot, 1, (some (FieldType.boolean))) := rfl
set_option maxRecDepth 100000 in
theorem hm_143 : ma_md 143 = some (11, yX11_addObject, cX11_addObject, 9, (some (FieldType.int))) := rfl
set_option maxRecDepth 100000 in
theorem hm_144 : ma_md 144 = some (11, yX11_needCollector, cX11_needCollector, 1, (some (FieldType.object "CollectorHouse$Collector"))) := rfl
set_option maxRecDepth 100000 in
theorem hm_147 : ma_md 147 = some (11, yX11_row, cX11_row, 4, (some (FieldType.int))) := rfl
set_option maxRecDepth 100000 in
theorem hm_148 : ma_md 148 = some (11, yX11_put, cX11_put, 5, (some (FieldType.int))) := rfl
set_option maxRecDepth 100000 in
theorem hm_149 : ma_md 149 = some (11, yX11_needReached, cX11_needReached, 3, (some (FieldType.object "CollectorHouse$Thing"))) := rfl
set_option maxRecDepth 100000 in
theorem hm_150 : ma_md 150 = some (11, yX11_link, cX11_link, 8, (some (FieldType.int))) := rfl
set_option maxRecDepth 100000 in
theorem hm_151 : ma_md 151 = some (11, yX11_needReachedOrNothing, cX11_needReachedOrNothing, 2, (some (FieldType.object "CollectorHouse$Thing"))) := rfl
set_option maxRecDepth 100000 in
theorem hm_152 : ma_md 152 = some (11, yX11_get, cX11_get, 4, (some (FieldType.int))) := rfl
set_option maxRecDepth 100000 in
theorem hm_153 : ma_md 153 = some (11, yX11_root, cX11_root, 5, (some (FieldType.int))) := rfl
set_option maxRecDepth 100000 in
theorem hm_154 : ma_md 154 = some (11, yX11_weak, cX11_weak, 5, (some (FieldType.int))) := rfl
set_option maxRecDepth 100000 in
theorem hm_155 : ma_md 155 = some (11, yX11_strong, cX11_strong, 5, (some (FieldType.int))) := rfl
set_option maxRecDepth 100000 in
theorem hm_156 : ma_md 156 = some (11, yX11_hold, cX11_hold, 5, (some (FieldType.int))) := rfl
set_option maxRecDepth 100000 in
theorem hm_157 : ma_md 157 = some (11, yX11_wish, cX11_wish, 4, (some (FieldType.int))) := rfl
set_option maxRecDepth 100000 in
theorem hm_158 : ma_md 158 = some (11, yX11_granted, cX11_granted, 4, (some (FieldType.int))) := rfl
set_option maxRecDepth 100000 in
theorem hm_159 : ma_md 159 = some (11, yX11_clean, cX11_clean, 1, (some (FieldType.int))) := rfl
set_option maxRecDepth 100000 in
theorem hm_160 : ma_md 160 = some (11, yX11_step, cX11_step, 4, (some (FieldType.int))) := rfl
set_option maxRecDepth 100000 in
theorem hm_161 : ma_md 161 = some (11, yX11_about, cX11_about, 5, (some (FieldType.int))) := rfl
set_option maxRecDepth 100000 in
theorem hm_162 : ma_md 162 = some (11, yX11_block, cX11_block, 5, (some (FieldType.int))) := rfl
set_option maxRecDepth 100000 in
theorem hm_163 : ma_md 163 = some (11, yX11_count, cX11_count, 3, (some (FieldType.int))) := rfl
set_option maxRecDepth 100000 in
theorem hm_164 : ma_md 164 = some (12, yX12_thrown, cX12_thrown, 1, (some (FieldType.int))) := rfl
set_option maxRecDepth 100000 in
theorem hm_166 : ma_md 166 = some (12, yX12_feed, cX12_feed, 6, (some (FieldType.int))) := rfl
set_option maxRecDepth 100000 in
theorem hm_167 : ma_md 167 = some (12, yX12_fails, cX12_fails, 2, (some (FieldType.boolean))) := rfl
set_option maxRecDepth 100000 in
theorem hm_168 : ma_md 168 = some (12, yX12_four, cX12_four, 3, none) := rfl
set_option maxRecDepth 100000 in
theorem hm_169 : ma_md 169 = some (12, yX12_end, cX12_end, 2, (some (FieldType.int))) := rfl
set_option maxRecDepth 100000 in
theorem hm_170 : ma_md 170 = some (12, yX12_kind, cX12_kind, 4, (some (FieldType.int))) := rfl
set_option maxRecDepth 100000 in
theorem hm_171 : ma_md 171 = some (12, yX12_heap, cX12_heap, 2, (some (FieldType.int))) := rfl
set_option maxRecDepth 100000 in
theorem hm_181 : ma_md 181 = some (12, yX12_make, cX12_make, 3, (some (FieldType.int))) := rfl
set_option maxRecDepth 100000 in
theorem hm_182 : ma_md 182 = some (12, yX12_isNamed, cX12_isNamed, 2, (some (FieldType.boolean))) := rfl
set_option maxRecDepth 100000 in
theorem hm_183 : ma_md 183 = some (12, yX12_fresh, cX12_fresh, 7, (some (FieldType.int))) := rfl
set_option maxRecDepth 100000 in
theorem hm_186 : ma_md 186 = some (12, yX12_cleanSlide, cX12_cleanSlide, 2, (some (FieldType.int))) := rfl
set_option maxRecDepth 100000 in
theorem hm_187 : ma_md 187 = some (12, yX12_sweep, cX12_sweep, 1, (some (FieldType.int))) := rfl
set_option maxRecDepth 100000 in
theorem hm_206 : ma_md 206 = some (12, yX12_cleanHalves, cX12_cleanHalves, 2, (some (FieldType.int))) := rfl
set_option maxRecDepth 100000 in
theorem hm_211 : ma_md 211 = some (12, yX12_major, cX12_major, 2, (some (FieldType.int))) := rfl
set_option maxRecDepth 100000 in
theorem hm_219 : ma_md 219 = some (12, yX12_beginMarking, cX12_beginMarking, 2, none) := rfl
set_option maxRecDepth 100000 in
theorem hm_221 : ma_md 221 = some (12, yX12_toGrey, cX12_toGrey, 2, none) := rfl
set_option maxRecDepth 100000 in
theorem hm_222 : ma_md 222 = some (12, yX12_steps, cX12_steps, 5, (some (FieldType.int))) := rfl
set_option maxRecDepth 100000 in
theorem hm_226 : ma_md 226 = some (12, yX12_blockFrom, cX12_blockFrom, 5, (some (FieldType.int))) := rfl
set_option maxRecDepth 100000 in
theorem hm_230 : ma_md 230 = some (12, yX12_finish, cX12_finish, 3, (some (FieldType.int))) := rfl
set_option maxRecDepth 100000 in
theorem hm_233 : ma_md 233 = some (12, yX12_emptyRegions, cX12_emptyRegions, 3, (some (FieldType.int))) := rfl
set_option maxRecDepth 100000 in
theorem hm_235 : ma_md 235 = some (12, yX12_cleanRegions, cX12_cleanRegions, 10, (some (FieldType.int))) := rfl
set_option maxRecDepth 100000 in
theorem hm_238 : ma_md 238 = some (12, yX12_setRoot, cX12_setRoot, 4, none) := rfl
set_option maxRecDepth 100000 in
theorem hm_243 : ma_md 243 = some (12, yX12_row, cX12_row, 4, (some (FieldType.int))) := rfl
set_option maxRecDepth 100000 in
theorem hm_244 : ma_md 244 = some (12, yX12_put, cX12_put, 6, (some (FieldType.int))) := rfl
set_option maxRecDepth 100000 in
theorem hm_245 : ma_md 245 = some (12, yX12_reached, cX12_reached, 3, (some (FieldType.int))) := rfl
set_option maxRecDepth 100000 in
theorem hm_247 : ma_md 247 = some (12, yX12_link, cX12_link, 9, (some (FieldType.int))) := rfl
set_option maxRecDepth 100000 in
theorem hm_248 : ma_md 248 = some (12, yX12_numberOf, cX12_numberOf, 2, (some (FieldType.int))) := rfl
set_option maxRecDepth 100000 in
theorem hm_249 : ma_md 249 = some (12, yX12_get, cX12_get, 4, (some (FieldType.int))) := rfl
set_option maxRecDepth 100000 in
theorem hm_250 : ma_md 250 = some (12, yX12_root, cX12_root, 5, (some (FieldType.int))) := rfl
set_option maxRecDepth 100000 in
theorem hm_251 : ma_md 251 = some (12, yX12_weak, cX12_weak, 5, (some (FieldType.int))) := rfl
set_option maxRecDepth 100000 in
theorem hm_252 : ma_md 252 = some (12, yX12_strong, cX12_strong, 4, (some (FieldType.int))) := rfl
set_option maxRecDepth 100000 in
theorem hm_253 : ma_md 253 = some (12, yX12_hold, cX12_hold, 5, (some (FieldType.int))) := rfl
set_option maxRecDepth 100000 in
theorem hm_254 : ma_md 254 = some (12, yX12_wish, cX12_wish, 4, (some (FieldType.int))) := rfl
set_option maxRecDepth 100000 in
theorem hm_255 : ma_md 255 = some (12, yX12_granted, cX12_granted, 4, (some (FieldType.int))) := rfl
set_option maxRecDepth 100000 in
theorem hm_256 : ma_md 256 = some (12, yX12_clean, cX12_clean, 2, (some (FieldType.int))) := rfl
set_option maxRecDepth 100000 in
theorem hm_257 : ma_md 257 = some (12, yX12_step, cX12_step, 4, (some (FieldType.int))) := rfl
set_option maxRecDepth 100000 in
theorem hm_258 : ma_md 258 = some (12, yX12_about, cX12_about, 4, (some (FieldType.int))) := rfl
set_option maxRecDepth 100000 in
theorem hm_259 : ma_md 259 = some (12, yX12_block, cX12_block, 6, (some (FieldType.int))) := rfl
set_option maxRecDepth 100000 in
theorem hm_260 : ma_md 260 = some (12, yX12_count, cX12_count, 2, (some (FieldType.int))) := rfl
set_option maxRecDepth 100000 in
theorem hm_261 : ma_md 261 = some (12, yX12_dirtyCards, cX12_dirtyCards, 3, (some (FieldType.int))) := rfl
theorem fm_0 : ma_fi 0 = some (code, 7, some .boolean, []) := rfl
theorem fm_1 : ma_fi 1 = some (method_3_code, 8, some .int, [(0, 16, 19, 13)]) := rfl
theorem fm_2 : ma_fi 2 = some (method_4_code, 4, some .int, [(0, 9, 12, 19)]) := rfl
theorem fm_3 : ma_fi 3 = some (method_5_code, 5, some .int, [(0, 10, 13, 19), (0, 10, 17, 25)]) := rfl
theorem fm_4 : ma_fi 4 = some (method_6_code, 5, some .int, [(0, 10, 13, 19), (0, 10, 17, 25)]) := rfl
theorem fm_5 : ma_fi 5 = some (method_7_code, 6, some .int, [(0, 12, 15, 19), (0, 12, 19, 25)]) := rfl
theorem fm_6 : ma_fi 6 = some (method_8_code, 6, some .int, [(0, 12, 15, 25), (0, 12, 19, 38), (0, 12, 23, 13), (0, 12, 27, 40)]) := rfl
theorem fm_7 : ma_fi 7 = some (method_9_code, 6, some .int, [(0, 12, 15, 25), (0, 12, 19, 38), (0, 12, 23, 13), (0, 12, 27, 40)]) := rfl
theorem fm_8 : ma_fi 8 = some (method_10_code, 5, some .int, [(0, 10, 13, 25), (0, 10, 17, 38), (0, 10, 21, 13)]) := rfl
theorem fm_9 : ma_fi 9 = some (method_11_code, 5, some .int, [(0, 10, 13, 19), (0, 10, 17, 25), (0, 10, 21, 38)]) := rfl
theorem fm_10 : ma_fi 10 = some (method_12_code, 5, some .int, [(0, 10, 13, 19), (0, 10, 17, 25), (0, 10, 21, 38)]) := rfl
theorem fm_11 : ma_fi 11 = some (method_13_code, 5, some .int, [(0, 10, 13, 19), (0, 10, 17, 25)]) := rfl
theorem fm_12 : ma_fi 12 = some (method_14_code, 5, some .int, [(0, 10, 13, 25), (0, 10, 17, 38), (0, 10, 21, 61)]) := rfl
theorem fm_13 : ma_fi 13 = some (method_15_code, 4, some .int, [(0, 9, 12, 25), (0, 9, 15, 38)]) := rfl
theorem fm_14 : ma_fi 14 = some (method_16_code, 4, some .int, [(0, 9, 12, 19), (0, 9, 15, 25)]) := rfl
theorem fm_15 : ma_fi 15 = some (method_17_code, 3, some .int, [(0, 8, 11, 25)]) := rfl
theorem fm_16 : ma_fi 16 = some (method_18_code, 4, some .int, [(0, 9, 12, 19), (0, 9, 15, 25), (0, 9, 18, 61)]) := rfl
theorem fm_17 : ma_fi 17 = some (method_19_code, 5, some .int, [(0, 10, 13, 19), (0, 10, 17, 25), (0, 10, 21, 38)]) := rfl
theorem fm_18 : ma_fi 18 = some (method_20_code, 5, some .int, [(0, 10, 13, 19), (0, 10, 17, 25), (0, 10, 21, 61), (0, 10, 25, 13)]) := rfl
theorem fm_19 : ma_fi 19 = some (method_21_code, 4, some .int, [(0, 9, 12, 19), (0, 9, 15, 25)]) := rfl
theorem s_64 : zs 64 = some (11, 12) := rfl
theorem s_65 : zs 65 = some (21, 100) := rfl
theorem s_67 : zs 67 = some (20, 16) := rfl
theorem s_68 : zs 68 = some (20, 16) := rfl
theorem s_69 : zs 69 = some (7, 13) := rfl
theorem s_73 : zs 73 = some (20, 16) := rfl
theorem s_94 : zs 94 = some (12, 85) := rfl
theorem s_95 : zs 95 = some (21, 100) := rfl
theorem s_97 : zs 97 = some (20, 16) := rfl
theorem s_98 : zs 98 = some (20, 16) := rfl
theorem s_112 : zs 112 = some (20, 16) := rfl
theorem s_113 : zs 113 = some (20, 16) := rfl
theorem s_114 : zs 114 = some (20, 3100) := rfl
theorem s_116 : zs 116 = some (20, 128) := rfl
theorem s_125 : zs 125 = some (23, 1) := rfl
theorem r_64_0 : zfi 64 0 = some 65 := rfl
theorem r_64_5 : zfi 64 5 = some 67 := rfl
theorem r_64_6 : zfi 64 6 = some 68 := rfl
theorem r_64_8 : zfi 64 8 = some 69 := rfl
theorem r_69_3 : zfi 69 3 = some 73 := rfl
theorem r_94_1 : zfi 94 1 = some 95 := rfl
theorem r_94_5 : zfi 94 5 = some 97 := rfl
theorem r_94_6 : zfi 94 6 = some 98 := rfl
theorem r_94_51 : zfi 94 51 = some 112 := rfl
theorem r_94_52 : zfi 94 52 = some 113 := rfl
theorem r_94_53 : zfi 94 53 = some 114 := rfl
theorem r_94_65 : zfi 94 65 = some 116 := rfl
theorem f_11_9_11 : ma_fld 11 9 11 = some 0 := by decide +kernel
theorem f_11_17_11 : ma_fld 11 17 11 = some 5 := by decide +kernel
theorem f_11_20_11 : ma_fld 11 20 11 = some 6 := by decide +kernel
theorem f_11_26_11 : ma_fld 11 26 11 = some 8 := by decide +kernel
theorem f_11_68_11 : ma_fld 11 68 11 = some 1 := by decide +kernel
theorem f_11_82_11 : ma_fld 11 82 11 = some 7 := by decide +kernel
theorem f_11_98_11 : ma_fld 11 98 11 = some 11 := by decide +kernel
theorem f_11_173_7 : ma_fld 11 173 7 = some 3 := by decide +kernel
theorem f_11_238_7 : ma_fld 11 238 7 = some 7 := by decide +kernel
theorem f_11_241_7 : ma_fld 11 241 7 = some 8 := by decide +kernel
theorem f_11_244_7 : ma_fld 11 244 7 = some 6 := by decide +kernel
theorem f_11_247_7 : ma_fld 11 247 7 = some 9 := by decide +kernel
theorem f_11_250_7 : ma_fld 11 250 7 = some 10 := by decide +kernel
theorem f_11_253_7 : ma_fld 11 253 7 = some 11 := by decide +kernel
theorem f_11_256_7 : ma_fld 11 256 7 = some 12 := by decide +kernel
theorem f_11_259_7 : ma_fld 11 259 7 = some 5 := by decide +kernel
theorem f_12_1_12 : ma_fld 12 1 12 = some 0 := by decide +kernel
theorem f_12_13_12 : ma_fld 12 13 12 = some 1 := by decide +kernel
theorem f_12_20_12 : ma_fld 12 20 12 = some 5 := by decide +kernel
theorem f_12_24_12 : ma_fld 12 24 12 = some 6 := by decide +kernel
theorem f_12_68_12 : ma_fld 12 68 12 = some 51 := by decide +kernel
theorem f_12_71_12 : ma_fld 12 71 12 = some 52 := by decide +kernel
theorem f_12_74_12 : ma_fld 12 74 12 = some 53 := by decide +kernel
theorem f_12_80_12 : ma_fld 12 80 12 = some 65 := by decide +kernel
theorem f_12_107_12 : ma_fld 12 107 12 = some 3 := by decide +kernel
theorem f_12_118_12 : ma_fld 12 118 12 = some 7 := by decide +kernel
theorem f_12_199_12 : ma_fld 12 199 12 = some 10 := by decide +kernel
theorem f_12_202_12 : ma_fld 12 202 12 = some 11 := by decide +kernel
theorem f_12_222_12 : ma_fld 12 222 12 = some 18 := by decide +kernel
theorem f_12_237_12 : ma_fld 12 237 12 = some 8 := by decide +kernel
theorem f_12_240_12 : ma_fld 12 240 12 = some 44 := by decide +kernel
theorem f_12_243_12 : ma_fld 12 243 12 = some 45 := by decide +kernel
theorem f_12_246_12 : ma_fld 12 246 12 = some 46 := by decide +kernel
theorem f_12_249_12 : ma_fld 12 249 12 = some 47 := by decide +kernel
theorem f_12_252_12 : ma_fld 12 252 12 = some 48 := by decide +kernel
theorem f_12_255_12 : ma_fld 12 255 12 = some 49 := by decide +kernel
theorem f_12_258_12 : ma_fld 12 258 12 = some 50 := by decide +kernel
theorem f_12_261_12 : ma_fld 12 261 12 = some 55 := by decide +kernel
theorem f_12_264_12 : ma_fld 12 264 12 = some 56 := by decide +kernel
theorem f_12_267_12 : ma_fld 12 267 12 = some 57 := by decide +kernel
theorem f_12_270_12 : ma_fld 12 270 12 = some 58 := by decide +kernel
theorem f_12_276_12 : ma_fld 12 276 12 = some 59 := by decide +kernel
theorem f_12_279_12 : ma_fld 12 279 12 = some 60 := by decide +kernel
theorem f_12_285_12 : ma_fld 12 285 12 = some 63 := by decide +kernel
theorem p_11_68_11 : ma_pk 11 68 11 1 = true := by decide +kernel
theorem p_11_82_11 : ma_pk 11 82 11 7 = true := by decide +kernel
theorem p_12_1_12 : ma_pk 12 1 12 0 = true := by decide +kernel
theorem p_12_107_12 : ma_pk 12 107 12 3 = true := by decide +kernel
theorem p_12_118_12 : ma_pk 12 118 12 7 = true := by decide +kernel
theorem p_12_261_12 : ma_pk 12 261 12 55 = true := by decide +kernel
theorem v_11_75_11 : ma_vl 11 75 11 = some (1, 138, 1) := by decide +kernel
theorem v_11_113_11 : ma_vl 11 113 11 = some (1, 143, 4) := by decide +kernel
theorem v_11_119_11 : ma_vl 11 119 11 = some (1, 144, 0) := by decide +kernel
theorem v_11_123_11 : ma_vl 11 123 11 = some (1, 149, 1) := by decide +kernel
theorem v_11_142_11 : ma_vl 11 142 11 = some (1, 151, 1) := by decide +kernel
theorem v_11_176_7 : ma_vl 11 176 7 = some (0, 81, 1) := by decide +kernel
theorem v_11_203_7 : ma_vl 11 203 7 = some (0, 98, 0) := by decide +kernel
theorem v_12_110_12 : ma_vl 12 110 12 = some (1, 167, 1) := by decide +kernel
theorem v_12_114_12 : ma_vl 12 114 12 = some (1, 168, 1) := by decide +kernel
theorem v_12_346_12 : ma_vl 12 346 12 = some (1, 187, 0) := by decide +kernel
theorem v_12_384_12 : ma_vl 12 384 12 = some (1, 211, 0) := by decide +kernel
theorem v_12_396_12 : ma_vl 12 396 12 = some (1, 221, 1) := by decide +kernel
theorem v_12_402_12 : ma_vl 12 402 12 = some (1, 222, 1) := by decide +kernel
theorem v_12_408_12 : ma_vl 12 408 12 = some (1, 219, 0) := by decide +kernel
theorem v_12_411_12 : ma_vl 12 411 12 = some (1, 230, 0) := by decide +kernel
theorem v_12_423_12 : ma_vl 12 423 12 = some (1, 226, 2) := by decide +kernel
theorem v_12_454_12 : ma_vl 12 454 12 = some (1, 233, 0) := by decide +kernel
theorem v_12_457_12 : ma_vl 12 457 12 = some (1, 235, 0) := by decide +kernel
theorem v_12_460_12 : ma_vl 12 460 12 = some (1, 186, 0) := by decide +kernel
theorem v_12_463_12 : ma_vl 12 463 12 = some (1, 206, 0) := by decide +kernel
theorem v_12_481_12 : ma_vl 12 481 12 = some (1, 238, 2) := by decide +kernel
theorem v_12_493_12 : ma_vl 12 493 12 = some (1, 182, 1) := by decide +kernel
theorem v_12_496_12 : ma_vl 12 496 12 = some (1, 183, 3) := by decide +kernel
theorem v_12_499_12 : ma_vl 12 499 12 = some (1, 245, 1) := by decide +kernel
theorem v_12_502_12 : ma_vl 12 502 12 = some (1, 248, 1) := by decide +kernel
theorem v_12_505_12 : ma_vl 12 505 12 = some (1, 261, 0) := by decide +kernel
theorem v_14_7_11 : ma_vl 14 7 11 = some (0, 137, 5) := by decide +kernel
theorem v_14_15_11 : ma_vl 14 15 11 = some (0, 139, 1) := by decide +kernel
theorem v_14_21_11 : ma_vl 14 21 11 = some (0, 140, 2) := by decide +kernel
theorem v_14_27_11 : ma_vl 14 27 11 = some (0, 141, 2) := by decide +kernel
theorem v_14_30_11 : ma_vl 14 30 11 = some (0, 147, 3) := by decide +kernel
theorem v_14_34_11 : ma_vl 14 34 11 = some (0, 148, 3) := by decide +kernel
theorem v_14_42_11 : ma_vl 14 42 11 = some (0, 150, 3) := by decide +kernel
theorem v_14_45_11 : ma_vl 14 45 11 = some (0, 152, 2) := by decide +kernel
theorem v_14_48_11 : ma_vl 14 48 11 = some (0, 153, 2) := by decide +kernel
theorem v_14_51_11 : ma_vl 14 51 11 = some (0, 154, 2) := by decide +kernel
theorem v_14_54_11 : ma_vl 14 54 11 = some (0, 155, 2) := by decide +kernel
theorem v_14_57_11 : ma_vl 14 57 11 = some (0, 156, 2) := by decide +kernel
theorem v_14_63_11 : ma_vl 14 63 11 = some (0, 157, 1) := by decide +kernel
theorem v_14_66_11 : ma_vl 14 66 11 = some (0, 158, 1) := by decide +kernel
theorem v_14_69_11 : ma_vl 14 69 11 = some (0, 159, 0) := by decide +kernel
theorem v_14_73_11 : ma_vl 14 73 11 = some (0, 160, 1) := by decide +kernel
theorem v_14_76_11 : ma_vl 14 76 11 = some (0, 161, 2) := by decide +kernel
theorem v_14_79_11 : ma_vl 14 79 11 = some (0, 162, 2) := by decide +kernel
theorem v_14_82_11 : ma_vl 14 82 11 = some (0, 163, 1) := by decide +kernel
theorem v_14_94_12 : ma_vl 14 94 12 = some (0, 166, 5) := by decide +kernel
theorem v_14_95_12 : ma_vl 14 95 12 = some (0, 164, 0) := by decide +kernel
theorem v_14_101_12 : ma_vl 14 101 12 = some (0, 169, 1) := by decide +kernel
theorem v_14_105_12 : ma_vl 14 105 12 = some (0, 170, 2) := by decide +kernel
theorem v_14_106_11 : ma_vl 14 106 11 = some (0, 127, 0) := by decide +kernel
theorem v_14_109_12 : ma_vl 14 109 12 = some (0, 171, 0) := by decide +kernel
theorem v_14_112_12 : ma_vl 14 112 12 = some (0, 181, 2) := by decide +kernel
theorem v_14_116_12 : ma_vl 14 116 12 = some (0, 243, 3) := by decide +kernel
theorem v_14_120_12 : ma_vl 14 120 12 = some (0, 244, 3) := by decide +kernel
theorem v_14_123_12 : ma_vl 14 123 12 = some (0, 247, 3) := by decide +kernel
theorem v_14_126_12 : ma_vl 14 126 12 = some (0, 249, 2) := by decide +kernel
theorem v_14_129_12 : ma_vl 14 129 12 = some (0, 250, 2) := by decide +kernel
theorem v_14_132_12 : ma_vl 14 132 12 = some (0, 251, 2) := by decide +kernel
theorem v_14_135_12 : ma_vl 14 135 12 = some (0, 252, 2) := by decide +kernel
theorem v_14_139_12 : ma_vl 14 139 12 = some (0, 253, 2) := by decide +kernel
theorem v_14_142_12 : ma_vl 14 142 12 = some (0, 254, 1) := by decide +kernel
theorem v_14_145_12 : ma_vl 14 145 12 = some (0, 255, 1) := by decide +kernel
theorem v_14_149_12 : ma_vl 14 149 12 = some (0, 256, 0) := by decide +kernel
theorem v_14_152_12 : ma_vl 14 152 12 = some (0, 257, 1) := by decide +kernel
theorem v_14_155_12 : ma_vl 14 155 12 = some (0, 258, 2) := by decide +kernel
theorem v_14_158_12 : ma_vl 14 158 12 = some (0, 259, 2) := by decide +kernel
theorem v_14_161_12 : ma_vl 14 161 12 = some (0, 260, 1) := by decide +kernel
theorem sl_11_109 : ma_sl 11 109 = some (5, 142, 1) := by decide +kernel
theorem pn_11_109 : ma_prt 11 109 = none := by decide +kernel
theorem x_11_72_74 : ma_xt 11 72 74 = some 1 := by decide +kernel
theorem x_11_79_81 : ma_xt 11 79 81 = some 2 := by decide +kernel
theorem x_11_85_87 : ma_xt 11 85 87 = some 3 := by decide +kernel
theorem n_11_72 : ma_nwt 11 72 = none := by decide +kernel
theorem n_11_79 : ma_nwt 11 79 = none := by decide +kernel
theorem n_11_85 : ma_nwt 11 85 = none := by decide +kernel
theorem l2_11_117 : ma_l2t 11 117 = some (-1 : Int64) := by decide +kernel
theorem cw_89 : ma_cwl 89 = some (1, 7) := by decide +kernel
theorem cw_98 : ma_cwl 98 = some (2, 3) := by decide +kernel
theorem cw_102 : ma_cwl 102 = some (3, 4) := by decide +kernel
theorem cw_110 : ma_cwl 110 = some (4, 4) := by decide +kernel
theorem cw_113 : ma_cwl 113 = some (5, 5) := by decide +kernel
theorem cw_117 : ma_cwl 117 = some (6, 5) := by decide +kernel
theorem cw_121 : ma_cwl 121 = some (7, 5) := by decide +kernel
theorem cw_124 : ma_cwl 124 = some (8, 4) := by decide +kernel
theorem cw_127 : ma_cwl 127 = some (9, 4) := by decide +kernel
theorem cw_130 : ma_cwl 130 = some (10, 4) := by decide +kernel
theorem cw_133 : ma_cwl 133 = some (11, 4) := by decide +kernel
theorem cw_136 : ma_cwl 136 = some (12, 4) := by decide +kernel
theorem cw_140 : ma_cwl 140 = some (13, 3) := by decide +kernel
theorem cw_143 : ma_cwl 143 = some (14, 3) := by decide +kernel
theorem cw_146 : ma_cwl 146 = some (15, 2) := by decide +kernel
theorem cw_150 : ma_cwl 150 = some (16, 3) := by decide +kernel
theorem cw_153 : ma_cwl 153 = some (17, 4) := by decide +kernel
theorem cw_156 : ma_cwl 156 = some (18, 4) := by decide +kernel
theorem cw_159 : ma_cwl 159 = some (19, 3) := by decide +kernel
