/-! tables, of the reference -/
set_option maxRecDepth 100000 in
theorem hm_168 : ma_md 168 = some (12, yX12_four, cX12_four, 3, none) := rfl
set_option maxRecDepth 100000 in
theorem hm_173 : ma_md 173 = some (12, yX12_token, cX12_token, 1, (some (FieldType.boolean))) := rfl
set_option maxRecDepth 100000 in
theorem hm_174 : ma_md 174 = some (12, yX12_wrong, cX12_wrong, 2, (some (FieldType.boolean))) := rfl
set_option maxRecDepth 100000 in
theorem hm_175 : ma_md 175 = some (12, yX12_is, cX12_is, 9, (some (FieldType.boolean))) := rfl
set_option maxRecDepth 100000 in
theorem hm_176 : ma_md 176 = some (12, yX12_byteIs, cX12_byteIs, 3, (some (FieldType.boolean))) := rfl
set_option maxRecDepth 100000 in
theorem hm_177 : ma_md 177 = some (12, yX12_number, cX12_number, 7, (some (FieldType.boolean))) := rfl
set_option maxRecDepth 100000 in
theorem hm_187 : ma_md 187 = some (12, yX12_sweep, cX12_sweep, 1, (some (FieldType.int))) := rfl
set_option maxRecDepth 100000 in
theorem hm_188 : ma_md 188 = some (12, yX12_keepReached, cX12_keepReached, 2, none) := rfl
set_option maxRecDepth 100000 in
theorem hm_189 : ma_md 189 = some (12, yX12_keepNone, cX12_keepNone, 2, none) := rfl
set_option maxRecDepth 100000 in
theorem hm_190 : ma_md 190 = some (12, yX12_keep, cX12_keep, 2, none) := rfl
set_option maxRecDepth 100000 in
theorem hm_191 : ma_md 191 = some (12, yX12_keepAll, cX12_keepAll, 3, none) := rfl
set_option maxRecDepth 100000 in
theorem hm_192 : ma_md 192 = some (12, yX12_reference, cX12_reference, 3, (some (FieldType.int))) := rfl
set_option maxRecDepth 100000 in
theorem hm_193 : ma_md 193 = some (12, yX12_isReference, cX12_isReference, 3, (some (FieldType.boolean))) := rfl
set_option maxRecDepth 100000 in
theorem hm_194 : ma_md 194 = some (12, yX12_grantAll, cX12_grantAll, 3, none) := rfl
set_option maxRecDepth 100000 in
theorem hm_195 : ma_md 195 = some (12, yX12_wisher, cX12_wisher, 5, (some (FieldType.int))) := rfl
set_option maxRecDepth 100000 in
theorem hm_196 : ma_md 196 = some (12, yX12_isOld, cX12_isOld, 2, (some (FieldType.boolean))) := rfl
set_option maxRecDepth 100000 in
theorem hm_197 : ma_md 197 = some (12, yX12_toWishes, cX12_toWishes, 2, none) := rfl
set_option maxRecDepth 100000 in
theorem hm_198 : ma_md 198 = some (12, yX12_unweak, cX12_unweak, 3, none) := rfl
set_option maxRecDepth 100000 in
theorem hm_199 : ma_md 199 = some (12, yX12_unweakRest, cX12_unweakRest, 2, none) := rfl
set_option maxRecDepth 100000 in
theorem hm_200 : ma_md 200 = some (12, yX12_removeRest, cX12_removeRest, 4, (some (FieldType.int))) := rfl
set_option maxRecDepth 100000 in
theorem hm_201 : ma_md 201 = some (12, yX12_sizeOf, cX12_sizeOf, 2, (some (FieldType.int))) := rfl
set_option maxRecDepth 100000 in
theorem hm_202 : ma_md 202 = some (12, yX12_uncountKept, cX12_uncountKept, 2, none) := rfl
set_option maxRecDepth 100000 in
theorem hm_203 : ma_md 203 = some (12, yX12_remove, cX12_remove, 2, none) := rfl
set_option maxRecDepth 100000 in
theorem hm_205 : ma_md 205 = some (12, yX12_move, cX12_move, 3, none) := rfl
set_option maxRecDepth 100000 in
theorem hm_217 : ma_md 217 = some (12, yX12_findInSteps, cX12_findInSteps, 5, (some (FieldType.int))) := rfl
set_option maxRecDepth 100000 in
theorem hm_218 : ma_md 218 = some (12, yX12_freeWords, cX12_freeWords, 1, (some (FieldType.int))) := rfl
set_option maxRecDepth 100000 in
theorem hm_219 : ma_md 219 = some (12, yX12_beginMarking, cX12_beginMarking, 2, none) := rfl
set_option maxRecDepth 100000 in
theorem hm_220 : ma_md 220 = some (12, yX12_greyRoots, cX12_greyRoots, 4, none) := rfl
set_option maxRecDepth 100000 in
theorem hm_221 : ma_md 221 = some (12, yX12_toGrey, cX12_toGrey, 2, none) := rfl
set_option maxRecDepth 100000 in
theorem hm_222 : ma_md 222 = some (12, yX12_steps, cX12_steps, 5, (some (FieldType.int))) := rfl
set_option maxRecDepth 100000 in
theorem hm_223 : ma_md 223 = some (12, yX12_lookEmpty, cX12_lookEmpty, 2, (some (FieldType.int))) := rfl
set_option maxRecDepth 100000 in
theorem hm_224 : ma_md 224 = some (12, yX12_find, cX12_find, 5, (some (FieldType.int))) := rfl
set_option maxRecDepth 100000 in
theorem hm_225 : ma_md 225 = some (12, yX12_firstFit, cX12_firstFit, 5, (some (FieldType.int))) := rfl
set_option maxRecDepth 100000 in
theorem hm_226 : ma_md 226 = some (12, yX12_blockFrom, cX12_blockFrom, 5, (some (FieldType.int))) := rfl
set_option maxRecDepth 100000 in
theorem hm_227 : ma_md 227 = some (12, yX12_startOf, cX12_startOf, 3, (some (FieldType.int))) := rfl
set_option maxRecDepth 100000 in
theorem hm_228 : ma_md 228 = some (12, yX12_firstFitAhead, cX12_firstFitAhead, 4, (some (FieldType.int))) := rfl
set_option maxRecDepth 100000 in
theorem hm_229 : ma_md 229 = some (12, yX12_whole, cX12_whole, 1, (some (FieldType.int))) := rfl
set_option maxRecDepth 100000 in
theorem hm_230 : ma_md 230 = some (12, yX12_finish, cX12_finish, 3, (some (FieldType.int))) := rfl
set_option maxRecDepth 100000 in
theorem hm_233 : ma_md 233 = some (12, yX12_emptyRegions, cX12_emptyRegions, 3, (some (FieldType.int))) := rfl
set_option maxRecDepth 100000 in
theorem hm_234 : ma_md 234 = some (12, yX12_leastEmpty, cX12_leastEmpty, 2, (some (FieldType.int))) := rfl
set_option maxRecDepth 100000 in
theorem hm_235 : ma_md 235 = some (12, yX12_cleanRegions, cX12_cleanRegions, 10, (some (FieldType.int))) := rfl
set_option maxRecDepth 100000 in
theorem hm_236 : ma_md 236 = some (12, yX12_sparse, cX12_sparse, 3, (some (FieldType.int))) := rfl
set_option maxRecDepth 100000 in
theorem hm_237 : ma_md 237 = some (12, yX12_findByForm, cX12_findByForm, 4, (some (FieldType.int))) := rfl
set_option maxRecDepth 100000 in
theorem hm_241 : ma_md 241 = some (12, yX12_less, cX12_less, 5, none) := rfl
set_option maxRecDepth 100000 in
theorem hm_242 : ma_md 242 = some (12, yX12_fall, cX12_fall, 2, none) := rfl
set_option maxRecDepth 100000 in
theorem hm_246 : ma_md 246 = some (12, yX12_placeOf, cX12_placeOf, 3, (some (FieldType.int))) := rfl
theorem s_94 : zs 94 = some (12, 85) := rfl
theorem s_95 : zs 95 = some (21, 100) := rfl
theorem s_96 : zs 96 = some (21, 100) := rfl
theorem s_98 : zs 98 = some (20, 16) := rfl
theorem s_99 : zs 99 = some (22, 3100) := rfl
theorem s_100 : zs 100 = some (20, 3100) := rfl
theorem s_101 : zs 101 = some (20, 3100) := rfl
theorem s_102 : zs 102 = some (20, 3100) := rfl
theorem s_103 : zs 103 = some (20, 3100) := rfl
theorem s_105 : zs 105 = some (20, 3100) := rfl
theorem s_106 : zs 106 = some (20, 3100) := rfl
theorem s_107 : zs 107 = some (20, 3100) := rfl
theorem s_108 : zs 108 = some (20, 186000) := rfl
theorem s_109 : zs 109 = some (22, 3100) := rfl
theorem s_110 : zs 110 = some (22, 3100) := rfl
theorem s_111 : zs 111 = some (20, 4600) := rfl
theorem s_112 : zs 112 = some (20, 16) := rfl
theorem s_113 : zs 113 = some (20, 16) := rfl
theorem s_114 : zs 114 = some (20, 3100) := rfl
theorem s_115 : zs 115 = some (20, 3100) := rfl
theorem s_116 : zs 116 = some (20, 128) := rfl
theorem s_118 : zs 118 = some (20, 3100) := rfl
theorem s_120 : zs 120 = some (20, 3100) := rfl
theorem s_121 : zs 121 = some (20, 3100) := rfl
theorem s_122 : zs 122 = some (20, 128) := rfl
theorem s_123 : zs 123 = some (22, 128) := rfl
theorem s_124 : zs 124 = some (22, 128) := rfl
theorem r_94_1 : zfi 94 1 = some 95 := rfl
theorem r_94_2 : zfi 94 2 = some 96 := rfl
theorem r_94_6 : zfi 94 6 = some 98 := rfl
theorem r_94_31 : zfi 94 31 = some 99 := rfl
theorem r_94_32 : zfi 94 32 = some 100 := rfl
theorem r_94_33 : zfi 94 33 = some 101 := rfl
theorem r_94_34 : zfi 94 34 = some 102 := rfl
theorem r_94_35 : zfi 94 35 = some 103 := rfl
theorem r_94_37 : zfi 94 37 = some 105 := rfl
theorem r_94_38 : zfi 94 38 = some 106 := rfl
theorem r_94_39 : zfi 94 39 = some 107 := rfl
theorem r_94_40 : zfi 94 40 = some 108 := rfl
theorem r_94_41 : zfi 94 41 = some 109 := rfl
theorem r_94_42 : zfi 94 42 = some 110 := rfl
theorem r_94_43 : zfi 94 43 = some 111 := rfl
theorem r_94_51 : zfi 94 51 = some 112 := rfl
theorem r_94_52 : zfi 94 52 = some 113 := rfl
theorem r_94_53 : zfi 94 53 = some 114 := rfl
theorem r_94_54 : zfi 94 54 = some 115 := rfl
theorem r_94_65 : zfi 94 65 = some 116 := rfl
theorem r_94_72 : zfi 94 72 = some 118 := rfl
theorem r_94_78 : zfi 94 78 = some 120 := rfl
theorem r_94_79 : zfi 94 79 = some 121 := rfl
theorem r_94_81 : zfi 94 81 = some 122 := rfl
theorem r_94_82 : zfi 94 82 = some 123 := rfl
theorem r_94_83 : zfi 94 83 = some 124 := rfl
theorem f_12_13_12 : ma_fld 12 13 12 = some 1 := by decide +kernel
theorem f_12_17_12 : ma_fld 12 17 12 = some 2 := by decide +kernel
theorem f_12_24_12 : ma_fld 12 24 12 = some 6 := by decide +kernel
theorem f_12_27_12 : ma_fld 12 27 12 = some 31 := by decide +kernel
theorem f_12_31_12 : ma_fld 12 31 12 = some 32 := by decide +kernel
theorem f_12_34_12 : ma_fld 12 34 12 = some 33 := by decide +kernel
theorem f_12_37_12 : ma_fld 12 37 12 = some 34 := by decide +kernel
theorem f_12_40_12 : ma_fld 12 40 12 = some 35 := by decide +kernel
theorem f_12_46_12 : ma_fld 12 46 12 = some 37 := by decide +kernel
theorem f_12_49_12 : ma_fld 12 49 12 = some 38 := by decide +kernel
theorem f_12_52_12 : ma_fld 12 52 12 = some 39 := by decide +kernel
theorem f_12_56_12 : ma_fld 12 56 12 = some 40 := by decide +kernel
theorem f_12_59_12 : ma_fld 12 59 12 = some 41 := by decide +kernel
theorem f_12_62_12 : ma_fld 12 62 12 = some 42 := by decide +kernel
theorem f_12_65_12 : ma_fld 12 65 12 = some 43 := by decide +kernel
theorem f_12_68_12 : ma_fld 12 68 12 = some 51 := by decide +kernel
theorem f_12_71_12 : ma_fld 12 71 12 = some 52 := by decide +kernel
theorem f_12_74_12 : ma_fld 12 74 12 = some 53 := by decide +kernel
theorem f_12_77_12 : ma_fld 12 77 12 = some 54 := by decide +kernel
theorem f_12_80_12 : ma_fld 12 80 12 = some 65 := by decide +kernel
theorem f_12_86_12 : ma_fld 12 86 12 = some 72 := by decide +kernel
theorem f_12_92_12 : ma_fld 12 92 12 = some 78 := by decide +kernel
theorem f_12_95_12 : ma_fld 12 95 12 = some 79 := by decide +kernel
theorem f_12_98_12 : ma_fld 12 98 12 = some 81 := by decide +kernel
theorem f_12_101_12 : ma_fld 12 101 12 = some 82 := by decide +kernel
theorem f_12_104_12 : ma_fld 12 104 12 = some 83 := by decide +kernel
theorem f_12_107_12 : ma_fld 12 107 12 = some 3 := by decide +kernel
theorem f_12_121_12 : ma_fld 12 121 12 = some 67 := by decide +kernel
theorem f_12_124_12 : ma_fld 12 124 12 = some 4 := by decide +kernel
theorem f_12_127_12 : ma_fld 12 127 12 = some 68 := by decide +kernel
theorem f_12_130_12 : ma_fld 12 130 12 = some 69 := by decide +kernel
theorem f_12_199_12 : ma_fld 12 199 12 = some 10 := by decide +kernel
theorem f_12_202_12 : ma_fld 12 202 12 = some 11 := by decide +kernel
theorem f_12_205_12 : ma_fld 12 205 12 = some 12 := by decide +kernel
theorem f_12_210_12 : ma_fld 12 210 12 = some 14 := by decide +kernel
theorem f_12_219_12 : ma_fld 12 219 12 = some 17 := by decide +kernel
theorem f_12_222_12 : ma_fld 12 222 12 = some 18 := by decide +kernel
theorem f_12_225_12 : ma_fld 12 225 12 = some 19 := by decide +kernel
theorem f_12_228_12 : ma_fld 12 228 12 = some 9 := by decide +kernel
theorem f_12_234_12 : ma_fld 12 234 12 = some 64 := by decide +kernel
theorem f_12_240_12 : ma_fld 12 240 12 = some 44 := by decide +kernel
theorem f_12_243_12 : ma_fld 12 243 12 = some 45 := by decide +kernel
theorem f_12_249_12 : ma_fld 12 249 12 = some 47 := by decide +kernel
theorem f_12_252_12 : ma_fld 12 252 12 = some 48 := by decide +kernel
theorem f_12_255_12 : ma_fld 12 255 12 = some 49 := by decide +kernel
theorem f_12_258_12 : ma_fld 12 258 12 = some 50 := by decide +kernel
theorem f_12_261_12 : ma_fld 12 261 12 = some 55 := by decide +kernel
theorem f_12_264_12 : ma_fld 12 264 12 = some 56 := by decide +kernel
theorem f_12_267_12 : ma_fld 12 267 12 = some 57 := by decide +kernel
theorem f_12_270_12 : ma_fld 12 270 12 = some 58 := by decide +kernel
theorem f_12_282_12 : ma_fld 12 282 12 = some 62 := by decide +kernel
theorem f_12_285_12 : ma_fld 12 285 12 = some 63 := by decide +kernel
theorem f_12_291_12 : ma_fld 12 291 12 = some 73 := by decide +kernel
theorem f_12_390_12 : ma_fld 12 390 12 = some 80 := by decide +kernel
theorem f_12_420_12 : ma_fld 12 420 12 = some 84 := by decide +kernel
theorem p_12_107_12 : ma_pk 12 107 12 3 = true := by decide +kernel
theorem p_12_121_12 : ma_pk 12 121 12 67 = true := by decide +kernel
theorem p_12_127_12 : ma_pk 12 127 12 68 = true := by decide +kernel
theorem p_12_130_12 : ma_pk 12 130 12 69 = true := by decide +kernel
theorem p_12_133_12 : ma_pk 12 133 12 70 = true := by decide +kernel
theorem p_12_147_12 : ma_pk 12 147 12 71 = true := by decide +kernel
theorem p_12_240_12 : ma_pk 12 240 12 44 = true := by decide +kernel
theorem p_12_243_12 : ma_pk 12 243 12 45 = true := by decide +kernel
theorem p_12_249_12 : ma_pk 12 249 12 47 = true := by decide +kernel
theorem p_12_252_12 : ma_pk 12 252 12 48 = true := by decide +kernel
theorem p_12_255_12 : ma_pk 12 255 12 49 = true := by decide +kernel
theorem p_12_258_12 : ma_pk 12 258 12 50 = true := by decide +kernel
theorem p_12_261_12 : ma_pk 12 261 12 55 = true := by decide +kernel
theorem p_12_264_12 : ma_pk 12 264 12 56 = true := by decide +kernel
theorem p_12_267_12 : ma_pk 12 267 12 57 = true := by decide +kernel
theorem p_12_270_12 : ma_pk 12 270 12 58 = true := by decide +kernel
theorem p_12_285_12 : ma_pk 12 285 12 63 = true := by decide +kernel
theorem p_12_291_12 : ma_pk 12 291 12 73 = true := by decide +kernel
theorem p_12_390_12 : ma_pk 12 390 12 80 = true := by decide +kernel
theorem p_12_420_12 : ma_pk 12 420 12 84 = true := by decide +kernel
theorem v_12_136_12 : ma_vl 12 136 12 = some (1, 176, 2) := by decide +kernel
theorem v_12_140_12 : ma_vl 12 140 12 = some (1, 173, 0) := by decide +kernel
theorem v_12_144_12 : ma_vl 12 144 12 = some (1, 174, 1) := by decide +kernel
theorem v_12_288_12 : ma_vl 12 288 12 = some (1, 193, 2) := by decide +kernel
theorem v_12_294_12 : ma_vl 12 294 12 = some (1, 192, 2) := by decide +kernel
theorem v_12_298_12 : ma_vl 12 298 12 = some (1, 190, 1) := by decide +kernel
theorem v_12_301_12 : ma_vl 12 301 12 = some (1, 189, 0) := by decide +kernel
theorem v_12_304_12 : ma_vl 12 304 12 = some (1, 191, 0) := by decide +kernel
theorem v_12_311_12 : ma_vl 12 311 12 = some (1, 188, 0) := by decide +kernel
theorem v_12_314_12 : ma_vl 12 314 12 = some (1, 196, 1) := by decide +kernel
theorem v_12_317_12 : ma_vl 12 317 12 = some (1, 198, 1) := by decide +kernel
theorem v_12_320_12 : ma_vl 12 320 12 = some (1, 195, 2) := by decide +kernel
theorem v_12_324_12 : ma_vl 12 324 12 = some (1, 197, 1) := by decide +kernel
theorem v_12_327_12 : ma_vl 12 327 12 = some (1, 201, 1) := by decide +kernel
theorem v_12_330_12 : ma_vl 12 330 12 = some (1, 202, 1) := by decide +kernel
theorem v_12_333_12 : ma_vl 12 333 12 = some (1, 203, 1) := by decide +kernel
theorem v_12_336_12 : ma_vl 12 336 12 = some (1, 194, 0) := by decide +kernel
theorem v_12_339_12 : ma_vl 12 339 12 = some (1, 199, 0) := by decide +kernel
theorem v_12_342_12 : ma_vl 12 342 12 = some (1, 200, 0) := by decide +kernel
theorem v_12_346_12 : ma_vl 12 346 12 = some (1, 187, 0) := by decide +kernel
theorem v_12_352_12 : ma_vl 12 352 12 = some (1, 205, 2) := by decide +kernel
theorem v_12_393_12 : ma_vl 12 393 12 = some (1, 242, 1) := by decide +kernel
theorem v_12_396_12 : ma_vl 12 396 12 = some (1, 221, 1) := by decide +kernel
theorem v_12_399_12 : ma_vl 12 399 12 = some (1, 220, 0) := by decide +kernel
theorem v_12_402_12 : ma_vl 12 402 12 = some (1, 222, 1) := by decide +kernel
theorem v_12_405_12 : ma_vl 12 405 12 = some (1, 223, 0) := by decide +kernel
theorem v_12_408_12 : ma_vl 12 408 12 = some (1, 219, 0) := by decide +kernel
theorem v_12_411_12 : ma_vl 12 411 12 = some (1, 230, 0) := by decide +kernel
theorem v_12_414_12 : ma_vl 12 414 12 = some (1, 236, 0) := by decide +kernel
theorem v_12_417_12 : ma_vl 12 417 12 = some (1, 234, 0) := by decide +kernel
theorem v_12_423_12 : ma_vl 12 423 12 = some (1, 226, 2) := by decide +kernel
theorem v_12_426_12 : ma_vl 12 426 12 = some (1, 225, 3) := by decide +kernel
theorem v_12_430_12 : ma_vl 12 430 12 = some (1, 227, 1) := by decide +kernel
theorem v_12_433_12 : ma_vl 12 433 12 = some (1, 228, 2) := by decide +kernel
theorem v_12_436_12 : ma_vl 12 436 12 = some (1, 224, 1) := by decide +kernel
theorem v_12_439_12 : ma_vl 12 439 12 = some (1, 218, 0) := by decide +kernel
theorem v_12_442_12 : ma_vl 12 442 12 = some (1, 229, 0) := by decide +kernel
