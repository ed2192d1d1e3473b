/-! from 94.459 -/
/-! the reference (written by wip/tools/gen94m.py) -/
set_option maxRecDepth 100000 in
theorem hm_260 : ma_md 260 = some (12, yX12_count, cX12_count, 2, (some (FieldType.int))) := rfl
theorem f_12_118_12 : ma_fld 12 118 12 = some 7 := by decide +kernel
theorem f_12_246_12 : ma_fld 12 246 12 = some 46 := by decide +kernel
theorem f_12_276_12 : ma_fld 12 276 12 = some 59 := by decide +kernel
theorem f_12_279_12 : ma_fld 12 279 12 = some 60 := by decide +kernel
theorem v_12_505_12 : ma_vl 12 505 12 = some (1, 261, 0) := by decide +kernel
theorem dX12_count_0 : decode cX12_count 0 = .ok (.aload_n 0, 1) := by decide +kernel
theorem dX12_count_1 : decode cX12_count 1 = .ok (.iload_n 1, 1) := by decide +kernel
theorem dX12_count_11 : decode cX12_count 11 = .ok (.iconst 1, 1) := by decide +kernel
theorem dX12_count_12 : decode cX12_count 12 = .ok (.goto 20, 3) := by decide +kernel
theorem dX12_count_32 : decode cX12_count 32 = .ok (.invokevirtual 110, 3) := by decide +kernel
theorem dX12_count_35 : decode cX12_count 35 = .ok (.ifCond .eq 5, 3) := by decide +kernel
theorem dX12_count_38 : decode cX12_count 38 = .ok (.iconst 0, 1) := by decide +kernel
theorem dX12_count_39 : decode cX12_count 39 = .ok (.ireturn, 1) := by decide +kernel
theorem dX12_count_5 : decode cX12_count 5 = .ok (.iload_n 1, 1) := by decide +kernel
theorem dX12_count_6 : decode cX12_count 6 = .ok (.bipush 13, 2) := by decide +kernel
theorem dX12_count_15 : decode cX12_count 15 = .ok (.iload_n 1, 1) := by decide +kernel
theorem dX12_count_16 : decode cX12_count 16 = .ok (.iconst 1, 1) := by decide +kernel
theorem dX12_count_31 : decode cX12_count 31 = .ok (.iconst 0, 1) := by decide +kernel
theorem dX12_count_40 : decode cX12_count 40 = .ok (.iload_n 1, 1) := by decide +kernel
theorem dX12_count_108 : decode cX12_count 108 = .ok (.aload_n 0, 1) := by decide +kernel
theorem dX12_count_112 : decode cX12_count 112 = .ok (.ireturn, 1) := by decide +kernel
theorem dX12_count_109 : decode cX12_count 109 = .ok (.getfield 107, 3) := by decide +kernel
theorem dX12_count_41 : decode cX12_count 41 = .ok (.tableswitch 254 0 12 #[67, 72, 77, 82, 87, 92, 97, 102, 107, 112, 117, 177, 241], 67) := by decide +kernel
theorem dX12_count_113 : decode cX12_count 113 = .ok (.aload_n 0, 1) := by decide +kernel
theorem dX12_count_117 : decode cX12_count 117 = .ok (.ireturn, 1) := by decide +kernel
theorem dX12_count_114 : decode cX12_count 114 = .ok (.getfield 118, 3) := by decide +kernel
theorem dX12_count_118 : decode cX12_count 118 = .ok (.aload_n 0, 1) := by decide +kernel
theorem dX12_count_122 : decode cX12_count 122 = .ok (.ireturn, 1) := by decide +kernel
theorem dX12_count_119 : decode cX12_count 119 = .ok (.getfield 240, 3) := by decide +kernel
theorem dX12_count_123 : decode cX12_count 123 = .ok (.aload_n 0, 1) := by decide +kernel
theorem dX12_count_127 : decode cX12_count 127 = .ok (.ireturn, 1) := by decide +kernel
theorem dX12_count_124 : decode cX12_count 124 = .ok (.getfield 243, 3) := by decide +kernel
theorem dX12_count_128 : decode cX12_count 128 = .ok (.aload_n 0, 1) := by decide +kernel
theorem dX12_count_132 : decode cX12_count 132 = .ok (.ireturn, 1) := by decide +kernel
theorem dX12_count_129 : decode cX12_count 129 = .ok (.getfield 246, 3) := by decide +kernel
theorem dX12_count_133 : decode cX12_count 133 = .ok (.aload_n 0, 1) := by decide +kernel
theorem dX12_count_137 : decode cX12_count 137 = .ok (.ireturn, 1) := by decide +kernel
theorem dX12_count_134 : decode cX12_count 134 = .ok (.getfield 249, 3) := by decide +kernel
theorem dX12_count_138 : decode cX12_count 138 = .ok (.aload_n 0, 1) := by decide +kernel
theorem dX12_count_142 : decode cX12_count 142 = .ok (.ireturn, 1) := by decide +kernel
theorem dX12_count_139 : decode cX12_count 139 = .ok (.getfield 252, 3) := by decide +kernel
theorem dX12_count_143 : decode cX12_count 143 = .ok (.aload_n 0, 1) := by decide +kernel
theorem dX12_count_147 : decode cX12_count 147 = .ok (.ireturn, 1) := by decide +kernel
theorem dX12_count_144 : decode cX12_count 144 = .ok (.getfield 255, 3) := by decide +kernel
theorem dX12_count_148 : decode cX12_count 148 = .ok (.aload_n 0, 1) := by decide +kernel
theorem dX12_count_152 : decode cX12_count 152 = .ok (.ireturn, 1) := by decide +kernel
theorem dX12_count_149 : decode cX12_count 149 = .ok (.getfield 258, 3) := by decide +kernel
theorem dX12_count_153 : decode cX12_count 153 = .ok (.aload_n 0, 1) := by decide +kernel
theorem dX12_count_157 : decode cX12_count 157 = .ok (.ireturn, 1) := by decide +kernel
theorem dX12_count_154 : decode cX12_count 154 = .ok (.getfield 261, 3) := by decide +kernel
theorem dX12_count_158 : decode cX12_count 158 = .ok (.aload_n 0, 1) := by decide +kernel
theorem dX12_count_162 : decode cX12_count 162 = .ok (.iconst 3, 1) := by decide +kernel
theorem dX12_count_173 : decode cX12_count 173 = .ok (.aload_n 0, 1) := by decide +kernel
theorem dX12_count_177 : decode cX12_count 177 = .ok (.bipush 6, 2) := by decide +kernel
theorem dX12_count_189 : decode cX12_count 189 = .ok (.aload_n 0, 1) := by decide +kernel
theorem dX12_count_193 : decode cX12_count 193 = .ok (.iconst 5, 1) := by decide +kernel
theorem dX12_count_216 : decode cX12_count 216 = .ok (.iconst 0, 1) := by decide +kernel
theorem dX12_count_217 : decode cX12_count 217 = .ok (.ireturn, 1) := by decide +kernel
theorem dX12_count_197 : decode cX12_count 197 = .ok (.aload_n 0, 1) := by decide +kernel
theorem dX12_count_204 : decode cX12_count 204 = .ok (.aload_n 0, 1) := by decide +kernel
theorem dX12_count_208 : decode cX12_count 208 = .ok (.aload_n 0, 1) := by decide +kernel
theorem dX12_count_212 : decode cX12_count 212 = .ok (.isub, 1) := by decide +kernel
theorem dX12_count_213 : decode cX12_count 213 = .ok (.goto 4, 3) := by decide +kernel
theorem dX12_count_209 : decode cX12_count 209 = .ok (.getfield 267, 3) := by decide +kernel
theorem dX12_count_205 : decode cX12_count 205 = .ok (.getfield 264, 3) := by decide +kernel
theorem dX12_count_201 : decode cX12_count 201 = .ok (.ifCond .eq 15, 3) := by decide +kernel
theorem dX12_count_198 : decode cX12_count 198 = .ok (.getfield 270, 3) := by decide +kernel
theorem dX12_count_194 : decode cX12_count 194 = .ok (.if_icmp .ne 22, 3) := by decide +kernel
theorem dX12_count_190 : decode cX12_count 190 = .ok (.getfield 199, 3) := by decide +kernel
theorem dX12_count_182 : decode cX12_count 182 = .ok (.aload_n 0, 1) := by decide +kernel
theorem dX12_count_183 : decode cX12_count 183 = .ok (.invokevirtual 454, 3) := by decide +kernel
theorem dX12_count_186 : decode cX12_count 186 = .ok (.goto 31, 3) := by decide +kernel
theorem dX12_count_179 : decode cX12_count 179 = .ok (.if_icmp .ne 10, 3) := by decide +kernel
theorem dX12_count_174 : decode cX12_count 174 = .ok (.getfield 199, 3) := by decide +kernel
theorem dX12_count_166 : decode cX12_count 166 = .ok (.aload_n 0, 1) := by decide +kernel
theorem dX12_count_167 : decode cX12_count 167 = .ok (.invokevirtual 505, 3) := by decide +kernel
theorem dX12_count_170 : decode cX12_count 170 = .ok (.goto 47, 3) := by decide +kernel
theorem dX12_count_163 : decode cX12_count 163 = .ok (.if_icmp .ne 10, 3) := by decide +kernel
theorem dX12_count_159 : decode cX12_count 159 = .ok (.getfield 199, 3) := by decide +kernel
theorem dX12_count_218 : decode cX12_count 218 = .ok (.aload_n 0, 1) := by decide +kernel
theorem dX12_count_222 : decode cX12_count 222 = .ok (.iconst 1, 1) := by decide +kernel
theorem dX12_count_242 : decode cX12_count 242 = .ok (.aload_n 0, 1) := by decide +kernel
theorem dX12_count_246 : decode cX12_count 246 = .ok (.goto 35, 3) := by decide +kernel
theorem dX12_count_281 : decode cX12_count 281 = .ok (.ireturn, 1) := by decide +kernel
theorem dX12_count_243 : decode cX12_count 243 = .ok (.getfield 276, 3) := by decide +kernel
theorem dX12_count_226 : decode cX12_count 226 = .ok (.aload_n 0, 1) := by decide +kernel
theorem dX12_count_230 : decode cX12_count 230 = .ok (.iconst 2, 1) := by decide +kernel
theorem dX12_count_234 : decode cX12_count 234 = .ok (.aload_n 0, 1) := by decide +kernel
theorem dX12_count_238 : decode cX12_count 238 = .ok (.iconst 3, 1) := by decide +kernel
theorem dX12_count_249 : decode cX12_count 249 = .ok (.aload_n 0, 1) := by decide +kernel
theorem dX12_count_253 : decode cX12_count 253 = .ok (.bipush 6, 2) := by decide +kernel
theorem dX12_count_280 : decode cX12_count 280 = .ok (.iconst 0, 1) := by decide +kernel
theorem dX12_count_258 : decode cX12_count 258 = .ok (.aload_n 0, 1) := by decide +kernel
theorem dX12_count_262 : decode cX12_count 262 = .ok (.aload_n 0, 1) := by decide +kernel
theorem dX12_count_266 : decode cX12_count 266 = .ok (.imul, 1) := by decide +kernel
theorem dX12_count_267 : decode cX12_count 267 = .ok (.aload_n 0, 1) := by decide +kernel
theorem dX12_count_271 : decode cX12_count 271 = .ok (.aload_n 0, 1) := by decide +kernel
theorem dX12_count_276 : decode cX12_count 276 = .ok (.iadd, 1) := by decide +kernel
theorem dX12_count_277 : decode cX12_count 277 = .ok (.goto 4, 3) := by decide +kernel
theorem dX12_count_275 : decode cX12_count 275 = .ok (.iaload, 1) := by decide +kernel
theorem dX12_count_272 : decode cX12_count 272 = .ok (.getfield 285, 3) := by decide +kernel
theorem dX12_count_268 : decode cX12_count 268 = .ok (.getfield 80, 3) := by decide +kernel
theorem dX12_count_263 : decode cX12_count 263 = .ok (.getfield 222, 3) := by decide +kernel
theorem dX12_count_259 : decode cX12_count 259 = .ok (.getfield 285, 3) := by decide +kernel
theorem dX12_count_255 : decode cX12_count 255 = .ok (.if_icmp .ne 25, 3) := by decide +kernel
theorem dX12_count_250 : decode cX12_count 250 = .ok (.getfield 199, 3) := by decide +kernel
theorem dX12_count_239 : decode cX12_count 239 = .ok (.if_icmp .ne 10, 3) := by decide +kernel
theorem dX12_count_235 : decode cX12_count 235 = .ok (.getfield 199, 3) := by decide +kernel
theorem dX12_count_231 : decode cX12_count 231 = .ok (.if_icmp .eq 11, 3) := by decide +kernel
theorem dX12_count_227 : decode cX12_count 227 = .ok (.getfield 199, 3) := by decide +kernel
theorem dX12_count_223 : decode cX12_count 223 = .ok (.if_icmp .eq 19, 3) := by decide +kernel
theorem dX12_count_219 : decode cX12_count 219 = .ok (.getfield 199, 3) := by decide +kernel
theorem dX12_count_282 : decode cX12_count 282 = .ok (.aload_n 0, 1) := by decide +kernel
theorem dX12_count_293 : decode cX12_count 293 = .ok (.iconst 0, 1) := by decide +kernel
theorem dX12_count_294 : decode cX12_count 294 = .ok (.ireturn, 1) := by decide +kernel
theorem dX12_count_289 : decode cX12_count 289 = .ok (.iconst 1, 1) := by decide +kernel
theorem dX12_count_290 : decode cX12_count 290 = .ok (.goto 4, 3) := by decide +kernel
theorem dX12_count_286 : decode cX12_count 286 = .ok (.ifCond .eq 7, 3) := by decide +kernel
theorem dX12_count_283 : decode cX12_count 283 = .ok (.getfield 270, 3) := by decide +kernel
theorem dX12_count_295 : decode cX12_count 295 = .ok (.aload_n 0, 1) := by decide +kernel
theorem dX12_count_299 : decode cX12_count 299 = .ok (.iconst 3, 1) := by decide +kernel
theorem dX12_count_310 : decode cX12_count 310 = .ok (.aload_n 0, 1) := by decide +kernel
theorem dX12_count_314 : decode cX12_count 314 = .ok (.bipush 6, 2) := by decide +kernel
theorem dX12_count_326 : decode cX12_count 326 = .ok (.iconst 0, 1) := by decide +kernel
theorem dX12_count_327 : decode cX12_count 327 = .ok (.ireturn, 1) := by decide +kernel
theorem dX12_count_319 : decode cX12_count 319 = .ok (.aload_n 0, 1) := by decide +kernel
theorem dX12_count_323 : decode cX12_count 323 = .ok (.goto 4, 3) := by decide +kernel
theorem dX12_count_320 : decode cX12_count 320 = .ok (.getfield 285, 3) := by decide +kernel
theorem dX12_count_316 : decode cX12_count 316 = .ok (.if_icmp .ne 10, 3) := by decide +kernel
theorem dX12_count_311 : decode cX12_count 311 = .ok (.getfield 199, 3) := by decide +kernel
theorem dX12_count_303 : decode cX12_count 303 = .ok (.aload_n 0, 1) := by decide +kernel
theorem dX12_count_307 : decode cX12_count 307 = .ok (.goto 20, 3) := by decide +kernel
theorem dX12_count_304 : decode cX12_count 304 = .ok (.getfield 279, 3) := by decide +kernel
theorem dX12_count_300 : decode cX12_count 300 = .ok (.if_icmp .ne 10, 3) := by decide +kernel
theorem dX12_count_296 : decode cX12_count 296 = .ok (.getfield 199, 3) := by decide +kernel
theorem dX12_count_20 : decode cX12_count 20 = .ok (.aload_n 0, 1) := by decide +kernel
theorem dX12_count_27 : decode cX12_count 27 = .ok (.iconst 2, 1) := by decide +kernel
theorem dX12_count_28 : decode cX12_count 28 = .ok (.goto 4, 3) := by decide +kernel
theorem dX12_count_24 : decode cX12_count 24 = .ok (.ifCond .ne 7, 3) := by decide +kernel
theorem dX12_count_21 : decode cX12_count 21 = .ok (.getfield 237, 3) := by decide +kernel
theorem dX12_count_17 : decode cX12_count 17 = .ok (.if_icmp .le 14, 3) := by decide +kernel
theorem dX12_count_8 : decode cX12_count 8 = .ok (.if_icmp .le 7, 3) := by decide +kernel
theorem dX12_count_2 : decode cX12_count 2 = .ok (.ifCond .lt 9, 3) := by decide +kernel
def wr_260 (c k : Nat) : Bool := (Nat.beq c 94 && (Nat.beq k 0))
theorem ws_233_260 : ∀ c k, wr_233 c k = true → wr_260 c k = true := fun _ _ h => by cases h
theorem ws_261_260 : ∀ c k, wr_261 c k = true → wr_260 c k = true := fun _ _ h => by cases h
theorem g_260_0 {X : Nat × (Nat → Int32)} {m : Nat → Nat → Int32} {P : Option ma_V → (Nat → Nat → Int32) → Prop} (wh : Int32) (h : if wh < 0 then (P (some (.inl (0 : Int32))) (ma_u m 94 0 (1 : Int32))) else (if wh ≤ (13 : Int32) then (if wh ≤ (1 : Int32) then (if wh = (0 : Int32) then (P (some (.inl (m 94 3))) (ma_u m 94 0 (0 : Int32))) else (if wh = (1 : Int32) then (P (some (.inl (m 94 7))) (ma_u m 94 0 (0 : Int32))) else (if wh = (2 : Int32) then (P (some (.inl (m 94 44))) (ma_u m 94 0 (0 : Int32))) else (if wh = (3 : Int32) then (P (some (.inl (m 94 45))) (ma_u m 94 0 (0 : Int32))) else (if wh = (4 : Int32) then (P (some (.inl (m 94 46))) (ma_u m 94 0 (0 : Int32))) else (if wh = (5 : Int32) then (P (some (.inl (m 94 47))) (ma_u m 94 0 (0 : Int32))) else (if wh = (6 : Int32) then (P (some (.inl (m 94 48))) (ma_u m 94 0 (0 : Int32))) else (if wh = (7 : Int32) then (P (some (.inl (m 94 49))) (ma_u m 94 0 (0 : Int32))) else (if wh = (8 : Int32) then (P (some (.inl (m 94 50))) (ma_u m 94 0 (0 : Int32))) else (if wh = (9 : Int32) then (P (some (.inl (m 94 55))) (ma_u m 94 0 (0 : Int32))) else (if wh = (10 : Int32) then (if (m 94 10) = (3 : Int32) then (zm X 0 0 261 0 [(0, .inr (.inr (some 94)))] (ma_u m 94 0 (0 : Int32)) (zmi (fun v4 m3 => P (some (.inl v4)) m3))) else (if (m 94 10) = (6 : Int32) then (zm X 0 0 233 0 [(0, .inr (.inr (some 94)))] (ma_u m 94 0 (0 : Int32)) (zmi (fun v2 m1 => P (some (.inl v2)) m1))) else (if (m 94 10) = (5 : Int32) then (if (m 94 58) = 0 then (P (some (.inl (0 : Int32))) (ma_u m 94 0 (0 : Int32))) else (P (some (.inl ((m 94 56) - (m 94 57)))) (ma_u m 94 0 (0 : Int32)))) else (P (some (.inl (0 : Int32))) (ma_u m 94 0 (0 : Int32)))))) else (if wh = (11 : Int32) then (if (m 94 10) = (1 : Int32) then (P (some (.inl (m 94 59))) (ma_u m 94 0 (0 : Int32))) else (if (m 94 10) = (2 : Int32) then (P (some (.inl (m 94 59))) (ma_u m 94 0 (0 : Int32))) else (if (m 94 10) = (3 : Int32) then (P (some (.inl (m 94 59))) (ma_u m 94 0 (0 : Int32))) else (if (m 94 10) = (6 : Int32) then ((0 ≤ (m 94 63) ∧ (m 94 63).toNatClampNeg < 128) ∧ (P (some (.inl (((m 94 63) * (m 94 18)) + (m 116 (m 94 63).toNatClampNeg)))) (ma_u m 94 0 (0 : Int32)))) else (P (some (.inl (0 : Int32))) (ma_u m 94 0 (0 : Int32))))))) else (if wh = (12 : Int32) then (if (m 94 58) = 0 then (P (some (.inl (0 : Int32))) (ma_u m 94 0 (0 : Int32))) else (P (some (.inl (1 : Int32))) (ma_u m 94 0 (0 : Int32)))) else (if (m 94 10) = (3 : Int32) then (P (some (.inl (m 94 60))) (ma_u m 94 0 (0 : Int32))) else (if (m 94 10) = (6 : Int32) then (P (some (.inl (m 94 63))) (ma_u m 94 0 (0 : Int32))) else (P (some (.inl (0 : Int32))) (ma_u m 94 0 (0 : Int32)))))))))))))))))) else (if (m 94 8) = 0 then (P (some (.inl (0 : Int32))) (ma_u m 94 0 (2 : Int32))) else (if wh = (0 : Int32) then (P (some (.inl (m 94 3))) (ma_u m 94 0 (0 : Int32))) else (if wh = (1 : Int32) then (P (some (.inl (m 94 7))) (ma_u m 94 0 (0 : Int32))) else (if wh = (2 : Int32) then (P (some (.inl (m 94 44))) (ma_u m 94 0 (0 : Int32))) else (if wh = (3 : Int32) then (P (some (.inl (m 94 45))) (ma_u m 94 0 (0 : Int32))) else (if wh = (4 : Int32) then (P (some (.inl (m 94 46))) (ma_u m 94 0 (0 : Int32))) else (if wh = (5 : Int32) then (P (some (.inl (m 94 47))) (ma_u m 94 0 (0 : Int32))) else (if wh = (6 : Int32) then (P (some (.inl (m 94 48))) (ma_u m 94 0 (0 : Int32))) else (if wh = (7 : Int32) then (P (some (.inl (m 94 49))) (ma_u m 94 0 (0 : Int32))) else (if wh = (8 : Int32) then (P (some (.inl (m 94 50))) (ma_u m 94 0 (0 : Int32))) else (if wh = (9 : Int32) then (P (some (.inl (m 94 55))) (ma_u m 94 0 (0 : Int32))) else (if wh = (10 : Int32) then (if (m 94 10) = (3 : Int32) then (zm X 0 0 261 0 [(0, .inr (.inr (some 94)))] (ma_u m 94 0 (0 : Int32)) (zmi (fun v8 m7 => P (some (.inl v8)) m7))) else (if (m 94 10) = (6 : Int32) then (zm X 0 0 233 0 [(0, .inr (.inr (some 94)))] (ma_u m 94 0 (0 : Int32)) (zmi (fun v6 m5 => P (some (.inl v6)) m5))) else (if (m 94 10) = (5 : Int32) then (if (m 94 58) = 0 then (P (some (.inl (0 : Int32))) (ma_u m 94 0 (0 : Int32))) else (P (some (.inl ((m 94 56) - (m 94 57)))) (ma_u m 94 0 (0 : Int32)))) else (P (some (.inl (0 : Int32))) (ma_u m 94 0 (0 : Int32)))))) else (if wh = (11 : Int32) then (if (m 94 10) = (1 : Int32) then (P (some (.inl (m 94 59))) (ma_u m 94 0 (0 : Int32))) else (if (m 94 10) = (2 : Int32) then (P (some (.inl (m 94 59))) (ma_u m 94 0 (0 : Int32))) else (if (m 94 10) = (3 : Int32) then (P (some (.inl (m 94 59))) (ma_u m 94 0 (0 : Int32))) else (if (m 94 10) = (6 : Int32) then ((0 ≤ (m 94 63) ∧ (m 94 63).toNatClampNeg < 128) ∧ (P (some (.inl (((m 94 63) * (m 94 18)) + (m 116 (m 94 63).toNatClampNeg)))) (ma_u m 94 0 (0 : Int32)))) else (P (some (.inl (0 : Int32))) (ma_u m 94 0 (0 : Int32))))))) else (if wh = (12 : Int32) then (if (m 94 58) = 0 then (P (some (.inl (0 : Int32))) (ma_u m 94 0 (0 : Int32))) else (P (some (.inl (1 : Int32))) (ma_u m 94 0 (0 : Int32)))) else (if (m 94 10) = (3 : Int32) then (P (some (.inl (m 94 60))) (ma_u m 94 0 (0 : Int32))) else (if (m 94 10) = (6 : Int32) then (P (some (.inl (m 94 63))) (ma_u m 94 0 (0 : Int32))) else (P (some (.inl (0 : Int32))) (ma_u m 94 0 (0 : Int32)))))))))))))))))))) else (P (some (.inl (0 : Int32))) (ma_u m 94 0 (1 : Int32))))) : zm X 1 22 260 0 [(0, .inr (.inr (some 94))), (1, .inl wh)] m P := by
  intro d w S Q hd hw hS hm HQ
  subst hm
  refine zw_push hm_260 dX12_count_0 (v := .inr (.inr (some 94))) rfl ?_
  refine zw_push hm_260 dX12_count_1 (v := .inl wh) rfl ?_
  refine zw_if0 hm_260 dX12_count_2 (t := 11) rfl zc0_lt ?_ ?_
  · intro hc
    rw [if_pos hc] at h
    refine zw_push hm_260 dX12_count_11 (v := .inl (1 : Int32)) rfl ?_
    refine zw_goto hm_260 dX12_count_12 (t := 32) rfl ?_
    refine zw_cv hm_260 dX12_count_32 v_12_110_12 hm_167 [.inl (1 : Int32)] [] rfl (zT_rt hS s_94 rfl) ⟨by omega, by omega⟩ rfl ?_
    show ma_wp X (d - 1) (w - 21) 167 0 [(0, .inr (.inr (some 94))), (1, .inl (1 : Int32))] [] S _
    refine zw_push hm_167 dX12_fails_0 (v := .inr (.inr (some 94))) rfl ?_
    refine zw_push hm_167 dX12_fails_1 (v := .inl (1 : Int32)) rfl ?_
    refine zw_pf hm_167 dX12_fails_2 (zT_is hS s_94) (zT_t hS s_94) p_12_1_12 zk_int ?_
    refine zw_push hm_167 dX12_fails_5 (v := .inl (1 : Int32)) rfl ?_
    refine zw_if0 hm_167 dX12_fails_6 (t := 13) rfl zc0_eq (fun hc => absurd hc (by decide)) (fun _ => ?_)
    refine zw_push hm_167 dX12_fails_9 (v := .inl (1 : Int32)) rfl ?_
    refine zw_goto hm_167 dX12_fails_10 (t := 14) rfl ?_
    refine zw_bret hm_167 dX12_fails_14 (by decide) ?_
    show ma_wp X d w 260 35 [(0, .inr (.inr (some 94))), (1, .inl wh)] [.inl (1 : Int32)] (ma_put S 94 0 (.inl (1 : Int32))) _
    refine zw_if0 hm_260 dX12_count_35 (t := 40) rfl zc0_eq (fun hc => absurd hc (by decide)) (fun _ => ?_)
    refine zw_push hm_260 dX12_count_38 (v := .inl (0 : Int32)) rfl ?_
    exact zw_iret hm_260 dX12_count_39 (HQ _ _ h)
  · intro hc
    rw [if_neg hc] at h
    refine zw_push hm_260 dX12_count_5 (v := .inl wh) rfl ?_
    refine zw_push hm_260 dX12_count_6 (v := .inl (13 : Int32)) rfl ?_
    refine zw_if2 hm_260 dX12_count_8 (t := 15) rfl zc2_le ?_ ?_
    · intro hc
      rw [if_pos hc] at h
      refine zw_push hm_260 dX12_count_15 (v := .inl wh) rfl ?_
      refine zw_push hm_260 dX12_count_16 (v := .inl (1 : Int32)) rfl ?_
      refine zw_if2 hm_260 dX12_count_17 (t := 31) rfl zc2_le ?_ ?_
      · intro hc
        rw [if_pos hc] at h
        refine zw_push hm_260 dX12_count_31 (v := .inl (0 : Int32)) rfl ?_
        refine zw_cv hm_260 dX12_count_32 v_12_110_12 hm_167 [.inl (0 : Int32)] [] rfl (zT_rt hS s_94 rfl) ⟨by omega, by omega⟩ rfl ?_
        show ma_wp X (d - 1) (w - 21) 167 0 [(0, .inr (.inr (some 94))), (1, .inl (0 : Int32))] [] S _
        refine zw_push hm_167 dX12_fails_0 (v := .inr (.inr (some 94))) rfl ?_
        refine zw_push hm_167 dX12_fails_1 (v := .inl (0 : Int32)) rfl ?_
        refine zw_pf hm_167 dX12_fails_2 (zT_is hS s_94) (zT_t hS s_94) p_12_1_12 zk_int ?_
        refine zw_push hm_167 dX12_fails_5 (v := .inl (0 : Int32)) rfl ?_
        refine zw_if0 hm_167 dX12_fails_6 (t := 13) rfl zc0_eq (fun _ => ?_) (fun hc => absurd (by decide) hc)
        refine zw_push hm_167 dX12_fails_13 (v := .inl (0 : Int32)) rfl ?_
        refine zw_bret hm_167 dX12_fails_14 (by decide) ?_
        show ma_wp X d w 260 35 [(0, .inr (.inr (some 94))), (1, .inl wh)] [.inl (0 : Int32)] (ma_put S 94 0 (.inl (0 : Int32))) _
        refine zw_if0 hm_260 dX12_count_35 (t := 40) rfl zc0_eq (fun _ => ?_) (fun hc => absurd (by decide) hc)
        refine zw_push hm_260 dX12_count_40 (v := .inl wh) rfl ?_
        by_cases hc0 : wh = (0 : Int32)
        · rw [if_pos hc0] at h
          refine zw_jmp hm_260 dX12_count_41 (t := 108) (st₉ := []) rfl rfl rfl (ma_jmp_tab (by rw [hc0]; decide +kernel)) ?_
          refine zw_push hm_260 dX12_count_108 (v := .inr (.inr (some 94))) rfl ?_
          refine zw_gf hm_260 dX12_count_109 (v := .inl ((mI S) 94 3)) (zT_is (zT_pi hS) s_94) (zT_t (zT_pi hS) s_94) rfl f_12_107_12 rfl ?_
          exact zw_iret hm_260 dX12_count_112 (HQ _ _ h)
        rw [if_neg hc0] at h
        by_cases hc1 : wh = (1 : Int32)
        · rw [if_pos hc1] at h
          refine zw_jmp hm_260 dX12_count_41 (t := 113) (st₉ := []) rfl rfl rfl (ma_jmp_tab (by rw [hc1]; decide +kernel)) ?_
          refine zw_push hm_260 dX12_count_113 (v := .inr (.inr (some 94))) rfl ?_
          refine zw_gf hm_260 dX12_count_114 (v := .inl ((mI S) 94 7)) (zT_is (zT_pi hS) s_94) (zT_t (zT_pi hS) s_94) rfl f_12_118_12 rfl ?_
          exact zw_iret hm_260 dX12_count_117 (HQ _ _ h)
        rw [if_neg hc1] at h
        by_cases hc2 : wh = (2 : Int32)
        · rw [if_pos hc2] at h
          refine zw_jmp hm_260 dX12_count_41 (t := 118) (st₉ := []) rfl rfl rfl (ma_jmp_tab (by rw [hc2]; decide +kernel)) ?_
          refine zw_push hm_260 dX12_count_118 (v := .inr (.inr (some 94))) rfl ?_
          refine zw_gf hm_260 dX12_count_119 (v := .inl ((mI S) 94 44)) (zT_is (zT_pi hS) s_94) (zT_t (zT_pi hS) s_94) rfl f_12_240_12 rfl ?_
          exact zw_iret hm_260 dX12_count_122 (HQ _ _ h)
        rw [if_neg hc2] at h
        by_cases hc3 : wh = (3 : Int32)
        · rw [if_pos hc3] at h
          refine zw_jmp hm_260 dX12_count_41 (t := 123) (st₉ := []) rfl rfl rfl (ma_jmp_tab (by rw [hc3]; decide +kernel)) ?_
          refine zw_push hm_260 dX12_count_123 (v := .inr (.inr (some 94))) rfl ?_
          refine zw_gf hm_260 dX12_count_124 (v := .inl ((mI S) 94 45)) (zT_is (zT_pi hS) s_94) (zT_t (zT_pi hS) s_94) rfl f_12_243_12 rfl ?_
          exact zw_iret hm_260 dX12_count_127 (HQ _ _ h)
        rw [if_neg hc3] at h
        by_cases hc4 : wh = (4 : Int32)
        · rw [if_pos hc4] at h
          refine zw_jmp hm_260 dX12_count_41 (t := 128) (st₉ := []) rfl rfl rfl (ma_jmp_tab (by rw [hc4]; decide +kernel)) ?_
          refine zw_push hm_260 dX12_count_128 (v := .inr (.inr (some 94))) rfl ?_
          refine zw_gf hm_260 dX12_count_129 (v := .inl ((mI S) 94 46)) (zT_is (zT_pi hS) s_94) (zT_t (zT_pi hS) s_94) rfl f_12_246_12 rfl ?_
          exact zw_iret hm_260 dX12_count_132 (HQ _ _ h)
        rw [if_neg hc4] at h
        by_cases hc5 : wh = (5 : Int32)
        · rw [if_pos hc5] at h
          refine zw_jmp hm_260 dX12_count_41 (t := 133) (st₉ := []) rfl rfl rfl (ma_jmp_tab (by rw [hc5]; decide +kernel)) ?_
          refine zw_push hm_260 dX12_count_133 (v := .inr (.inr (some 94))) rfl ?_
          refine zw_gf hm_260 dX12_count_134 (v := .inl ((mI S) 94 47)) (zT_is (zT_pi hS) s_94) (zT_t (zT_pi hS) s_94) rfl f_12_249_12 rfl ?_
          exact zw_iret hm_260 dX12_count_137 (HQ _ _ h)
        rw [if_neg hc5] at h
        by_cases hc6 : wh = (6 : Int32)
        · rw [if_pos hc6] at h
          refine zw_jmp hm_260 dX12_count_41 (t := 138) (st₉ := []) rfl rfl rfl (ma_jmp_tab (by rw [hc6]; decide +kernel)) ?_
          refine zw_push hm_260 dX12_count_138 (v := .inr (.inr (some 94))) rfl ?_
          refine zw_gf hm_260 dX12_count_139 (v := .inl ((mI S) 94 48)) (zT_is (zT_pi hS) s_94) (zT_t (zT_pi hS) s_94) rfl f_12_252_12 rfl ?_
          exact zw_iret hm_260 dX12_count_142 (HQ _ _ h)
        rw [if_neg hc6] at h
        by_cases hc7 : wh = (7 : Int32)
        · rw [if_pos hc7] at h
          refine zw_jmp hm_260 dX12_count_41 (t := 143) (st₉ := []) rfl rfl rfl (ma_jmp_tab (by rw [hc7]; decide +kernel)) ?_
          refine zw_push hm_260 dX12_count_143 (v := .inr (.inr (some 94))) rfl ?_
          refine zw_gf hm_260 dX12_count_144 (v := .inl ((mI S) 94 49)) (zT_is (zT_pi hS) s_94) (zT_t (zT_pi hS) s_94) rfl f_12_255_12 rfl ?_
          exact zw_iret hm_260 dX12_count_147 (HQ _ _ h)
        rw [if_neg hc7] at h
        by_cases hc8 : wh = (8 : Int32)
        · rw [if_pos hc8] at h
          refine zw_jmp hm_260 dX12_count_41 (t := 148) (st₉ := []) rfl rfl rfl (ma_jmp_tab (by rw [hc8]; decide +kernel)) ?_
          refine zw_push hm_260 dX12_count_148 (v := .inr (.inr (some 94))) rfl ?_
          refine zw_gf hm_260 dX12_count_149 (v := .inl ((mI S) 94 50)) (zT_is (zT_pi hS) s_94) (zT_t (zT_pi hS) s_94) rfl f_12_258_12 rfl ?_
          exact zw_iret hm_260 dX12_count_152 (HQ _ _ h)
        rw [if_neg hc8] at h
        by_cases hc9 : wh = (9 : Int32)
        · rw [if_pos hc9] at h
          refine zw_jmp hm_260 dX12_count_41 (t := 153) (st₉ := []) rfl rfl rfl (ma_jmp_tab (by rw [hc9]; decide +kernel)) ?_
          refine zw_push hm_260 dX12_count_153 (v := .inr (.inr (some 94))) rfl ?_
          refine zw_gf hm_260 dX12_count_154 (v := .inl ((mI S) 94 55)) (zT_is (zT_pi hS) s_94) (zT_t (zT_pi hS) s_94) rfl f_12_261_12 rfl ?_
          exact zw_iret hm_260 dX12_count_157 (HQ _ _ h)
        rw [if_neg hc9] at h
        by_cases hc10 : wh = (10 : Int32)
        · rw [if_pos hc10] at h
          refine zw_jmp hm_260 dX12_count_41 (t := 158) (st₉ := []) rfl rfl rfl (ma_jmp_tab (by rw [hc10]; decide +kernel)) ?_
          refine zw_push hm_260 dX12_count_158 (v := .inr (.inr (some 94))) rfl ?_
          refine zw_gf hm_260 dX12_count_159 (v := .inl ((mI S) 94 10)) (zT_is (zT_pi hS) s_94) (zT_t (zT_pi hS) s_94) rfl f_12_199_12 rfl ?_
          refine zw_push hm_260 dX12_count_162 (v := .inl (3 : Int32)) rfl ?_
          refine zw_if2 hm_260 dX12_count_163 (t := 173) rfl zc2_ne ?_ ?_
          · intro hc
            rw [if_neg hc] at h
            refine zw_push hm_260 dX12_count_173 (v := .inr (.inr (some 94))) rfl ?_
            refine zw_gf hm_260 dX12_count_174 (v := .inl ((mI S) 94 10)) (zT_is (zT_pi hS) s_94) (zT_t (zT_pi hS) s_94) rfl f_12_199_12 rfl ?_
            refine zw_push hm_260 dX12_count_177 (v := .inl (6 : Int32)) rfl ?_
            refine zw_if2 hm_260 dX12_count_179 (t := 189) rfl zc2_ne ?_ ?_
            · intro hc
              rw [if_neg hc] at h
              refine zw_push hm_260 dX12_count_189 (v := .inr (.inr (some 94))) rfl ?_
              refine zw_gf hm_260 dX12_count_190 (v := .inl ((mI S) 94 10)) (zT_is (zT_pi hS) s_94) (zT_t (zT_pi hS) s_94) rfl f_12_199_12 rfl ?_
              refine zw_push hm_260 dX12_count_193 (v := .inl (5 : Int32)) rfl ?_
              refine zw_if2 hm_260 dX12_count_194 (t := 216) rfl zc2_ne ?_ ?_
              · intro hc
                rw [if_neg hc] at h
                refine zw_push hm_260 dX12_count_216 (v := .inl (0 : Int32)) rfl ?_
                exact zw_iret hm_260 dX12_count_217 (HQ _ _ h)
              · intro hc
                rw [if_pos (Classical.not_not.mp hc)] at h
                refine zw_push hm_260 dX12_count_197 (v := .inr (.inr (some 94))) rfl ?_
                refine zw_gf hm_260 dX12_count_198 (v := .inl ((mI S) 94 58)) (zT_is (zT_pi hS) s_94) (zT_t (zT_pi hS) s_94) rfl f_12_270_12 rfl ?_
                refine zw_if0 hm_260 dX12_count_201 (t := 216) rfl zc0_eq ?_ ?_
                · intro hc
                  rw [if_pos hc] at h
                  refine zw_push hm_260 dX12_count_216 (v := .inl (0 : Int32)) rfl ?_
                  exact zw_iret hm_260 dX12_count_217 (HQ _ _ h)
                · intro hc
                  rw [if_neg hc] at h
                  refine zw_push hm_260 dX12_count_204 (v := .inr (.inr (some 94))) rfl ?_
                  refine zw_gf hm_260 dX12_count_205 (v := .inl ((mI S) 94 56)) (zT_is (zT_pi hS) s_94) (zT_t (zT_pi hS) s_94) rfl f_12_264_12 rfl ?_
                  refine zw_push hm_260 dX12_count_208 (v := .inr (.inr (some 94))) rfl ?_
                  refine zw_gf hm_260 dX12_count_209 (v := .inl ((mI S) 94 57)) (zT_is (zT_pi hS) s_94) (zT_t (zT_pi hS) s_94) rfl f_12_267_12 rfl ?_
                  refine zw_stk hm_260 dX12_count_212 (st₉ := [.inl (((mI S) 94 56) - ((mI S) 94 57))]) rfl rfl ?_
                  refine zw_goto hm_260 dX12_count_213 (t := 217) rfl ?_
                  exact zw_iret hm_260 dX12_count_217 (HQ _ _ h)
            · intro hc
              rw [if_pos (Classical.not_not.mp hc)] at h
              refine zw_push hm_260 dX12_count_182 (v := .inr (.inr (some 94))) rfl ?_
              refine zw_cv hm_260 dX12_count_183 v_12_454_12 hm_233 [] [] rfl (zT_rt (zT_pi hS) s_94 rfl) ⟨by omega, by omega⟩ rfl (h _ _ (ma_put S 94 0 (.inl (0 : Int32))) _ (by omega) (by omega) (zT_pi hS) rfl (fun o9 m1 hv => ?_))
              obtain ⟨v2, rfl, h⟩ := zmi_of hv
              show ma_wp X d w 260 186 [(0, .inr (.inr (some 94))), (1, .inl wh)] [.inl v2] (zst S m1) _
              refine zw_goto hm_260 dX12_count_186 (t := 217) rfl ?_
              exact zw_iret hm_260 dX12_count_217 (HQ _ _ h)
          · intro hc
            rw [if_pos (Classical.not_not.mp hc)] at h
            refine zw_push hm_260 dX12_count_166 (v := .inr (.inr (some 94))) rfl ?_
            refine zw_cv hm_260 dX12_count_167 v_12_505_12 hm_261 [] [] rfl (zT_rt (zT_pi hS) s_94 rfl) ⟨by omega, by omega⟩ rfl (h _ _ (ma_put S 94 0 (.inl (0 : Int32))) _ (by omega) (by omega) (zT_pi hS) rfl (fun o9 m3 hv => ?_))
            obtain ⟨v4, rfl, h⟩ := zmi_of hv
            show ma_wp X d w 260 170 [(0, .inr (.inr (some 94))), (1, .inl wh)] [.inl v4] (zst S m3) _
            refine zw_goto hm_260 dX12_count_170 (t := 217) rfl ?_
            exact zw_iret hm_260 dX12_count_217 (HQ _ _ h)
        rw [if_neg hc10] at h
        by_cases hc11 : wh = (11 : Int32)
        · rw [if_pos hc11] at h
          refine zw_jmp hm_260 dX12_count_41 (t := 218) (st₉ := []) rfl rfl rfl (ma_jmp_tab (by rw [hc11]; decide +kernel)) ?_
          refine zw_push hm_260 dX12_count_218 (v := .inr (.inr (some 94))) rfl ?_
          refine zw_gf hm_260 dX12_count_219 (v := .inl ((mI S) 94 10)) (zT_is (zT_pi hS) s_94) (zT_t (zT_pi hS) s_94) rfl f_12_199_12 rfl ?_
          refine zw_push hm_260 dX12_count_222 (v := .inl (1 : Int32)) rfl ?_
          refine zw_if2 hm_260 dX12_count_223 (t := 242) rfl zc2_eq ?_ ?_
          · intro hc
            rw [if_pos hc] at h
            refine zw_push hm_260 dX12_count_242 (v := .inr (.inr (some 94))) rfl ?_
            refine zw_gf hm_260 dX12_count_243 (v := .inl ((mI S) 94 59)) (zT_is (zT_pi hS) s_94) (zT_t (zT_pi hS) s_94) rfl f_12_276_12 rfl ?_
            refine zw_goto hm_260 dX12_count_246 (t := 281) rfl ?_
            exact zw_iret hm_260 dX12_count_281 (HQ _ _ h)
          · intro hc
            rw [if_neg hc] at h
            refine zw_push hm_260 dX12_count_226 (v := .inr (.inr (some 94))) rfl ?_
            refine zw_gf hm_260 dX12_count_227 (v := .inl ((mI S) 94 10)) (zT_is (zT_pi hS) s_94) (zT_t (zT_pi hS) s_94) rfl f_12_199_12 rfl ?_
            refine zw_push hm_260 dX12_count_230 (v := .inl (2 : Int32)) rfl ?_
            refine zw_if2 hm_260 dX12_count_231 (t := 242) rfl zc2_eq ?_ ?_
            · intro hc
              rw [if_pos hc] at h
              refine zw_push hm_260 dX12_count_242 (v := .inr (.inr (some 94))) rfl ?_
              refine zw_gf hm_260 dX12_count_243 (v := .inl ((mI S) 94 59)) (zT_is (zT_pi hS) s_94) (zT_t (zT_pi hS) s_94) rfl f_12_276_12 rfl ?_
              refine zw_goto hm_260 dX12_count_246 (t := 281) rfl ?_
              exact zw_iret hm_260 dX12_count_281 (HQ _ _ h)
            · intro hc
              rw [if_neg hc] at h
              refine zw_push hm_260 dX12_count_234 (v := .inr (.inr (some 94))) rfl ?_
              refine zw_gf hm_260 dX12_count_235 (v := .inl ((mI S) 94 10)) (zT_is (zT_pi hS) s_94) (zT_t (zT_pi hS) s_94) rfl f_12_199_12 rfl ?_
              refine zw_push hm_260 dX12_count_238 (v := .inl (3 : Int32)) rfl ?_
              refine zw_if2 hm_260 dX12_count_239 (t := 249) rfl zc2_ne ?_ ?_
              · intro hc
                rw [if_neg hc] at h
                refine zw_push hm_260 dX12_count_249 (v := .inr (.inr (some 94))) rfl ?_
                refine zw_gf hm_260 dX12_count_250 (v := .inl ((mI S) 94 10)) (zT_is (zT_pi hS) s_94) (zT_t (zT_pi hS) s_94) rfl f_12_199_12 rfl ?_
                refine zw_push hm_260 dX12_count_253 (v := .inl (6 : Int32)) rfl ?_
                refine zw_if2 hm_260 dX12_count_255 (t := 280) rfl zc2_ne ?_ ?_
                · intro hc
                  rw [if_neg hc] at h
                  refine zw_push hm_260 dX12_count_280 (v := .inl (0 : Int32)) rfl ?_
                  exact zw_iret hm_260 dX12_count_281 (HQ _ _ h)
                · intro hc
                  rw [if_pos (Classical.not_not.mp hc)] at h
                  refine zw_push hm_260 dX12_count_258 (v := .inr (.inr (some 94))) rfl ?_
                  refine zw_gf hm_260 dX12_count_259 (v := .inl ((mI S) 94 63)) (zT_is (zT_pi hS) s_94) (zT_t (zT_pi hS) s_94) rfl f_12_285_12 rfl ?_
                  refine zw_push hm_260 dX12_count_262 (v := .inr (.inr (some 94))) rfl ?_
                  refine zw_gf hm_260 dX12_count_263 (v := .inl ((mI S) 94 18)) (zT_is (zT_pi hS) s_94) (zT_t (zT_pi hS) s_94) rfl f_12_222_12 rfl ?_
                  refine zw_stk hm_260 dX12_count_266 (st₉ := [.inl (((mI S) 94 63) * ((mI S) 94 18))]) rfl rfl ?_
                  refine zw_push hm_260 dX12_count_267 (v := .inr (.inr (some 94))) rfl ?_
                  refine zw_gf hm_260 dX12_count_268 (v := .inr (.inr (some 116))) (zT_is (zT_pi hS) s_94) (zT_t (zT_pi hS) s_94) rfl f_12_80_12 (zT_f (zT_pi hS) r_94_65) ?_
                  refine zw_push hm_260 dX12_count_271 (v := .inr (.inr (some 94))) rfl ?_
                  refine zw_gf hm_260 dX12_count_272 (v := .inl ((mI S) 94 63)) (zT_is (zT_pi hS) s_94) (zT_t (zT_pi hS) s_94) rfl f_12_285_12 rfl ?_
                  obtain ⟨hg, h⟩ := h
                  refine zw_ia hm_260 dX12_count_275 (zT_is (zT_pi hS) s_116) (zT_h (zT_pi hS) s_116) rfl hg ?_
                  show ma_wp X d w 260 276 [(0, .inr (.inr (some 94))), (1, .inl wh)] [.inl ((mI S) 116 ((mI S) 94 63).toNatClampNeg), .inl (((mI S) 94 63) * ((mI S) 94 18))] (ma_put S 94 0 (.inl (0 : Int32))) _
                  refine zw_stk hm_260 dX12_count_276 (st₉ := [.inl ((((mI S) 94 63) * ((mI S) 94 18)) + ((mI S) 116 ((mI S) 94 63).toNatClampNeg))]) rfl rfl ?_
                  refine zw_goto hm_260 dX12_count_277 (t := 281) rfl ?_
                  exact zw_iret hm_260 dX12_count_281 (HQ _ _ h)
              · intro hc
                rw [if_pos (Classical.not_not.mp hc)] at h
                refine zw_push hm_260 dX12_count_242 (v := .inr (.inr (some 94))) rfl ?_
                refine zw_gf hm_260 dX12_count_243 (v := .inl ((mI S) 94 59)) (zT_is (zT_pi hS) s_94) (zT_t (zT_pi hS) s_94) rfl f_12_276_12 rfl ?_
                refine zw_goto hm_260 dX12_count_246 (t := 281) rfl ?_
                exact zw_iret hm_260 dX12_count_281 (HQ _ _ h)
        rw [if_neg hc11] at h
        by_cases hc12 : wh = (12 : Int32)
        · rw [if_pos hc12] at h
          refine zw_jmp hm_260 dX12_count_41 (t := 282) (st₉ := []) rfl rfl rfl (ma_jmp_tab (by rw [hc12]; decide +kernel)) ?_
          refine zw_push hm_260 dX12_count_282 (v := .inr (.inr (some 94))) rfl ?_
          refine zw_gf hm_260 dX12_count_283 (v := .inl ((mI S) 94 58)) (zT_is (zT_pi hS) s_94) (zT_t (zT_pi hS) s_94) rfl f_12_270_12 rfl ?_
          refine zw_if0 hm_260 dX12_count_286 (t := 293) rfl zc0_eq ?_ ?_
          · intro hc
            rw [if_pos hc] at h
            refine zw_push hm_260 dX12_count_293 (v := .inl (0 : Int32)) rfl ?_
            exact zw_iret hm_260 dX12_count_294 (HQ _ _ h)
          · intro hc
            rw [if_neg hc] at h
            refine zw_push hm_260 dX12_count_289 (v := .inl (1 : Int32)) rfl ?_
            refine zw_goto hm_260 dX12_count_290 (t := 294) rfl ?_
            exact zw_iret hm_260 dX12_count_294 (HQ _ _ h)
        rw [if_neg hc12] at h
        refine zw_jmp hm_260 dX12_count_41 (t := 295) (st₉ := []) rfl rfl rfl (ma_jmp_def (m := 13) (by decide) (fun j hj => by
            have hj2 : j = 0 ∨ j = 1 ∨ j = 2 ∨ j = 3 ∨ j = 4 ∨ j = 5 ∨ j = 6 ∨ j = 7 ∨ j = 8 ∨ j = 9 ∨ j = 10 ∨ j = 11 ∨ j = 12 := by omega
            rcases hj2 with rfl | rfl | rfl | rfl | rfl | rfl | rfl | rfl | rfl | rfl | rfl | rfl | rfl
            · exact hc0
            · exact hc1
            · exact hc2
            · exact hc3
            · exact hc4
            · exact hc5
            · exact hc6
            · exact hc7
            · exact hc8
            · exact hc9
            · exact hc10
            · exact hc11
            · exact hc12
            ) rfl) ?_
        refine zw_push hm_260 dX12_count_295 (v := .inr (.inr (some 94))) rfl ?_
        refine zw_gf hm_260 dX12_count_296 (v := .inl ((mI S) 94 10)) (zT_is (zT_pi hS) s_94) (zT_t (zT_pi hS) s_94) rfl f_12_199_12 rfl ?_
        refine zw_push hm_260 dX12_count_299 (v := .inl (3 : Int32)) rfl ?_
        refine zw_if2 hm_260 dX12_count_300 (t := 310) rfl zc2_ne ?_ ?_
        · intro hc
          rw [if_neg hc] at h
          refine zw_push hm_260 dX12_count_310 (v := .inr (.inr (some 94))) rfl ?_
          refine zw_gf hm_260 dX12_count_311 (v := .inl ((mI S) 94 10)) (zT_is (zT_pi hS) s_94) (zT_t (zT_pi hS) s_94) rfl f_12_199_12 rfl ?_
          refine zw_push hm_260 dX12_count_314 (v := .inl (6 : Int32)) rfl ?_
          refine zw_if2 hm_260 dX12_count_316 (t := 326) rfl zc2_ne ?_ ?_
          · intro hc
            rw [if_neg hc] at h
            refine zw_push hm_260 dX12_count_326 (v := .inl (0 : Int32)) rfl ?_
            exact zw_iret hm_260 dX12_count_327 (HQ _ _ h)
          · intro hc
            rw [if_pos (Classical.not_not.mp hc)] at h
            refine zw_push hm_260 dX12_count_319 (v := .inr (.inr (some 94))) rfl ?_
            refine zw_gf hm_260 dX12_count_320 (v := .inl ((mI S) 94 63)) (zT_is (zT_pi hS) s_94) (zT_t (zT_pi hS) s_94) rfl f_12_285_12 rfl ?_
            refine zw_goto hm_260 dX12_count_323 (t := 327) rfl ?_
            exact zw_iret hm_260 dX12_count_327 (HQ _ _ h)
        · intro hc
          rw [if_pos (Classical.not_not.mp hc)] at h
          refine zw_push hm_260 dX12_count_303 (v := .inr (.inr (some 94))) rfl ?_
          refine zw_gf hm_260 dX12_count_304 (v := .inl ((mI S) 94 60)) (zT_is (zT_pi hS) s_94) (zT_t (zT_pi hS) s_94) rfl f_12_279_12 rfl ?_
          refine zw_goto hm_260 dX12_count_307 (t := 327) rfl ?_
          exact zw_iret hm_260 dX12_count_327 (HQ _ _ h)
      · intro hc
        rw [if_neg hc] at h
        refine zw_push hm_260 dX12_count_20 (v := .inr (.inr (some 94))) rfl ?_
        refine zw_gf hm_260 dX12_count_21 (v := .inl ((mI S) 94 8)) (zT_is hS s_94) (zT_t hS s_94) rfl f_12_237_12 rfl ?_
        refine zw_if0 hm_260 dX12_count_24 (t := 31) rfl zc0_ne ?_ ?_
        · intro hc
          rw [if_neg hc] at h
          refine zw_push hm_260 dX12_count_31 (v := .inl (0 : Int32)) rfl ?_
          refine zw_cv hm_260 dX12_count_32 v_12_110_12 hm_167 [.inl (0 : Int32)] [] rfl (zT_rt hS s_94 rfl) ⟨by omega, by omega⟩ rfl ?_
          show ma_wp X (d - 1) (w - 21) 167 0 [(0, .inr (.inr (some 94))), (1, .inl (0 : Int32))] [] S _
          refine zw_push hm_167 dX12_fails_0 (v := .inr (.inr (some 94))) rfl ?_
          refine zw_push hm_167 dX12_fails_1 (v := .inl (0 : Int32)) rfl ?_
          refine zw_pf hm_167 dX12_fails_2 (zT_is hS s_94) (zT_t hS s_94) p_12_1_12 zk_int ?_
          refine zw_push hm_167 dX12_fails_5 (v := .inl (0 : Int32)) rfl ?_
          refine zw_if0 hm_167 dX12_fails_6 (t := 13) rfl zc0_eq (fun _ => ?_) (fun hc => absurd (by decide) hc)
          refine zw_push hm_167 dX12_fails_13 (v := .inl (0 : Int32)) rfl ?_
          refine zw_bret hm_167 dX12_fails_14 (by decide) ?_
          show ma_wp X d w 260 35 [(0, .inr (.inr (some 94))), (1, .inl wh)] [.inl (0 : Int32)] (ma_put S 94 0 (.inl (0 : Int32))) _
          refine zw_if0 hm_260 dX12_count_35 (t := 40) rfl zc0_eq (fun _ => ?_) (fun hc => absurd (by decide) hc)
          refine zw_push hm_260 dX12_count_40 (v := .inl wh) rfl ?_
          by_cases hc0 : wh = (0 : Int32)
          · rw [if_pos hc0] at h
            refine zw_jmp hm_260 dX12_count_41 (t := 108) (st₉ := []) rfl rfl rfl (ma_jmp_tab (by rw [hc0]; decide +kernel)) ?_
            refine zw_push hm_260 dX12_count_108 (v := .inr (.inr (some 94))) rfl ?_
            refine zw_gf hm_260 dX12_count_109 (v := .inl ((mI S) 94 3)) (zT_is (zT_pi hS) s_94) (zT_t (zT_pi hS) s_94) rfl f_12_107_12 rfl ?_
            exact zw_iret hm_260 dX12_count_112 (HQ _ _ h)
          rw [if_neg hc0] at h
          by_cases hc1 : wh = (1 : Int32)
          · rw [if_pos hc1] at h
            refine zw_jmp hm_260 dX12_count_41 (t := 113) (st₉ := []) rfl rfl rfl (ma_jmp_tab (by rw [hc1]; decide +kernel)) ?_
            refine zw_push hm_260 dX12_count_113 (v := .inr (.inr (some 94))) rfl ?_
            refine zw_gf hm_260 dX12_count_114 (v := .inl ((mI S) 94 7)) (zT_is (zT_pi hS) s_94) (zT_t (zT_pi hS) s_94) rfl f_12_118_12 rfl ?_
            exact zw_iret hm_260 dX12_count_117 (HQ _ _ h)
          rw [if_neg hc1] at h
          by_cases hc2 : wh = (2 : Int32)
          · rw [if_pos hc2] at h
            refine zw_jmp hm_260 dX12_count_41 (t := 118) (st₉ := []) rfl rfl rfl (ma_jmp_tab (by rw [hc2]; decide +kernel)) ?_
            refine zw_push hm_260 dX12_count_118 (v := .inr (.inr (some 94))) rfl ?_
            refine zw_gf hm_260 dX12_count_119 (v := .inl ((mI S) 94 44)) (zT_is (zT_pi hS) s_94) (zT_t (zT_pi hS) s_94) rfl f_12_240_12 rfl ?_
            exact zw_iret hm_260 dX12_count_122 (HQ _ _ h)
          rw [if_neg hc2] at h
          by_cases hc3 : wh = (3 : Int32)
          · rw [if_pos hc3] at h
            refine zw_jmp hm_260 dX12_count_41 (t := 123) (st₉ := []) rfl rfl rfl (ma_jmp_tab (by rw [hc3]; decide +kernel)) ?_
            refine zw_push hm_260 dX12_count_123 (v := .inr (.inr (some 94))) rfl ?_
            refine zw_gf hm_260 dX12_count_124 (v := .inl ((mI S) 94 45)) (zT_is (zT_pi hS) s_94) (zT_t (zT_pi hS) s_94) rfl f_12_243_12 rfl ?_
            exact zw_iret hm_260 dX12_count_127 (HQ _ _ h)
          rw [if_neg hc3] at h
          by_cases hc4 : wh = (4 : Int32)
          · rw [if_pos hc4] at h
            refine zw_jmp hm_260 dX12_count_41 (t := 128) (st₉ := []) rfl rfl rfl (ma_jmp_tab (by rw [hc4]; decide +kernel)) ?_
            refine zw_push hm_260 dX12_count_128 (v := .inr (.inr (some 94))) rfl ?_
            refine zw_gf hm_260 dX12_count_129 (v := .inl ((mI S) 94 46)) (zT_is (zT_pi hS) s_94) (zT_t (zT_pi hS) s_94) rfl f_12_246_12 rfl ?_
            exact zw_iret hm_260 dX12_count_132 (HQ _ _ h)
          rw [if_neg hc4] at h
          by_cases hc5 : wh = (5 : Int32)
          · rw [if_pos hc5] at h
            refine zw_jmp hm_260 dX12_count_41 (t := 133) (st₉ := []) rfl rfl rfl (ma_jmp_tab (by rw [hc5]; decide +kernel)) ?_
            refine zw_push hm_260 dX12_count_133 (v := .inr (.inr (some 94))) rfl ?_
            refine zw_gf hm_260 dX12_count_134 (v := .inl ((mI S) 94 47)) (zT_is (zT_pi hS) s_94) (zT_t (zT_pi hS) s_94) rfl f_12_249_12 rfl ?_
            exact zw_iret hm_260 dX12_count_137 (HQ _ _ h)
          rw [if_neg hc5] at h
          by_cases hc6 : wh = (6 : Int32)
          · rw [if_pos hc6] at h
            refine zw_jmp hm_260 dX12_count_41 (t := 138) (st₉ := []) rfl rfl rfl (ma_jmp_tab (by rw [hc6]; decide +kernel)) ?_
            refine zw_push hm_260 dX12_count_138 (v := .inr (.inr (some 94))) rfl ?_
            refine zw_gf hm_260 dX12_count_139 (v := .inl ((mI S) 94 48)) (zT_is (zT_pi hS) s_94) (zT_t (zT_pi hS) s_94) rfl f_12_252_12 rfl ?_
            exact zw_iret hm_260 dX12_count_142 (HQ _ _ h)
          rw [if_neg hc6] at h
          by_cases hc7 : wh = (7 : Int32)
          · rw [if_pos hc7] at h
            refine zw_jmp hm_260 dX12_count_41 (t := 143) (st₉ := []) rfl rfl rfl (ma_jmp_tab (by rw [hc7]; decide +kernel)) ?_
            refine zw_push hm_260 dX12_count_143 (v := .inr (.inr (some 94))) rfl ?_
            refine zw_gf hm_260 dX12_count_144 (v := .inl ((mI S) 94 49)) (zT_is (zT_pi hS) s_94) (zT_t (zT_pi hS) s_94) rfl f_12_255_12 rfl ?_
            exact zw_iret hm_260 dX12_count_147 (HQ _ _ h)
          rw [if_neg hc7] at h
          by_cases hc8 : wh = (8 : Int32)
          · rw [if_pos hc8] at h
            refine zw_jmp hm_260 dX12_count_41 (t := 148) (st₉ := []) rfl rfl rfl (ma_jmp_tab (by rw [hc8]; decide +kernel)) ?_
            refine zw_push hm_260 dX12_count_148 (v := .inr (.inr (some 94))) rfl ?_
            refine zw_gf hm_260 dX12_count_149 (v := .inl ((mI S) 94 50)) (zT_is (zT_pi hS) s_94) (zT_t (zT_pi hS) s_94) rfl f_12_258_12 rfl ?_
            exact zw_iret hm_260 dX12_count_152 (HQ _ _ h)
          rw [if_neg hc8] at h
          by_cases hc9 : wh = (9 : Int32)
          · rw [if_pos hc9] at h
            refine zw_jmp hm_260 dX12_count_41 (t := 153) (st₉ := []) rfl rfl rfl (ma_jmp_tab (by rw [hc9]; decide +kernel)) ?_
            refine zw_push hm_260 dX12_count_153 (v := .inr (.inr (some 94))) rfl ?_
            refine zw_gf hm_260 dX12_count_154 (v := .inl ((mI S) 94 55)) (zT_is (zT_pi hS) s_94) (zT_t (zT_pi hS) s_94) rfl f_12_261_12 rfl ?_
            exact zw_iret hm_260 dX12_count_157 (HQ _ _ h)
          rw [if_neg hc9] at h
          by_cases hc10 : wh = (10 : Int32)
          · rw [if_pos hc10] at h
            refine zw_jmp hm_260 dX12_count_41 (t := 158) (st₉ := []) rfl rfl rfl (ma_jmp_tab (by rw [hc10]; decide +kernel)) ?_
            refine zw_push hm_260 dX12_count_158 (v := .inr (.inr (some 94))) rfl ?_
            refine zw_gf hm_260 dX12_count_159 (v := .inl ((mI S) 94 10)) (zT_is (zT_pi hS) s_94) (zT_t (zT_pi hS) s_94) rfl f_12_199_12 rfl ?_
            refine zw_push hm_260 dX12_count_162 (v := .inl (3 : Int32)) rfl ?_
            refine zw_if2 hm_260 dX12_count_163 (t := 173) rfl zc2_ne ?_ ?_
            · intro hc
              rw [if_neg hc] at h
              refine zw_push hm_260 dX12_count_173 (v := .inr (.inr (some 94))) rfl ?_
              refine zw_gf hm_260 dX12_count_174 (v := .inl ((mI S) 94 10)) (zT_is (zT_pi hS) s_94) (zT_t (zT_pi hS) s_94) rfl f_12_199_12 rfl ?_
              refine zw_push hm_260 dX12_count_177 (v := .inl (6 : Int32)) rfl ?_
              refine zw_if2 hm_260 dX12_count_179 (t := 189) rfl zc2_ne ?_ ?_
              · intro hc
                rw [if_neg hc] at h
                refine zw_push hm_260 dX12_count_189 (v := .inr (.inr (some 94))) rfl ?_
                refine zw_gf hm_260 dX12_count_190 (v := .inl ((mI S) 94 10)) (zT_is (zT_pi hS) s_94) (zT_t (zT_pi hS) s_94) rfl f_12_199_12 rfl ?_
                refine zw_push hm_260 dX12_count_193 (v := .inl (5 : Int32)) rfl ?_
                refine zw_if2 hm_260 dX12_count_194 (t := 216) rfl zc2_ne ?_ ?_
                · intro hc
                  rw [if_neg hc] at h
                  refine zw_push hm_260 dX12_count_216 (v := .inl (0 : Int32)) rfl ?_
                  exact zw_iret hm_260 dX12_count_217 (HQ _ _ h)
                · intro hc
                  rw [if_pos (Classical.not_not.mp hc)] at h
                  refine zw_push hm_260 dX12_count_197 (v := .inr (.inr (some 94))) rfl ?_
                  refine zw_gf hm_260 dX12_count_198 (v := .inl ((mI S) 94 58)) (zT_is (zT_pi hS) s_94) (zT_t (zT_pi hS) s_94) rfl f_12_270_12 rfl ?_
                  refine zw_if0 hm_260 dX12_count_201 (t := 216) rfl zc0_eq ?_ ?_
                  · intro hc
                    rw [if_pos hc] at h
                    refine zw_push hm_260 dX12_count_216 (v := .inl (0 : Int32)) rfl ?_
                    exact zw_iret hm_260 dX12_count_217 (HQ _ _ h)
                  · intro hc
                    rw [if_neg hc] at h
                    refine zw_push hm_260 dX12_count_204 (v := .inr (.inr (some 94))) rfl ?_
                    refine zw_gf hm_260 dX12_count_205 (v := .inl ((mI S) 94 56)) (zT_is (zT_pi hS) s_94) (zT_t (zT_pi hS) s_94) rfl f_12_264_12 rfl ?_
                    refine zw_push hm_260 dX12_count_208 (v := .inr (.inr (some 94))) rfl ?_
                    refine zw_gf hm_260 dX12_count_209 (v := .inl ((mI S) 94 57)) (zT_is (zT_pi hS) s_94) (zT_t (zT_pi hS) s_94) rfl f_12_267_12 rfl ?_
                    refine zw_stk hm_260 dX12_count_212 (st₉ := [.inl (((mI S) 94 56) - ((mI S) 94 57))]) rfl rfl ?_
                    refine zw_goto hm_260 dX12_count_213 (t := 217) rfl ?_
                    exact zw_iret hm_260 dX12_count_217 (HQ _ _ h)
              · intro hc
                rw [if_pos (Classical.not_not.mp hc)] at h
                refine zw_push hm_260 dX12_count_182 (v := .inr (.inr (some 94))) rfl ?_
                refine zw_cv hm_260 dX12_count_183 v_12_454_12 hm_233 [] [] rfl (zT_rt (zT_pi hS) s_94 rfl) ⟨by omega, by omega⟩ rfl (h _ _ (ma_put S 94 0 (.inl (0 : Int32))) _ (by omega) (by omega) (zT_pi hS) rfl (fun o9 m5 hv => ?_))
                obtain ⟨v6, rfl, h⟩ := zmi_of hv
                show ma_wp X d w 260 186 [(0, .inr (.inr (some 94))), (1, .inl wh)] [.inl v6] (zst S m5) _
                refine zw_goto hm_260 dX12_count_186 (t := 217) rfl ?_
                exact zw_iret hm_260 dX12_count_217 (HQ _ _ h)
            · intro hc
              rw [if_pos (Classical.not_not.mp hc)] at h
              refine zw_push hm_260 dX12_count_166 (v := .inr (.inr (some 94))) rfl ?_
              refine zw_cv hm_260 dX12_count_167 v_12_505_12 hm_261 [] [] rfl (zT_rt (zT_pi hS) s_94 rfl) ⟨by omega, by omega⟩ rfl (h _ _ (ma_put S 94 0 (.inl (0 : Int32))) _ (by omega) (by omega) (zT_pi hS) rfl (fun o9 m7 hv => ?_))
              obtain ⟨v8, rfl, h⟩ := zmi_of hv
              show ma_wp X d w 260 170 [(0, .inr (.inr (some 94))), (1, .inl wh)] [.inl v8] (zst S m7) _
              refine zw_goto hm_260 dX12_count_170 (t := 217) rfl ?_
              exact zw_iret hm_260 dX12_count_217 (HQ _ _ h)
          rw [if_neg hc10] at h
          by_cases hc11 : wh = (11 : Int32)
          · rw [if_pos hc11] at h
            refine zw_jmp hm_260 dX12_count_41 (t := 218) (st₉ := []) rfl rfl rfl (ma_jmp_tab (by rw [hc11]; decide +kernel)) ?_
            refine zw_push hm_260 dX12_count_218 (v := .inr (.inr (some 94))) rfl ?_
            refine zw_gf hm_260 dX12_count_219 (v := .inl ((mI S) 94 10)) (zT_is (zT_pi hS) s_94) (zT_t (zT_pi hS) s_94) rfl f_12_199_12 rfl ?_
            refine zw_push hm_260 dX12_count_222 (v := .inl (1 : Int32)) rfl ?_
            refine zw_if2 hm_260 dX12_count_223 (t := 242) rfl zc2_eq ?_ ?_
            · intro hc
              rw [if_pos hc] at h
              refine zw_push hm_260 dX12_count_242 (v := .inr (.inr (some 94))) rfl ?_
              refine zw_gf hm_260 dX12_count_243 (v := .inl ((mI S) 94 59)) (zT_is (zT_pi hS) s_94) (zT_t (zT_pi hS) s_94) rfl f_12_276_12 rfl ?_
              refine zw_goto hm_260 dX12_count_246 (t := 281) rfl ?_
              exact zw_iret hm_260 dX12_count_281 (HQ _ _ h)
            · intro hc
              rw [if_neg hc] at h
              refine zw_push hm_260 dX12_count_226 (v := .inr (.inr (some 94))) rfl ?_
              refine zw_gf hm_260 dX12_count_227 (v := .inl ((mI S) 94 10)) (zT_is (zT_pi hS) s_94) (zT_t (zT_pi hS) s_94) rfl f_12_199_12 rfl ?_
              refine zw_push hm_260 dX12_count_230 (v := .inl (2 : Int32)) rfl ?_
              refine zw_if2 hm_260 dX12_count_231 (t := 242) rfl zc2_eq ?_ ?_
              · intro hc
                rw [if_pos hc] at h
                refine zw_push hm_260 dX12_count_242 (v := .inr (.inr (some 94))) rfl ?_
                refine zw_gf hm_260 dX12_count_243 (v := .inl ((mI S) 94 59)) (zT_is (zT_pi hS) s_94) (zT_t (zT_pi hS) s_94) rfl f_12_276_12 rfl ?_
                refine zw_goto hm_260 dX12_count_246 (t := 281) rfl ?_
                exact zw_iret hm_260 dX12_count_281 (HQ _ _ h)
              · intro hc
                rw [if_neg hc] at h
                refine zw_push hm_260 dX12_count_234 (v := .inr (.inr (some 94))) rfl ?_
                refine zw_gf hm_260 dX12_count_235 (v := .inl ((mI S) 94 10)) (zT_is (zT_pi hS) s_94) (zT_t (zT_pi hS) s_94) rfl f_12_199_12 rfl ?_
                refine zw_push hm_260 dX12_count_238 (v := .inl (3 : Int32)) rfl ?_
                refine zw_if2 hm_260 dX12_count_239 (t := 249) rfl zc2_ne ?_ ?_
                · intro hc
                  rw [if_neg hc] at h
                  refine zw_push hm_260 dX12_count_249 (v := .inr (.inr (some 94))) rfl ?_
                  refine zw_gf hm_260 dX12_count_250 (v := .inl ((mI S) 94 10)) (zT_is (zT_pi hS) s_94) (zT_t (zT_pi hS) s_94) rfl f_12_199_12 rfl ?_
                  refine zw_push hm_260 dX12_count_253 (v := .inl (6 : Int32)) rfl ?_
                  refine zw_if2 hm_260 dX12_count_255 (t := 280) rfl zc2_ne ?_ ?_
                  · intro hc
                    rw [if_neg hc] at h
                    refine zw_push hm_260 dX12_count_280 (v := .inl (0 : Int32)) rfl ?_
                    exact zw_iret hm_260 dX12_count_281 (HQ _ _ h)
                  · intro hc
                    rw [if_pos (Classical.not_not.mp hc)] at h
                    refine zw_push hm_260 dX12_count_258 (v := .inr (.inr (some 94))) rfl ?_
                    refine zw_gf hm_260 dX12_count_259 (v := .inl ((mI S) 94 63)) (zT_is (zT_pi hS) s_94) (zT_t (zT_pi hS) s_94) rfl f_12_285_12 rfl ?_
                    refine zw_push hm_260 dX12_count_262 (v := .inr (.inr (some 94))) rfl ?_
                    refine zw_gf hm_260 dX12_count_263 (v := .inl ((mI S) 94 18)) (zT_is (zT_pi hS) s_94) (zT_t (zT_pi hS) s_94) rfl f_12_222_12 rfl ?_
                    refine zw_stk hm_260 dX12_count_266 (st₉ := [.inl (((mI S) 94 63) * ((mI S) 94 18))]) rfl rfl ?_
                    refine zw_push hm_260 dX12_count_267 (v := .inr (.inr (some 94))) rfl ?_
                    refine zw_gf hm_260 dX12_count_268 (v := .inr (.inr (some 116))) (zT_is (zT_pi hS) s_94) (zT_t (zT_pi hS) s_94) rfl f_12_80_12 (zT_f (zT_pi hS) r_94_65) ?_
                    refine zw_push hm_260 dX12_count_271 (v := .inr (.inr (some 94))) rfl ?_
                    refine zw_gf hm_260 dX12_count_272 (v := .inl ((mI S) 94 63)) (zT_is (zT_pi hS) s_94) (zT_t (zT_pi hS) s_94) rfl f_12_285_12 rfl ?_
                    obtain ⟨hg, h⟩ := h
                    refine zw_ia hm_260 dX12_count_275 (zT_is (zT_pi hS) s_116) (zT_h (zT_pi hS) s_116) rfl hg ?_
                    show ma_wp X d w 260 276 [(0, .inr (.inr (some 94))), (1, .inl wh)] [.inl ((mI S) 116 ((mI S) 94 63).toNatClampNeg), .inl (((mI S) 94 63) * ((mI S) 94 18))] (ma_put S 94 0 (.inl (0 : Int32))) _
                    refine zw_stk hm_260 dX12_count_276 (st₉ := [.inl ((((mI S) 94 63) * ((mI S) 94 18)) + ((mI S) 116 ((mI S) 94 63).toNatClampNeg))]) rfl rfl ?_
                    refine zw_goto hm_260 dX12_count_277 (t := 281) rfl ?_
                    exact zw_iret hm_260 dX12_count_281 (HQ _ _ h)
                · intro hc
                  rw [if_pos (Classical.not_not.mp hc)] at h
                  refine zw_push hm_260 dX12_count_242 (v := .inr (.inr (some 94))) rfl ?_
                  refine zw_gf hm_260 dX12_count_243 (v := .inl ((mI S) 94 59)) (zT_is (zT_pi hS) s_94) (zT_t (zT_pi hS) s_94) rfl f_12_276_12 rfl ?_
                  refine zw_goto hm_260 dX12_count_246 (t := 281) rfl ?_
                  exact zw_iret hm_260 dX12_count_281 (HQ _ _ h)
          rw [if_neg hc11] at h
          by_cases hc12 : wh = (12 : Int32)
          · rw [if_pos hc12] at h
            refine zw_jmp hm_260 dX12_count_41 (t := 282) (st₉ := []) rfl rfl rfl (ma_jmp_tab (by rw [hc12]; decide +kernel)) ?_
            refine zw_push hm_260 dX12_count_282 (v := .inr (.inr (some 94))) rfl ?_
            refine zw_gf hm_260 dX12_count_283 (v := .inl ((mI S) 94 58)) (zT_is (zT_pi hS) s_94) (zT_t (zT_pi hS) s_94) rfl f_12_270_12 rfl ?_
            refine zw_if0 hm_260 dX12_count_286 (t := 293) rfl zc0_eq ?_ ?_
            · intro hc
              rw [if_pos hc] at h
              refine zw_push hm_260 dX12_count_293 (v := .inl (0 : Int32)) rfl ?_
              exact zw_iret hm_260 dX12_count_294 (HQ _ _ h)
            · intro hc
              rw [if_neg hc] at h
              refine zw_push hm_260 dX12_count_289 (v := .inl (1 : Int32)) rfl ?_
              refine zw_goto hm_260 dX12_count_290 (t := 294) rfl ?_
              exact zw_iret hm_260 dX12_count_294 (HQ _ _ h)
          rw [if_neg hc12] at h
          refine zw_jmp hm_260 dX12_count_41 (t := 295) (st₉ := []) rfl rfl rfl (ma_jmp_def (m := 13) (by decide) (fun j hj => by
              have hj2 : j = 0 ∨ j = 1 ∨ j = 2 ∨ j = 3 ∨ j = 4 ∨ j = 5 ∨ j = 6 ∨ j = 7 ∨ j = 8 ∨ j = 9 ∨ j = 10 ∨ j = 11 ∨ j = 12 := by omega
              rcases hj2 with rfl | rfl | rfl | rfl | rfl | rfl | rfl | rfl | rfl | rfl | rfl | rfl | rfl
              · exact hc0
              · exact hc1
              · exact hc2
              · exact hc3
              · exact hc4
              · exact hc5
              · exact hc6
              · exact hc7
              · exact hc8
              · exact hc9
              · exact hc10
              · exact hc11
              · exact hc12
              ) rfl) ?_
          refine zw_push hm_260 dX12_count_295 (v := .inr (.inr (some 94))) rfl ?_
          refine zw_gf hm_260 dX12_count_296 (v := .inl ((mI S) 94 10)) (zT_is (zT_pi hS) s_94) (zT_t (zT_pi hS) s_94) rfl f_12_199_12 rfl ?_
          refine zw_push hm_260 dX12_count_299 (v := .inl (3 : Int32)) rfl ?_
          refine zw_if2 hm_260 dX12_count_300 (t := 310) rfl zc2_ne ?_ ?_
          · intro hc
            rw [if_neg hc] at h
            refine zw_push hm_260 dX12_count_310 (v := .inr (.inr (some 94))) rfl ?_
            refine zw_gf hm_260 dX12_count_311 (v := .inl ((mI S) 94 10)) (zT_is (zT_pi hS) s_94) (zT_t (zT_pi hS) s_94) rfl f_12_199_12 rfl ?_
            refine zw_push hm_260 dX12_count_314 (v := .inl (6 : Int32)) rfl ?_
            refine zw_if2 hm_260 dX12_count_316 (t := 326) rfl zc2_ne ?_ ?_
            · intro hc
              rw [if_neg hc] at h
              refine zw_push hm_260 dX12_count_326 (v := .inl (0 : Int32)) rfl ?_
              exact zw_iret hm_260 dX12_count_327 (HQ _ _ h)
            · intro hc
              rw [if_pos (Classical.not_not.mp hc)] at h
              refine zw_push hm_260 dX12_count_319 (v := .inr (.inr (some 94))) rfl ?_
              refine zw_gf hm_260 dX12_count_320 (v := .inl ((mI S) 94 63)) (zT_is (zT_pi hS) s_94) (zT_t (zT_pi hS) s_94) rfl f_12_285_12 rfl ?_
              refine zw_goto hm_260 dX12_count_323 (t := 327) rfl ?_
              exact zw_iret hm_260 dX12_count_327 (HQ _ _ h)
          · intro hc
            rw [if_pos (Classical.not_not.mp hc)] at h
            refine zw_push hm_260 dX12_count_303 (v := .inr (.inr (some 94))) rfl ?_
            refine zw_gf hm_260 dX12_count_304 (v := .inl ((mI S) 94 60)) (zT_is (zT_pi hS) s_94) (zT_t (zT_pi hS) s_94) rfl f_12_279_12 rfl ?_
            refine zw_goto hm_260 dX12_count_307 (t := 327) rfl ?_
            exact zw_iret hm_260 dX12_count_327 (HQ _ _ h)
        · intro hc
          rw [if_pos (Classical.not_not.mp hc)] at h
          refine zw_push hm_260 dX12_count_27 (v := .inl (2 : Int32)) rfl ?_
          refine zw_goto hm_260 dX12_count_28 (t := 32) rfl ?_
          refine zw_cv hm_260 dX12_count_32 v_12_110_12 hm_167 [.inl (2 : Int32)] [] rfl (zT_rt hS s_94 rfl) ⟨by omega, by omega⟩ rfl ?_
          show ma_wp X (d - 1) (w - 21) 167 0 [(0, .inr (.inr (some 94))), (1, .inl (2 : Int32))] [] S _
          refine zw_push hm_167 dX12_fails_0 (v := .inr (.inr (some 94))) rfl ?_
          refine zw_push hm_167 dX12_fails_1 (v := .inl (2 : Int32)) rfl ?_
          refine zw_pf hm_167 dX12_fails_2 (zT_is hS s_94) (zT_t hS s_94) p_12_1_12 zk_int ?_
          refine zw_push hm_167 dX12_fails_5 (v := .inl (2 : Int32)) rfl ?_
          refine zw_if0 hm_167 dX12_fails_6 (t := 13) rfl zc0_eq (fun hc => absurd hc (by decide)) (fun _ => ?_)
          refine zw_push hm_167 dX12_fails_9 (v := .inl (1 : Int32)) rfl ?_
          refine zw_goto hm_167 dX12_fails_10 (t := 14) rfl ?_
          refine zw_bret hm_167 dX12_fails_14 (by decide) ?_
          show ma_wp X d w 260 35 [(0, .inr (.inr (some 94))), (1, .inl wh)] [.inl (1 : Int32)] (ma_put S 94 0 (.inl (2 : Int32))) _
          refine zw_if0 hm_260 dX12_count_35 (t := 40) rfl zc0_eq (fun hc => absurd hc (by decide)) (fun _ => ?_)
          refine zw_push hm_260 dX12_count_38 (v := .inl (0 : Int32)) rfl ?_
          exact zw_iret hm_260 dX12_count_39 (HQ _ _ h)
    · intro hc
      rw [if_neg hc] at h
      refine zw_push hm_260 dX12_count_11 (v := .inl (1 : Int32)) rfl ?_
      refine zw_goto hm_260 dX12_count_12 (t := 32) rfl ?_
      refine zw_cv hm_260 dX12_count_32 v_12_110_12 hm_167 [.inl (1 : Int32)] [] rfl (zT_rt hS s_94 rfl) ⟨by omega, by omega⟩ rfl ?_
      show ma_wp X (d - 1) (w - 21) 167 0 [(0, .inr (.inr (some 94))), (1, .inl (1 : Int32))] [] S _
      refine zw_push hm_167 dX12_fails_0 (v := .inr (.inr (some 94))) rfl ?_
      refine zw_push hm_167 dX12_fails_1 (v := .inl (1 : Int32)) rfl ?_
      refine zw_pf hm_167 dX12_fails_2 (zT_is hS s_94) (zT_t hS s_94) p_12_1_12 zk_int ?_
      refine zw_push hm_167 dX12_fails_5 (v := .inl (1 : Int32)) rfl ?_
      refine zw_if0 hm_167 dX12_fails_6 (t := 13) rfl zc0_eq (fun hc => absurd hc (by decide)) (fun _ => ?_)
      refine zw_push hm_167 dX12_fails_9 (v := .inl (1 : Int32)) rfl ?_
      refine zw_goto hm_167 dX12_fails_10 (t := 14) rfl ?_
      refine zw_bret hm_167 dX12_fails_14 (by decide) ?_
      show ma_wp X d w 260 35 [(0, .inr (.inr (some 94))), (1, .inl wh)] [.inl (1 : Int32)] (ma_put S 94 0 (.inl (1 : Int32))) _
      refine zw_if0 hm_260 dX12_count_35 (t := 40) rfl zc0_eq (fun hc => absurd hc (by decide)) (fun _ => ?_)
      refine zw_push hm_260 dX12_count_38 (v := .inl (0 : Int32)) rfl ?_
      exact zw_iret hm_260 dX12_count_39 (HQ _ _ h)
theorem sp_260 {X : Nat × (Nat → Int32)} {P : Option ma_V → (Nat → Nat → Int32) → Prop} {T : Nat} {m : Nat → Nat → Int32} (wh : Int32) (hV : zV m) (r_W : zW (m 94 7) (m 98) (m 101) (m 102) (m 108)) (r_GW : zGW T (m 94 55) (m 109)) (r_GU : zGU T (m 94 46) (m 99)) (r_OW : zOw (m 99) (m 103) (m 111)) (r_DX : zDX (m 94 10) (m 99) (m 112) (m 113) (m 114) (m 94 55) (m 98) (m 101) (m 102) (m 108)) (r_GG : zGG (m 94 58) (m 94 56) (m 94 57) (m 106)) (r_HA : zHA (m 94 10) (m 94 11) (m 94 13) (m 94 14) (m 94 16) (m 94 61) (m 94 59) (m 94 60) (m 99) (m 102) (m 103) (m 111) (m 117) (m 98) (m 101) (m 108)) (r_RGc : zRG (m 94 10) (m 94 18) (m 94 64) (m 94 63) (m 99) (m 103) (m 102) (m 116)) (hpre8 : (m 94 58).toInt = 0 ∨ (m 94 10).toInt = 5) (KZ : ∀ v m₉, zV (zov wr_260 m m₉) → (zW (m 94 7) (m 98) (m 101) (m 102) (m 108)) → (zGW T (m 94 55) (m 109)) → (zGU T (m 94 46) (m 99)) → (zOw (m 99) (m 103) (m 111)) → (zDX (m 94 10) (m 99) (m 112) (m 113) (m 114) (m 94 55) (m 98) (m 101) (m 102) (m 108)) → (zGG (m 94 58) (m 94 56) (m 94 57) (m 106)) → (zHA (m 94 10) (m 94 11) (m 94 13) (m 94 14) (m 94 16) (m 94 61) (m 94 59) (m 94 60) (m 99) (m 102) (m 103) (m 111) (m 117) (m 98) (m 101) (m 108)) → (zRG (m 94 10) (m 94 18) (m 94 64) (m 94 63) (m 99) (m 103) (m 102) (m 116)) → ((m 94 58).toInt = 0 ∨ (m 94 10).toInt = 5) → P (some (.inl v)) (zov wr_260 m m₉)) : zm X 1 22 260 0 [(0, .inr (.inr (some 94))), (1, .inl wh)] m P := by
  have K : ∀ v m₉, zF wr_260 m m₉ → zV m₉ → (zW (m₉ 94 7) (m₉ 98) (m₉ 101) (m₉ 102) (m₉ 108)) → (zGW T (m₉ 94 55) (m₉ 109)) → (zGU T (m₉ 94 46) (m₉ 99)) → (zOw (m₉ 99) (m₉ 103) (m₉ 111)) → (zDX (m₉ 94 10) (m₉ 99) (m₉ 112) (m₉ 113) (m₉ 114) (m₉ 94 55) (m₉ 98) (m₉ 101) (m₉ 102) (m₉ 108)) → (zGG (m₉ 94 58) (m₉ 94 56) (m₉ 94 57) (m₉ 106)) → (zHA (m₉ 94 10) (m₉ 94 11) (m₉ 94 13) (m₉ 94 14) (m₉ 94 16) (m₉ 94 61) (m₉ 94 59) (m₉ 94 60) (m₉ 99) (m₉ 102) (m₉ 103) (m₉ 111) (m₉ 117) (m₉ 98) (m₉ 101) (m₉ 108)) → (zRG (m₉ 94 10) (m₉ 94 18) (m₉ 94 64) (m₉ 94 63) (m₉ 99) (m₉ 103) (m₉ 102) (m₉ 116)) → ((m₉ 94 58).toInt = 0 ∨ (m₉ 94 10).toInt = 5) → P (some (.inl v)) m₉ := by
    intro v m₉ hf z q0 q1 q2 q3 q4 q5 q6 q7 q8
    have e := zov_eq hf
    rw [e] at z ⊢
    try rw [e] at q0
    try rw [e] at q1
    try rw [e] at q2
    try rw [e] at q3
    try rw [e] at q4
    try rw [e] at q5
    try rw [e] at q6
    try rw [e] at q7
    try rw [e] at q8
    exact KZ v m₉ z q0 q1 q2 q3 q4 q5 q6 q7 q8
  refine g_260_0 wh ?_
  have f1 : 0 ≤ (m 94 58).toInt ∧ (m 94 58).toInt ≤ 1 := rs_94_58 (m := m) hV
  have f2 : 0 ≤ (m 94 10).toInt ∧ (m 94 10).toInt ≤ 6 := rs_94_10 (m := m) hV
  have b3 := i_bd wh
  have li4 : (0 : Int32).toInt = 0 := rfl
  refine zd (fun (h5 : wh < (0 : Int32)) => ?_) (fun (h5 : ¬ wh < (0 : Int32)) => ?_)
  · skip
    have g6 := i_lt h5
    have hV7 : zV (ma_u m 94 0 (1 : Int32)) := uf_94_0 hV
    exact K ((0 : Int32)) _ (zF_u zF_rfl rfl) hV7 r_W r_GW r_GU r_OW r_DX r_GG r_HA r_RGc (show (m 94 58).toInt = 0 ∨ (m 94 10).toInt = 5 from by omega)
  · skip
    have g8 := i_nlt h5
    have li9 : (13 : Int32).toInt = 13 := rfl
    refine zd (fun (h10 : wh ≤ (13 : Int32)) => ?_) (fun (h10 : ¬ wh ≤ (13 : Int32)) => ?_)
    · skip
      have g11 := i_le h10
      have li12 : (1 : Int32).toInt = 1 := rfl
      refine zd (fun (h13 : wh ≤ (1 : Int32)) => ?_) (fun (h13 : ¬ wh ≤ (1 : Int32)) => ?_)
      · skip
        have g14 := i_le h13
        refine zd (fun (h15 : wh = (0 : Int32)) => ?_) (fun (h15 : ¬ wh = (0 : Int32)) => ?_)
        · skip
          have g16 := i_eq h15
          have hV17 : zV (ma_u m 94 0 (0 : Int32)) := uf_94_0 hV
          have f18 : 0 ≤ (m 94 3).toInt ∧ (m 94 3).toInt ≤ 100 := rs_94_3 (m := m) hV
          exact K ((m 94 3)) _ (zF_u zF_rfl rfl) hV17 r_W r_GW r_GU r_OW r_DX r_GG r_HA r_RGc (show (m 94 58).toInt = 0 ∨ (m 94 10).toInt = 5 from by omega)
        · skip
          have g19 := i_ne h15
          refine zd (fun (h20 : wh = (1 : Int32)) => ?_) (fun (h20 : ¬ wh = (1 : Int32)) => ?_)
          · skip
            have g21 := i_eq h20
            have hV22 : zV (ma_u m 94 0 (0 : Int32)) := uf_94_0 hV
            have f23 : 0 ≤ (m 94 7).toInt ∧ (m 94 7).toInt ≤ 16 := rs_94_7 (m := m) hV
            exact K ((m 94 7)) _ (zF_u zF_rfl rfl) hV22 r_W r_GW r_GU r_OW r_DX r_GG r_HA r_RGc (show (m 94 58).toInt = 0 ∨ (m 94 10).toInt = 5 from by omega)
          · skip
            have g24 := i_ne h20
            have li25 : (2 : Int32).toInt = 2 := rfl
            refine zd (fun (h26 : wh = (2 : Int32)) => ?_) (fun (h26 : ¬ wh = (2 : Int32)) => ?_)
            · skip
              have g27 := i_eq h26
              have hV28 : zV (ma_u m 94 0 (0 : Int32)) := uf_94_0 hV
              have b29 := i_bd (m 94 44)
              exact K ((m 94 44)) _ (zF_u zF_rfl rfl) hV28 r_W r_GW r_GU r_OW r_DX r_GG r_HA r_RGc (show (m 94 58).toInt = 0 ∨ (m 94 10).toInt = 5 from by omega)
            · skip
              have g30 := i_ne h26
              have li31 : (3 : Int32).toInt = 3 := rfl
              refine zd (fun (h32 : wh = (3 : Int32)) => ?_) (fun (h32 : ¬ wh = (3 : Int32)) => ?_)
              · skip
                have g33 := i_eq h32
                have hV34 : zV (ma_u m 94 0 (0 : Int32)) := uf_94_0 hV
                have b35 := i_bd (m 94 45)
                exact K ((m 94 45)) _ (zF_u zF_rfl rfl) hV34 r_W r_GW r_GU r_OW r_DX r_GG r_HA r_RGc (show (m 94 58).toInt = 0 ∨ (m 94 10).toInt = 5 from by omega)
              · skip
                have g36 := i_ne h32
                have li37 : (4 : Int32).toInt = 4 := rfl
                refine zd (fun (h38 : wh = (4 : Int32)) => ?_) (fun (h38 : ¬ wh = (4 : Int32)) => ?_)
                · skip
                  have g39 := i_eq h38
                  have hV40 : zV (ma_u m 94 0 (0 : Int32)) := uf_94_0 hV
                  have f41 : 0 ≤ (m 94 46).toInt ∧ (m 94 46).toInt ≤ 100000 := rs_94_46 (m := m) hV
                  exact K ((m 94 46)) _ (zF_u zF_rfl rfl) hV40 r_W r_GW r_GU r_OW r_DX r_GG r_HA r_RGc (show (m 94 58).toInt = 0 ∨ (m 94 10).toInt = 5 from by omega)
                · skip
                  have g42 := i_ne h38
                  have li43 : (5 : Int32).toInt = 5 := rfl
                  refine zd (fun (h44 : wh = (5 : Int32)) => ?_) (fun (h44 : ¬ wh = (5 : Int32)) => ?_)
                  · skip
                    have g45 := i_eq h44
                    have hV46 : zV (ma_u m 94 0 (0 : Int32)) := uf_94_0 hV
                    have b47 := i_bd (m 94 47)
                    exact K ((m 94 47)) _ (zF_u zF_rfl rfl) hV46 r_W r_GW r_GU r_OW r_DX r_GG r_HA r_RGc (show (m 94 58).toInt = 0 ∨ (m 94 10).toInt = 5 from by omega)
                  · skip
                    have g48 := i_ne h44
                    have li49 : (6 : Int32).toInt = 6 := rfl
                    refine zd (fun (h50 : wh = (6 : Int32)) => ?_) (fun (h50 : ¬ wh = (6 : Int32)) => ?_)
                    · skip
                      have g51 := i_eq h50
                      have hV52 : zV (ma_u m 94 0 (0 : Int32)) := uf_94_0 hV
                      have b53 := i_bd (m 94 48)
                      exact K ((m 94 48)) _ (zF_u zF_rfl rfl) hV52 r_W r_GW r_GU r_OW r_DX r_GG r_HA r_RGc (show (m 94 58).toInt = 0 ∨ (m 94 10).toInt = 5 from by omega)
                    · skip
                      have g54 := i_ne h50
                      have li55 : (7 : Int32).toInt = 7 := rfl
                      refine zd (fun (h56 : wh = (7 : Int32)) => ?_) (fun (h56 : ¬ wh = (7 : Int32)) => ?_)
                      · skip
                        have g57 := i_eq h56
                        have hV58 : zV (ma_u m 94 0 (0 : Int32)) := uf_94_0 hV
                        have b59 := i_bd (m 94 49)
                        exact K ((m 94 49)) _ (zF_u zF_rfl rfl) hV58 r_W r_GW r_GU r_OW r_DX r_GG r_HA r_RGc (show (m 94 58).toInt = 0 ∨ (m 94 10).toInt = 5 from by omega)
                      · skip
                        have g60 := i_ne h56
                        have li61 : (8 : Int32).toInt = 8 := rfl
                        refine zd (fun (h62 : wh = (8 : Int32)) => ?_) (fun (h62 : ¬ wh = (8 : Int32)) => ?_)
                        · skip
                          have g63 := i_eq h62
                          have hV64 : zV (ma_u m 94 0 (0 : Int32)) := uf_94_0 hV
                          have b65 := i_bd (m 94 50)
                          exact K ((m 94 50)) _ (zF_u zF_rfl rfl) hV64 r_W r_GW r_GU r_OW r_DX r_GG r_HA r_RGc (show (m 94 58).toInt = 0 ∨ (m 94 10).toInt = 5 from by omega)
                        · skip
                          have g66 := i_ne h62
                          have li67 : (9 : Int32).toInt = 9 := rfl
                          refine zd (fun (h68 : wh = (9 : Int32)) => ?_) (fun (h68 : ¬ wh = (9 : Int32)) => ?_)
                          · skip
                            have g69 := i_eq h68
                            have hV70 : zV (ma_u m 94 0 (0 : Int32)) := uf_94_0 hV
                            have f71 : 0 ≤ (m 94 55).toInt ∧ (m 94 55).toInt ≤ 3100 := rs_94_55 (m := m) hV
                            exact K ((m 94 55)) _ (zF_u zF_rfl rfl) hV70 r_W r_GW r_GU r_OW r_DX r_GG r_HA r_RGc (show (m 94 58).toInt = 0 ∨ (m 94 10).toInt = 5 from by omega)
                          · skip
                            have g72 := i_ne h68
                            have li73 : (10 : Int32).toInt = 10 := rfl
                            refine zd (fun (h74 : wh = (10 : Int32)) => ?_) (fun (h74 : ¬ wh = (10 : Int32)) => ?_)
                            · skip
                              have g75 := i_eq h74
                              refine zd (fun (h76 : (m 94 10) = (3 : Int32)) => ?_) (fun (h76 : ¬ (m 94 10) = (3 : Int32)) => ?_)
                              · skip
                                have g77 := i_eq h76
                                have hV78 : zV (ma_u m 94 0 (0 : Int32)) := uf_94_0 hV
                                refine sp_261  hV78  (fun v4 m3 hV_m3  => zmi_n ?_)
                                have b79 := i_bd v4
                                exact K (v4) _ (zF_zov (zF_u zF_rfl rfl) ws_261_260) hV_m3 r_W r_GW r_GU r_OW r_DX r_GG r_HA r_RGc (show (m 94 58).toInt = 0 ∨ (m 94 10).toInt = 5 from by omega)
                              · skip
                                have g80 := i_ne h76
                                refine zd (fun (h81 : (m 94 10) = (6 : Int32)) => ?_) (fun (h81 : ¬ (m 94 10) = (6 : Int32)) => ?_)
                                · skip
                                  have g82 := i_eq h81
                                  have hV83 : zV (ma_u m 94 0 (0 : Int32)) := uf_94_0 hV
                                  refine sp_233  hV83  (fun v2 m1 hV_m1 p0_m1 => zmi_n ?_)
                                  have p0_m1 : v2.toInt ≤ 0 ∨ ∃ r : Nat, (r : Int) < (m 94 64).toInt ∧ (m 116) r = 0 := p0_m1
                                  have b84 := i_bd v2
                                  exact K (v2) _ (zF_zov (zF_u zF_rfl rfl) ws_233_260) hV_m1 r_W r_GW r_GU r_OW r_DX r_GG r_HA r_RGc (show (m 94 58).toInt = 0 ∨ (m 94 10).toInt = 5 from by omega)
                                · skip
                                  have g85 := i_ne h81
                                  refine zd (fun (h86 : (m 94 10) = (5 : Int32)) => ?_) (fun (h86 : ¬ (m 94 10) = (5 : Int32)) => ?_)
                                  · skip
                                    have g87 := i_eq h86
                                    refine zd (fun (h88 : (m 94 58) = (0 : Int32)) => ?_) (fun (h88 : ¬ (m 94 58) = (0 : Int32)) => ?_)
                                    · skip
                                      have g89 := i_eq h88
                                      have hV90 : zV (ma_u m 94 0 (0 : Int32)) := uf_94_0 hV
                                      exact K ((0 : Int32)) _ (zF_u zF_rfl rfl) hV90 r_W r_GW r_GU r_OW r_DX r_GG r_HA r_RGc (show (m 94 58).toInt = 0 ∨ (m 94 10).toInt = 5 from by omega)
                                    · skip
                                      have g91 := i_ne h88
                                      have hV92 : zV (ma_u m 94 0 (0 : Int32)) := uf_94_0 hV
                                      have f93 : 0 ≤ (m 94 56).toInt ∧ (m 94 56).toInt ≤ 3100 := rs_94_56 (m := m) hV
                                      have f94 : 0 ≤ (m 94 57).toInt ∧ (m 94 57).toInt ≤ 3100 := rs_94_57 (m := m) hV
                                      first | have e95 : ((m 94 56) - (m 94 57)).toInt = (m 94 56).toInt - (m 94 57).toInt := i_sub (by omega) (by omega) | have b96 := i_bd ((m 94 56) - (m 94 57))
                                      exact K (((m 94 56) - (m 94 57))) _ (zF_u zF_rfl rfl) hV92 r_W r_GW r_GU r_OW r_DX r_GG r_HA r_RGc (show (m 94 58).toInt = 0 ∨ (m 94 10).toInt = 5 from by omega)
                                  · skip
                                    have g97 := i_ne h86
                                    have hV98 : zV (ma_u m 94 0 (0 : Int32)) := uf_94_0 hV
                                    exact K ((0 : Int32)) _ (zF_u zF_rfl rfl) hV98 r_W r_GW r_GU r_OW r_DX r_GG r_HA r_RGc (show (m 94 58).toInt = 0 ∨ (m 94 10).toInt = 5 from by omega)
                            · skip
                              have g99 := i_ne h74
                              have li100 : (11 : Int32).toInt = 11 := rfl
                              refine zd (fun (h101 : wh = (11 : Int32)) => ?_) (fun (h101 : ¬ wh = (11 : Int32)) => ?_)
                              · skip
                                have g102 := i_eq h101
                                refine zd (fun (h103 : (m 94 10) = (1 : Int32)) => ?_) (fun (h103 : ¬ (m 94 10) = (1 : Int32)) => ?_)
                                · skip
                                  have g104 := i_eq h103
                                  have hV105 : zV (ma_u m 94 0 (0 : Int32)) := uf_94_0 hV
                                  have f106 : 0 ≤ (m 94 59).toInt ∧ (m 94 59).toInt ≤ 4600 := rs_94_59 (m := m) hV
                                  exact K ((m 94 59)) _ (zF_u zF_rfl rfl) hV105 r_W r_GW r_GU r_OW r_DX r_GG r_HA r_RGc (show (m 94 58).toInt = 0 ∨ (m 94 10).toInt = 5 from by omega)
                                · skip
                                  have g107 := i_ne h103
                                  refine zd (fun (h108 : (m 94 10) = (2 : Int32)) => ?_) (fun (h108 : ¬ (m 94 10) = (2 : Int32)) => ?_)
                                  · skip
                                    have g109 := i_eq h108
                                    have hV110 : zV (ma_u m 94 0 (0 : Int32)) := uf_94_0 hV
                                    have f111 : 0 ≤ (m 94 59).toInt ∧ (m 94 59).toInt ≤ 4600 := rs_94_59 (m := m) hV
                                    exact K ((m 94 59)) _ (zF_u zF_rfl rfl) hV110 r_W r_GW r_GU r_OW r_DX r_GG r_HA r_RGc (show (m 94 58).toInt = 0 ∨ (m 94 10).toInt = 5 from by omega)
                                  · skip
                                    have g112 := i_ne h108
                                    refine zd (fun (h113 : (m 94 10) = (3 : Int32)) => ?_) (fun (h113 : ¬ (m 94 10) = (3 : Int32)) => ?_)
                                    · skip
                                      have g114 := i_eq h113
                                      have hV115 : zV (ma_u m 94 0 (0 : Int32)) := uf_94_0 hV
                                      have f116 : 0 ≤ (m 94 59).toInt ∧ (m 94 59).toInt ≤ 4600 := rs_94_59 (m := m) hV
                                      exact K ((m 94 59)) _ (zF_u zF_rfl rfl) hV115 r_W r_GW r_GU r_OW r_DX r_GG r_HA r_RGc (show (m 94 58).toInt = 0 ∨ (m 94 10).toInt = 5 from by omega)
                                    · skip
                                      have g117 := i_ne h113
                                      refine zd (fun (h118 : (m 94 10) = (6 : Int32)) => ?_) (fun (h118 : ¬ (m 94 10) = (6 : Int32)) => ?_)
                                      · skip
                                        have g119 := i_eq h118
                                        have f120 : 0 ≤ (m 94 63).toInt ∧ (m 94 63).toInt ≤ 127 := rs_94_63 (m := m) hV
                                        have hg121 : (0 ≤ (m 94 63) ∧ (m 94 63).toNatClampNeg < 128) := i_ix (by omega) (by omega)
                                        refine ⟨hg121, ?_⟩
                                        have hV122 : zV (ma_u m 94 0 (0 : Int32)) := uf_94_0 hV
                                        have f123 : 0 ≤ (m 94 18).toInt ∧ (m 94 18).toInt ≤ 256 := rs_94_18 (m := m) hV
                                        first | have f124 := i_muln (x := (m 94 63)) (y := (m 94 18)) (by omega) (by omega) (by omega) (by omega) | have b125 := i_bd ((m 94 63) * (m 94 18))
                                        first | have f126 : 0 ≤ (m 116 (m 94 63).toNatClampNeg).toInt ∧ (m 116 (m 94 63).toNatClampNeg).toInt ≤ 4600 := ra_116 (m := m) hV (k := (m 94 63).toNatClampNeg) (i_ix (n := 128) (by omega) (by omega)).2 | have b127 := i_bd (m 116 (m 94 63).toNatClampNeg)
                                        first | have e128 : (((m 94 63) * (m 94 18)) + (m 116 (m 94 63).toNatClampNeg)).toInt = ((m 94 63) * (m 94 18)).toInt + (m 116 (m 94 63).toNatClampNeg).toInt := i_add (by omega) (by omega) | have b129 := i_bd (((m 94 63) * (m 94 18)) + (m 116 (m 94 63).toNatClampNeg))
                                        exact K ((((m 94 63) * (m 94 18)) + (m 116 (m 94 63).toNatClampNeg))) _ (zF_u zF_rfl rfl) hV122 r_W r_GW r_GU r_OW r_DX r_GG r_HA r_RGc (show (m 94 58).toInt = 0 ∨ (m 94 10).toInt = 5 from by omega)
                                      · skip
                                        have g130 := i_ne h118
                                        have hV131 : zV (ma_u m 94 0 (0 : Int32)) := uf_94_0 hV
                                        exact K ((0 : Int32)) _ (zF_u zF_rfl rfl) hV131 r_W r_GW r_GU r_OW r_DX r_GG r_HA r_RGc (show (m 94 58).toInt = 0 ∨ (m 94 10).toInt = 5 from by omega)
                              · skip
                                have g132 := i_ne h101
                                have li133 : (12 : Int32).toInt = 12 := rfl
                                refine zd (fun (h134 : wh = (12 : Int32)) => ?_) (fun (h134 : ¬ wh = (12 : Int32)) => ?_)
                                · skip
                                  have g135 := i_eq h134
                                  refine zd (fun (h136 : (m 94 58) = (0 : Int32)) => ?_) (fun (h136 : ¬ (m 94 58) = (0 : Int32)) => ?_)
                                  · skip
                                    have g137 := i_eq h136
                                    have hV138 : zV (ma_u m 94 0 (0 : Int32)) := uf_94_0 hV
                                    exact K ((0 : Int32)) _ (zF_u zF_rfl rfl) hV138 r_W r_GW r_GU r_OW r_DX r_GG r_HA r_RGc (show (m 94 58).toInt = 0 ∨ (m 94 10).toInt = 5 from by omega)
                                  · skip
                                    have g139 := i_ne h136
                                    have hV140 : zV (ma_u m 94 0 (0 : Int32)) := uf_94_0 hV
                                    exact K ((1 : Int32)) _ (zF_u zF_rfl rfl) hV140 r_W r_GW r_GU r_OW r_DX r_GG r_HA r_RGc (show (m 94 58).toInt = 0 ∨ (m 94 10).toInt = 5 from by omega)
                                · skip
                                  have g141 := i_ne h134
                                  refine zd (fun (h142 : (m 94 10) = (3 : Int32)) => ?_) (fun (h142 : ¬ (m 94 10) = (3 : Int32)) => ?_)
                                  · skip
                                    have g143 := i_eq h142
                                    have hV144 : zV (ma_u m 94 0 (0 : Int32)) := uf_94_0 hV
                                    have f145 : 0 ≤ (m 94 60).toInt ∧ (m 94 60).toInt ≤ 1600 := rs_94_60 (m := m) hV
                                    exact K ((m 94 60)) _ (zF_u zF_rfl rfl) hV144 r_W r_GW r_GU r_OW r_DX r_GG r_HA r_RGc (show (m 94 58).toInt = 0 ∨ (m 94 10).toInt = 5 from by omega)
                                  · skip
                                    have g146 := i_ne h142
                                    refine zd (fun (h147 : (m 94 10) = (6 : Int32)) => ?_) (fun (h147 : ¬ (m 94 10) = (6 : Int32)) => ?_)
                                    · skip
                                      have g148 := i_eq h147
                                      have hV149 : zV (ma_u m 94 0 (0 : Int32)) := uf_94_0 hV
                                      have f150 : 0 ≤ (m 94 63).toInt ∧ (m 94 63).toInt ≤ 127 := rs_94_63 (m := m) hV
                                      exact K ((m 94 63)) _ (zF_u zF_rfl rfl) hV149 r_W r_GW r_GU r_OW r_DX r_GG r_HA r_RGc (show (m 94 58).toInt = 0 ∨ (m 94 10).toInt = 5 from by omega)
                                    · skip
                                      have g151 := i_ne h147
                                      have hV152 : zV (ma_u m 94 0 (0 : Int32)) := uf_94_0 hV
                                      exact K ((0 : Int32)) _ (zF_u zF_rfl rfl) hV152 r_W r_GW r_GU r_OW r_DX r_GG r_HA r_RGc (show (m 94 58).toInt = 0 ∨ (m 94 10).toInt = 5 from by omega)
      · skip
        have g153 := i_nle h13
        have f154 : 0 ≤ (m 94 8).toInt ∧ (m 94 8).toInt ≤ 1 := rs_94_8 (m := m) hV
        refine zd (fun (h155 : (m 94 8) = (0 : Int32)) => ?_) (fun (h155 : ¬ (m 94 8) = (0 : Int32)) => ?_)
        · skip
          have g156 := i_eq h155
          have hV157 : zV (ma_u m 94 0 (2 : Int32)) := uf_94_0 hV
          exact K ((0 : Int32)) _ (zF_u zF_rfl rfl) hV157 r_W r_GW r_GU r_OW r_DX r_GG r_HA r_RGc (show (m 94 58).toInt = 0 ∨ (m 94 10).toInt = 5 from by omega)
        · skip
          have g158 := i_ne h155
          refine zd (fun (h159 : wh = (0 : Int32)) => ?_) (fun (h159 : ¬ wh = (0 : Int32)) => ?_)
          · skip
            have g160 := i_eq h159
            have hV161 : zV (ma_u m 94 0 (0 : Int32)) := uf_94_0 hV
            have f162 : 0 ≤ (m 94 3).toInt ∧ (m 94 3).toInt ≤ 100 := rs_94_3 (m := m) hV
            exact K ((m 94 3)) _ (zF_u zF_rfl rfl) hV161 r_W r_GW r_GU r_OW r_DX r_GG r_HA r_RGc (show (m 94 58).toInt = 0 ∨ (m 94 10).toInt = 5 from by omega)
          · skip
            have g163 := i_ne h159
            refine zd (fun (h164 : wh = (1 : Int32)) => ?_) (fun (h164 : ¬ wh = (1 : Int32)) => ?_)
            · skip
              have g165 := i_eq h164
              have hV166 : zV (ma_u m 94 0 (0 : Int32)) := uf_94_0 hV
              have f167 : 0 ≤ (m 94 7).toInt ∧ (m 94 7).toInt ≤ 16 := rs_94_7 (m := m) hV
              exact K ((m 94 7)) _ (zF_u zF_rfl rfl) hV166 r_W r_GW r_GU r_OW r_DX r_GG r_HA r_RGc (show (m 94 58).toInt = 0 ∨ (m 94 10).toInt = 5 from by omega)
            · skip
              have g168 := i_ne h164
              have li169 : (2 : Int32).toInt = 2 := rfl
              refine zd (fun (h170 : wh = (2 : Int32)) => ?_) (fun (h170 : ¬ wh = (2 : Int32)) => ?_)
              · skip
                have g171 := i_eq h170
                have hV172 : zV (ma_u m 94 0 (0 : Int32)) := uf_94_0 hV
                have b173 := i_bd (m 94 44)
                exact K ((m 94 44)) _ (zF_u zF_rfl rfl) hV172 r_W r_GW r_GU r_OW r_DX r_GG r_HA r_RGc (show (m 94 58).toInt = 0 ∨ (m 94 10).toInt = 5 from by omega)
              · skip
                have g174 := i_ne h170
                have li175 : (3 : Int32).toInt = 3 := rfl
                refine zd (fun (h176 : wh = (3 : Int32)) => ?_) (fun (h176 : ¬ wh = (3 : Int32)) => ?_)
                · skip
                  have g177 := i_eq h176
                  have hV178 : zV (ma_u m 94 0 (0 : Int32)) := uf_94_0 hV
                  have b179 := i_bd (m 94 45)
                  exact K ((m 94 45)) _ (zF_u zF_rfl rfl) hV178 r_W r_GW r_GU r_OW r_DX r_GG r_HA r_RGc (show (m 94 58).toInt = 0 ∨ (m 94 10).toInt = 5 from by omega)
                · skip
                  have g180 := i_ne h176
                  have li181 : (4 : Int32).toInt = 4 := rfl
                  refine zd (fun (h182 : wh = (4 : Int32)) => ?_) (fun (h182 : ¬ wh = (4 : Int32)) => ?_)
                  · skip
                    have g183 := i_eq h182
                    have hV184 : zV (ma_u m 94 0 (0 : Int32)) := uf_94_0 hV
                    have f185 : 0 ≤ (m 94 46).toInt ∧ (m 94 46).toInt ≤ 100000 := rs_94_46 (m := m) hV
                    exact K ((m 94 46)) _ (zF_u zF_rfl rfl) hV184 r_W r_GW r_GU r_OW r_DX r_GG r_HA r_RGc (show (m 94 58).toInt = 0 ∨ (m 94 10).toInt = 5 from by omega)
                  · skip
                    have g186 := i_ne h182
                    have li187 : (5 : Int32).toInt = 5 := rfl
                    refine zd (fun (h188 : wh = (5 : Int32)) => ?_) (fun (h188 : ¬ wh = (5 : Int32)) => ?_)
                    · skip
                      have g189 := i_eq h188
                      have hV190 : zV (ma_u m 94 0 (0 : Int32)) := uf_94_0 hV
                      have b191 := i_bd (m 94 47)
                      exact K ((m 94 47)) _ (zF_u zF_rfl rfl) hV190 r_W r_GW r_GU r_OW r_DX r_GG r_HA r_RGc (show (m 94 58).toInt = 0 ∨ (m 94 10).toInt = 5 from by omega)
                    · skip
                      have g192 := i_ne h188
                      have li193 : (6 : Int32).toInt = 6 := rfl
                      refine zd (fun (h194 : wh = (6 : Int32)) => ?_) (fun (h194 : ¬ wh = (6 : Int32)) => ?_)
                      · skip
                        have g195 := i_eq h194
                        have hV196 : zV (ma_u m 94 0 (0 : Int32)) := uf_94_0 hV
                        have b197 := i_bd (m 94 48)
                        exact K ((m 94 48)) _ (zF_u zF_rfl rfl) hV196 r_W r_GW r_GU r_OW r_DX r_GG r_HA r_RGc (show (m 94 58).toInt = 0 ∨ (m 94 10).toInt = 5 from by omega)
                      · skip
                        have g198 := i_ne h194
                        have li199 : (7 : Int32).toInt = 7 := rfl
                        refine zd (fun (h200 : wh = (7 : Int32)) => ?_) (fun (h200 : ¬ wh = (7 : Int32)) => ?_)
                        · skip
                          have g201 := i_eq h200
                          have hV202 : zV (ma_u m 94 0 (0 : Int32)) := uf_94_0 hV
                          have b203 := i_bd (m 94 49)
                          exact K ((m 94 49)) _ (zF_u zF_rfl rfl) hV202 r_W r_GW r_GU r_OW r_DX r_GG r_HA r_RGc (show (m 94 58).toInt = 0 ∨ (m 94 10).toInt = 5 from by omega)
                        · skip
                          have g204 := i_ne h200
                          have li205 : (8 : Int32).toInt = 8 := rfl
                          refine zd (fun (h206 : wh = (8 : Int32)) => ?_) (fun (h206 : ¬ wh = (8 : Int32)) => ?_)
                          · skip
                            have g207 := i_eq h206
                            have hV208 : zV (ma_u m 94 0 (0 : Int32)) := uf_94_0 hV
                            have b209 := i_bd (m 94 50)
                            exact K ((m 94 50)) _ (zF_u zF_rfl rfl) hV208 r_W r_GW r_GU r_OW r_DX r_GG r_HA r_RGc (show (m 94 58).toInt = 0 ∨ (m 94 10).toInt = 5 from by omega)
                          · skip
                            have g210 := i_ne h206
                            have li211 : (9 : Int32).toInt = 9 := rfl
                            refine zd (fun (h212 : wh = (9 : Int32)) => ?_) (fun (h212 : ¬ wh = (9 : Int32)) => ?_)
                            · skip
                              have g213 := i_eq h212
                              have hV214 : zV (ma_u m 94 0 (0 : Int32)) := uf_94_0 hV
                              have f215 : 0 ≤ (m 94 55).toInt ∧ (m 94 55).toInt ≤ 3100 := rs_94_55 (m := m) hV
                              exact K ((m 94 55)) _ (zF_u zF_rfl rfl) hV214 r_W r_GW r_GU r_OW r_DX r_GG r_HA r_RGc (show (m 94 58).toInt = 0 ∨ (m 94 10).toInt = 5 from by omega)
                            · skip
                              have g216 := i_ne h212
                              have li217 : (10 : Int32).toInt = 10 := rfl
                              refine zd (fun (h218 : wh = (10 : Int32)) => ?_) (fun (h218 : ¬ wh = (10 : Int32)) => ?_)
                              · skip
                                have g219 := i_eq h218
                                refine zd (fun (h220 : (m 94 10) = (3 : Int32)) => ?_) (fun (h220 : ¬ (m 94 10) = (3 : Int32)) => ?_)
                                · skip
                                  have g221 := i_eq h220
                                  have hV222 : zV (ma_u m 94 0 (0 : Int32)) := uf_94_0 hV
                                  refine sp_261  hV222  (fun v8 m7 hV_m7  => zmi_n ?_)
                                  have b223 := i_bd v8
                                  exact K (v8) _ (zF_zov (zF_u zF_rfl rfl) ws_261_260) hV_m7 r_W r_GW r_GU r_OW r_DX r_GG r_HA r_RGc (show (m 94 58).toInt = 0 ∨ (m 94 10).toInt = 5 from by omega)
                                · skip
                                  have g224 := i_ne h220
                                  refine zd (fun (h225 : (m 94 10) = (6 : Int32)) => ?_) (fun (h225 : ¬ (m 94 10) = (6 : Int32)) => ?_)
                                  · skip
                                    have g226 := i_eq h225
                                    have hV227 : zV (ma_u m 94 0 (0 : Int32)) := uf_94_0 hV
                                    refine sp_233  hV227  (fun v6 m5 hV_m5 p0_m5 => zmi_n ?_)
                                    have p0_m5 : v6.toInt ≤ 0 ∨ ∃ r : Nat, (r : Int) < (m 94 64).toInt ∧ (m 116) r = 0 := p0_m5
                                    have b228 := i_bd v6
                                    exact K (v6) _ (zF_zov (zF_u zF_rfl rfl) ws_233_260) hV_m5 r_W r_GW r_GU r_OW r_DX r_GG r_HA r_RGc (show (m 94 58).toInt = 0 ∨ (m 94 10).toInt = 5 from by omega)
                                  · skip
                                    have g229 := i_ne h225
                                    refine zd (fun (h230 : (m 94 10) = (5 : Int32)) => ?_) (fun (h230 : ¬ (m 94 10) = (5 : Int32)) => ?_)
                                    · skip
                                      have g231 := i_eq h230
                                      refine zd (fun (h232 : (m 94 58) = (0 : Int32)) => ?_) (fun (h232 : ¬ (m 94 58) = (0 : Int32)) => ?_)
                                      · skip
                                        have g233 := i_eq h232
                                        have hV234 : zV (ma_u m 94 0 (0 : Int32)) := uf_94_0 hV
                                        exact K ((0 : Int32)) _ (zF_u zF_rfl rfl) hV234 r_W r_GW r_GU r_OW r_DX r_GG r_HA r_RGc (show (m 94 58).toInt = 0 ∨ (m 94 10).toInt = 5 from by omega)
                                      · skip
                                        have g235 := i_ne h232
                                        have hV236 : zV (ma_u m 94 0 (0 : Int32)) := uf_94_0 hV
                                        have f237 : 0 ≤ (m 94 56).toInt ∧ (m 94 56).toInt ≤ 3100 := rs_94_56 (m := m) hV
                                        have f238 : 0 ≤ (m 94 57).toInt ∧ (m 94 57).toInt ≤ 3100 := rs_94_57 (m := m) hV
                                        first | have e239 : ((m 94 56) - (m 94 57)).toInt = (m 94 56).toInt - (m 94 57).toInt := i_sub (by omega) (by omega) | have b240 := i_bd ((m 94 56) - (m 94 57))
                                        exact K (((m 94 56) - (m 94 57))) _ (zF_u zF_rfl rfl) hV236 r_W r_GW r_GU r_OW r_DX r_GG r_HA r_RGc (show (m 94 58).toInt = 0 ∨ (m 94 10).toInt = 5 from by omega)
                                    · skip
                                      have g241 := i_ne h230
                                      have hV242 : zV (ma_u m 94 0 (0 : Int32)) := uf_94_0 hV
                                      exact K ((0 : Int32)) _ (zF_u zF_rfl rfl) hV242 r_W r_GW r_GU r_OW r_DX r_GG r_HA r_RGc (show (m 94 58).toInt = 0 ∨ (m 94 10).toInt = 5 from by omega)
                              · skip
                                have g243 := i_ne h218
                                have li244 : (11 : Int32).toInt = 11 := rfl
                                refine zd (fun (h245 : wh = (11 : Int32)) => ?_) (fun (h245 : ¬ wh = (11 : Int32)) => ?_)
                                · skip
                                  have g246 := i_eq h245
                                  refine zd (fun (h247 : (m 94 10) = (1 : Int32)) => ?_) (fun (h247 : ¬ (m 94 10) = (1 : Int32)) => ?_)
                                  · skip
                                    have g248 := i_eq h247
                                    have hV249 : zV (ma_u m 94 0 (0 : Int32)) := uf_94_0 hV
                                    have f250 : 0 ≤ (m 94 59).toInt ∧ (m 94 59).toInt ≤ 4600 := rs_94_59 (m := m) hV
                                    exact K ((m 94 59)) _ (zF_u zF_rfl rfl) hV249 r_W r_GW r_GU r_OW r_DX r_GG r_HA r_RGc (show (m 94 58).toInt = 0 ∨ (m 94 10).toInt = 5 from by omega)
                                  · skip
                                    have g251 := i_ne h247
                                    refine zd (fun (h252 : (m 94 10) = (2 : Int32)) => ?_) (fun (h252 : ¬ (m 94 10) = (2 : Int32)) => ?_)
                                    · skip
                                      have g253 := i_eq h252
                                      have hV254 : zV (ma_u m 94 0 (0 : Int32)) := uf_94_0 hV
                                      have f255 : 0 ≤ (m 94 59).toInt ∧ (m 94 59).toInt ≤ 4600 := rs_94_59 (m := m) hV
                                      exact K ((m 94 59)) _ (zF_u zF_rfl rfl) hV254 r_W r_GW r_GU r_OW r_DX r_GG r_HA r_RGc (show (m 94 58).toInt = 0 ∨ (m 94 10).toInt = 5 from by omega)
                                    · skip
                                      have g256 := i_ne h252
                                      refine zd (fun (h257 : (m 94 10) = (3 : Int32)) => ?_) (fun (h257 : ¬ (m 94 10) = (3 : Int32)) => ?_)
                                      · skip
                                        have g258 := i_eq h257
                                        have hV259 : zV (ma_u m 94 0 (0 : Int32)) := uf_94_0 hV
                                        have f260 : 0 ≤ (m 94 59).toInt ∧ (m 94 59).toInt ≤ 4600 := rs_94_59 (m := m) hV
                                        exact K ((m 94 59)) _ (zF_u zF_rfl rfl) hV259 r_W r_GW r_GU r_OW r_DX r_GG r_HA r_RGc (show (m 94 58).toInt = 0 ∨ (m 94 10).toInt = 5 from by omega)
                                      · skip
                                        have g261 := i_ne h257
                                        refine zd (fun (h262 : (m 94 10) = (6 : Int32)) => ?_) (fun (h262 : ¬ (m 94 10) = (6 : Int32)) => ?_)
                                        · skip
                                          have g263 := i_eq h262
                                          have f264 : 0 ≤ (m 94 63).toInt ∧ (m 94 63).toInt ≤ 127 := rs_94_63 (m := m) hV
                                          have hg265 : (0 ≤ (m 94 63) ∧ (m 94 63).toNatClampNeg < 128) := i_ix (by omega) (by omega)
                                          refine ⟨hg265, ?_⟩
                                          have hV266 : zV (ma_u m 94 0 (0 : Int32)) := uf_94_0 hV
                                          have f267 : 0 ≤ (m 94 18).toInt ∧ (m 94 18).toInt ≤ 256 := rs_94_18 (m := m) hV
                                          first | have f268 := i_muln (x := (m 94 63)) (y := (m 94 18)) (by omega) (by omega) (by omega) (by omega) | have b269 := i_bd ((m 94 63) * (m 94 18))
                                          first | have f270 : 0 ≤ (m 116 (m 94 63).toNatClampNeg).toInt ∧ (m 116 (m 94 63).toNatClampNeg).toInt ≤ 4600 := ra_116 (m := m) hV (k := (m 94 63).toNatClampNeg) (i_ix (n := 128) (by omega) (by omega)).2 | have b271 := i_bd (m 116 (m 94 63).toNatClampNeg)
                                          first | have e272 : (((m 94 63) * (m 94 18)) + (m 116 (m 94 63).toNatClampNeg)).toInt = ((m 94 63) * (m 94 18)).toInt + (m 116 (m 94 63).toNatClampNeg).toInt := i_add (by omega) (by omega) | have b273 := i_bd (((m 94 63) * (m 94 18)) + (m 116 (m 94 63).toNatClampNeg))
                                          exact K ((((m 94 63) * (m 94 18)) + (m 116 (m 94 63).toNatClampNeg))) _ (zF_u zF_rfl rfl) hV266 r_W r_GW r_GU r_OW r_DX r_GG r_HA r_RGc (show (m 94 58).toInt = 0 ∨ (m 94 10).toInt = 5 from by omega)
                                        · skip
                                          have g274 := i_ne h262
                                          have hV275 : zV (ma_u m 94 0 (0 : Int32)) := uf_94_0 hV
                                          exact K ((0 : Int32)) _ (zF_u zF_rfl rfl) hV275 r_W r_GW r_GU r_OW r_DX r_GG r_HA r_RGc (show (m 94 58).toInt = 0 ∨ (m 94 10).toInt = 5 from by omega)
                                · skip
                                  have g276 := i_ne h245
                                  have li277 : (12 : Int32).toInt = 12 := rfl
                                  refine zd (fun (h278 : wh = (12 : Int32)) => ?_) (fun (h278 : ¬ wh = (12 : Int32)) => ?_)
                                  · skip
                                    have g279 := i_eq h278
                                    refine zd (fun (h280 : (m 94 58) = (0 : Int32)) => ?_) (fun (h280 : ¬ (m 94 58) = (0 : Int32)) => ?_)
                                    · skip
                                      have g281 := i_eq h280
                                      have hV282 : zV (ma_u m 94 0 (0 : Int32)) := uf_94_0 hV
                                      exact K ((0 : Int32)) _ (zF_u zF_rfl rfl) hV282 r_W r_GW r_GU r_OW r_DX r_GG r_HA r_RGc (show (m 94 58).toInt = 0 ∨ (m 94 10).toInt = 5 from by omega)
                                    · skip
                                      have g283 := i_ne h280
                                      have hV284 : zV (ma_u m 94 0 (0 : Int32)) := uf_94_0 hV
                                      exact K ((1 : Int32)) _ (zF_u zF_rfl rfl) hV284 r_W r_GW r_GU r_OW r_DX r_GG r_HA r_RGc (show (m 94 58).toInt = 0 ∨ (m 94 10).toInt = 5 from by omega)
                                  · skip
                                    have g285 := i_ne h278
                                    refine zd (fun (h286 : (m 94 10) = (3 : Int32)) => ?_) (fun (h286 : ¬ (m 94 10) = (3 : Int32)) => ?_)
                                    · skip
                                      have g287 := i_eq h286
                                      have hV288 : zV (ma_u m 94 0 (0 : Int32)) := uf_94_0 hV
                                      have f289 : 0 ≤ (m 94 60).toInt ∧ (m 94 60).toInt ≤ 1600 := rs_94_60 (m := m) hV
                                      exact K ((m 94 60)) _ (zF_u zF_rfl rfl) hV288 r_W r_GW r_GU r_OW r_DX r_GG r_HA r_RGc (show (m 94 58).toInt = 0 ∨ (m 94 10).toInt = 5 from by omega)
                                    · skip
                                      have g290 := i_ne h286
                                      refine zd (fun (h291 : (m 94 10) = (6 : Int32)) => ?_) (fun (h291 : ¬ (m 94 10) = (6 : Int32)) => ?_)
                                      · skip
                                        have g292 := i_eq h291
                                        have hV293 : zV (ma_u m 94 0 (0 : Int32)) := uf_94_0 hV
                                        have f294 : 0 ≤ (m 94 63).toInt ∧ (m 94 63).toInt ≤ 127 := rs_94_63 (m := m) hV
                                        exact K ((m 94 63)) _ (zF_u zF_rfl rfl) hV293 r_W r_GW r_GU r_OW r_DX r_GG r_HA r_RGc (show (m 94 58).toInt = 0 ∨ (m 94 10).toInt = 5 from by omega)
                                      · skip
                                        have g295 := i_ne h291
                                        have hV296 : zV (ma_u m 94 0 (0 : Int32)) := uf_94_0 hV
                                        exact K ((0 : Int32)) _ (zF_u zF_rfl rfl) hV296 r_W r_GW r_GU r_OW r_DX r_GG r_HA r_RGc (show (m 94 58).toInt = 0 ∨ (m 94 10).toInt = 5 from by omega)
    · skip
      have g297 := i_nle h10
      have hV298 : zV (ma_u m 94 0 (1 : Int32)) := uf_94_0 hV
      exact K ((0 : Int32)) _ (zF_u zF_rfl rfl) hV298 r_W r_GW r_GU r_OW r_DX r_GG r_HA r_RGc (show (m 94 58).toInt = 0 ∨ (m 94 10).toInt = 5 from by omega)

