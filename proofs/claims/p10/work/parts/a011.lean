/-! from 94.464 -/
/-! the reference (written by wip/tools/gen94m.py) -/
set_option maxRecDepth 100000 in
theorem hm_213 : ma_md 213 = some (12, yX12_cardOf, cX12_cardOf, 3, (some (FieldType.int))) := rfl
set_option maxRecDepth 100000 in
theorem hm_247 : ma_md 247 = some (12, yX12_link, cX12_link, 9, (some (FieldType.int))) := rfl
theorem f_12_216_12 : ma_fld 12 216 12 = some 16 := by decide +kernel
theorem v_12_375_12 : ma_vl 12 375 12 = some (1, 213, 2) := by decide +kernel
theorem dX12_link_0 : decode cX12_link 0 = .ok (.aload_n 0, 1) := by decide +kernel
theorem dX12_link_1 : decode cX12_link 1 = .ok (.aload_n 0, 1) := by decide +kernel
theorem dX12_link_12 : decode cX12_link 12 = .ok (.iconst 0, 1) := by decide +kernel
theorem dX12_link_13 : decode cX12_link 13 = .ok (.invokevirtual 110, 3) := by decide +kernel
theorem dX12_link_16 : decode cX12_link 16 = .ok (.ifCond .eq 5, 3) := by decide +kernel
theorem dX12_link_21 : decode cX12_link 21 = .ok (.aload_n 0, 1) := by decide +kernel
theorem dX12_link_22 : decode cX12_link 22 = .ok (.iload_n 1, 1) := by decide +kernel
theorem dX12_link_23 : decode cX12_link 23 = .ok (.invokevirtual 499, 3) := by decide +kernel
theorem dX12_link_26 : decode cX12_link 26 = .ok (.istore 4, 2) := by decide +kernel
theorem dX12_link_28 : decode cX12_link 28 = .ok (.iload 4, 2) := by decide +kernel
theorem dX12_link_50 : decode cX12_link 50 = .ok (.iconst 0, 1) := by decide +kernel
theorem dX12_link_51 : decode cX12_link 51 = .ok (.istore 5, 2) := by decide +kernel
theorem dX12_link_33 : decode cX12_link 33 = .ok (.iload_n 3, 1) := by decide +kernel
theorem dX12_link_34 : decode cX12_link 34 = .ok (.iconst (-1), 1) := by decide +kernel
theorem dX12_link_46 : decode cX12_link 46 = .ok (.iconst 1, 1) := by decide +kernel
theorem dX12_link_47 : decode cX12_link 47 = .ok (.goto 4, 3) := by decide +kernel
theorem dX12_link_38 : decode cX12_link 38 = .ok (.aload_n 0, 1) := by decide +kernel
theorem dX12_link_39 : decode cX12_link 39 = .ok (.iload_n 3, 1) := by decide +kernel
theorem dX12_link_40 : decode cX12_link 40 = .ok (.invokevirtual 499, 3) := by decide +kernel
theorem dX12_link_43 : decode cX12_link 43 = .ok (.ifCond .lt 7, 3) := by decide +kernel
theorem dX12_link_35 : decode cX12_link 35 = .ok (.if_icmp .eq 11, 3) := by decide +kernel
theorem dX12_link_30 : decode cX12_link 30 = .ok (.ifCond .lt 20, 3) := by decide +kernel
theorem dX12_link_8 : decode cX12_link 8 = .ok (.iconst 1, 1) := by decide +kernel
theorem dX12_link_9 : decode cX12_link 9 = .ok (.goto 4, 3) := by decide +kernel
theorem dX12_link_19 : decode cX12_link 19 = .ok (.iconst 0, 1) := by decide +kernel
theorem dX12_link_20 : decode cX12_link 20 = .ok (.ireturn, 1) := by decide +kernel
theorem dX12_link_5 : decode cX12_link 5 = .ok (.ifCond .ne 7, 3) := by decide +kernel
theorem dX12_link_2 : decode cX12_link 2 = .ok (.getfield 237, 3) := by decide +kernel
theorem dX12_link_53 : decode cX12_link 53 = .ok (.aload_n 0, 1) := by decide +kernel
theorem dX12_link_54 : decode cX12_link 54 = .ok (.iload 5, 2) := by decide +kernel
theorem dX12_link_63 : decode cX12_link 63 = .ok (.iload_n 2, 1) := by decide +kernel
theorem dX12_link_78 : decode cX12_link 78 = .ok (.iconst 3, 1) := by decide +kernel
theorem dX12_link_79 : decode cX12_link 79 = .ok (.goto 18, 3) := by decide +kernel
theorem dX12_link_97 : decode cX12_link 97 = .ok (.invokevirtual 110, 3) := by decide +kernel
theorem dX12_link_100 : decode cX12_link 100 = .ok (.ifCond .eq 5, 3) := by decide +kernel
theorem dX12_link_103 : decode cX12_link 103 = .ok (.iconst 0, 1) := by decide +kernel
theorem dX12_link_104 : decode cX12_link 104 = .ok (.ireturn, 1) := by decide +kernel
theorem dX12_link_67 : decode cX12_link 67 = .ok (.iload_n 2, 1) := by decide +kernel
theorem dX12_link_68 : decode cX12_link 68 = .ok (.aload_n 0, 1) := by decide +kernel
theorem dX12_link_72 : decode cX12_link 72 = .ok (.iload 4, 2) := by decide +kernel
theorem dX12_link_82 : decode cX12_link 82 = .ok (.aload_n 0, 1) := by decide +kernel
theorem dX12_link_83 : decode cX12_link 83 = .ok (.iload 4, 2) := by decide +kernel
theorem dX12_link_85 : decode cX12_link 85 = .ok (.iload_n 2, 1) := by decide +kernel
theorem dX12_link_86 : decode cX12_link 86 = .ok (.invokevirtual 288, 3) := by decide +kernel
theorem dX12_link_89 : decode cX12_link 89 = .ok (.ifCond .ne 7, 3) := by decide +kernel
theorem dX12_link_96 : decode cX12_link 96 = .ok (.iconst 0, 1) := by decide +kernel
theorem dX12_link_92 : decode cX12_link 92 = .ok (.iconst 4, 1) := by decide +kernel
theorem dX12_link_93 : decode cX12_link 93 = .ok (.goto 4, 3) := by decide +kernel
theorem dX12_link_75 : decode cX12_link 75 = .ok (.if_icmp .lt 7, 3) := by decide +kernel
theorem dX12_link_74 : decode cX12_link 74 = .ok (.iaload, 1) := by decide +kernel
theorem dX12_link_69 : decode cX12_link 69 = .ok (.getfield 37, 3) := by decide +kernel
theorem dX12_link_64 : decode cX12_link 64 = .ok (.ifCond .lt 14, 3) := by decide +kernel
theorem dX12_link_59 : decode cX12_link 59 = .ok (.iconst 2, 1) := by decide +kernel
theorem dX12_link_60 : decode cX12_link 60 = .ok (.goto 37, 3) := by decide +kernel
theorem dX12_link_56 : decode cX12_link 56 = .ok (.ifCond .ne 7, 3) := by decide +kernel
theorem dX12_link_105 : decode cX12_link 105 = .ok (.iload_n 3, 1) := by decide +kernel
theorem dX12_link_106 : decode cX12_link 106 = .ok (.iconst (-1), 1) := by decide +kernel
theorem dX12_link_114 : decode cX12_link 114 = .ok (.aload_n 0, 1) := by decide +kernel
theorem dX12_link_115 : decode cX12_link 115 = .ok (.iload_n 3, 1) := by decide +kernel
theorem dX12_link_116 : decode cX12_link 116 = .ok (.invokevirtual 307, 3) := by decide +kernel
theorem dX12_link_119 : decode cX12_link 119 = .ok (.istore 6, 2) := by decide +kernel
theorem dX12_link_110 : decode cX12_link 110 = .ok (.iconst (-1), 1) := by decide +kernel
theorem dX12_link_111 : decode cX12_link 111 = .ok (.goto 8, 3) := by decide +kernel
theorem dX12_link_107 : decode cX12_link 107 = .ok (.if_icmp .ne 7, 3) := by decide +kernel
theorem dX12_link_121 : decode cX12_link 121 = .ok (.aload_n 0, 1) := by decide +kernel
theorem dX12_link_125 : decode cX12_link 125 = .ok (.iload 4, 2) := by decide +kernel
theorem dX12_link_127 : decode cX12_link 127 = .ok (.bipush 60, 2) := by decide +kernel
theorem dX12_link_129 : decode cX12_link 129 = .ok (.imul, 1) := by decide +kernel
theorem dX12_link_130 : decode cX12_link 130 = .ok (.iload_n 2, 1) := by decide +kernel
theorem dX12_link_131 : decode cX12_link 131 = .ok (.iadd, 1) := by decide +kernel
theorem dX12_link_133 : decode cX12_link 133 = .ok (.istore 7, 2) := by decide +kernel
theorem dX12_link_135 : decode cX12_link 135 = .ok (.aload_n 0, 1) := by decide +kernel
theorem dX12_link_136 : decode cX12_link 136 = .ok (.iload 7, 2) := by decide +kernel
theorem dX12_link_138 : decode cX12_link 138 = .ok (.invokevirtual 502, 3) := by decide +kernel
theorem dX12_link_141 : decode cX12_link 141 = .ok (.istore 8, 2) := by decide +kernel
theorem dX12_link_143 : decode cX12_link 143 = .ok (.aload_n 0, 1) := by decide +kernel
theorem dX12_link_144 : decode cX12_link 144 = .ok (.iload 6, 2) := by decide +kernel
theorem dX12_link_146 : decode cX12_link 146 = .ok (.invokevirtual 484, 3) := by decide +kernel
theorem dX12_link_132 : decode cX12_link 132 = .ok (.iaload, 1) := by decide +kernel
theorem dX12_link_122 : decode cX12_link 122 = .ok (.getfield 56, 3) := by decide +kernel
theorem dX12_link_149 : decode cX12_link 149 = .ok (.aload_n 0, 1) := by decide +kernel
theorem dX12_link_153 : decode cX12_link 153 = .ok (.iload 4, 2) := by decide +kernel
theorem dX12_link_155 : decode cX12_link 155 = .ok (.bipush 60, 2) := by decide +kernel
theorem dX12_link_157 : decode cX12_link 157 = .ok (.imul, 1) := by decide +kernel
theorem dX12_link_158 : decode cX12_link 158 = .ok (.iload_n 2, 1) := by decide +kernel
theorem dX12_link_159 : decode cX12_link 159 = .ok (.iadd, 1) := by decide +kernel
theorem dX12_link_160 : decode cX12_link 160 = .ok (.iload 6, 2) := by decide +kernel
theorem dX12_link_163 : decode cX12_link 163 = .ok (.aload_n 0, 1) := by decide +kernel
theorem dX12_link_167 : decode cX12_link 167 = .ok (.iconst 3, 1) := by decide +kernel
theorem dX12_link_171 : decode cX12_link 171 = .ok (.aload_n 0, 1) := by decide +kernel
theorem dX12_link_172 : decode cX12_link 172 = .ok (.iload 4, 2) := by decide +kernel
theorem dX12_link_174 : decode cX12_link 174 = .ok (.invokevirtual 314, 3) := by decide +kernel
theorem dX12_link_177 : decode cX12_link 177 = .ok (.ifCond .eq 30, 3) := by decide +kernel
theorem dX12_link_180 : decode cX12_link 180 = .ok (.iload 6, 2) := by decide +kernel
theorem dX12_link_185 : decode cX12_link 185 = .ok (.aload_n 0, 1) := by decide +kernel
theorem dX12_link_186 : decode cX12_link 186 = .ok (.iload 6, 2) := by decide +kernel
theorem dX12_link_188 : decode cX12_link 188 = .ok (.invokevirtual 314, 3) := by decide +kernel
theorem dX12_link_191 : decode cX12_link 191 = .ok (.ifCond .ne 16, 3) := by decide +kernel
theorem dX12_link_194 : decode cX12_link 194 = .ok (.aload_n 0, 1) := by decide +kernel
theorem dX12_link_198 : decode cX12_link 198 = .ok (.aload_n 0, 1) := by decide +kernel
theorem dX12_link_199 : decode cX12_link 199 = .ok (.iload 4, 2) := by decide +kernel
theorem dX12_link_201 : decode cX12_link 201 = .ok (.iload_n 2, 1) := by decide +kernel
theorem dX12_link_202 : decode cX12_link 202 = .ok (.invokevirtual 375, 3) := by decide +kernel
theorem dX12_cardOf_0 : decode cX12_cardOf 0 = .ok (.aload_n 0, 1) := by decide +kernel
theorem dX12_cardOf_4 : decode cX12_cardOf 4 = .ok (.iload_n 1, 1) := by decide +kernel
theorem dX12_cardOf_6 : decode cX12_cardOf 6 = .ok (.iconst 1, 1) := by decide +kernel
theorem dX12_cardOf_7 : decode cX12_cardOf 7 = .ok (.iadd, 1) := by decide +kernel
theorem dX12_cardOf_8 : decode cX12_cardOf 8 = .ok (.iload_n 2, 1) := by decide +kernel
theorem dX12_cardOf_9 : decode cX12_cardOf 9 = .ok (.iadd, 1) := by decide +kernel
theorem dX12_cardOf_10 : decode cX12_cardOf 10 = .ok (.aload_n 0, 1) := by decide +kernel
theorem dX12_link_205 : decode cX12_link 205 = .ok (.iconst 1, 1) := by decide +kernel
theorem dX12_link_206 : decode cX12_link 206 = .ok (.bastore, 1) := by decide +kernel
theorem dX12_cardOf_15 : decode cX12_cardOf 15 = .ok (.ireturn, 1) := by decide +kernel
theorem dX12_cardOf_14 : decode cX12_cardOf 14 = .ok (.idiv, 1) := by decide +kernel
theorem dX12_cardOf_11 : decode cX12_cardOf 11 = .ok (.getfield 216, 3) := by decide +kernel
theorem dX12_cardOf_5 : decode cX12_cardOf 5 = .ok (.iaload, 1) := by decide +kernel
theorem dX12_cardOf_1 : decode cX12_cardOf 1 = .ok (.getfield 40, 3) := by decide +kernel
theorem dX12_link_195 : decode cX12_link 195 = .ok (.getfield 83, 3) := by decide +kernel
theorem dX12_link_182 : decode cX12_link 182 = .ok (.ifCond .lt 25, 3) := by decide +kernel
theorem dX12_link_168 : decode cX12_link 168 = .ok (.if_icmp .ne 39, 3) := by decide +kernel
theorem dX12_link_164 : decode cX12_link 164 = .ok (.getfield 199, 3) := by decide +kernel
theorem dX12_link_162 : decode cX12_link 162 = .ok (.iastore, 1) := by decide +kernel
theorem dX12_link_150 : decode cX12_link 150 = .ok (.getfield 56, 3) := by decide +kernel
theorem dX12_link_207 : decode cX12_link 207 = .ok (.aload_n 0, 1) := by decide +kernel
theorem dX12_link_208 : decode cX12_link 208 = .ok (.iload 7, 2) := by decide +kernel
theorem dX12_link_210 : decode cX12_link 210 = .ok (.iload 6, 2) := by decide +kernel
theorem dX12_link_212 : decode cX12_link 212 = .ok (.invokevirtual 487, 3) := by decide +kernel
theorem dX12_link_215 : decode cX12_link 215 = .ok (.aload_n 0, 1) := by decide +kernel
theorem dX12_link_216 : decode cX12_link 216 = .ok (.iload 7, 2) := by decide +kernel
theorem dX12_link_218 : decode cX12_link 218 = .ok (.invokevirtual 490, 3) := by decide +kernel
theorem dX12_link_221 : decode cX12_link 221 = .ok (.iload 8, 2) := by decide +kernel
theorem dX12_link_223 : decode cX12_link 223 = .ok (.ireturn, 1) := by decide +kernel
def wr_247 (c k : Nat) : Bool := Nat.beq c 99 || Nat.beq c 105 || Nat.beq c 106 || Nat.beq c 108 || Nat.beq c 109 || Nat.beq c 110 || Nat.beq c 111 || Nat.beq c 113 || Nat.beq c 114 || Nat.beq c 115 || Nat.beq c 117 || Nat.beq c 118 || Nat.beq c 120 || Nat.beq c 121 || (Nat.beq c 94 && (Nat.beq k 0 || Nat.beq k 44 || Nat.beq k 45 || Nat.beq k 49 || Nat.beq k 55 || Nat.beq k 56 || Nat.beq k 73 || Nat.beq k 80))
theorem ws_240_247 : ∀ c k, wr_240 c k = true → wr_247 c k = true := by
  intro c k h
  simp only [wr_240, Bool.or_eq_true, Bool.and_eq_true, Nat.beq_eq] at h
  rcases h with (rfl | rfl) | ⟨rfl, rfl⟩ <;> rfl
theorem ws_241_247 : ∀ c k, wr_241 c k = true → wr_247 c k = true := by
  intro c k h
  simp only [wr_241, Bool.or_eq_true, Bool.and_eq_true, Nat.beq_eq] at h
  rcases h with (((((((rfl | rfl) | rfl) | rfl) | rfl) | rfl) | rfl) | rfl) | ⟨rfl, ((((rfl | rfl) | rfl) | rfl) | rfl)⟩ <;> rfl
theorem ws_245_247 : ∀ c k, wr_245 c k = true → wr_247 c k = true := by
  intro c k h
  simp only [wr_245, Bool.or_eq_true, Bool.and_eq_true, Nat.beq_eq] at h
  rcases h with (rfl | rfl) | ⟨rfl, rfl⟩ <;> rfl
theorem ws_246_247 : ∀ c k, wr_246 c k = true → wr_247 c k = true := fun _ _ h => by cases h
theorem g_247_0 {X : Nat × (Nat → Int32)} {m : Nat → Nat → Int32} {P : Option ma_V → (Nat → Nat → Int32) → Prop} (ob : Int32) (ix : Int32) (oo : Int32) (h : if (m 94 8) = 0 then (P (some (.inl (0 : Int32))) (ma_u m 94 0 (1 : Int32))) else (zm X 4 87 245 0 [(0, .inr (.inr (some 94))), (1, .inl ob)] (ma_u m 94 0 (0 : Int32)) (zmi (fun v2 m1 => if v2 < 0 then (zm X 5 109 247 53 [(0, .inr (.inr (some 94))), (2, .inl ix), (3, .inl oo), (4, .inl v2), (5, .inl (0 : Int32))] m1 P) else (if oo = (-1 : Int32) then (zm X 5 109 247 53 [(0, .inr (.inr (some 94))), (2, .inl ix), (3, .inl oo), (4, .inl v2), (5, .inl (1 : Int32))] m1 P) else (zm X 4 87 245 0 [(0, .inr (.inr (some 94))), (1, .inl oo)] m1 (zmi (fun v4 m3 => if v4 < 0 then (zm X 5 109 247 53 [(0, .inr (.inr (some 94))), (2, .inl ix), (3, .inl oo), (4, .inl v2), (5, .inl (0 : Int32))] m3 P) else (zm X 5 109 247 53 [(0, .inr (.inr (some 94))), (2, .inl ix), (3, .inl oo), (4, .inl v2), (5, .inl (1 : Int32))] m3 P))))))))) : zm X 5 109 247 0 [(0, .inr (.inr (some 94))), (1, .inl ob), (2, .inl ix), (3, .inl oo)] m P := by
  intro d w S Q hd hw hS hm HQ
  subst hm
  refine zw_push hm_247 dX12_link_0 (v := .inr (.inr (some 94))) rfl ?_
  refine zw_push hm_247 dX12_link_1 (v := .inr (.inr (some 94))) rfl ?_
  refine zw_gf hm_247 dX12_link_2 (v := .inl ((mI S) 94 8)) (zT_is hS s_94) (zT_t hS s_94) rfl f_12_237_12 rfl ?_
  refine zw_if0 hm_247 dX12_link_5 (t := 12) rfl zc0_ne ?_ ?_
  · intro hc
    rw [if_neg hc] at h
    refine zw_push hm_247 dX12_link_12 (v := .inl (0 : Int32)) rfl ?_
    refine zw_cv hm_247 dX12_link_13 v_12_110_12 hm_167 [.inl (0 : Int32)] [] rfl (zT_rt hS s_94 rfl) ⟨by omega, by omega⟩ rfl ?_
    show ma_wp X (d - 1) (w - 21) 167 0 [(0, .inr (.inr (some 94))), (1, .inl (0 : Int32))] [] S _
    refine zw_push hm_167 dX12_fails_0 (v := .inr (.inr (some 94))) rfl ?_
    refine zw_push hm_167 dX12_fails_1 (v := .inl (0 : Int32)) rfl ?_
    refine zw_pf hm_167 dX12_fails_2 (zT_is hS s_94) (zT_t hS s_94) p_12_1_12 zk_int ?_
    refine zw_push hm_167 dX12_fails_5 (v := .inl (0 : Int32)) rfl ?_
    refine zw_if0 hm_167 dX12_fails_6 (t := 13) rfl zc0_eq (fun _ => ?_) (fun hc => absurd (by decide) hc)
    refine zw_push hm_167 dX12_fails_13 (v := .inl (0 : Int32)) rfl ?_
    refine zw_bret hm_167 dX12_fails_14 (by decide) ?_
    show ma_wp X d w 247 16 [(0, .inr (.inr (some 94))), (1, .inl ob), (2, .inl ix), (3, .inl oo)] [.inl (0 : Int32)] (ma_put S 94 0 (.inl (0 : Int32))) _
    refine zw_if0 hm_247 dX12_link_16 (t := 21) rfl zc0_eq (fun _ => ?_) (fun hc => absurd (by decide) hc)
    refine zw_push hm_247 dX12_link_21 (v := .inr (.inr (some 94))) rfl ?_
    refine zw_push hm_247 dX12_link_22 (v := .inl ob) rfl ?_
    refine zw_cv hm_247 dX12_link_23 v_12_499_12 hm_245 [.inl ob] [] rfl (zT_rt (zT_pi hS) s_94 rfl) ⟨by omega, by omega⟩ rfl (h _ _ (ma_put S 94 0 (.inl (0 : Int32))) _ (by omega) (by omega) (zT_pi hS) rfl (fun o9 m1 hv => ?_))
    obtain ⟨v2, rfl, h⟩ := zmi_of hv
    show ma_wp X d w 247 26 [(0, .inr (.inr (some 94))), (1, .inl ob), (2, .inl ix), (3, .inl oo)] [.inl v2] (zst S m1) _
    refine zw_sto hm_247 dX12_link_26 [(4, .inl v2), (0, .inr (.inr (some 94))), (1, .inl ob), (2, .inl ix), (3, .inl oo)] rfl rfl rfl ?_
    refine zw_push hm_247 dX12_link_28 (v := .inl v2) rfl ?_
    refine zw_if0 hm_247 dX12_link_30 (t := 50) rfl zc0_lt ?_ ?_
    · intro hc
      rw [if_pos hc] at h
      refine zw_push hm_247 dX12_link_50 (v := .inl (0 : Int32)) rfl ?_
      refine zw_sto hm_247 dX12_link_51 [(5, .inl (0 : Int32)), (4, .inl v2), (0, .inr (.inr (some 94))), (1, .inl ob), (2, .inl ix), (3, .inl oo)] rfl rfl rfl ?_
      exact zw_sub (ma_nd_of (ks := [0, 2, 3, 4, 5]) rfl (by decide)) (ma_nd_of (ks := [5, 4, 0, 1, 2, 3]) rfl (by decide)) (ma_le_cons rfl (ma_le_cons rfl (ma_le_cons rfl (ma_le_cons rfl (ma_le_cons rfl (ma_le_nil _)))))) (h d w _ Q (by omega) (by omega) (zT_zst hS m1) rfl HQ)
    · intro hc
      rw [if_neg hc] at h
      refine zw_push hm_247 dX12_link_33 (v := .inl oo) rfl ?_
      refine zw_push hm_247 dX12_link_34 (v := .inl (-1 : Int32)) rfl ?_
      refine zw_if2 hm_247 dX12_link_35 (t := 46) rfl zc2_eq ?_ ?_
      · intro hc
        rw [if_pos hc] at h
        refine zw_push hm_247 dX12_link_46 (v := .inl (1 : Int32)) rfl ?_
        refine zw_goto hm_247 dX12_link_47 (t := 51) rfl ?_
        refine zw_sto hm_247 dX12_link_51 [(5, .inl (1 : Int32)), (4, .inl v2), (0, .inr (.inr (some 94))), (1, .inl ob), (2, .inl ix), (3, .inl oo)] rfl rfl rfl ?_
        exact zw_sub (ma_nd_of (ks := [0, 2, 3, 4, 5]) rfl (by decide)) (ma_nd_of (ks := [5, 4, 0, 1, 2, 3]) rfl (by decide)) (ma_le_cons rfl (ma_le_cons rfl (ma_le_cons rfl (ma_le_cons rfl (ma_le_cons rfl (ma_le_nil _)))))) (h d w _ Q (by omega) (by omega) (zT_zst hS m1) rfl HQ)
      · intro hc
        rw [if_neg hc] at h
        refine zw_push hm_247 dX12_link_38 (v := .inr (.inr (some 94))) rfl ?_
        refine zw_push hm_247 dX12_link_39 (v := .inl oo) rfl ?_
        refine zw_cv hm_247 dX12_link_40 v_12_499_12 hm_245 [.inl oo] [] rfl (zT_rt (zT_zst hS m1) s_94 rfl) ⟨by omega, by omega⟩ rfl (h _ _ (zst S m1) _ (by omega) (by omega) (zT_zst hS m1) rfl (fun o9 m3 hv => ?_))
        obtain ⟨v4, rfl, h⟩ := zmi_of hv
        show ma_wp X d w 247 43 [(4, .inl v2), (0, .inr (.inr (some 94))), (1, .inl ob), (2, .inl ix), (3, .inl oo)] [.inl v4] (zst S m3) _
        refine zw_if0 hm_247 dX12_link_43 (t := 50) rfl zc0_lt ?_ ?_
        · intro hc
          rw [if_pos hc] at h
          refine zw_push hm_247 dX12_link_50 (v := .inl (0 : Int32)) rfl ?_
          refine zw_sto hm_247 dX12_link_51 [(5, .inl (0 : Int32)), (4, .inl v2), (0, .inr (.inr (some 94))), (1, .inl ob), (2, .inl ix), (3, .inl oo)] rfl rfl rfl ?_
          exact zw_sub (ma_nd_of (ks := [0, 2, 3, 4, 5]) rfl (by decide)) (ma_nd_of (ks := [5, 4, 0, 1, 2, 3]) rfl (by decide)) (ma_le_cons rfl (ma_le_cons rfl (ma_le_cons rfl (ma_le_cons rfl (ma_le_cons rfl (ma_le_nil _)))))) (h d w _ Q (by omega) (by omega) (zT_zst hS m3) rfl HQ)
        · intro hc
          rw [if_neg hc] at h
          refine zw_push hm_247 dX12_link_46 (v := .inl (1 : Int32)) rfl ?_
          refine zw_goto hm_247 dX12_link_47 (t := 51) rfl ?_
          refine zw_sto hm_247 dX12_link_51 [(5, .inl (1 : Int32)), (4, .inl v2), (0, .inr (.inr (some 94))), (1, .inl ob), (2, .inl ix), (3, .inl oo)] rfl rfl rfl ?_
          exact zw_sub (ma_nd_of (ks := [0, 2, 3, 4, 5]) rfl (by decide)) (ma_nd_of (ks := [5, 4, 0, 1, 2, 3]) rfl (by decide)) (ma_le_cons rfl (ma_le_cons rfl (ma_le_cons rfl (ma_le_cons rfl (ma_le_cons rfl (ma_le_nil _)))))) (h d w _ Q (by omega) (by omega) (zT_zst hS m3) rfl HQ)
  · intro hc
    rw [if_pos (Classical.not_not.mp hc)] at h
    refine zw_push hm_247 dX12_link_8 (v := .inl (1 : Int32)) rfl ?_
    refine zw_goto hm_247 dX12_link_9 (t := 13) rfl ?_
    refine zw_cv hm_247 dX12_link_13 v_12_110_12 hm_167 [.inl (1 : Int32)] [] rfl (zT_rt hS s_94 rfl) ⟨by omega, by omega⟩ rfl ?_
    show ma_wp X (d - 1) (w - 21) 167 0 [(0, .inr (.inr (some 94))), (1, .inl (1 : Int32))] [] S _
    refine zw_push hm_167 dX12_fails_0 (v := .inr (.inr (some 94))) rfl ?_
    refine zw_push hm_167 dX12_fails_1 (v := .inl (1 : Int32)) rfl ?_
    refine zw_pf hm_167 dX12_fails_2 (zT_is hS s_94) (zT_t hS s_94) p_12_1_12 zk_int ?_
    refine zw_push hm_167 dX12_fails_5 (v := .inl (1 : Int32)) rfl ?_
    refine zw_if0 hm_167 dX12_fails_6 (t := 13) rfl zc0_eq (fun hc => absurd hc (by decide)) (fun _ => ?_)
    refine zw_push hm_167 dX12_fails_9 (v := .inl (1 : Int32)) rfl ?_
    refine zw_goto hm_167 dX12_fails_10 (t := 14) rfl ?_
    refine zw_bret hm_167 dX12_fails_14 (by decide) ?_
    show ma_wp X d w 247 16 [(0, .inr (.inr (some 94))), (1, .inl ob), (2, .inl ix), (3, .inl oo)] [.inl (1 : Int32)] (ma_put S 94 0 (.inl (1 : Int32))) _
    refine zw_if0 hm_247 dX12_link_16 (t := 21) rfl zc0_eq (fun hc => absurd hc (by decide)) (fun _ => ?_)
    refine zw_push hm_247 dX12_link_19 (v := .inl (0 : Int32)) rfl ?_
    exact zw_iret hm_247 dX12_link_20 (HQ _ _ h)
theorem g_247_53 {X : Nat × (Nat → Int32)} {m : Nat → Nat → Int32} {P : Option ma_V → (Nat → Nat → Int32) → Prop} (l2 : Int32) (l3 : Int32) (l4 : Int32) (l5 : Int32) (h : if l5 = 0 then (P (some (.inl (0 : Int32))) (ma_u m 94 0 (2 : Int32))) else (if l2 < 0 then (P (some (.inl (0 : Int32))) (ma_u m 94 0 (3 : Int32))) else ((0 ≤ l4 ∧ l4.toNatClampNeg < 3100) ∧ (if l2 < (m 102 l4.toNatClampNeg) then ((0 ≤ l4 ∧ l4.toNatClampNeg < 3100) ∧ (if (m 101 l4.toNatClampNeg) = (16 : Int32) then (zm X 5 109 247 105 [(0, .inr (.inr (some 94))), (2, .inl l2), (3, .inl l3), (4, .inl l4)] (ma_u m 94 0 (0 : Int32)) P) else ((0 ≤ l4 ∧ l4.toNatClampNeg < 3100) ∧ (if (16 : Int32) ≤ (m 101 l4.toNatClampNeg) then (P (some (.inl (0 : Int32))) (ma_u m 94 0 (4 : Int32))) else ((0 ≤ l4 ∧ l4.toNatClampNeg < 3100) ∧ ((0 ≤ (m 101 l4.toNatClampNeg) ∧ (m 101 l4.toNatClampNeg).toNatClampNeg < 16) ∧ (if (((m 98 (m 101 l4.toNatClampNeg).toNatClampNeg) >>> (l2 &&& 31)) &&& (1 : Int32)) = (1 : Int32) then (zm X 5 109 247 105 [(0, .inr (.inr (some 94))), (2, .inl l2), (3, .inl l3), (4, .inl l4)] (ma_u m 94 0 (0 : Int32)) P) else (P (some (.inl (0 : Int32))) (ma_u m 94 0 (4 : Int32)))))))))) else (P (some (.inl (0 : Int32))) (ma_u m 94 0 (3 : Int32))))))) : zm X 5 109 247 53 [(0, .inr (.inr (some 94))), (2, .inl l2), (3, .inl l3), (4, .inl l4), (5, .inl l5)] m P := by
  intro d w S Q hd hw hS hm HQ
  subst hm
  refine zw_push hm_247 dX12_link_53 (v := .inr (.inr (some 94))) rfl ?_
  refine zw_push hm_247 dX12_link_54 (v := .inl l5) rfl ?_
  refine zw_if0 hm_247 dX12_link_56 (t := 63) rfl zc0_ne ?_ ?_
  · intro hc
    rw [if_neg hc] at h
    refine zw_push hm_247 dX12_link_63 (v := .inl l2) rfl ?_
    refine zw_if0 hm_247 dX12_link_64 (t := 78) rfl zc0_lt ?_ ?_
    · intro hc
      rw [if_pos hc] at h
      refine zw_push hm_247 dX12_link_78 (v := .inl (3 : Int32)) rfl ?_
      refine zw_goto hm_247 dX12_link_79 (t := 97) rfl ?_
      refine zw_cv hm_247 dX12_link_97 v_12_110_12 hm_167 [.inl (3 : Int32)] [] rfl (zT_rt hS s_94 rfl) ⟨by omega, by omega⟩ rfl ?_
      show ma_wp X (d - 1) (w - 21) 167 0 [(0, .inr (.inr (some 94))), (1, .inl (3 : Int32))] [] S _
      refine zw_push hm_167 dX12_fails_0 (v := .inr (.inr (some 94))) rfl ?_
      refine zw_push hm_167 dX12_fails_1 (v := .inl (3 : Int32)) rfl ?_
      refine zw_pf hm_167 dX12_fails_2 (zT_is hS s_94) (zT_t hS s_94) p_12_1_12 zk_int ?_
      refine zw_push hm_167 dX12_fails_5 (v := .inl (3 : Int32)) rfl ?_
      refine zw_if0 hm_167 dX12_fails_6 (t := 13) rfl zc0_eq (fun hc => absurd hc (by decide)) (fun _ => ?_)
      refine zw_push hm_167 dX12_fails_9 (v := .inl (1 : Int32)) rfl ?_
      refine zw_goto hm_167 dX12_fails_10 (t := 14) rfl ?_
      refine zw_bret hm_167 dX12_fails_14 (by decide) ?_
      show ma_wp X d w 247 100 [(0, .inr (.inr (some 94))), (2, .inl l2), (3, .inl l3), (4, .inl l4), (5, .inl l5)] [.inl (1 : Int32)] (ma_put S 94 0 (.inl (3 : Int32))) _
      refine zw_if0 hm_247 dX12_link_100 (t := 105) rfl zc0_eq (fun hc => absurd hc (by decide)) (fun _ => ?_)
      refine zw_push hm_247 dX12_link_103 (v := .inl (0 : Int32)) rfl ?_
      exact zw_iret hm_247 dX12_link_104 (HQ _ _ h)
    · intro hc
      rw [if_neg hc] at h
      refine zw_push hm_247 dX12_link_67 (v := .inl l2) rfl ?_
      refine zw_push hm_247 dX12_link_68 (v := .inr (.inr (some 94))) rfl ?_
      refine zw_gf hm_247 dX12_link_69 (v := .inr (.inr (some 102))) (zT_is hS s_94) (zT_t hS s_94) rfl f_12_37_12 (zT_f hS r_94_34) ?_
      refine zw_push hm_247 dX12_link_72 (v := .inl l4) rfl ?_
      obtain ⟨hg, h⟩ := h
      refine zw_ia hm_247 dX12_link_74 (zT_is hS s_102) (zT_h hS s_102) rfl hg ?_
      show ma_wp X d w 247 75 [(0, .inr (.inr (some 94))), (2, .inl l2), (3, .inl l3), (4, .inl l4), (5, .inl l5)] [.inl ((mI S) 102 l4.toNatClampNeg), .inl l2, .inr (.inr (some 94))] S _
      refine zw_if2 hm_247 dX12_link_75 (t := 82) rfl zc2_lt ?_ ?_
      · intro hc
        rw [if_pos hc] at h
        refine zw_push hm_247 dX12_link_82 (v := .inr (.inr (some 94))) rfl ?_
        refine zw_push hm_247 dX12_link_83 (v := .inl l4) rfl ?_
        refine zw_push hm_247 dX12_link_85 (v := .inl l2) rfl ?_
        refine zw_cv hm_247 dX12_link_86 v_12_288_12 hm_193 [.inl l2, .inl l4] [.inr (.inr (some 94))] rfl (zT_rt hS s_94 rfl) ⟨by omega, by omega⟩ rfl ?_
        show ma_wp X (d - 1) (w - 22) 193 0 [(0, .inr (.inr (some 94))), (1, .inl l4), (2, .inl l2)] [] S _
        refine zw_push hm_193 dX12_isReference_0 (v := .inr (.inr (some 94))) rfl ?_
        refine zw_gf hm_193 dX12_isReference_1 (v := .inr (.inr (some 101))) (zT_is hS s_94) (zT_t hS s_94) rfl f_12_34_12 (zT_f hS r_94_33) ?_
        refine zw_push hm_193 dX12_isReference_4 (v := .inl l4) rfl ?_
        obtain ⟨hg, h⟩ := h
        refine zw_ia hm_193 dX12_isReference_5 (zT_is hS s_101) (zT_h hS s_101) rfl hg ?_
        show ma_wp X (d - 1) (w - 22) 193 6 [(0, .inr (.inr (some 94))), (1, .inl l4), (2, .inl l2)] [.inl ((mI S) 101 l4.toNatClampNeg)] S _
        refine zw_push hm_193 dX12_isReference_6 (v := .inl (16 : Int32)) rfl ?_
        refine zw_if2 hm_193 dX12_isReference_8 (t := 41) rfl zc2_eq ?_ ?_
        · intro hc
          rw [if_pos hc] at h
          refine zw_push hm_193 dX12_isReference_41 (v := .inl (1 : Int32)) rfl ?_
          refine zw_goto hm_193 dX12_isReference_42 (t := 46) rfl ?_
          refine zw_bret hm_193 dX12_isReference_46 (by decide) ?_
          show ma_wp X d w 247 89 [(0, .inr (.inr (some 94))), (2, .inl l2), (3, .inl l3), (4, .inl l4), (5, .inl l5)] [.inl (1 : Int32), .inr (.inr (some 94))] S _
          refine zw_if0 hm_247 dX12_link_89 (t := 96) rfl zc0_ne (fun _ => ?_) (fun hc => absurd (by decide) hc)
          refine zw_push hm_247 dX12_link_96 (v := .inl (0 : Int32)) rfl ?_
          refine zw_cv hm_247 dX12_link_97 v_12_110_12 hm_167 [.inl (0 : Int32)] [] rfl (zT_rt hS s_94 rfl) ⟨by omega, by omega⟩ rfl ?_
          show ma_wp X (d - 1) (w - 21) 167 0 [(0, .inr (.inr (some 94))), (1, .inl (0 : Int32))] [] S _
          refine zw_push hm_167 dX12_fails_0 (v := .inr (.inr (some 94))) rfl ?_
          refine zw_push hm_167 dX12_fails_1 (v := .inl (0 : Int32)) rfl ?_
          refine zw_pf hm_167 dX12_fails_2 (zT_is hS s_94) (zT_t hS s_94) p_12_1_12 zk_int ?_
          refine zw_push hm_167 dX12_fails_5 (v := .inl (0 : Int32)) rfl ?_
          refine zw_if0 hm_167 dX12_fails_6 (t := 13) rfl zc0_eq (fun _ => ?_) (fun hc => absurd (by decide) hc)
          refine zw_push hm_167 dX12_fails_13 (v := .inl (0 : Int32)) rfl ?_
          refine zw_bret hm_167 dX12_fails_14 (by decide) ?_
          show ma_wp X d w 247 100 [(0, .inr (.inr (some 94))), (2, .inl l2), (3, .inl l3), (4, .inl l4), (5, .inl l5)] [.inl (0 : Int32)] (ma_put S 94 0 (.inl (0 : Int32))) _
          refine zw_if0 hm_247 dX12_link_100 (t := 105) rfl zc0_eq (fun _ => ?_) (fun hc => absurd (by decide) hc)
          exact zw_sub (ma_nd_of (ks := [0, 2, 3, 4]) rfl (by decide)) (ma_nd_of (ks := [0, 2, 3, 4, 5]) rfl (by decide)) (ma_le_cons rfl (ma_le_cons rfl (ma_le_cons rfl (ma_le_cons rfl (ma_le_nil _))))) (h d w _ Q (by omega) (by omega) (zT_pi hS) rfl HQ)
        · intro hc
          rw [if_neg hc] at h
          refine zw_push hm_193 dX12_isReference_11 (v := .inr (.inr (some 94))) rfl ?_
          refine zw_gf hm_193 dX12_isReference_12 (v := .inr (.inr (some 101))) (zT_is hS s_94) (zT_t hS s_94) rfl f_12_34_12 (zT_f hS r_94_33) ?_
          refine zw_push hm_193 dX12_isReference_15 (v := .inl l4) rfl ?_
          obtain ⟨hg, h⟩ := h
          refine zw_ia hm_193 dX12_isReference_16 (zT_is hS s_101) (zT_h hS s_101) rfl hg ?_
          show ma_wp X (d - 1) (w - 22) 193 17 [(0, .inr (.inr (some 94))), (1, .inl l4), (2, .inl l2)] [.inl ((mI S) 101 l4.toNatClampNeg)] S _
          refine zw_push hm_193 dX12_isReference_17 (v := .inl (16 : Int32)) rfl ?_
          refine zw_if2 hm_193 dX12_isReference_19 (t := 45) rfl zc2_ge ?_ ?_
          · intro hc
            rw [if_pos hc] at h
            refine zw_push hm_193 dX12_isReference_45 (v := .inl (0 : Int32)) rfl ?_
            refine zw_bret hm_193 dX12_isReference_46 (by decide) ?_
            show ma_wp X d w 247 89 [(0, .inr (.inr (some 94))), (2, .inl l2), (3, .inl l3), (4, .inl l4), (5, .inl l5)] [.inl (0 : Int32), .inr (.inr (some 94))] S _
            refine zw_if0 hm_247 dX12_link_89 (t := 96) rfl zc0_ne (fun hc => absurd hc (by decide)) (fun _ => ?_)
            refine zw_push hm_247 dX12_link_92 (v := .inl (4 : Int32)) rfl ?_
            refine zw_goto hm_247 dX12_link_93 (t := 97) rfl ?_
            refine zw_cv hm_247 dX12_link_97 v_12_110_12 hm_167 [.inl (4 : Int32)] [] rfl (zT_rt hS s_94 rfl) ⟨by omega, by omega⟩ rfl ?_
            show ma_wp X (d - 1) (w - 21) 167 0 [(0, .inr (.inr (some 94))), (1, .inl (4 : Int32))] [] S _
            refine zw_push hm_167 dX12_fails_0 (v := .inr (.inr (some 94))) rfl ?_
            refine zw_push hm_167 dX12_fails_1 (v := .inl (4 : Int32)) rfl ?_
            refine zw_pf hm_167 dX12_fails_2 (zT_is hS s_94) (zT_t hS s_94) p_12_1_12 zk_int ?_
            refine zw_push hm_167 dX12_fails_5 (v := .inl (4 : Int32)) rfl ?_
            refine zw_if0 hm_167 dX12_fails_6 (t := 13) rfl zc0_eq (fun hc => absurd hc (by decide)) (fun _ => ?_)
            refine zw_push hm_167 dX12_fails_9 (v := .inl (1 : Int32)) rfl ?_
            refine zw_goto hm_167 dX12_fails_10 (t := 14) rfl ?_
            refine zw_bret hm_167 dX12_fails_14 (by decide) ?_
            show ma_wp X d w 247 100 [(0, .inr (.inr (some 94))), (2, .inl l2), (3, .inl l3), (4, .inl l4), (5, .inl l5)] [.inl (1 : Int32)] (ma_put S 94 0 (.inl (4 : Int32))) _
            refine zw_if0 hm_247 dX12_link_100 (t := 105) rfl zc0_eq (fun hc => absurd hc (by decide)) (fun _ => ?_)
            refine zw_push hm_247 dX12_link_103 (v := .inl (0 : Int32)) rfl ?_
            exact zw_iret hm_247 dX12_link_104 (HQ _ _ h)
          · intro hc
            rw [if_neg hc] at h
            refine zw_push hm_193 dX12_isReference_22 (v := .inr (.inr (some 94))) rfl ?_
            refine zw_gf hm_193 dX12_isReference_23 (v := .inr (.inr (some 98))) (zT_is hS s_94) (zT_t hS s_94) rfl f_12_24_12 (zT_f hS r_94_6) ?_
            refine zw_push hm_193 dX12_isReference_26 (v := .inr (.inr (some 94))) rfl ?_
            refine zw_gf hm_193 dX12_isReference_27 (v := .inr (.inr (some 101))) (zT_is hS s_94) (zT_t hS s_94) rfl f_12_34_12 (zT_f hS r_94_33) ?_
            refine zw_push hm_193 dX12_isReference_30 (v := .inl l4) rfl ?_
            obtain ⟨hg, h⟩ := h
            refine zw_ia hm_193 dX12_isReference_31 (zT_is hS s_101) (zT_h hS s_101) rfl hg ?_
            show ma_wp X (d - 1) (w - 22) 193 32 [(0, .inr (.inr (some 94))), (1, .inl l4), (2, .inl l2)] [.inl ((mI S) 101 l4.toNatClampNeg), .inr (.inr (some 98))] S _
            obtain ⟨hg, h⟩ := h
            refine zw_ia hm_193 dX12_isReference_32 (zT_is hS s_98) (zT_h hS s_98) rfl hg ?_
            show ma_wp X (d - 1) (w - 22) 193 33 [(0, .inr (.inr (some 94))), (1, .inl l4), (2, .inl l2)] [.inl ((mI S) 98 ((mI S) 101 l4.toNatClampNeg).toNatClampNeg)] S _
            refine zw_push hm_193 dX12_isReference_33 (v := .inl l2) rfl ?_
            refine zw_stk hm_193 dX12_isReference_34 (st₉ := [.inl (((mI S) 98 ((mI S) 101 l4.toNatClampNeg).toNatClampNeg) >>> (l2 &&& 31))]) rfl rfl ?_
            refine zw_push hm_193 dX12_isReference_35 (v := .inl (1 : Int32)) rfl ?_
            refine zw_stk hm_193 dX12_isReference_36 (st₉ := [.inl ((((mI S) 98 ((mI S) 101 l4.toNatClampNeg).toNatClampNeg) >>> (l2 &&& 31)) &&& (1 : Int32))]) rfl rfl ?_
            refine zw_push hm_193 dX12_isReference_37 (v := .inl (1 : Int32)) rfl ?_
            refine zw_if2 hm_193 dX12_isReference_38 (t := 45) rfl zc2_ne ?_ ?_
            · intro hc
              rw [if_neg hc] at h
              refine zw_push hm_193 dX12_isReference_45 (v := .inl (0 : Int32)) rfl ?_
              refine zw_bret hm_193 dX12_isReference_46 (by decide) ?_
              show ma_wp X d w 247 89 [(0, .inr (.inr (some 94))), (2, .inl l2), (3, .inl l3), (4, .inl l4), (5, .inl l5)] [.inl (0 : Int32), .inr (.inr (some 94))] S _
              refine zw_if0 hm_247 dX12_link_89 (t := 96) rfl zc0_ne (fun hc => absurd hc (by decide)) (fun _ => ?_)
              refine zw_push hm_247 dX12_link_92 (v := .inl (4 : Int32)) rfl ?_
              refine zw_goto hm_247 dX12_link_93 (t := 97) rfl ?_
              refine zw_cv hm_247 dX12_link_97 v_12_110_12 hm_167 [.inl (4 : Int32)] [] rfl (zT_rt hS s_94 rfl) ⟨by omega, by omega⟩ rfl ?_
              show ma_wp X (d - 1) (w - 21) 167 0 [(0, .inr (.inr (some 94))), (1, .inl (4 : Int32))] [] S _
              refine zw_push hm_167 dX12_fails_0 (v := .inr (.inr (some 94))) rfl ?_
              refine zw_push hm_167 dX12_fails_1 (v := .inl (4 : Int32)) rfl ?_
              refine zw_pf hm_167 dX12_fails_2 (zT_is hS s_94) (zT_t hS s_94) p_12_1_12 zk_int ?_
              refine zw_push hm_167 dX12_fails_5 (v := .inl (4 : Int32)) rfl ?_
              refine zw_if0 hm_167 dX12_fails_6 (t := 13) rfl zc0_eq (fun hc => absurd hc (by decide)) (fun _ => ?_)
              refine zw_push hm_167 dX12_fails_9 (v := .inl (1 : Int32)) rfl ?_
              refine zw_goto hm_167 dX12_fails_10 (t := 14) rfl ?_
              refine zw_bret hm_167 dX12_fails_14 (by decide) ?_
              show ma_wp X d w 247 100 [(0, .inr (.inr (some 94))), (2, .inl l2), (3, .inl l3), (4, .inl l4), (5, .inl l5)] [.inl (1 : Int32)] (ma_put S 94 0 (.inl (4 : Int32))) _
              refine zw_if0 hm_247 dX12_link_100 (t := 105) rfl zc0_eq (fun hc => absurd hc (by decide)) (fun _ => ?_)
              refine zw_push hm_247 dX12_link_103 (v := .inl (0 : Int32)) rfl ?_
              exact zw_iret hm_247 dX12_link_104 (HQ _ _ h)
            · intro hc
              rw [if_pos (Classical.not_not.mp hc)] at h
              refine zw_push hm_193 dX12_isReference_41 (v := .inl (1 : Int32)) rfl ?_
              refine zw_goto hm_193 dX12_isReference_42 (t := 46) rfl ?_
              refine zw_bret hm_193 dX12_isReference_46 (by decide) ?_
              show ma_wp X d w 247 89 [(0, .inr (.inr (some 94))), (2, .inl l2), (3, .inl l3), (4, .inl l4), (5, .inl l5)] [.inl (1 : Int32), .inr (.inr (some 94))] S _
              refine zw_if0 hm_247 dX12_link_89 (t := 96) rfl zc0_ne (fun _ => ?_) (fun hc => absurd (by decide) hc)
              refine zw_push hm_247 dX12_link_96 (v := .inl (0 : Int32)) rfl ?_
              refine zw_cv hm_247 dX12_link_97 v_12_110_12 hm_167 [.inl (0 : Int32)] [] rfl (zT_rt hS s_94 rfl) ⟨by omega, by omega⟩ rfl ?_
              show ma_wp X (d - 1) (w - 21) 167 0 [(0, .inr (.inr (some 94))), (1, .inl (0 : Int32))] [] S _
              refine zw_push hm_167 dX12_fails_0 (v := .inr (.inr (some 94))) rfl ?_
              refine zw_push hm_167 dX12_fails_1 (v := .inl (0 : Int32)) rfl ?_
              refine zw_pf hm_167 dX12_fails_2 (zT_is hS s_94) (zT_t hS s_94) p_12_1_12 zk_int ?_
              refine zw_push hm_167 dX12_fails_5 (v := .inl (0 : Int32)) rfl ?_
              refine zw_if0 hm_167 dX12_fails_6 (t := 13) rfl zc0_eq (fun _ => ?_) (fun hc => absurd (by decide) hc)
              refine zw_push hm_167 dX12_fails_13 (v := .inl (0 : Int32)) rfl ?_
              refine zw_bret hm_167 dX12_fails_14 (by decide) ?_
              show ma_wp X d w 247 100 [(0, .inr (.inr (some 94))), (2, .inl l2), (3, .inl l3), (4, .inl l4), (5, .inl l5)] [.inl (0 : Int32)] (ma_put S 94 0 (.inl (0 : Int32))) _
              refine zw_if0 hm_247 dX12_link_100 (t := 105) rfl zc0_eq (fun _ => ?_) (fun hc => absurd (by decide) hc)
              exact zw_sub (ma_nd_of (ks := [0, 2, 3, 4]) rfl (by decide)) (ma_nd_of (ks := [0, 2, 3, 4, 5]) rfl (by decide)) (ma_le_cons rfl (ma_le_cons rfl (ma_le_cons rfl (ma_le_cons rfl (ma_le_nil _))))) (h d w _ Q (by omega) (by omega) (zT_pi hS) rfl HQ)
      · intro hc
        rw [if_neg hc] at h
        refine zw_push hm_247 dX12_link_78 (v := .inl (3 : Int32)) rfl ?_
        refine zw_goto hm_247 dX12_link_79 (t := 97) rfl ?_
        refine zw_cv hm_247 dX12_link_97 v_12_110_12 hm_167 [.inl (3 : Int32)] [] rfl (zT_rt hS s_94 rfl) ⟨by omega, by omega⟩ rfl ?_
        show ma_wp X (d - 1) (w - 21) 167 0 [(0, .inr (.inr (some 94))), (1, .inl (3 : Int32))] [] S _
        refine zw_push hm_167 dX12_fails_0 (v := .inr (.inr (some 94))) rfl ?_
        refine zw_push hm_167 dX12_fails_1 (v := .inl (3 : Int32)) rfl ?_
        refine zw_pf hm_167 dX12_fails_2 (zT_is hS s_94) (zT_t hS s_94) p_12_1_12 zk_int ?_
        refine zw_push hm_167 dX12_fails_5 (v := .inl (3 : Int32)) rfl ?_
        refine zw_if0 hm_167 dX12_fails_6 (t := 13) rfl zc0_eq (fun hc => absurd hc (by decide)) (fun _ => ?_)
        refine zw_push hm_167 dX12_fails_9 (v := .inl (1 : Int32)) rfl ?_
        refine zw_goto hm_167 dX12_fails_10 (t := 14) rfl ?_
        refine zw_bret hm_167 dX12_fails_14 (by decide) ?_
        show ma_wp X d w 247 100 [(0, .inr (.inr (some 94))), (2, .inl l2), (3, .inl l3), (4, .inl l4), (5, .inl l5)] [.inl (1 : Int32)] (ma_put S 94 0 (.inl (3 : Int32))) _
        refine zw_if0 hm_247 dX12_link_100 (t := 105) rfl zc0_eq (fun hc => absurd hc (by decide)) (fun _ => ?_)
        refine zw_push hm_247 dX12_link_103 (v := .inl (0 : Int32)) rfl ?_
        exact zw_iret hm_247 dX12_link_104 (HQ _ _ h)
  · intro hc
    rw [if_pos (Classical.not_not.mp hc)] at h
    refine zw_push hm_247 dX12_link_59 (v := .inl (2 : Int32)) rfl ?_
    refine zw_goto hm_247 dX12_link_60 (t := 97) rfl ?_
    refine zw_cv hm_247 dX12_link_97 v_12_110_12 hm_167 [.inl (2 : Int32)] [] rfl (zT_rt hS s_94 rfl) ⟨by omega, by omega⟩ rfl ?_
    show ma_wp X (d - 1) (w - 21) 167 0 [(0, .inr (.inr (some 94))), (1, .inl (2 : Int32))] [] S _
    refine zw_push hm_167 dX12_fails_0 (v := .inr (.inr (some 94))) rfl ?_
    refine zw_push hm_167 dX12_fails_1 (v := .inl (2 : Int32)) rfl ?_
    refine zw_pf hm_167 dX12_fails_2 (zT_is hS s_94) (zT_t hS s_94) p_12_1_12 zk_int ?_
    refine zw_push hm_167 dX12_fails_5 (v := .inl (2 : Int32)) rfl ?_
    refine zw_if0 hm_167 dX12_fails_6 (t := 13) rfl zc0_eq (fun hc => absurd hc (by decide)) (fun _ => ?_)
    refine zw_push hm_167 dX12_fails_9 (v := .inl (1 : Int32)) rfl ?_
    refine zw_goto hm_167 dX12_fails_10 (t := 14) rfl ?_
    refine zw_bret hm_167 dX12_fails_14 (by decide) ?_
    show ma_wp X d w 247 100 [(0, .inr (.inr (some 94))), (2, .inl l2), (3, .inl l3), (4, .inl l4), (5, .inl l5)] [.inl (1 : Int32)] (ma_put S 94 0 (.inl (2 : Int32))) _
    refine zw_if0 hm_247 dX12_link_100 (t := 105) rfl zc0_eq (fun hc => absurd hc (by decide)) (fun _ => ?_)
    refine zw_push hm_247 dX12_link_103 (v := .inl (0 : Int32)) rfl ?_
    exact zw_iret hm_247 dX12_link_104 (HQ _ _ h)
theorem g_247_105 {X : Nat × (Nat → Int32)} {m : Nat → Nat → Int32} {P : Option ma_V → (Nat → Nat → Int32) → Prop} (l2 : Int32) (l3 : Int32) (l4 : Int32) (h : if l3 = (-1 : Int32) then (zm X 5 109 247 121 [(0, .inr (.inr (some 94))), (2, .inl l2), (4, .inl l4), (6, .inl (-1 : Int32))] m P) else (zm X 0 0 246 0 [(0, .inr (.inr (some 94))), (1, .inl l3)] m (zmi (fun v2 m1 => zm X 5 109 247 121 [(0, .inr (.inr (some 94))), (2, .inl l2), (4, .inl l4), (6, .inl v2)] m1 P)))) : zm X 5 109 247 105 [(0, .inr (.inr (some 94))), (2, .inl l2), (3, .inl l3), (4, .inl l4)] m P := by
  intro d w S Q hd hw hS hm HQ
  subst hm
  refine zw_push hm_247 dX12_link_105 (v := .inl l3) rfl ?_
  refine zw_push hm_247 dX12_link_106 (v := .inl (-1 : Int32)) rfl ?_
  refine zw_if2 hm_247 dX12_link_107 (t := 114) rfl zc2_ne ?_ ?_
  · intro hc
    rw [if_neg hc] at h
    refine zw_push hm_247 dX12_link_114 (v := .inr (.inr (some 94))) rfl ?_
    refine zw_push hm_247 dX12_link_115 (v := .inl l3) rfl ?_
    refine zw_cv hm_247 dX12_link_116 v_12_307_12 hm_246 [.inl l3] [] rfl (zT_rt hS s_94 rfl) ⟨by omega, by omega⟩ rfl (h _ _ S _ (by omega) (by omega) hS rfl (fun o9 m1 hv => ?_))
    obtain ⟨v2, rfl, h⟩ := zmi_of hv
    show ma_wp X d w 247 119 [(0, .inr (.inr (some 94))), (2, .inl l2), (3, .inl l3), (4, .inl l4)] [.inl v2] (zst S m1) _
    refine zw_sto hm_247 dX12_link_119 [(6, .inl v2), (0, .inr (.inr (some 94))), (2, .inl l2), (3, .inl l3), (4, .inl l4)] rfl rfl rfl ?_
    exact zw_sub (ma_nd_of (ks := [0, 2, 4, 6]) rfl (by decide)) (ma_nd_of (ks := [6, 0, 2, 3, 4]) rfl (by decide)) (ma_le_cons rfl (ma_le_cons rfl (ma_le_cons rfl (ma_le_cons rfl (ma_le_nil _))))) (h d w _ Q (by omega) (by omega) (zT_zst hS m1) rfl HQ)
  · intro hc
    rw [if_pos (Classical.not_not.mp hc)] at h
    refine zw_push hm_247 dX12_link_110 (v := .inl (-1 : Int32)) rfl ?_
    refine zw_goto hm_247 dX12_link_111 (t := 119) rfl ?_
    refine zw_sto hm_247 dX12_link_119 [(6, .inl (-1 : Int32)), (0, .inr (.inr (some 94))), (2, .inl l2), (3, .inl l3), (4, .inl l4)] rfl rfl rfl ?_
    exact zw_sub (ma_nd_of (ks := [0, 2, 4, 6]) rfl (by decide)) (ma_nd_of (ks := [6, 0, 2, 3, 4]) rfl (by decide)) (ma_le_cons rfl (ma_le_cons rfl (ma_le_cons rfl (ma_le_cons rfl (ma_le_nil _))))) (h d w _ Q (by omega) (by omega) hS rfl HQ)
theorem g_247_121 {X : Nat × (Nat → Int32)} {m : Nat → Nat → Int32} {P : Option ma_V → (Nat → Nat → Int32) → Prop} (l2 : Int32) (l4 : Int32) (l6 : Int32) (h : (0 ≤ ((l4 * (60 : Int32)) + l2) ∧ ((l4 * (60 : Int32)) + l2).toNatClampNeg < 186000) ∧ (if 0 ≤ (m 108 ((l4 * (60 : Int32)) + l2).toNatClampNeg) then ((0 ≤ (m 108 ((l4 * (60 : Int32)) + l2).toNatClampNeg) ∧ (m 108 ((l4 * (60 : Int32)) + l2).toNatClampNeg).toNatClampNeg < 3100) ∧ (if l6 < 0 then (zm X 5 109 247 149 [(0, .inr (.inr (some 94))), (2, .inl l2), (4, .inl l4), (6, .inl l6), (7, .inl (m 108 ((l4 * (60 : Int32)) + l2).toNatClampNeg)), (8, .inl (m 100 (m 108 ((l4 * (60 : Int32)) + l2).toNatClampNeg).toNatClampNeg))] m P) else (if (m 94 10) = (4 : Int32) then ((0 ≤ l6 ∧ l6.toNatClampNeg < 3100) ∧ ((0 ≤ l6 ∧ l6.toNatClampNeg < 3100) ∧ (zm X 5 109 247 149 [(0, .inr (.inr (some 94))), (2, .inl l2), (4, .inl l4), (6, .inl l6), (7, .inl (m 108 ((l4 * (60 : Int32)) + l2).toNatClampNeg)), (8, .inl (m 100 (m 108 ((l4 * (60 : Int32)) + l2).toNatClampNeg).toNatClampNeg))] (ma_u m 105 l6.toNatClampNeg ((m 105 l6.toNatClampNeg) + (1 : Int32))) P))) else (zm X 5 109 247 149 [(0, .inr (.inr (some 94))), (2, .inl l2), (4, .inl l4), (6, .inl l6), (7, .inl (m 108 ((l4 * (60 : Int32)) + l2).toNatClampNeg)), (8, .inl (m 100 (m 108 ((l4 * (60 : Int32)) + l2).toNatClampNeg).toNatClampNeg))] m P)))) else (if l6 < 0 then (zm X 5 109 247 149 [(0, .inr (.inr (some 94))), (2, .inl l2), (4, .inl l4), (6, .inl l6), (7, .inl (m 108 ((l4 * (60 : Int32)) + l2).toNatClampNeg)), (8, .inl (-1 : Int32))] m P) else (if (m 94 10) = (4 : Int32) then ((0 ≤ l6 ∧ l6.toNatClampNeg < 3100) ∧ ((0 ≤ l6 ∧ l6.toNatClampNeg < 3100) ∧ (zm X 5 109 247 149 [(0, .inr (.inr (some 94))), (2, .inl l2), (4, .inl l4), (6, .inl l6), (7, .inl (m 108 ((l4 * (60 : Int32)) + l2).toNatClampNeg)), (8, .inl (-1 : Int32))] (ma_u m 105 l6.toNatClampNeg ((m 105 l6.toNatClampNeg) + (1 : Int32))) P))) else (zm X 5 109 247 149 [(0, .inr (.inr (some 94))), (2, .inl l2), (4, .inl l4), (6, .inl l6), (7, .inl (m 108 ((l4 * (60 : Int32)) + l2).toNatClampNeg)), (8, .inl (-1 : Int32))] m P))))) : zm X 5 109 247 121 [(0, .inr (.inr (some 94))), (2, .inl l2), (4, .inl l4), (6, .inl l6)] m P := by
  intro d w S Q hd hw hS hm HQ
  subst hm
  refine zw_push hm_247 dX12_link_121 (v := .inr (.inr (some 94))) rfl ?_
  refine zw_gf hm_247 dX12_link_122 (v := .inr (.inr (some 108))) (zT_is hS s_94) (zT_t hS s_94) rfl f_12_56_12 (zT_f hS r_94_40) ?_
  refine zw_push hm_247 dX12_link_125 (v := .inl l4) rfl ?_
  refine zw_push hm_247 dX12_link_127 (v := .inl (60 : Int32)) rfl ?_
  refine zw_stk hm_247 dX12_link_129 (st₉ := [.inl (l4 * (60 : Int32)), .inr (.inr (some 108))]) rfl rfl ?_
  refine zw_push hm_247 dX12_link_130 (v := .inl l2) rfl ?_
  refine zw_stk hm_247 dX12_link_131 (st₉ := [.inl ((l4 * (60 : Int32)) + l2), .inr (.inr (some 108))]) rfl rfl ?_
  obtain ⟨hg, h⟩ := h
  refine zw_ia hm_247 dX12_link_132 (zT_is hS s_108) (zT_h hS s_108) rfl hg ?_
  show ma_wp X d w 247 133 [(0, .inr (.inr (some 94))), (2, .inl l2), (4, .inl l4), (6, .inl l6)] [.inl ((mI S) 108 ((l4 * (60 : Int32)) + l2).toNatClampNeg)] S _
  refine zw_sto hm_247 dX12_link_133 [(7, .inl ((mI S) 108 ((l4 * (60 : Int32)) + l2).toNatClampNeg)), (0, .inr (.inr (some 94))), (2, .inl l2), (4, .inl l4), (6, .inl l6)] rfl rfl rfl ?_
  refine zw_push hm_247 dX12_link_135 (v := .inr (.inr (some 94))) rfl ?_
  refine zw_push hm_247 dX12_link_136 (v := .inl ((mI S) 108 ((l4 * (60 : Int32)) + l2).toNatClampNeg)) rfl ?_
  refine zw_cv hm_247 dX12_link_138 v_12_502_12 hm_248 [.inl ((mI S) 108 ((l4 * (60 : Int32)) + l2).toNatClampNeg)] [] rfl (zT_rt hS s_94 rfl) ⟨by omega, by omega⟩ rfl ?_
  show ma_wp X (d - 1) (w - 21) 248 0 [(0, .inr (.inr (some 94))), (1, .inl ((mI S) 108 ((l4 * (60 : Int32)) + l2).toNatClampNeg))] [] S _
  refine zw_push hm_248 dX12_numberOf_0 (v := .inl ((mI S) 108 ((l4 * (60 : Int32)) + l2).toNatClampNeg)) rfl ?_
  refine zw_if0 hm_248 dX12_numberOf_1 (t := 8) rfl zc0_ge ?_ ?_
  · intro hc
    rw [if_pos hc] at h
    refine zw_push hm_248 dX12_numberOf_8 (v := .inr (.inr (some 94))) rfl ?_
    refine zw_gf hm_248 dX12_numberOf_9 (v := .inr (.inr (some 100))) (zT_is hS s_94) (zT_t hS s_94) rfl f_12_31_12 (zT_f hS r_94_32) ?_
    refine zw_push hm_248 dX12_numberOf_12 (v := .inl ((mI S) 108 ((l4 * (60 : Int32)) + l2).toNatClampNeg)) rfl ?_
    obtain ⟨hg, h⟩ := h
    refine zw_ia hm_248 dX12_numberOf_13 (zT_is hS s_100) (zT_h hS s_100) rfl hg ?_
    show ma_wp X (d - 1) (w - 21) 248 14 [(0, .inr (.inr (some 94))), (1, .inl ((mI S) 108 ((l4 * (60 : Int32)) + l2).toNatClampNeg))] [.inl ((mI S) 100 ((mI S) 108 ((l4 * (60 : Int32)) + l2).toNatClampNeg).toNatClampNeg)] S _
    refine zw_iret hm_248 dX12_numberOf_14 ?_
    show ma_wp X d w 247 141 [(7, .inl ((mI S) 108 ((l4 * (60 : Int32)) + l2).toNatClampNeg)), (0, .inr (.inr (some 94))), (2, .inl l2), (4, .inl l4), (6, .inl l6)] [.inl ((mI S) 100 ((mI S) 108 ((l4 * (60 : Int32)) + l2).toNatClampNeg).toNatClampNeg)] S _
    refine zw_sto hm_247 dX12_link_141 [(8, .inl ((mI S) 100 ((mI S) 108 ((l4 * (60 : Int32)) + l2).toNatClampNeg).toNatClampNeg)), (7, .inl ((mI S) 108 ((l4 * (60 : Int32)) + l2).toNatClampNeg)), (0, .inr (.inr (some 94))), (2, .inl l2), (4, .inl l4), (6, .inl l6)] rfl rfl rfl ?_
    refine zw_push hm_247 dX12_link_143 (v := .inr (.inr (some 94))) rfl ?_
    refine zw_push hm_247 dX12_link_144 (v := .inl l6) rfl ?_
    refine zw_cv hm_247 dX12_link_146 v_12_484_12 hm_239 [.inl l6] [] rfl (zT_rt hS s_94 rfl) ⟨by omega, by omega⟩ rfl ?_
    show ma_wp X (d - 1) (w - 21) 239 0 [(0, .inr (.inr (some 94))), (1, .inl l6)] [] S _
    refine zw_push hm_239 dX12_more_0 (v := .inl l6) rfl ?_
    refine zw_if0 hm_239 dX12_more_1 (t := 22) rfl zc0_lt ?_ ?_
    · intro hc
      rw [if_pos hc] at h
      refine zw_vret hm_239 dX12_more_22 ?_
      show ma_wp X d w 247 149 [(8, .inl ((mI S) 100 ((mI S) 108 ((l4 * (60 : Int32)) + l2).toNatClampNeg).toNatClampNeg)), (7, .inl ((mI S) 108 ((l4 * (60 : Int32)) + l2).toNatClampNeg)), (0, .inr (.inr (some 94))), (2, .inl l2), (4, .inl l4), (6, .inl l6)] [] S _
      exact zw_sub (ma_nd_of (ks := [0, 2, 4, 6, 7, 8]) rfl (by decide)) (ma_nd_of (ks := [8, 7, 0, 2, 4, 6]) rfl (by decide)) (ma_le_cons rfl (ma_le_cons rfl (ma_le_cons rfl (ma_le_cons rfl (ma_le_cons rfl (ma_le_cons rfl (ma_le_nil _))))))) (h d w _ Q (by omega) (by omega) hS rfl HQ)
    · intro hc
      rw [if_neg hc] at h
      refine zw_push hm_239 dX12_more_4 (v := .inr (.inr (some 94))) rfl ?_
      refine zw_gf hm_239 dX12_more_5 (v := .inl ((mI S) 94 10)) (zT_is hS s_94) (zT_t hS s_94) rfl f_12_199_12 rfl ?_
      refine zw_push hm_239 dX12_more_8 (v := .inl (4 : Int32)) rfl ?_
      refine zw_if2 hm_239 dX12_more_9 (t := 22) rfl zc2_ne ?_ ?_
      · intro hc
        rw [if_neg hc] at h
        refine zw_vret hm_239 dX12_more_22 ?_
        show ma_wp X d w 247 149 [(8, .inl ((mI S) 100 ((mI S) 108 ((l4 * (60 : Int32)) + l2).toNatClampNeg).toNatClampNeg)), (7, .inl ((mI S) 108 ((l4 * (60 : Int32)) + l2).toNatClampNeg)), (0, .inr (.inr (some 94))), (2, .inl l2), (4, .inl l4), (6, .inl l6)] [] S _
        exact zw_sub (ma_nd_of (ks := [0, 2, 4, 6, 7, 8]) rfl (by decide)) (ma_nd_of (ks := [8, 7, 0, 2, 4, 6]) rfl (by decide)) (ma_le_cons rfl (ma_le_cons rfl (ma_le_cons rfl (ma_le_cons rfl (ma_le_cons rfl (ma_le_cons rfl (ma_le_nil _))))))) (h d w _ Q (by omega) (by omega) hS rfl HQ)
      · intro hc
        rw [if_pos (Classical.not_not.mp hc)] at h
        refine zw_push hm_239 dX12_more_12 (v := .inr (.inr (some 94))) rfl ?_
        refine zw_gf hm_239 dX12_more_13 (v := .inr (.inr (some 105))) (zT_is hS s_94) (zT_t hS s_94) rfl f_12_46_12 (zT_f hS r_94_37) ?_
        refine zw_push hm_239 dX12_more_16 (v := .inl l6) rfl ?_
        refine zw_stk hm_239 dX12_more_17 (st₉ := [.inl l6, .inr (.inr (some 105)), .inl l6, .inr (.inr (some 105))]) rfl rfl ?_
        obtain ⟨hg, h⟩ := h
        refine zw_ia hm_239 dX12_more_18 (zT_is hS s_105) (zT_h hS s_105) rfl hg ?_
        show ma_wp X (d - 1) (w - 21) 239 19 [(0, .inr (.inr (some 94))), (1, .inl l6)] [.inl ((mI S) 105 l6.toNatClampNeg), .inl l6, .inr (.inr (some 105))] S _
        refine zw_push hm_239 dX12_more_19 (v := .inl (1 : Int32)) rfl ?_
        refine zw_stk hm_239 dX12_more_20 (st₉ := [.inl (((mI S) 105 l6.toNatClampNeg) + (1 : Int32)), .inl l6, .inr (.inr (some 105))]) rfl rfl ?_
        obtain ⟨hg, h⟩ := h
        refine zw_ias hm_239 dX12_more_21 (zT_is hS s_105) (zT_h hS s_105) rfl hg ?_
        refine zw_vret hm_239 dX12_more_22 ?_
        show ma_wp X d w 247 149 [(8, .inl ((mI S) 100 ((mI S) 108 ((l4 * (60 : Int32)) + l2).toNatClampNeg).toNatClampNeg)), (7, .inl ((mI S) 108 ((l4 * (60 : Int32)) + l2).toNatClampNeg)), (0, .inr (.inr (some 94))), (2, .inl l2), (4, .inl l4), (6, .inl l6)] [] (ma_put S 105 l6.toNatClampNeg (.inl (((mI S) 105 l6.toNatClampNeg) + (1 : Int32)))) _
        exact zw_sub (ma_nd_of (ks := [0, 2, 4, 6, 7, 8]) rfl (by decide)) (ma_nd_of (ks := [8, 7, 0, 2, 4, 6]) rfl (by decide)) (ma_le_cons rfl (ma_le_cons rfl (ma_le_cons rfl (ma_le_cons rfl (ma_le_cons rfl (ma_le_cons rfl (ma_le_nil _))))))) (h d w _ Q (by omega) (by omega) (zT_pi hS) rfl HQ)
  · intro hc
    rw [if_neg hc] at h
    refine zw_push hm_248 dX12_numberOf_4 (v := .inl (-1 : Int32)) rfl ?_
    refine zw_goto hm_248 dX12_numberOf_5 (t := 14) rfl ?_
    refine zw_iret hm_248 dX12_numberOf_14 ?_
    show ma_wp X d w 247 141 [(7, .inl ((mI S) 108 ((l4 * (60 : Int32)) + l2).toNatClampNeg)), (0, .inr (.inr (some 94))), (2, .inl l2), (4, .inl l4), (6, .inl l6)] [.inl (-1 : Int32)] S _
    refine zw_sto hm_247 dX12_link_141 [(8, .inl (-1 : Int32)), (7, .inl ((mI S) 108 ((l4 * (60 : Int32)) + l2).toNatClampNeg)), (0, .inr (.inr (some 94))), (2, .inl l2), (4, .inl l4), (6, .inl l6)] rfl rfl rfl ?_
    refine zw_push hm_247 dX12_link_143 (v := .inr (.inr (some 94))) rfl ?_
    refine zw_push hm_247 dX12_link_144 (v := .inl l6) rfl ?_
    refine zw_cv hm_247 dX12_link_146 v_12_484_12 hm_239 [.inl l6] [] rfl (zT_rt hS s_94 rfl) ⟨by omega, by omega⟩ rfl ?_
    show ma_wp X (d - 1) (w - 21) 239 0 [(0, .inr (.inr (some 94))), (1, .inl l6)] [] S _
    refine zw_push hm_239 dX12_more_0 (v := .inl l6) rfl ?_
    refine zw_if0 hm_239 dX12_more_1 (t := 22) rfl zc0_lt ?_ ?_
    · intro hc
      rw [if_pos hc] at h
      refine zw_vret hm_239 dX12_more_22 ?_
      show ma_wp X d w 247 149 [(8, .inl (-1 : Int32)), (7, .inl ((mI S) 108 ((l4 * (60 : Int32)) + l2).toNatClampNeg)), (0, .inr (.inr (some 94))), (2, .inl l2), (4, .inl l4), (6, .inl l6)] [] S _
      exact zw_sub (ma_nd_of (ks := [0, 2, 4, 6, 7, 8]) rfl (by decide)) (ma_nd_of (ks := [8, 7, 0, 2, 4, 6]) rfl (by decide)) (ma_le_cons rfl (ma_le_cons rfl (ma_le_cons rfl (ma_le_cons rfl (ma_le_cons rfl (ma_le_cons rfl (ma_le_nil _))))))) (h d w _ Q (by omega) (by omega) hS rfl HQ)
    · intro hc
      rw [if_neg hc] at h
      refine zw_push hm_239 dX12_more_4 (v := .inr (.inr (some 94))) rfl ?_
      refine zw_gf hm_239 dX12_more_5 (v := .inl ((mI S) 94 10)) (zT_is hS s_94) (zT_t hS s_94) rfl f_12_199_12 rfl ?_
      refine zw_push hm_239 dX12_more_8 (v := .inl (4 : Int32)) rfl ?_
      refine zw_if2 hm_239 dX12_more_9 (t := 22) rfl zc2_ne ?_ ?_
      · intro hc
        rw [if_neg hc] at h
        refine zw_vret hm_239 dX12_more_22 ?_
        show ma_wp X d w 247 149 [(8, .inl (-1 : Int32)), (7, .inl ((mI S) 108 ((l4 * (60 : Int32)) + l2).toNatClampNeg)), (0, .inr (.inr (some 94))), (2, .inl l2), (4, .inl l4), (6, .inl l6)] [] S _
        exact zw_sub (ma_nd_of (ks := [0, 2, 4, 6, 7, 8]) rfl (by decide)) (ma_nd_of (ks := [8, 7, 0, 2, 4, 6]) rfl (by decide)) (ma_le_cons rfl (ma_le_cons rfl (ma_le_cons rfl (ma_le_cons rfl (ma_le_cons rfl (ma_le_cons rfl (ma_le_nil _))))))) (h d w _ Q (by omega) (by omega) hS rfl HQ)
      · intro hc
        rw [if_pos (Classical.not_not.mp hc)] at h
        refine zw_push hm_239 dX12_more_12 (v := .inr (.inr (some 94))) rfl ?_
        refine zw_gf hm_239 dX12_more_13 (v := .inr (.inr (some 105))) (zT_is hS s_94) (zT_t hS s_94) rfl f_12_46_12 (zT_f hS r_94_37) ?_
        refine zw_push hm_239 dX12_more_16 (v := .inl l6) rfl ?_
        refine zw_stk hm_239 dX12_more_17 (st₉ := [.inl l6, .inr (.inr (some 105)), .inl l6, .inr (.inr (some 105))]) rfl rfl ?_
        obtain ⟨hg, h⟩ := h
        refine zw_ia hm_239 dX12_more_18 (zT_is hS s_105) (zT_h hS s_105) rfl hg ?_
        show ma_wp X (d - 1) (w - 21) 239 19 [(0, .inr (.inr (some 94))), (1, .inl l6)] [.inl ((mI S) 105 l6.toNatClampNeg), .inl l6, .inr (.inr (some 105))] S _
        refine zw_push hm_239 dX12_more_19 (v := .inl (1 : Int32)) rfl ?_
        refine zw_stk hm_239 dX12_more_20 (st₉ := [.inl (((mI S) 105 l6.toNatClampNeg) + (1 : Int32)), .inl l6, .inr (.inr (some 105))]) rfl rfl ?_
        obtain ⟨hg, h⟩ := h
        refine zw_ias hm_239 dX12_more_21 (zT_is hS s_105) (zT_h hS s_105) rfl hg ?_
        refine zw_vret hm_239 dX12_more_22 ?_
        show ma_wp X d w 247 149 [(8, .inl (-1 : Int32)), (7, .inl ((mI S) 108 ((l4 * (60 : Int32)) + l2).toNatClampNeg)), (0, .inr (.inr (some 94))), (2, .inl l2), (4, .inl l4), (6, .inl l6)] [] (ma_put S 105 l6.toNatClampNeg (.inl (((mI S) 105 l6.toNatClampNeg) + (1 : Int32)))) _
        exact zw_sub (ma_nd_of (ks := [0, 2, 4, 6, 7, 8]) rfl (by decide)) (ma_nd_of (ks := [8, 7, 0, 2, 4, 6]) rfl (by decide)) (ma_le_cons rfl (ma_le_cons rfl (ma_le_cons rfl (ma_le_cons rfl (ma_le_cons rfl (ma_le_cons rfl (ma_le_nil _))))))) (h d w _ Q (by omega) (by omega) (zT_pi hS) rfl HQ)
theorem g_247_149 {X : Nat × (Nat → Int32)} {m : Nat → Nat → Int32} {P : Option ma_V → (Nat → Nat → Int32) → Prop} (l2 : Int32) (l4 : Int32) (l6 : Int32) (l7 : Int32) (l8 : Int32) (h : (0 ≤ ((l4 * (60 : Int32)) + l2) ∧ ((l4 * (60 : Int32)) + l2).toNatClampNeg < 186000) ∧ (if (m 94 10) = (3 : Int32) then ((0 ≤ l4 ∧ l4.toNatClampNeg < 3100) ∧ (if (m 94 14) ≤ (m 103 l4.toNatClampNeg) then (zm X 5 109 247 207 [(0, .inr (.inr (some 94))), (6, .inl l6), (7, .inl l7), (8, .inl l8)] (ma_u m 108 ((l4 * (60 : Int32)) + l2).toNatClampNeg l6) P) else (if l6 < 0 then (zm X 5 109 247 207 [(0, .inr (.inr (some 94))), (6, .inl l6), (7, .inl l7), (8, .inl l8)] (ma_u m 108 ((l4 * (60 : Int32)) + l2).toNatClampNeg l6) P) else ((0 ≤ l6 ∧ l6.toNatClampNeg < 3100) ∧ (if (m 94 14) ≤ (m 103 l6.toNatClampNeg) then ((0 ≤ l4 ∧ l4.toNatClampNeg < 3100) ∧ ((m 94 16) ≠ 0 ∧ ((0 ≤ ((((m 103 l4.toNatClampNeg) + (1 : Int32)) + l2) / (m 94 16)) ∧ ((((m 103 l4.toNatClampNeg) + (1 : Int32)) + l2) / (m 94 16)).toNatClampNeg < 512) ∧ (zm X 5 109 247 207 [(0, .inr (.inr (some 94))), (6, .inl l6), (7, .inl l7), (8, .inl l8)] (ma_u (ma_u m 108 ((l4 * (60 : Int32)) + l2).toNatClampNeg l6) 117 ((((m 103 l4.toNatClampNeg) + (1 : Int32)) + l2) / (m 94 16)).toNatClampNeg (1 : Int32)) P)))) else (zm X 5 109 247 207 [(0, .inr (.inr (some 94))), (6, .inl l6), (7, .inl l7), (8, .inl l8)] (ma_u m 108 ((l4 * (60 : Int32)) + l2).toNatClampNeg l6) P)))))) else (zm X 5 109 247 207 [(0, .inr (.inr (some 94))), (6, .inl l6), (7, .inl l7), (8, .inl l8)] (ma_u m 108 ((l4 * (60 : Int32)) + l2).toNatClampNeg l6) P))) : zm X 5 109 247 149 [(0, .inr (.inr (some 94))), (2, .inl l2), (4, .inl l4), (6, .inl l6), (7, .inl l7), (8, .inl l8)] m P := by
  intro d w S Q hd hw hS hm HQ
  subst hm
  refine zw_push hm_247 dX12_link_149 (v := .inr (.inr (some 94))) rfl ?_
  refine zw_gf hm_247 dX12_link_150 (v := .inr (.inr (some 108))) (zT_is hS s_94) (zT_t hS s_94) rfl f_12_56_12 (zT_f hS r_94_40) ?_
  refine zw_push hm_247 dX12_link_153 (v := .inl l4) rfl ?_
  refine zw_push hm_247 dX12_link_155 (v := .inl (60 : Int32)) rfl ?_
  refine zw_stk hm_247 dX12_link_157 (st₉ := [.inl (l4 * (60 : Int32)), .inr (.inr (some 108))]) rfl rfl ?_
  refine zw_push hm_247 dX12_link_158 (v := .inl l2) rfl ?_
  refine zw_stk hm_247 dX12_link_159 (st₉ := [.inl ((l4 * (60 : Int32)) + l2), .inr (.inr (some 108))]) rfl rfl ?_
  refine zw_push hm_247 dX12_link_160 (v := .inl l6) rfl ?_
  obtain ⟨hg, h⟩ := h
  refine zw_ias hm_247 dX12_link_162 (zT_is hS s_108) (zT_h hS s_108) rfl hg ?_
  refine zw_push hm_247 dX12_link_163 (v := .inr (.inr (some 94))) rfl ?_
  refine zw_gf hm_247 dX12_link_164 (v := .inl ((mI S) 94 10)) (zT_is (zT_pi hS) s_94) (zT_t (zT_pi hS) s_94) rfl f_12_199_12 rfl ?_
  refine zw_push hm_247 dX12_link_167 (v := .inl (3 : Int32)) rfl ?_
  refine zw_if2 hm_247 dX12_link_168 (t := 207) rfl zc2_ne ?_ ?_
  · intro hc
    rw [if_neg hc] at h
    exact zw_sub (ma_nd_of (ks := [0, 6, 7, 8]) rfl (by decide)) (ma_nd_of (ks := [0, 2, 4, 6, 7, 8]) rfl (by decide)) (ma_le_cons rfl (ma_le_cons rfl (ma_le_cons rfl (ma_le_cons rfl (ma_le_nil _))))) (h d w _ Q (by omega) (by omega) (zT_pi hS) rfl HQ)
  · intro hc
    rw [if_pos (Classical.not_not.mp hc)] at h
    refine zw_push hm_247 dX12_link_171 (v := .inr (.inr (some 94))) rfl ?_
    refine zw_push hm_247 dX12_link_172 (v := .inl l4) rfl ?_
    refine zw_cv hm_247 dX12_link_174 v_12_314_12 hm_196 [.inl l4] [] rfl (zT_rt (zT_pi hS) s_94 rfl) ⟨by omega, by omega⟩ rfl ?_
    show ma_wp X (d - 1) (w - 21) 196 0 [(0, .inr (.inr (some 94))), (1, .inl l4)] [] (ma_put S 108 ((l4 * (60 : Int32)) + l2).toNatClampNeg (.inl l6)) _
    refine zw_push hm_196 dX12_isOld_0 (v := .inr (.inr (some 94))) rfl ?_
    refine zw_gf hm_196 dX12_isOld_1 (v := .inr (.inr (some 103))) (zT_is (zT_pi hS) s_94) (zT_t (zT_pi hS) s_94) rfl f_12_40_12 (zT_f (zT_pi hS) r_94_35) ?_
    refine zw_push hm_196 dX12_isOld_4 (v := .inl l4) rfl ?_
    obtain ⟨hg, h⟩ := h
    refine zw_ia hm_196 dX12_isOld_5 (zT_is (zT_pi hS) s_103) (zT_h (zT_pi hS) s_103) rfl hg ?_
    show ma_wp X (d - 1) (w - 21) 196 6 [(0, .inr (.inr (some 94))), (1, .inl l4)] [.inl ((mI S) 103 l4.toNatClampNeg)] (ma_put S 108 ((l4 * (60 : Int32)) + l2).toNatClampNeg (.inl l6)) _
    refine zw_push hm_196 dX12_isOld_6 (v := .inr (.inr (some 94))) rfl ?_
    refine zw_gf hm_196 dX12_isOld_7 (v := .inl ((mI S) 94 14)) (zT_is (zT_pi hS) s_94) (zT_t (zT_pi hS) s_94) rfl f_12_210_12 rfl ?_
    refine zw_if2 hm_196 dX12_isOld_10 (t := 17) rfl zc2_ge ?_ ?_
    · intro hc
      rw [if_pos hc] at h
      refine zw_push hm_196 dX12_isOld_17 (v := .inl (0 : Int32)) rfl ?_
      refine zw_bret hm_196 dX12_isOld_18 (by decide) ?_
      show ma_wp X d w 247 177 [(0, .inr (.inr (some 94))), (2, .inl l2), (4, .inl l4), (6, .inl l6), (7, .inl l7), (8, .inl l8)] [.inl (0 : Int32)] (ma_put S 108 ((l4 * (60 : Int32)) + l2).toNatClampNeg (.inl l6)) _
      refine zw_if0 hm_247 dX12_link_177 (t := 207) rfl zc0_eq (fun _ => ?_) (fun hc => absurd (by decide) hc)
      exact zw_sub (ma_nd_of (ks := [0, 6, 7, 8]) rfl (by decide)) (ma_nd_of (ks := [0, 2, 4, 6, 7, 8]) rfl (by decide)) (ma_le_cons rfl (ma_le_cons rfl (ma_le_cons rfl (ma_le_cons rfl (ma_le_nil _))))) (h d w _ Q (by omega) (by omega) (zT_pi hS) rfl HQ)
    · intro hc
      rw [if_neg hc] at h
      refine zw_push hm_196 dX12_isOld_13 (v := .inl (1 : Int32)) rfl ?_
      refine zw_goto hm_196 dX12_isOld_14 (t := 18) rfl ?_
      refine zw_bret hm_196 dX12_isOld_18 (by decide) ?_
      show ma_wp X d w 247 177 [(0, .inr (.inr (some 94))), (2, .inl l2), (4, .inl l4), (6, .inl l6), (7, .inl l7), (8, .inl l8)] [.inl (1 : Int32)] (ma_put S 108 ((l4 * (60 : Int32)) + l2).toNatClampNeg (.inl l6)) _
      refine zw_if0 hm_247 dX12_link_177 (t := 207) rfl zc0_eq (fun hc => absurd hc (by decide)) (fun _ => ?_)
      refine zw_push hm_247 dX12_link_180 (v := .inl l6) rfl ?_
      refine zw_if0 hm_247 dX12_link_182 (t := 207) rfl zc0_lt ?_ ?_
      · intro hc
        rw [if_pos hc] at h
        exact zw_sub (ma_nd_of (ks := [0, 6, 7, 8]) rfl (by decide)) (ma_nd_of (ks := [0, 2, 4, 6, 7, 8]) rfl (by decide)) (ma_le_cons rfl (ma_le_cons rfl (ma_le_cons rfl (ma_le_cons rfl (ma_le_nil _))))) (h d w _ Q (by omega) (by omega) (zT_pi hS) rfl HQ)
      · intro hc
        rw [if_neg hc] at h
        refine zw_push hm_247 dX12_link_185 (v := .inr (.inr (some 94))) rfl ?_
        refine zw_push hm_247 dX12_link_186 (v := .inl l6) rfl ?_
        refine zw_cv hm_247 dX12_link_188 v_12_314_12 hm_196 [.inl l6] [] rfl (zT_rt (zT_pi hS) s_94 rfl) ⟨by omega, by omega⟩ rfl ?_
        show ma_wp X (d - 1) (w - 21) 196 0 [(0, .inr (.inr (some 94))), (1, .inl l6)] [] (ma_put S 108 ((l4 * (60 : Int32)) + l2).toNatClampNeg (.inl l6)) _
        refine zw_push hm_196 dX12_isOld_0 (v := .inr (.inr (some 94))) rfl ?_
        refine zw_gf hm_196 dX12_isOld_1 (v := .inr (.inr (some 103))) (zT_is (zT_pi hS) s_94) (zT_t (zT_pi hS) s_94) rfl f_12_40_12 (zT_f (zT_pi hS) r_94_35) ?_
        refine zw_push hm_196 dX12_isOld_4 (v := .inl l6) rfl ?_
        obtain ⟨hg, h⟩ := h
        refine zw_ia hm_196 dX12_isOld_5 (zT_is (zT_pi hS) s_103) (zT_h (zT_pi hS) s_103) rfl hg ?_
        show ma_wp X (d - 1) (w - 21) 196 6 [(0, .inr (.inr (some 94))), (1, .inl l6)] [.inl ((mI S) 103 l6.toNatClampNeg)] (ma_put S 108 ((l4 * (60 : Int32)) + l2).toNatClampNeg (.inl l6)) _
        refine zw_push hm_196 dX12_isOld_6 (v := .inr (.inr (some 94))) rfl ?_
        refine zw_gf hm_196 dX12_isOld_7 (v := .inl ((mI S) 94 14)) (zT_is (zT_pi hS) s_94) (zT_t (zT_pi hS) s_94) rfl f_12_210_12 rfl ?_
        refine zw_if2 hm_196 dX12_isOld_10 (t := 17) rfl zc2_ge ?_ ?_
        · intro hc
          rw [if_pos hc] at h
          refine zw_push hm_196 dX12_isOld_17 (v := .inl (0 : Int32)) rfl ?_
          refine zw_bret hm_196 dX12_isOld_18 (by decide) ?_
          show ma_wp X d w 247 191 [(0, .inr (.inr (some 94))), (2, .inl l2), (4, .inl l4), (6, .inl l6), (7, .inl l7), (8, .inl l8)] [.inl (0 : Int32)] (ma_put S 108 ((l4 * (60 : Int32)) + l2).toNatClampNeg (.inl l6)) _
          refine zw_if0 hm_247 dX12_link_191 (t := 207) rfl zc0_ne (fun hc => absurd hc (by decide)) (fun _ => ?_)
          refine zw_push hm_247 dX12_link_194 (v := .inr (.inr (some 94))) rfl ?_
          refine zw_gf hm_247 dX12_link_195 (v := .inr (.inr (some 117))) (zT_is (zT_pi hS) s_94) (zT_t (zT_pi hS) s_94) rfl f_12_83_12 (zT_f (zT_pi hS) r_94_66) ?_
          refine zw_push hm_247 dX12_link_198 (v := .inr (.inr (some 94))) rfl ?_
          refine zw_push hm_247 dX12_link_199 (v := .inl l4) rfl ?_
          refine zw_push hm_247 dX12_link_201 (v := .inl l2) rfl ?_
          refine zw_cv hm_247 dX12_link_202 v_12_375_12 hm_213 [.inl l2, .inl l4] [.inr (.inr (some 117))] rfl (zT_rt (zT_pi hS) s_94 rfl) ⟨by omega, by omega⟩ rfl ?_
          show ma_wp X (d - 1) (w - 22) 213 0 [(0, .inr (.inr (some 94))), (1, .inl l4), (2, .inl l2)] [] (ma_put S 108 ((l4 * (60 : Int32)) + l2).toNatClampNeg (.inl l6)) _
          refine zw_push hm_213 dX12_cardOf_0 (v := .inr (.inr (some 94))) rfl ?_
          refine zw_gf hm_213 dX12_cardOf_1 (v := .inr (.inr (some 103))) (zT_is (zT_pi hS) s_94) (zT_t (zT_pi hS) s_94) rfl f_12_40_12 (zT_f (zT_pi hS) r_94_35) ?_
          refine zw_push hm_213 dX12_cardOf_4 (v := .inl l4) rfl ?_
          obtain ⟨hg, h⟩ := h
          refine zw_ia hm_213 dX12_cardOf_5 (zT_is (zT_pi hS) s_103) (zT_h (zT_pi hS) s_103) rfl hg ?_
          show ma_wp X (d - 1) (w - 22) 213 6 [(0, .inr (.inr (some 94))), (1, .inl l4), (2, .inl l2)] [.inl ((mI S) 103 l4.toNatClampNeg)] (ma_put S 108 ((l4 * (60 : Int32)) + l2).toNatClampNeg (.inl l6)) _
          refine zw_push hm_213 dX12_cardOf_6 (v := .inl (1 : Int32)) rfl ?_
          refine zw_stk hm_213 dX12_cardOf_7 (st₉ := [.inl (((mI S) 103 l4.toNatClampNeg) + (1 : Int32))]) rfl rfl ?_
          refine zw_push hm_213 dX12_cardOf_8 (v := .inl l2) rfl ?_
          refine zw_stk hm_213 dX12_cardOf_9 (st₉ := [.inl ((((mI S) 103 l4.toNatClampNeg) + (1 : Int32)) + l2)]) rfl rfl ?_
          refine zw_push hm_213 dX12_cardOf_10 (v := .inr (.inr (some 94))) rfl ?_
          refine zw_gf hm_213 dX12_cardOf_11 (v := .inl ((mI S) 94 16)) (zT_is (zT_pi hS) s_94) (zT_t (zT_pi hS) s_94) rfl f_12_216_12 rfl ?_
          obtain ⟨hg, h⟩ := h
          refine zw_stk hm_213 dX12_cardOf_14 (st₉ := [.inl (((((mI S) 103 l4.toNatClampNeg) + (1 : Int32)) + l2) / ((mI S) 94 16))]) rfl (if_neg hg) ?_
          refine zw_iret hm_213 dX12_cardOf_15 ?_
          show ma_wp X d w 247 205 [(0, .inr (.inr (some 94))), (2, .inl l2), (4, .inl l4), (6, .inl l6), (7, .inl l7), (8, .inl l8)] [.inl (((((mI S) 103 l4.toNatClampNeg) + (1 : Int32)) + l2) / ((mI S) 94 16)), .inr (.inr (some 117))] (ma_put S 108 ((l4 * (60 : Int32)) + l2).toNatClampNeg (.inl l6)) _
          refine zw_push hm_247 dX12_link_205 (v := .inl (1 : Int32)) rfl ?_
          obtain ⟨hg, h⟩ := h
          refine zw_bas22l hm_247 dX12_link_206 (hx := by decide) (yv := (1 : Int32)) (zT_is (zT_pi hS) s_117) (zT_h (zT_pi hS) s_117) rfl hg ?_
          exact zw_sub (ma_nd_of (ks := [0, 6, 7, 8]) rfl (by decide)) (ma_nd_of (ks := [0, 2, 4, 6, 7, 8]) rfl (by decide)) (ma_le_cons rfl (ma_le_cons rfl (ma_le_cons rfl (ma_le_cons rfl (ma_le_nil _))))) (h d w _ Q (by omega) (by omega) (zT_pi (zT_pi hS)) rfl HQ)
        · intro hc
          rw [if_neg hc] at h
          refine zw_push hm_196 dX12_isOld_13 (v := .inl (1 : Int32)) rfl ?_
          refine zw_goto hm_196 dX12_isOld_14 (t := 18) rfl ?_
          refine zw_bret hm_196 dX12_isOld_18 (by decide) ?_
          show ma_wp X d w 247 191 [(0, .inr (.inr (some 94))), (2, .inl l2), (4, .inl l4), (6, .inl l6), (7, .inl l7), (8, .inl l8)] [.inl (1 : Int32)] (ma_put S 108 ((l4 * (60 : Int32)) + l2).toNatClampNeg (.inl l6)) _
          refine zw_if0 hm_247 dX12_link_191 (t := 207) rfl zc0_ne (fun _ => ?_) (fun hc => absurd (by decide) hc)
          exact zw_sub (ma_nd_of (ks := [0, 6, 7, 8]) rfl (by decide)) (ma_nd_of (ks := [0, 2, 4, 6, 7, 8]) rfl (by decide)) (ma_le_cons rfl (ma_le_cons rfl (ma_le_cons rfl (ma_le_cons rfl (ma_le_nil _))))) (h d w _ Q (by omega) (by omega) (zT_pi hS) rfl HQ)
theorem g_247_207 {X : Nat × (Nat → Int32)} {m : Nat → Nat → Int32} {P : Option ma_V → (Nat → Nat → Int32) → Prop} (l6 : Int32) (l7 : Int32) (l8 : Int32) (h : zm X 1 21 240 0 [(0, .inr (.inr (some 94))), (1, .inl l7), (2, .inl l6)] m (zmv (fun m1 => zm X 3 64 241 0 [(0, .inr (.inr (some 94))), (1, .inl l7)] m1 (zmv (fun m3 => P (some (.inl l8)) m3))))) : zm X 5 109 247 207 [(0, .inr (.inr (some 94))), (6, .inl l6), (7, .inl l7), (8, .inl l8)] m P := by
  intro d w S Q hd hw hS hm HQ
  subst hm
  refine zw_push hm_247 dX12_link_207 (v := .inr (.inr (some 94))) rfl ?_
  refine zw_push hm_247 dX12_link_208 (v := .inl l7) rfl ?_
  refine zw_push hm_247 dX12_link_210 (v := .inl l6) rfl ?_
  refine zw_cv hm_247 dX12_link_212 v_12_487_12 hm_240 [.inl l6, .inl l7] [] rfl (zT_rt hS s_94 rfl) ⟨by omega, by omega⟩ rfl (h _ _ S _ (by omega) (by omega) hS rfl (fun o9 m1 hv => ?_))
  obtain ⟨rfl, h⟩ := zmv_of hv
  show ma_wp X d w 247 215 [(0, .inr (.inr (some 94))), (6, .inl l6), (7, .inl l7), (8, .inl l8)] [] (zst S m1) _
  refine zw_push hm_247 dX12_link_215 (v := .inr (.inr (some 94))) rfl ?_
  refine zw_push hm_247 dX12_link_216 (v := .inl l7) rfl ?_
  refine zw_cv hm_247 dX12_link_218 v_12_490_12 hm_241 [.inl l7] [] rfl (zT_rt (zT_zst hS m1) s_94 rfl) ⟨by omega, by omega⟩ rfl (h _ _ (zst S m1) _ (by omega) (by omega) (zT_zst hS m1) rfl (fun o9 m3 hv => ?_))
  obtain ⟨rfl, h⟩ := zmv_of hv
  show ma_wp X d w 247 221 [(0, .inr (.inr (some 94))), (6, .inl l6), (7, .inl l7), (8, .inl l8)] [] (zst S m3) _
  refine zw_push hm_247 dX12_link_221 (v := .inl l8) rfl ?_
  exact zw_iret hm_247 dX12_link_223 (HQ _ _ h)
theorem lp_247_207 {X : Nat × (Nat → Int32)} {P : Option ma_V → (Nat → Nat → Int32) → Prop} {T : Nat} {ob : Int32} {ix : Int32} {oo : Int32} {m0 : Nat → Nat → Int32} (h0 : zV m0) (K : ∀ v m₉, zF wr_247 m0 m₉ → zV m₉ → (zW (m₉ 94 7) (m₉ 98) (m₉ 101) (m₉ 102) (m₉ 108)) → (zGW T (m₉ 94 55) (m₉ 109)) → (zGU T (m₉ 94 46) (m₉ 99)) → (zOw (m₉ 99) (m₉ 103) (m₉ 111)) → (zDX (m₉ 94 10) (m₉ 99) (m₉ 112) (m₉ 113) (m₉ 114) (m₉ 94 55) (m₉ 98) (m₉ 101) (m₉ 102) (m₉ 108)) → (zGG (m₉ 94 58) (m₉ 94 56) (m₉ 94 57) (m₉ 106)) → (zHA (m₉ 94 10) (m₉ 94 11) (m₉ 94 13) (m₉ 94 14) (m₉ 94 16) (m₉ 94 61) (m₉ 94 59) (m₉ 94 60) (m₉ 99) (m₉ 102) (m₉ 103) (m₉ 111) (m₉ 117) (m₉ 98) (m₉ 101) (m₉ 108)) → (zRG (m₉ 94 10) (m₉ 94 18) (m₉ 94 64) (m₉ 94 63) (m₉ 99) (m₉ 103) (m₉ 102) (m₉ 116)) → ((m₉ 94 58).toInt = 0 ∨ (m₉ 94 10).toInt = 5) → P (some (.inl v)) m₉) : ∀ (n : Nat) (m : Nat → Nat → Int32) (l6 : Int32) (l7 : Int32) (l8 : Int32), ((0 : Int)).toNat = n → zF wr_247 m0 m → zV m → (-1 ≤ l6.toInt) → (l6.toInt ≤ 3099) → (-1 ≤ l7.toInt) → (l7.toInt ≤ 3099) → (zW (m 94 7) (m 98) (m 101) (m 102) (m 108)) → (zGW T (m 94 55) (m 109)) → (zGU T (m 94 46) (m 99)) → (zOw (m 99) (m 103) (m 111)) → (zDX (m 94 10) (m 99) (m 112) (m 113) (m 114) (m 94 55) (m 98) (m 101) (m 102) (m 108)) → (zGG (m 94 58) (m 94 56) (m 94 57) (m 106)) → (zHA (m 94 10) (m 94 11) (m 94 13) (m 94 14) (m 94 16) (m 94 61) (m 94 59) (m 94 60) (m 99) (m 102) (m 103) (m 111) (m 117) (m 98) (m 101) (m 108)) → (zRG (m 94 10) (m 94 18) (m 94 64) (m 94 63) (m 99) (m 103) (m 102) (m 116)) → ((m 94 58).toInt = 0 ∨ (m 94 10).toInt = 5) → zm X 5 109 247 207 [(0, .inr (.inr (some 94))), (6, .inl l6), (7, .inl l7), (8, .inl l8)] m P := by
  intro n
  induction n using Nat.strongRecOn with
  | _ n IH =>
    intro m l6 l7 l8 hmu hF hV hi0 hi1 hi2 hi3 r_W r_GW r_GU r_OW r_DX r_GG r_HA r_RGc hi12
    refine g_247_207 l6 l7 l8 ?_
    have f1 : 0 ≤ (m 94 58).toInt ∧ (m 94 58).toInt ≤ 1 := rs_94_58 (m := m) hV
    have f2 : 0 ≤ (m 94 10).toInt ∧ (m 94 10).toInt ≤ 6 := rs_94_10 (m := m) hV
    have b3 := i_bd l7
    have b4 := i_bd l6
    refine sp_240 (l7) (l6) hV (by omega) (by omega) r_GG (show (m 94 58).toInt = 0 ∨ (m 94 10).toInt = 5 from by omega) (fun m1 hV_m1 p0_m1 => zmv_n ?_)
    have p0_m1 : zGG (m 94 58) (m1 94 56) (m 94 57) (m1 106) := p0_m1
    refine sp_241 (l7) hV_m1 (by omega) r_W r_GW r_GU r_OW r_DX (fun m3 hV_m3 p0_m3 p1_m3 p2_m3 p3_m3 p4_m3 => zmv_n ?_)
    have p0_m3 : zGW T (m3 94 55) (m3 109) := p0_m3
    have p1_m3 : zGU T (m 94 46) (m3 99) := p1_m3
    have p2_m3 : zOw (m3 99) (m 103) (m3 111) := p2_m3
    have p3_m3 : zDX (m 94 10) (m3 99) (m 112) (m3 113) (m3 114) (m3 94 55) (m 98) (m 101) (m 102) (m 108) := p3_m3
    have p4_m3 : (m 94 10).toInt ≠ 4 → ((m3 99) = (m 99) ∧ (m3 111) = (m 111) ∧ (m3 113) = (m 113) ∧ (m3 114) = (m 114) ∧ (m3 94 55) = (m 94 55) ∧ (m3 109) = (m 109)) := p4_m3
    skip
    have b5 := i_bd l8
    exact K (l8) _ (zF_zov (zF_zov hF ws_240_247) ws_241_247) hV_m3 r_W p0_m3 p1_m3 p2_m3 p3_m3 p0_m1 (show zHA (m 94 10) (m 94 11) (m 94 13) (m 94 14) (m 94 16) (m 94 61) (m 94 59) (m 94 60) (m3 99) (m 102) (m 103) (m3 111) (m 117) (m 98) (m 101) (m 108) from by first | (exact HA_lq r_HA (fun z => ⟨(p4_m3 z).1, (p4_m3 z).2.1⟩)) | (exact HA_lq r_HA (fun z => ⟨(p4_m3 z).1, (p4_m3 z).2.1⟩)) | (exfalso; omega; done) | (exfalso; contradiction; done)) (show zRG (m 94 10) (m 94 18) (m 94 64) (m 94 63) (m3 99) (m 103) (m 102) (m 116) from by first | (exact RG_lq r_RGc (fun z => (p4_m3 z).1)) | (exfalso; omega; done) | (exfalso; contradiction; done)) (show (m 94 58).toInt = 0 ∨ (m 94 10).toInt = 5 from by omega)
theorem lp_247_149 {X : Nat × (Nat → Int32)} {P : Option ma_V → (Nat → Nat → Int32) → Prop} {T : Nat} {ob : Int32} {ix : Int32} {oo : Int32} {m0 : Nat → Nat → Int32} (h0 : zV m0) (K : ∀ v m₉, zF wr_247 m0 m₉ → zV m₉ → (zW (m₉ 94 7) (m₉ 98) (m₉ 101) (m₉ 102) (m₉ 108)) → (zGW T (m₉ 94 55) (m₉ 109)) → (zGU T (m₉ 94 46) (m₉ 99)) → (zOw (m₉ 99) (m₉ 103) (m₉ 111)) → (zDX (m₉ 94 10) (m₉ 99) (m₉ 112) (m₉ 113) (m₉ 114) (m₉ 94 55) (m₉ 98) (m₉ 101) (m₉ 102) (m₉ 108)) → (zGG (m₉ 94 58) (m₉ 94 56) (m₉ 94 57) (m₉ 106)) → (zHA (m₉ 94 10) (m₉ 94 11) (m₉ 94 13) (m₉ 94 14) (m₉ 94 16) (m₉ 94 61) (m₉ 94 59) (m₉ 94 60) (m₉ 99) (m₉ 102) (m₉ 103) (m₉ 111) (m₉ 117) (m₉ 98) (m₉ 101) (m₉ 108)) → (zRG (m₉ 94 10) (m₉ 94 18) (m₉ 94 64) (m₉ 94 63) (m₉ 99) (m₉ 103) (m₉ 102) (m₉ 116)) → ((m₉ 94 58).toInt = 0 ∨ (m₉ 94 10).toInt = 5) → P (some (.inl v)) m₉) : ∀ (n : Nat) (m : Nat → Nat → Int32) (l2 : Int32) (l4 : Int32) (l6 : Int32) (l7 : Int32) (l8 : Int32), ((0 : Int)).toNat = n → zF wr_247 m0 m → zV m → (0 ≤ l4.toInt) → (l4.toInt ≤ 3099) → (0 ≤ l2.toInt) → (l2.toInt < (m 102 l4.toNatClampNeg).toInt) → ((m 101) l4.toNatClampNeg = 16 ∨ ((m 101) l4.toNatClampNeg < 16 ∧ (((m 98) ((m 101) l4.toNatClampNeg).toNatClampNeg >>> (l2 &&& 31)) &&& 1) = 1)) → (-1 ≤ l6.toInt) → (l6.toInt ≤ 3099) → (-1 ≤ l7.toInt) → (l7.toInt ≤ 3099) → (l6.toInt < 0 ∨ (m 99) l6.toNatClampNeg ≠ 0) → (zW (m 94 7) (m 98) (m 101) (m 102) (m 108)) → (zGW T (m 94 55) (m 109)) → (zGU T (m 94 46) (m 99)) → (zOw (m 99) (m 103) (m 111)) → (zDX (m 94 10) (m 99) (m 112) (m 113) (m 114) (m 94 55) (m 98) (m 101) (m 102) (m 108)) → (zGG (m 94 58) (m 94 56) (m 94 57) (m 106)) → (zHA (m 94 10) (m 94 11) (m 94 13) (m 94 14) (m 94 16) (m 94 61) (m 94 59) (m 94 60) (m 99) (m 102) (m 103) (m 111) (m 117) (m 98) (m 101) (m 108)) → (zRG (m 94 10) (m 94 18) (m 94 64) (m 94 63) (m 99) (m 103) (m 102) (m 116)) → ((m 94 58).toInt = 0 ∨ (m 94 10).toInt = 5) → zm X 5 109 247 149 [(0, .inr (.inr (some 94))), (2, .inl l2), (4, .inl l4), (6, .inl l6), (7, .inl l7), (8, .inl l8)] m P := by
  intro n
  induction n using Nat.strongRecOn with
  | _ n IH =>
    intro m l2 l4 l6 l7 l8 hmu hF hV hi0 hi1 hi2 hi3 r_ISR hi5 hi6 hi7 hi8 r_PU r_W r_GW r_GU r_OW r_DX r_GG r_HA r_RGc hi18
    refine g_247_149 l2 l4 l6 l7 l8 ?_
    have b1 := i_bd l4
    first | have f2 : 0 ≤ (m 102 l4.toNatClampNeg).toInt ∧ (m 102 l4.toNatClampNeg).toInt ≤ 60 := ra_102 (m := m) hV (k := l4.toNatClampNeg) (i_ix (n := 3100) (by omega) (by omega)).2 | have b3 := i_bd (m 102 l4.toNatClampNeg)
    have f4 : 0 ≤ (m 94 58).toInt ∧ (m 94 58).toInt ≤ 1 := rs_94_58 (m := m) hV
    have f5 : 0 ≤ (m 94 10).toInt ∧ (m 94 10).toInt ≤ 6 := rs_94_10 (m := m) hV
    have li6 : (60 : Int32).toInt = 60 := rfl
    first | have e7 : (l4 * (60 : Int32)).toInt = l4.toInt * 60 := i_mulk rfl (by omega) (by omega) | have b8 := i_bd (l4 * (60 : Int32))
    have b9 := i_bd l2
    first | have e10 : ((l4 * (60 : Int32)) + l2).toInt = (l4 * (60 : Int32)).toInt + l2.toInt := i_add (by omega) (by omega) | have b11 := i_bd ((l4 * (60 : Int32)) + l2)
    have hg12 : (0 ≤ ((l4 * (60 : Int32)) + l2) ∧ ((l4 * (60 : Int32)) + l2).toNatClampNeg < 186000) := i_ix (by omega) (by omega)
    refine ⟨hg12, ?_⟩
    have li13 : (3 : Int32).toInt = 3 := rfl
    refine zd (fun (h14 : (m 94 10) = (3 : Int32)) => ?_) (fun (h14 : ¬ (m 94 10) = (3 : Int32)) => ?_)
    · skip
      have g15 := i_eq h14
      have hg16 : (0 ≤ l4 ∧ l4.toNatClampNeg < 3100) := i_ix (by omega) (by omega)
      refine ⟨hg16, ?_⟩
      have f17 : 0 ≤ (m 94 14).toInt ∧ (m 94 14).toInt ≤ 1500 := rs_94_14 (m := m) hV
      first | have f18 : 0 ≤ (m 103 l4.toNatClampNeg).toInt ∧ (m 103 l4.toNatClampNeg).toInt ≤ 4599 := ra_103 (m := m) hV (k := l4.toNatClampNeg) (i_ix (n := 3100) (by omega) (by omega)).2 | have b19 := i_bd (m 103 l4.toNatClampNeg)
      refine zd (fun (h20 : (m 94 14) ≤ (m 103 l4.toNatClampNeg)) => ?_) (fun (h20 : ¬ (m 94 14) ≤ (m 103 l4.toNatClampNeg)) => ?_)
      · skip
        have g21 := i_le h20
        try have w60 := (ra_102 hV (k := l4.toNatClampNeg) (by omega)).2
        try have ww := W_isr r_W (s := l4) (i := l2) (by omega) (by omega) (by omega) (by omega) (by omega) r_ISR
        have hV22 : zV (ma_u m 108 ((l4 * (60 : Int32)) + l2).toNatClampNeg l6) := ua_108 hV
        have b23 := i_bd l6
        have b24 := i_bd l7
        have b25 := i_bd l8
        exact lp_247_207 (ob := ob) (ix := ix) (oo := oo) h0 K _ _ (l6) (l7) (l8) rfl (zF_u hF rfl) hV22 (by omega) (by omega) (by omega) (by omega) (show zW (m 94 7) (m 98) (m 101) (m 102) ((ma_u m 108 ((l4 * (60 : Int32)) + l2).toNatClampNeg l6) 108) from by first | (exact W_link r_W (by omega) (by omega) (fun s2 i2 hs2 hi2 => zrf_link (s := l4) (i := l2) (by omega) (by omega) (by omega) (by omega) r_ISR s2 i2 (by have := (ra_102 hV hs2).2; omega))) | (exfalso; omega; done) | (exfalso; contradiction; done)) r_GW r_GU r_OW (show zDX (m 94 10) (m 99) (m 112) (m 113) (m 114) (m 94 55) (m 98) (m 101) (m 102) ((ma_u m 108 ((l4 * (60 : Int32)) + l2).toNatClampNeg l6) 108) from by first | (exact DX_link r_DX (fun _ => r_PU) (fun s2 i2 hs2 hi2 => zrf_link (s := l4) (i := l2) (by omega) (by omega) (by omega) (by omega) r_ISR s2 i2 (by have := (ra_102 hV hs2).2; omega))) | (exfalso; omega; done) | (exfalso; contradiction; done)) r_GG (show zHA (m 94 10) (m 94 11) (m 94 13) (m 94 14) (m 94 16) (m 94 61) (m 94 59) (m 94 60) (m 99) (m 102) (m 103) (m 111) (m 117) (m 98) (m 101) ((ma_u m 108 ((l4 * (60 : Int32)) + l2).toNatClampNeg l6) 108) from by first | (exact HA_link r_HA (fun _ z => z) (fun s2 i2 hs2 hi2 => zrf_link (s := l4) (i := l2) (by omega) (by omega) (by omega) (by omega) r_ISR s2 i2 (by have := (ra_102 hV hs2).2; omega)) (fun hp hl => by first | (exfalso; omega) | exact Or.inl (by omega) | exact Or.inr (Or.inl (by omega)))) | (exfalso; omega; done) | (exfalso; contradiction; done)) r_RGc (show (m 94 58).toInt = 0 ∨ (m 94 10).toInt = 5 from by omega)
      · skip
        have g26 := i_nle h20
        have b27 := i_bd l6
        have li28 : (0 : Int32).toInt = 0 := rfl
        refine zd (fun (h29 : l6 < (0 : Int32)) => ?_) (fun (h29 : ¬ l6 < (0 : Int32)) => ?_)
        · skip
          have g30 := i_lt h29
          try have w60 := (ra_102 hV (k := l4.toNatClampNeg) (by omega)).2
          try have ww := W_isr r_W (s := l4) (i := l2) (by omega) (by omega) (by omega) (by omega) (by omega) r_ISR
          have hV31 : zV (ma_u m 108 ((l4 * (60 : Int32)) + l2).toNatClampNeg l6) := ua_108 hV
          have b32 := i_bd l7
          have b33 := i_bd l8
          exact lp_247_207 (ob := ob) (ix := ix) (oo := oo) h0 K _ _ (l6) (l7) (l8) rfl (zF_u hF rfl) hV31 (by omega) (by omega) (by omega) (by omega) (show zW (m 94 7) (m 98) (m 101) (m 102) ((ma_u m 108 ((l4 * (60 : Int32)) + l2).toNatClampNeg l6) 108) from by first | (exact W_link r_W (by omega) (by omega) (fun s2 i2 hs2 hi2 => zrf_link (s := l4) (i := l2) (by omega) (by omega) (by omega) (by omega) r_ISR s2 i2 (by have := (ra_102 hV hs2).2; omega))) | (exfalso; omega; done) | (exfalso; contradiction; done)) r_GW r_GU r_OW (show zDX (m 94 10) (m 99) (m 112) (m 113) (m 114) (m 94 55) (m 98) (m 101) (m 102) ((ma_u m 108 ((l4 * (60 : Int32)) + l2).toNatClampNeg l6) 108) from by first | (exact DX_link r_DX (fun _ => r_PU) (fun s2 i2 hs2 hi2 => zrf_link (s := l4) (i := l2) (by omega) (by omega) (by omega) (by omega) r_ISR s2 i2 (by have := (ra_102 hV hs2).2; omega))) | (exfalso; omega; done) | (exfalso; contradiction; done)) r_GG (show zHA (m 94 10) (m 94 11) (m 94 13) (m 94 14) (m 94 16) (m 94 61) (m 94 59) (m 94 60) (m 99) (m 102) (m 103) (m 111) (m 117) (m 98) (m 101) ((ma_u m 108 ((l4 * (60 : Int32)) + l2).toNatClampNeg l6) 108) from by first | (exact HA_link r_HA (fun _ z => z) (fun s2 i2 hs2 hi2 => zrf_link (s := l4) (i := l2) (by omega) (by omega) (by omega) (by omega) r_ISR s2 i2 (by have := (ra_102 hV hs2).2; omega)) (fun hp hl => by first | exact Or.inl (by omega) | (exfalso; omega) | exact Or.inr (Or.inl (by omega)))) | (exfalso; omega; done) | (exfalso; contradiction; done)) r_RGc (show (m 94 58).toInt = 0 ∨ (m 94 10).toInt = 5 from by omega)
        · skip
          have g34 := i_nlt h29
          have hg35 : (0 ≤ l6 ∧ l6.toNatClampNeg < 3100) := i_ix (by omega) (by omega)
          refine ⟨hg35, ?_⟩
          first | have f36 : 0 ≤ (m 103 l6.toNatClampNeg).toInt ∧ (m 103 l6.toNatClampNeg).toInt ≤ 4599 := ra_103 (m := m) hV (k := l6.toNatClampNeg) (i_ix (n := 3100) (by omega) (by omega)).2 | have b37 := i_bd (m 103 l6.toNatClampNeg)
          refine zd (fun (h38 : (m 94 14) ≤ (m 103 l6.toNatClampNeg)) => ?_) (fun (h38 : ¬ (m 94 14) ≤ (m 103 l6.toNatClampNeg)) => ?_)
          · skip
            have g39 := i_le h38
            have hg40 : (0 ≤ l4 ∧ l4.toNatClampNeg < 3100) := i_ix (by omega) (by omega)
            refine ⟨hg40, ?_⟩
            have f41 : 0 ≤ (m 94 16).toInt ∧ (m 94 16).toInt ≤ 64 := rs_94_16 (m := m) hV
            try have ca4 := (r_HA.2 (by omega)).1
            have hg42 : (m 94 16) ≠ 0 := i_nz (by omega)
            refine ⟨hg42, ?_⟩
            first | have e43 : ((m 103 l4.toNatClampNeg) + (1 : Int32)).toInt = (m 103 l4.toNatClampNeg).toInt + (1) := i_addk rfl (by omega) (by omega) | have b44 := i_bd ((m 103 l4.toNatClampNeg) + (1 : Int32))
            first | have e45 : (((m 103 l4.toNatClampNeg) + (1 : Int32)) + l2).toInt = ((m 103 l4.toNatClampNeg) + (1 : Int32)).toInt + l2.toInt := i_add (by omega) (by omega) | have b46 := i_bd (((m 103 l4.toNatClampNeg) + (1 : Int32)) + l2)
            first | have f47 := i_div (x := (((m 103 l4.toNatClampNeg) + (1 : Int32)) + l2)) (y := (m 94 16)) (by omega) (by omega) | have b48 := i_bd ((((m 103 l4.toNatClampNeg) + (1 : Int32)) + l2) / (m 94 16))
            try have ca4 := (r_HA.2 (by omega)).1
            try have dv : 0 ≤ (((((m 103 l4.toNatClampNeg) + (1 : Int32)) + l2) / (m 94 16))).toInt ∧ (((((m 103 l4.toNatClampNeg) + (1 : Int32)) + l2) / (m 94 16))).toInt ≤ 499 := i_div4 (by omega) (by omega) (by omega)
            have hg49 : (0 ≤ ((((m 103 l4.toNatClampNeg) + (1 : Int32)) + l2) / (m 94 16)) ∧ ((((m 103 l4.toNatClampNeg) + (1 : Int32)) + l2) / (m 94 16)).toNatClampNeg < 512) := i_ix (by omega) (by omega)
            refine ⟨hg49, ?_⟩
            try have w60 := (ra_102 hV (k := l4.toNatClampNeg) (by omega)).2
            try have ww := W_isr r_W (s := l4) (i := l2) (by omega) (by omega) (by omega) (by omega) (by omega) r_ISR
            have hV50 : zV (ma_u m 108 ((l4 * (60 : Int32)) + l2).toNatClampNeg l6) := ua_108 hV
            have li52 : (1 : Int32).toInt = 1 := rfl
            have hV51 : zV (ma_u (ma_u m 108 ((l4 * (60 : Int32)) + l2).toNatClampNeg l6) 117 ((((m 103 l4.toNatClampNeg) + (1 : Int32)) + l2) / (m 94 16)).toNatClampNeg (1 : Int32)) := ua_117 hV50 (by omega) (by omega)
            have b53 := i_bd l7
            have b54 := i_bd l8
            exact lp_247_207 (ob := ob) (ix := ix) (oo := oo) h0 K _ _ (l6) (l7) (l8) rfl (zF_u (zF_u hF rfl) rfl) hV51 (by omega) (by omega) (by omega) (by omega) (show zW (m 94 7) (m 98) (m 101) (m 102) ((ma_u m 108 ((l4 * (60 : Int32)) + l2).toNatClampNeg l6) 108) from by first | (exact W_link r_W (by omega) (by omega) (fun s2 i2 hs2 hi2 => zrf_link (s := l4) (i := l2) (by omega) (by omega) (by omega) (by omega) r_ISR s2 i2 (by have := (ra_102 hV hs2).2; omega))) | (exfalso; omega; done) | (exfalso; contradiction; done)) r_GW r_GU r_OW (show zDX (m 94 10) (m 99) (m 112) (m 113) (m 114) (m 94 55) (m 98) (m 101) (m 102) ((ma_u m 108 ((l4 * (60 : Int32)) + l2).toNatClampNeg l6) 108) from by first | (exact DX_link r_DX (fun _ => r_PU) (fun s2 i2 hs2 hi2 => zrf_link (s := l4) (i := l2) (by omega) (by omega) (by omega) (by omega) r_ISR s2 i2 (by have := (ra_102 hV hs2).2; omega))) | (exfalso; omega; done) | (exfalso; contradiction; done)) r_GG (show zHA (m 94 10) (m 94 11) (m 94 13) (m 94 14) (m 94 16) (m 94 61) (m 94 59) (m 94 60) (m 99) (m 102) (m 103) (m 111) ((ma_u m 117 ((((m 103 l4.toNatClampNeg) + (1 : Int32)) + l2) / (m 94 16)).toNatClampNeg (1 : Int32)) 117) (m 98) (m 101) ((ma_u m 108 ((l4 * (60 : Int32)) + l2).toNatClampNeg l6) 108) from by first | (exact HA_link r_HA (fun j z => mu_mono (by decide) z) (fun s2 i2 hs2 hi2 => zrf_link (s := l4) (i := l2) (by omega) (by omega) (by omega) (by omega) r_ISR s2 i2 (by have := (ra_102 hV hs2).2; omega)) (fun _ _ => Or.inr (Or.inr (by rw [← card_ix (by omega) (by omega) (by omega) (by omega) (by omega), mu_self]; decide)))) | (exfalso; omega; done) | (exfalso; contradiction; done)) r_RGc (show (m 94 58).toInt = 0 ∨ (m 94 10).toInt = 5 from by omega)
          · skip
            have g55 := i_nle h38
            try have w60 := (ra_102 hV (k := l4.toNatClampNeg) (by omega)).2
            try have ww := W_isr r_W (s := l4) (i := l2) (by omega) (by omega) (by omega) (by omega) (by omega) r_ISR
            have hV56 : zV (ma_u m 108 ((l4 * (60 : Int32)) + l2).toNatClampNeg l6) := ua_108 hV
            have b57 := i_bd l7
            have b58 := i_bd l8
            exact lp_247_207 (ob := ob) (ix := ix) (oo := oo) h0 K _ _ (l6) (l7) (l8) rfl (zF_u hF rfl) hV56 (by omega) (by omega) (by omega) (by omega) (show zW (m 94 7) (m 98) (m 101) (m 102) ((ma_u m 108 ((l4 * (60 : Int32)) + l2).toNatClampNeg l6) 108) from by first | (exact W_link r_W (by omega) (by omega) (fun s2 i2 hs2 hi2 => zrf_link (s := l4) (i := l2) (by omega) (by omega) (by omega) (by omega) r_ISR s2 i2 (by have := (ra_102 hV hs2).2; omega))) | (exfalso; omega; done) | (exfalso; contradiction; done)) r_GW r_GU r_OW (show zDX (m 94 10) (m 99) (m 112) (m 113) (m 114) (m 94 55) (m 98) (m 101) (m 102) ((ma_u m 108 ((l4 * (60 : Int32)) + l2).toNatClampNeg l6) 108) from by first | (exact DX_link r_DX (fun _ => r_PU) (fun s2 i2 hs2 hi2 => zrf_link (s := l4) (i := l2) (by omega) (by omega) (by omega) (by omega) r_ISR s2 i2 (by have := (ra_102 hV hs2).2; omega))) | (exfalso; omega; done) | (exfalso; contradiction; done)) r_GG (show zHA (m 94 10) (m 94 11) (m 94 13) (m 94 14) (m 94 16) (m 94 61) (m 94 59) (m 94 60) (m 99) (m 102) (m 103) (m 111) (m 117) (m 98) (m 101) ((ma_u m 108 ((l4 * (60 : Int32)) + l2).toNatClampNeg l6) 108) from by first | (exact HA_link r_HA (fun _ z => z) (fun s2 i2 hs2 hi2 => zrf_link (s := l4) (i := l2) (by omega) (by omega) (by omega) (by omega) r_ISR s2 i2 (by have := (ra_102 hV hs2).2; omega)) (fun hp hl => by first | exact Or.inr (Or.inl (by omega)) | (exfalso; omega) | exact Or.inl (by omega))) | (exfalso; omega; done) | (exfalso; contradiction; done)) r_RGc (show (m 94 58).toInt = 0 ∨ (m 94 10).toInt = 5 from by omega)
    · skip
      have g59 := i_ne h14
      skip
      try have ww := W_isr r_W (s := l4) (i := l2) (by omega) (by omega) (by omega) (by omega) (by omega) r_ISR
      have hV60 : zV (ma_u m 108 ((l4 * (60 : Int32)) + l2).toNatClampNeg l6) := ua_108 hV
      have b61 := i_bd l6
      have b62 := i_bd l7
      have b63 := i_bd l8
      exact lp_247_207 (ob := ob) (ix := ix) (oo := oo) h0 K _ _ (l6) (l7) (l8) rfl (zF_u hF rfl) hV60 (by omega) (by omega) (by omega) (by omega) (show zW (m 94 7) (m 98) (m 101) (m 102) ((ma_u m 108 ((l4 * (60 : Int32)) + l2).toNatClampNeg l6) 108) from by first | (exact W_link r_W (by omega) (by omega) (fun s2 i2 hs2 hi2 => zrf_link (s := l4) (i := l2) (by omega) (by omega) (by omega) (by omega) r_ISR s2 i2 (by have := (ra_102 hV hs2).2; omega))) | (exfalso; omega; done) | (exfalso; contradiction; done)) r_GW r_GU r_OW (show zDX (m 94 10) (m 99) (m 112) (m 113) (m 114) (m 94 55) (m 98) (m 101) (m 102) ((ma_u m 108 ((l4 * (60 : Int32)) + l2).toNatClampNeg l6) 108) from by first | (exact DX_link r_DX (fun _ => r_PU) (fun s2 i2 hs2 hi2 => zrf_link (s := l4) (i := l2) (by omega) (by omega) (by omega) (by omega) r_ISR s2 i2 (by have := (ra_102 hV hs2).2; omega))) | (exfalso; omega; done) | (exfalso; contradiction; done)) r_GG (show zHA (m 94 10) (m 94 11) (m 94 13) (m 94 14) (m 94 16) (m 94 61) (m 94 59) (m 94 60) (m 99) (m 102) (m 103) (m 111) (m 117) (m 98) (m 101) ((ma_u m 108 ((l4 * (60 : Int32)) + l2).toNatClampNeg l6) 108) from by first | (exact HA_link r_HA (fun _ z => z) (fun s2 i2 hs2 hi2 => zrf_link (s := l4) (i := l2) (by omega) (by omega) (by omega) (by omega) r_ISR s2 i2 (by have := (ra_102 hV hs2).2; omega)) (fun hp hl => by first | (exfalso; omega) | exact Or.inl (by omega) | exact Or.inr (Or.inl (by omega)))) | (exfalso; omega; done) | (exfalso; contradiction; done)) r_RGc (show (m 94 58).toInt = 0 ∨ (m 94 10).toInt = 5 from by omega)
theorem lp_247_121 {X : Nat × (Nat → Int32)} {P : Option ma_V → (Nat → Nat → Int32) → Prop} {T : Nat} {ob : Int32} {ix : Int32} {oo : Int32} {m0 : Nat → Nat → Int32} (h0 : zV m0) (K : ∀ v m₉, zF wr_247 m0 m₉ → zV m₉ → (zW (m₉ 94 7) (m₉ 98) (m₉ 101) (m₉ 102) (m₉ 108)) → (zGW T (m₉ 94 55) (m₉ 109)) → (zGU T (m₉ 94 46) (m₉ 99)) → (zOw (m₉ 99) (m₉ 103) (m₉ 111)) → (zDX (m₉ 94 10) (m₉ 99) (m₉ 112) (m₉ 113) (m₉ 114) (m₉ 94 55) (m₉ 98) (m₉ 101) (m₉ 102) (m₉ 108)) → (zGG (m₉ 94 58) (m₉ 94 56) (m₉ 94 57) (m₉ 106)) → (zHA (m₉ 94 10) (m₉ 94 11) (m₉ 94 13) (m₉ 94 14) (m₉ 94 16) (m₉ 94 61) (m₉ 94 59) (m₉ 94 60) (m₉ 99) (m₉ 102) (m₉ 103) (m₉ 111) (m₉ 117) (m₉ 98) (m₉ 101) (m₉ 108)) → (zRG (m₉ 94 10) (m₉ 94 18) (m₉ 94 64) (m₉ 94 63) (m₉ 99) (m₉ 103) (m₉ 102) (m₉ 116)) → ((m₉ 94 58).toInt = 0 ∨ (m₉ 94 10).toInt = 5) → P (some (.inl v)) m₉) : ∀ (n : Nat) (m : Nat → Nat → Int32) (l2 : Int32) (l4 : Int32) (l6 : Int32), ((0 : Int)).toNat = n → zF wr_247 m0 m → zV m → (0 ≤ l4.toInt) → (l4.toInt ≤ 3099) → (0 ≤ l2.toInt) → (l2.toInt < (m 102 l4.toNatClampNeg).toInt) → ((m 101) l4.toNatClampNeg = 16 ∨ ((m 101) l4.toNatClampNeg < 16 ∧ (((m 98) ((m 101) l4.toNatClampNeg).toNatClampNeg >>> (l2 &&& 31)) &&& 1) = 1)) → (-1 ≤ l6.toInt) → (l6.toInt ≤ 3099) → (l6.toInt < 0 ∨ (m 99) l6.toNatClampNeg ≠ 0) → (zW (m 94 7) (m 98) (m 101) (m 102) (m 108)) → (zGW T (m 94 55) (m 109)) → (zGU T (m 94 46) (m 99)) → (zOw (m 99) (m 103) (m 111)) → (zDX (m 94 10) (m 99) (m 112) (m 113) (m 114) (m 94 55) (m 98) (m 101) (m 102) (m 108)) → (zGG (m 94 58) (m 94 56) (m 94 57) (m 106)) → (zHA (m 94 10) (m 94 11) (m 94 13) (m 94 14) (m 94 16) (m 94 61) (m 94 59) (m 94 60) (m 99) (m 102) (m 103) (m 111) (m 117) (m 98) (m 101) (m 108)) → (zRG (m 94 10) (m 94 18) (m 94 64) (m 94 63) (m 99) (m 103) (m 102) (m 116)) → ((m 94 58).toInt = 0 ∨ (m 94 10).toInt = 5) → zm X 5 109 247 121 [(0, .inr (.inr (some 94))), (2, .inl l2), (4, .inl l4), (6, .inl l6)] m P := by
  intro n
  induction n using Nat.strongRecOn with
  | _ n IH =>
    intro m l2 l4 l6 hmu hF hV hi0 hi1 hi2 hi3 r_ISR hi5 hi6 r_PU r_W r_GW r_GU r_OW r_DX r_GG r_HA r_RGc hi16
    refine g_247_121 l2 l4 l6 ?_
    have b1 := i_bd l4
    first | have f2 : 0 ≤ (m 102 l4.toNatClampNeg).toInt ∧ (m 102 l4.toNatClampNeg).toInt ≤ 60 := ra_102 (m := m) hV (k := l4.toNatClampNeg) (i_ix (n := 3100) (by omega) (by omega)).2 | have b3 := i_bd (m 102 l4.toNatClampNeg)
    have f4 : 0 ≤ (m 94 58).toInt ∧ (m 94 58).toInt ≤ 1 := rs_94_58 (m := m) hV
    have f5 : 0 ≤ (m 94 10).toInt ∧ (m 94 10).toInt ≤ 6 := rs_94_10 (m := m) hV
    have li6 : (60 : Int32).toInt = 60 := rfl
    first | have e7 : (l4 * (60 : Int32)).toInt = l4.toInt * 60 := i_mulk rfl (by omega) (by omega) | have b8 := i_bd (l4 * (60 : Int32))
    have b9 := i_bd l2
    first | have e10 : ((l4 * (60 : Int32)) + l2).toInt = (l4 * (60 : Int32)).toInt + l2.toInt := i_add (by omega) (by omega) | have b11 := i_bd ((l4 * (60 : Int32)) + l2)
    have hg12 : (0 ≤ ((l4 * (60 : Int32)) + l2) ∧ ((l4 * (60 : Int32)) + l2).toNatClampNeg < 186000) := i_ix (by omega) (by omega)
    refine ⟨hg12, ?_⟩
    have li13 : (0 : Int32).toInt = 0 := rfl
    have b14 := i_bd (m 108 ((l4 * (60 : Int32)) + l2).toNatClampNeg)
    refine zd (fun (h15 : (0 : Int32) ≤ (m 108 ((l4 * (60 : Int32)) + l2).toNatClampNeg)) => ?_) (fun (h15 : ¬ (0 : Int32) ≤ (m 108 ((l4 * (60 : Int32)) + l2).toNatClampNeg)) => ?_)
    · skip
      have g16 := i_le h15
      skip
      try have ww := W_isr r_W (s := l4) (i := l2) (by omega) (by omega) (by omega) (by omega) (by omega) r_ISR
      have hg17 : (0 ≤ (m 108 ((l4 * (60 : Int32)) + l2).toNatClampNeg) ∧ (m 108 ((l4 * (60 : Int32)) + l2).toNatClampNeg).toNatClampNeg < 3100) := i_ix (by omega) (by omega)
      refine ⟨hg17, ?_⟩
      have b18 := i_bd l6
      refine zd (fun (h19 : l6 < (0 : Int32)) => ?_) (fun (h19 : ¬ l6 < (0 : Int32)) => ?_)
      · skip
        have g20 := i_lt h19
        skip
        try have ww := W_isr r_W (s := l4) (i := l2) (by omega) (by omega) (by omega) (by omega) (by omega) r_ISR
        first | have f21 : 0 ≤ (m 100 (m 108 ((l4 * (60 : Int32)) + l2).toNatClampNeg).toNatClampNeg).toInt ∧ (m 100 (m 108 ((l4 * (60 : Int32)) + l2).toNatClampNeg).toNatClampNeg).toInt ≤ 100000 := ra_100 (m := m) hV (k := (m 108 ((l4 * (60 : Int32)) + l2).toNatClampNeg).toNatClampNeg) (i_ix (n := 3100) (by omega) (by omega)).2 | have b22 := i_bd (m 100 (m 108 ((l4 * (60 : Int32)) + l2).toNatClampNeg).toNatClampNeg)
        exact lp_247_149 (ob := ob) (ix := ix) (oo := oo) h0 K _ _ (l2) (l4) (l6) ((m 108 ((l4 * (60 : Int32)) + l2).toNatClampNeg)) ((m 100 (m 108 ((l4 * (60 : Int32)) + l2).toNatClampNeg).toNatClampNeg)) rfl hF hV (by omega) (by omega) (by omega) (show l2.toInt < (m 102 l4.toNatClampNeg).toInt from by omega) r_ISR (by omega) (by omega) (by omega) (by omega) r_PU r_W r_GW r_GU r_OW r_DX r_GG r_HA r_RGc (show (m 94 58).toInt = 0 ∨ (m 94 10).toInt = 5 from by omega)
      · skip
        have g23 := i_nlt h19
        have li24 : (4 : Int32).toInt = 4 := rfl
        refine zd (fun (h25 : (m 94 10) = (4 : Int32)) => ?_) (fun (h25 : ¬ (m 94 10) = (4 : Int32)) => ?_)
        · skip
          have g26 := i_eq h25
          have hg27 : (0 ≤ l6 ∧ l6.toNatClampNeg < 3100) := i_ix (by omega) (by omega)
          refine ⟨hg27, ?_⟩
          have hg28 : (0 ≤ l6 ∧ l6.toNatClampNeg < 3100) := i_ix (by omega) (by omega)
          refine ⟨hg28, ?_⟩
          skip
          try have ww := W_isr r_W (s := l4) (i := l2) (by omega) (by omega) (by omega) (by omega) (by omega) r_ISR
          have hV29 : zV (ma_u m 105 l6.toNatClampNeg ((m 105 l6.toNatClampNeg) + (1 : Int32))) := ua_105 hV
          first | have f30 : 0 ≤ (m 100 (m 108 ((l4 * (60 : Int32)) + l2).toNatClampNeg).toNatClampNeg).toInt ∧ (m 100 (m 108 ((l4 * (60 : Int32)) + l2).toNatClampNeg).toNatClampNeg).toInt ≤ 100000 := ra_100 (m := m) hV (k := (m 108 ((l4 * (60 : Int32)) + l2).toNatClampNeg).toNatClampNeg) (i_ix (n := 3100) (by omega) (by omega)).2 | have b31 := i_bd (m 100 (m 108 ((l4 * (60 : Int32)) + l2).toNatClampNeg).toNatClampNeg)
          exact lp_247_149 (ob := ob) (ix := ix) (oo := oo) h0 K _ _ (l2) (l4) (l6) ((m 108 ((l4 * (60 : Int32)) + l2).toNatClampNeg)) ((m 100 (m 108 ((l4 * (60 : Int32)) + l2).toNatClampNeg).toNatClampNeg)) rfl (zF_u hF rfl) hV29 (by omega) (by omega) (by omega) (show l2.toInt < (m 102 l4.toNatClampNeg).toInt from by omega) r_ISR (by omega) (by omega) (by omega) (by omega) r_PU r_W r_GW r_GU r_OW r_DX r_GG r_HA r_RGc (show (m 94 58).toInt = 0 ∨ (m 94 10).toInt = 5 from by omega)
        · skip
          have g32 := i_ne h25
          skip
          try have ww := W_isr r_W (s := l4) (i := l2) (by omega) (by omega) (by omega) (by omega) (by omega) r_ISR
          first | have f33 : 0 ≤ (m 100 (m 108 ((l4 * (60 : Int32)) + l2).toNatClampNeg).toNatClampNeg).toInt ∧ (m 100 (m 108 ((l4 * (60 : Int32)) + l2).toNatClampNeg).toNatClampNeg).toInt ≤ 100000 := ra_100 (m := m) hV (k := (m 108 ((l4 * (60 : Int32)) + l2).toNatClampNeg).toNatClampNeg) (i_ix (n := 3100) (by omega) (by omega)).2 | have b34 := i_bd (m 100 (m 108 ((l4 * (60 : Int32)) + l2).toNatClampNeg).toNatClampNeg)
          exact lp_247_149 (ob := ob) (ix := ix) (oo := oo) h0 K _ _ (l2) (l4) (l6) ((m 108 ((l4 * (60 : Int32)) + l2).toNatClampNeg)) ((m 100 (m 108 ((l4 * (60 : Int32)) + l2).toNatClampNeg).toNatClampNeg)) rfl hF hV (by omega) (by omega) (by omega) (show l2.toInt < (m 102 l4.toNatClampNeg).toInt from by omega) r_ISR (by omega) (by omega) (by omega) (by omega) r_PU r_W r_GW r_GU r_OW r_DX r_GG r_HA r_RGc (show (m 94 58).toInt = 0 ∨ (m 94 10).toInt = 5 from by omega)
    · skip
      have g35 := i_nle h15
      have b36 := i_bd l6
      refine zd (fun (h37 : l6 < (0 : Int32)) => ?_) (fun (h37 : ¬ l6 < (0 : Int32)) => ?_)
      · skip
        have g38 := i_lt h37
        skip
        try have ww := W_isr r_W (s := l4) (i := l2) (by omega) (by omega) (by omega) (by omega) (by omega) r_ISR
        have li39 : (-1 : Int32).toInt = -1 := rfl
        exact lp_247_149 (ob := ob) (ix := ix) (oo := oo) h0 K _ _ (l2) (l4) (l6) ((m 108 ((l4 * (60 : Int32)) + l2).toNatClampNeg)) ((-1 : Int32)) rfl hF hV (by omega) (by omega) (by omega) (show l2.toInt < (m 102 l4.toNatClampNeg).toInt from by omega) r_ISR (by omega) (by omega) (by omega) (by omega) r_PU r_W r_GW r_GU r_OW r_DX r_GG r_HA r_RGc (show (m 94 58).toInt = 0 ∨ (m 94 10).toInt = 5 from by omega)
      · skip
        have g40 := i_nlt h37
        have li41 : (4 : Int32).toInt = 4 := rfl
        refine zd (fun (h42 : (m 94 10) = (4 : Int32)) => ?_) (fun (h42 : ¬ (m 94 10) = (4 : Int32)) => ?_)
        · skip
          have g43 := i_eq h42
          have hg44 : (0 ≤ l6 ∧ l6.toNatClampNeg < 3100) := i_ix (by omega) (by omega)
          refine ⟨hg44, ?_⟩
          have hg45 : (0 ≤ l6 ∧ l6.toNatClampNeg < 3100) := i_ix (by omega) (by omega)
          refine ⟨hg45, ?_⟩
          skip
          try have ww := W_isr r_W (s := l4) (i := l2) (by omega) (by omega) (by omega) (by omega) (by omega) r_ISR
          have hV46 : zV (ma_u m 105 l6.toNatClampNeg ((m 105 l6.toNatClampNeg) + (1 : Int32))) := ua_105 hV
          have li47 : (-1 : Int32).toInt = -1 := rfl
          exact lp_247_149 (ob := ob) (ix := ix) (oo := oo) h0 K _ _ (l2) (l4) (l6) ((m 108 ((l4 * (60 : Int32)) + l2).toNatClampNeg)) ((-1 : Int32)) rfl (zF_u hF rfl) hV46 (by omega) (by omega) (by omega) (show l2.toInt < (m 102 l4.toNatClampNeg).toInt from by omega) r_ISR (by omega) (by omega) (by omega) (by omega) r_PU r_W r_GW r_GU r_OW r_DX r_GG r_HA r_RGc (show (m 94 58).toInt = 0 ∨ (m 94 10).toInt = 5 from by omega)
        · skip
          have g48 := i_ne h42
          skip
          try have ww := W_isr r_W (s := l4) (i := l2) (by omega) (by omega) (by omega) (by omega) (by omega) r_ISR
          have li49 : (-1 : Int32).toInt = -1 := rfl
          exact lp_247_149 (ob := ob) (ix := ix) (oo := oo) h0 K _ _ (l2) (l4) (l6) ((m 108 ((l4 * (60 : Int32)) + l2).toNatClampNeg)) ((-1 : Int32)) rfl hF hV (by omega) (by omega) (by omega) (show l2.toInt < (m 102 l4.toNatClampNeg).toInt from by omega) r_ISR (by omega) (by omega) (by omega) (by omega) r_PU r_W r_GW r_GU r_OW r_DX r_GG r_HA r_RGc (show (m 94 58).toInt = 0 ∨ (m 94 10).toInt = 5 from by omega)
theorem lp_247_105 {X : Nat × (Nat → Int32)} {P : Option ma_V → (Nat → Nat → Int32) → Prop} {T : Nat} {ob : Int32} {ix : Int32} {oo : Int32} {m0 : Nat → Nat → Int32} (h0 : zV m0) (K : ∀ v m₉, zF wr_247 m0 m₉ → zV m₉ → (zW (m₉ 94 7) (m₉ 98) (m₉ 101) (m₉ 102) (m₉ 108)) → (zGW T (m₉ 94 55) (m₉ 109)) → (zGU T (m₉ 94 46) (m₉ 99)) → (zOw (m₉ 99) (m₉ 103) (m₉ 111)) → (zDX (m₉ 94 10) (m₉ 99) (m₉ 112) (m₉ 113) (m₉ 114) (m₉ 94 55) (m₉ 98) (m₉ 101) (m₉ 102) (m₉ 108)) → (zGG (m₉ 94 58) (m₉ 94 56) (m₉ 94 57) (m₉ 106)) → (zHA (m₉ 94 10) (m₉ 94 11) (m₉ 94 13) (m₉ 94 14) (m₉ 94 16) (m₉ 94 61) (m₉ 94 59) (m₉ 94 60) (m₉ 99) (m₉ 102) (m₉ 103) (m₉ 111) (m₉ 117) (m₉ 98) (m₉ 101) (m₉ 108)) → (zRG (m₉ 94 10) (m₉ 94 18) (m₉ 94 64) (m₉ 94 63) (m₉ 99) (m₉ 103) (m₉ 102) (m₉ 116)) → ((m₉ 94 58).toInt = 0 ∨ (m₉ 94 10).toInt = 5) → P (some (.inl v)) m₉) : ∀ (n : Nat) (m : Nat → Nat → Int32) (l2 : Int32) (l3 : Int32) (l4 : Int32), ((0 : Int)).toNat = n → zF wr_247 m0 m → zV m → (0 ≤ l4.toInt) → (l4.toInt ≤ 3099) → (0 ≤ l2.toInt) → (l2.toInt < (m 102 l4.toNatClampNeg).toInt) → ((m 101) l4.toNatClampNeg = 16 ∨ ((m 101) l4.toNatClampNeg < 16 ∧ (((m 98) ((m 101) l4.toNatClampNeg).toNatClampNeg >>> (l2 &&& 31)) &&& 1) = 1)) → (zW (m 94 7) (m 98) (m 101) (m 102) (m 108)) → (zGW T (m 94 55) (m 109)) → (zGU T (m 94 46) (m 99)) → (zOw (m 99) (m 103) (m 111)) → (zDX (m 94 10) (m 99) (m 112) (m 113) (m 114) (m 94 55) (m 98) (m 101) (m 102) (m 108)) → (zGG (m 94 58) (m 94 56) (m 94 57) (m 106)) → (zHA (m 94 10) (m 94 11) (m 94 13) (m 94 14) (m 94 16) (m 94 61) (m 94 59) (m 94 60) (m 99) (m 102) (m 103) (m 111) (m 117) (m 98) (m 101) (m 108)) → (zRG (m 94 10) (m 94 18) (m 94 64) (m 94 63) (m 99) (m 103) (m 102) (m 116)) → ((m 94 58).toInt = 0 ∨ (m 94 10).toInt = 5) → zm X 5 109 247 105 [(0, .inr (.inr (some 94))), (2, .inl l2), (3, .inl l3), (4, .inl l4)] m P := by
  intro n
  induction n using Nat.strongRecOn with
  | _ n IH =>
    intro m l2 l3 l4 hmu hF hV hi0 hi1 hi2 hi3 r_ISR r_W r_GW r_GU r_OW r_DX r_GG r_HA r_RGc hi13
    refine g_247_105 l2 l3 l4 ?_
    have b1 := i_bd l4
    first | have f2 : 0 ≤ (m 102 l4.toNatClampNeg).toInt ∧ (m 102 l4.toNatClampNeg).toInt ≤ 60 := ra_102 (m := m) hV (k := l4.toNatClampNeg) (i_ix (n := 3100) (by omega) (by omega)).2 | have b3 := i_bd (m 102 l4.toNatClampNeg)
    have f4 : 0 ≤ (m 94 58).toInt ∧ (m 94 58).toInt ≤ 1 := rs_94_58 (m := m) hV
    have f5 : 0 ≤ (m 94 10).toInt ∧ (m 94 10).toInt ≤ 6 := rs_94_10 (m := m) hV
    have b6 := i_bd l3
    have li7 : (-1 : Int32).toInt = -1 := rfl
    refine zd (fun (h8 : l3 = (-1 : Int32)) => ?_) (fun (h8 : ¬ l3 = (-1 : Int32)) => ?_)
    · skip
      have g9 := i_eq h8
      skip
      try have ww := W_isr r_W (s := l4) (i := l2) (by omega) (by omega) (by omega) (by omega) (by omega) r_ISR
      have b10 := i_bd l2
      exact lp_247_121 (ob := ob) (ix := ix) (oo := oo) h0 K _ _ (l2) (l4) ((-1 : Int32)) rfl hF hV (by omega) (by omega) (by omega) (show l2.toInt < (m 102 l4.toNatClampNeg).toInt from by omega) r_ISR (by omega) (by omega) (show (-1 : Int32).toInt < 0 ∨ (m 99) (-1 : Int32).toNatClampNeg ≠ 0 from by first | (exact Or.inl (by decide)) | (exact Or.inr (by assumption)) | (exact Or.inl (by omega)) | (exfalso; omega; done) | (exfalso; contradiction; done)) r_W r_GW r_GU r_OW r_DX r_GG r_HA r_RGc (show (m 94 58).toInt = 0 ∨ (m 94 10).toInt = 5 from by omega)
    · skip
      have g11 := i_ne h8
      refine sp_246b (l3) hV  (fun v2 m1 hV_m1 p0_m1 p1_m1 => zmi_n ?_)
      have p0_m1 : -1 ≤ v2.toInt ∧ v2.toInt ≤ 3099 := p0_m1
      have p1_m1 : v2.toInt < 0 ∨ (m 99) v2.toNatClampNeg ≠ 0 := p1_m1
      skip
      try have ww := W_isr r_W (s := l4) (i := l2) (by omega) (by omega) (by omega) (by omega) (by omega) r_ISR
      have b12 := i_bd l2
      have b13 := i_bd v2
      exact lp_247_121 (ob := ob) (ix := ix) (oo := oo) h0 K _ _ (l2) (l4) (v2) rfl (zF_zov hF ws_246_247) hV_m1 (by omega) (by omega) (by omega) (show l2.toInt < (m 102 l4.toNatClampNeg).toInt from by omega) r_ISR (by omega) (by omega) p1_m1 r_W r_GW r_GU r_OW r_DX r_GG r_HA r_RGc (show (m 94 58).toInt = 0 ∨ (m 94 10).toInt = 5 from by omega)
theorem lp_247_53 {X : Nat × (Nat → Int32)} {P : Option ma_V → (Nat → Nat → Int32) → Prop} {T : Nat} {ob : Int32} {ix : Int32} {oo : Int32} {m0 : Nat → Nat → Int32} (h0 : zV m0) (K : ∀ v m₉, zF wr_247 m0 m₉ → zV m₉ → (zW (m₉ 94 7) (m₉ 98) (m₉ 101) (m₉ 102) (m₉ 108)) → (zGW T (m₉ 94 55) (m₉ 109)) → (zGU T (m₉ 94 46) (m₉ 99)) → (zOw (m₉ 99) (m₉ 103) (m₉ 111)) → (zDX (m₉ 94 10) (m₉ 99) (m₉ 112) (m₉ 113) (m₉ 114) (m₉ 94 55) (m₉ 98) (m₉ 101) (m₉ 102) (m₉ 108)) → (zGG (m₉ 94 58) (m₉ 94 56) (m₉ 94 57) (m₉ 106)) → (zHA (m₉ 94 10) (m₉ 94 11) (m₉ 94 13) (m₉ 94 14) (m₉ 94 16) (m₉ 94 61) (m₉ 94 59) (m₉ 94 60) (m₉ 99) (m₉ 102) (m₉ 103) (m₉ 111) (m₉ 117) (m₉ 98) (m₉ 101) (m₉ 108)) → (zRG (m₉ 94 10) (m₉ 94 18) (m₉ 94 64) (m₉ 94 63) (m₉ 99) (m₉ 103) (m₉ 102) (m₉ 116)) → ((m₉ 94 58).toInt = 0 ∨ (m₉ 94 10).toInt = 5) → P (some (.inl v)) m₉) : ∀ (n : Nat) (m : Nat → Nat → Int32) (l2 : Int32) (l3 : Int32) (l4 : Int32) (l5 : Int32), ((0 : Int)).toNat = n → zF wr_247 m0 m → zV m → (-1 ≤ l4.toInt) → (l4.toInt ≤ 3099) → (0 ≤ l5.toInt) → (l5.toInt ≤ 1) → (l5.toInt = 0 ∨ 0 ≤ l4.toInt) → (zW (m 94 7) (m 98) (m 101) (m 102) (m 108)) → (zGW T (m 94 55) (m 109)) → (zGU T (m 94 46) (m 99)) → (zOw (m 99) (m 103) (m 111)) → (zDX (m 94 10) (m 99) (m 112) (m 113) (m 114) (m 94 55) (m 98) (m 101) (m 102) (m 108)) → (zGG (m 94 58) (m 94 56) (m 94 57) (m 106)) → (zHA (m 94 10) (m 94 11) (m 94 13) (m 94 14) (m 94 16) (m 94 61) (m 94 59) (m 94 60) (m 99) (m 102) (m 103) (m 111) (m 117) (m 98) (m 101) (m 108)) → (zRG (m 94 10) (m 94 18) (m 94 64) (m 94 63) (m 99) (m 103) (m 102) (m 116)) → ((m 94 58).toInt = 0 ∨ (m 94 10).toInt = 5) → zm X 5 109 247 53 [(0, .inr (.inr (some 94))), (2, .inl l2), (3, .inl l3), (4, .inl l4), (5, .inl l5)] m P := by
  intro n
  induction n using Nat.strongRecOn with
  | _ n IH =>
    intro m l2 l3 l4 l5 hmu hF hV hi0 hi1 hi2 hi3 hi4 r_W r_GW r_GU r_OW r_DX r_GG r_HA r_RGc hi13
    refine g_247_53 l2 l3 l4 l5 ?_
    have f1 : 0 ≤ (m 94 58).toInt ∧ (m 94 58).toInt ≤ 1 := rs_94_58 (m := m) hV
    have f2 : 0 ≤ (m 94 10).toInt ∧ (m 94 10).toInt ≤ 6 := rs_94_10 (m := m) hV
    have b3 := i_bd l5
    have li4 : (0 : Int32).toInt = 0 := rfl
    refine zd (fun (h5 : l5 = (0 : Int32)) => ?_) (fun (h5 : ¬ l5 = (0 : Int32)) => ?_)
    · skip
      have g6 := i_eq h5
      skip
      have hV7 : zV (ma_u m 94 0 (2 : Int32)) := uf_94_0 hV
      exact K ((0 : Int32)) _ (zF_u hF rfl) hV7 r_W r_GW r_GU r_OW r_DX r_GG r_HA r_RGc (show (m 94 58).toInt = 0 ∨ (m 94 10).toInt = 5 from by omega)
    · skip
      have g8 := i_ne h5
      have b9 := i_bd l2
      refine zd (fun (h10 : l2 < (0 : Int32)) => ?_) (fun (h10 : ¬ l2 < (0 : Int32)) => ?_)
      · skip
        have g11 := i_lt h10
        skip
        have hV12 : zV (ma_u m 94 0 (3 : Int32)) := uf_94_0 hV
        exact K ((0 : Int32)) _ (zF_u hF rfl) hV12 r_W r_GW r_GU r_OW r_DX r_GG r_HA r_RGc (show (m 94 58).toInt = 0 ∨ (m 94 10).toInt = 5 from by omega)
      · skip
        have g13 := i_nlt h10
        have b14 := i_bd l4
        have hg15 : (0 ≤ l4 ∧ l4.toNatClampNeg < 3100) := i_ix (by omega) (by omega)
        refine ⟨hg15, ?_⟩
        first | have f16 : 0 ≤ (m 102 l4.toNatClampNeg).toInt ∧ (m 102 l4.toNatClampNeg).toInt ≤ 60 := ra_102 (m := m) hV (k := l4.toNatClampNeg) (i_ix (n := 3100) (by omega) (by omega)).2 | have b17 := i_bd (m 102 l4.toNatClampNeg)
        refine zd (fun (h18 : l2 < (m 102 l4.toNatClampNeg)) => ?_) (fun (h18 : ¬ l2 < (m 102 l4.toNatClampNeg)) => ?_)
        · skip
          have g19 := i_lt h18
          have hg20 : (0 ≤ l4 ∧ l4.toNatClampNeg < 3100) := i_ix (by omega) (by omega)
          refine ⟨hg20, ?_⟩
          first | have f21 : 0 ≤ (m 101 l4.toNatClampNeg).toInt ∧ (m 101 l4.toNatClampNeg).toInt ≤ 17 := ra_101 (m := m) hV (k := l4.toNatClampNeg) (i_ix (n := 3100) (by omega) (by omega)).2 | have b22 := i_bd (m 101 l4.toNatClampNeg)
          have li23 : (16 : Int32).toInt = 16 := rfl
          refine zd (fun (h24 : (m 101 l4.toNatClampNeg) = (16 : Int32)) => ?_) (fun (h24 : ¬ (m 101 l4.toNatClampNeg) = (16 : Int32)) => ?_)
          · skip
            have g25 := i_eq h24
            try have w60 := (ra_102 hV (k := l4.toNatClampNeg) (by omega)).2
            have hV26 : zV (ma_u m 94 0 (0 : Int32)) := uf_94_0 hV
            have b27 := i_bd l3
            exact lp_247_105 (ob := ob) (ix := ix) (oo := oo) h0 K _ _ (l2) (l3) (l4) rfl (zF_u hF rfl) hV26 (by omega) (by omega) (by omega) (show l2.toInt < (m 102 l4.toNatClampNeg).toInt from by omega) (show (m 101) l4.toNatClampNeg = 16 ∨ ((m 101) l4.toNatClampNeg < 16 ∧ (((m 98) ((m 101) l4.toNatClampNeg).toNatClampNeg >>> (l2 &&& 31)) &&& 1) = 1) from by first | (exact Or.inl (by assumption)) | (exact Or.inr ⟨Int32.not_le.mp (by assumption), by assumption⟩) | (exfalso; omega; done) | (exfalso; contradiction; done)) r_W r_GW r_GU r_OW r_DX r_GG r_HA r_RGc (show (m 94 58).toInt = 0 ∨ (m 94 10).toInt = 5 from by omega)
          · skip
            have g28 := i_ne h24
            have hg29 : (0 ≤ l4 ∧ l4.toNatClampNeg < 3100) := i_ix (by omega) (by omega)
            refine ⟨hg29, ?_⟩
            refine zd (fun (h30 : (16 : Int32) ≤ (m 101 l4.toNatClampNeg)) => ?_) (fun (h30 : ¬ (16 : Int32) ≤ (m 101 l4.toNatClampNeg)) => ?_)
            · skip
              have g31 := i_le h30
              try have w60 := (ra_102 hV (k := l4.toNatClampNeg) (by omega)).2
              have hV32 : zV (ma_u m 94 0 (4 : Int32)) := uf_94_0 hV
              exact K ((0 : Int32)) _ (zF_u hF rfl) hV32 r_W r_GW r_GU r_OW r_DX r_GG r_HA r_RGc (show (m 94 58).toInt = 0 ∨ (m 94 10).toInt = 5 from by omega)
            · skip
              have g33 := i_nle h30
              have hg34 : (0 ≤ l4 ∧ l4.toNatClampNeg < 3100) := i_ix (by omega) (by omega)
              refine ⟨hg34, ?_⟩
              have hg35 : (0 ≤ (m 101 l4.toNatClampNeg) ∧ (m 101 l4.toNatClampNeg).toNatClampNeg < 16) := i_ix (by omega) (by omega)
              refine ⟨hg35, ?_⟩
              have b36 := i_bd (((m 98 (m 101 l4.toNatClampNeg).toNatClampNeg) >>> (l2 &&& 31)) &&& (1 : Int32))
              have li37 : (1 : Int32).toInt = 1 := rfl
              refine zd (fun (h38 : (((m 98 (m 101 l4.toNatClampNeg).toNatClampNeg) >>> (l2 &&& 31)) &&& (1 : Int32)) = (1 : Int32)) => ?_) (fun (h38 : ¬ (((m 98 (m 101 l4.toNatClampNeg).toNatClampNeg) >>> (l2 &&& 31)) &&& (1 : Int32)) = (1 : Int32)) => ?_)
              · skip
                have g39 := i_eq h38
                try have w60 := (ra_102 hV (k := l4.toNatClampNeg) (by omega)).2
                have hV40 : zV (ma_u m 94 0 (0 : Int32)) := uf_94_0 hV
                have b41 := i_bd l3
                exact lp_247_105 (ob := ob) (ix := ix) (oo := oo) h0 K _ _ (l2) (l3) (l4) rfl (zF_u hF rfl) hV40 (by omega) (by omega) (by omega) (show l2.toInt < (m 102 l4.toNatClampNeg).toInt from by omega) (show (m 101) l4.toNatClampNeg = 16 ∨ ((m 101) l4.toNatClampNeg < 16 ∧ (((m 98) ((m 101) l4.toNatClampNeg).toNatClampNeg >>> (l2 &&& 31)) &&& 1) = 1) from by first | (exact Or.inr ⟨Int32.not_le.mp (by assumption), by assumption⟩) | (exact Or.inl (by assumption)) | (exfalso; omega; done) | (exfalso; contradiction; done)) r_W r_GW r_GU r_OW r_DX r_GG r_HA r_RGc (show (m 94 58).toInt = 0 ∨ (m 94 10).toInt = 5 from by omega)
              · skip
                have g42 := i_ne h38
                try have w60 := (ra_102 hV (k := l4.toNatClampNeg) (by omega)).2
                have hV43 : zV (ma_u m 94 0 (4 : Int32)) := uf_94_0 hV
                exact K ((0 : Int32)) _ (zF_u hF rfl) hV43 r_W r_GW r_GU r_OW r_DX r_GG r_HA r_RGc (show (m 94 58).toInt = 0 ∨ (m 94 10).toInt = 5 from by omega)
        · skip
          have g44 := i_nlt h18
          try have w60 := (ra_102 hV (k := l4.toNatClampNeg) (by omega)).2
          have hV45 : zV (ma_u m 94 0 (3 : Int32)) := uf_94_0 hV
          exact K ((0 : Int32)) _ (zF_u hF rfl) hV45 r_W r_GW r_GU r_OW r_DX r_GG r_HA r_RGc (show (m 94 58).toInt = 0 ∨ (m 94 10).toInt = 5 from by omega)
theorem sp_247 {X : Nat × (Nat → Int32)} {P : Option ma_V → (Nat → Nat → Int32) → Prop} {T : Nat} {m : Nat → Nat → Int32} (ob : Int32) (ix : Int32) (oo : Int32) (hV : zV m) (r_W : zW (m 94 7) (m 98) (m 101) (m 102) (m 108)) (r_GW : zGW T (m 94 55) (m 109)) (r_GU : zGU T (m 94 46) (m 99)) (r_OW : zOw (m 99) (m 103) (m 111)) (r_DX : zDX (m 94 10) (m 99) (m 112) (m 113) (m 114) (m 94 55) (m 98) (m 101) (m 102) (m 108)) (r_GG : zGG (m 94 58) (m 94 56) (m 94 57) (m 106)) (r_HA : zHA (m 94 10) (m 94 11) (m 94 13) (m 94 14) (m 94 16) (m 94 61) (m 94 59) (m 94 60) (m 99) (m 102) (m 103) (m 111) (m 117) (m 98) (m 101) (m 108)) (r_RGc : zRG (m 94 10) (m 94 18) (m 94 64) (m 94 63) (m 99) (m 103) (m 102) (m 116)) (hpre8 : (m 94 58).toInt = 0 ∨ (m 94 10).toInt = 5) (KZ : ∀ v m₉, zV (zov wr_247 m m₉) → (zW (m 94 7) (m 98) (m 101) (m 102) (m₉ 108)) → (zGW T (m₉ 94 55) (m₉ 109)) → (zGU T (m 94 46) (m₉ 99)) → (zOw (m₉ 99) (m 103) (m₉ 111)) → (zDX (m 94 10) (m₉ 99) (m 112) (m₉ 113) (m₉ 114) (m₉ 94 55) (m 98) (m 101) (m 102) (m₉ 108)) → (zGG (m 94 58) (m₉ 94 56) (m 94 57) (m₉ 106)) → (zHA (m 94 10) (m 94 11) (m 94 13) (m 94 14) (m 94 16) (m 94 61) (m 94 59) (m 94 60) (m₉ 99) (m 102) (m 103) (m₉ 111) (m₉ 117) (m 98) (m 101) (m₉ 108)) → (zRG (m 94 10) (m 94 18) (m 94 64) (m 94 63) (m₉ 99) (m 103) (m 102) (m 116)) → ((m 94 58).toInt = 0 ∨ (m 94 10).toInt = 5) → P (some (.inl v)) (zov wr_247 m m₉)) : zm X 5 109 247 0 [(0, .inr (.inr (some 94))), (1, .inl ob), (2, .inl ix), (3, .inl oo)] m P := by
  have K : ∀ v m₉, zF wr_247 m m₉ → zV m₉ → (zW (m₉ 94 7) (m₉ 98) (m₉ 101) (m₉ 102) (m₉ 108)) → (zGW T (m₉ 94 55) (m₉ 109)) → (zGU T (m₉ 94 46) (m₉ 99)) → (zOw (m₉ 99) (m₉ 103) (m₉ 111)) → (zDX (m₉ 94 10) (m₉ 99) (m₉ 112) (m₉ 113) (m₉ 114) (m₉ 94 55) (m₉ 98) (m₉ 101) (m₉ 102) (m₉ 108)) → (zGG (m₉ 94 58) (m₉ 94 56) (m₉ 94 57) (m₉ 106)) → (zHA (m₉ 94 10) (m₉ 94 11) (m₉ 94 13) (m₉ 94 14) (m₉ 94 16) (m₉ 94 61) (m₉ 94 59) (m₉ 94 60) (m₉ 99) (m₉ 102) (m₉ 103) (m₉ 111) (m₉ 117) (m₉ 98) (m₉ 101) (m₉ 108)) → (zRG (m₉ 94 10) (m₉ 94 18) (m₉ 94 64) (m₉ 94 63) (m₉ 99) (m₉ 103) (m₉ 102) (m₉ 116)) → ((m₉ 94 58).toInt = 0 ∨ (m₉ 94 10).toInt = 5) → P (some (.inl v)) m₉ := by
    intro v m₉ hf z q0 q1 q2 q3 q4 q5 q6 q7 q8
    have e := zov_eq hf
    rw [e] at z ⊢
    try rw [e] at q0
    try rw [e] at q1
    try rw [e] at q2
    try rw [e] at q3
    try rw [e] at q4
    try rw [e] at q5
    try rw [e] at q6
    try rw [e] at q7
    try rw [e] at q8
    exact KZ v m₉ z q0 q1 q2 q3 q4 q5 q6 q7 q8
  refine g_247_0 ob ix oo ?_
  have f1 : 0 ≤ (m 94 58).toInt ∧ (m 94 58).toInt ≤ 1 := rs_94_58 (m := m) hV
  have f2 : 0 ≤ (m 94 10).toInt ∧ (m 94 10).toInt ≤ 6 := rs_94_10 (m := m) hV
  have f3 : 0 ≤ (m 94 8).toInt ∧ (m 94 8).toInt ≤ 1 := rs_94_8 (m := m) hV
  have li4 : (0 : Int32).toInt = 0 := rfl
  refine zd (fun (h5 : (m 94 8) = (0 : Int32)) => ?_) (fun (h5 : ¬ (m 94 8) = (0 : Int32)) => ?_)
  · skip
    have g6 := i_eq h5
    skip
    have hV7 : zV (ma_u m 94 0 (1 : Int32)) := uf_94_0 hV
    exact K ((0 : Int32)) _ (zF_u zF_rfl rfl) hV7 r_W r_GW r_GU r_OW r_DX r_GG r_HA r_RGc (show (m 94 58).toInt = 0 ∨ (m 94 10).toInt = 5 from by omega)
  · skip
    have g8 := i_ne h5
    have b9 := i_bd ob
    have hV10 : zV (ma_u m 94 0 (0 : Int32)) := uf_94_0 hV
    refine sp_245 (ob) hV10 r_W r_DX (fun v2 m1 hV_m1 p0_m1 p1_m1 => zmi_n ?_)
    have p0_m1 : -1 ≤ v2.toInt ∧ v2.toInt ≤ 3099 := p0_m1
    have p1_m1 : v2.toInt < 0 ∨ (m 99) v2.toNatClampNeg ≠ 0 := p1_m1
    have b11 := i_bd v2
    refine zd (fun (h12 : v2 < (0 : Int32)) => ?_) (fun (h12 : ¬ v2 < (0 : Int32)) => ?_)
    · skip
      have g13 := i_lt h12
      skip
      have b14 := i_bd ix
      have b15 := i_bd oo
      exact lp_247_53 (ob := ob) (ix := ix) (oo := oo) hV K _ _ (ix) (oo) (v2) ((0 : Int32)) rfl (zF_zov (zF_u zF_rfl rfl) ws_245_247) hV_m1 (by omega) (by omega) (by omega) (by omega) (by omega) r_W r_GW r_GU r_OW r_DX r_GG r_HA r_RGc (show (m 94 58).toInt = 0 ∨ (m 94 10).toInt = 5 from by omega)
    · skip
      have g16 := i_nlt h12
      have b17 := i_bd oo
      have li18 : (-1 : Int32).toInt = -1 := rfl
      refine zd (fun (h19 : oo = (-1 : Int32)) => ?_) (fun (h19 : ¬ oo = (-1 : Int32)) => ?_)
      · skip
        have g20 := i_eq h19
        skip
        have b21 := i_bd ix
        have li22 : (1 : Int32).toInt = 1 := rfl
        exact lp_247_53 (ob := ob) (ix := ix) (oo := oo) hV K _ _ (ix) (oo) (v2) ((1 : Int32)) rfl (zF_zov (zF_u zF_rfl rfl) ws_245_247) hV_m1 (by omega) (by omega) (by omega) (by omega) (by omega) r_W r_GW r_GU r_OW r_DX r_GG r_HA r_RGc (show (m 94 58).toInt = 0 ∨ (m 94 10).toInt = 5 from by omega)
      · skip
        have g23 := i_ne h19
        refine sp_245 (oo) hV_m1 r_W r_DX (fun v4 m3 hV_m3 p0_m3 p1_m3 => zmi_n ?_)
        have p0_m3 : -1 ≤ v4.toInt ∧ v4.toInt ≤ 3099 := p0_m3
        have p1_m3 : v4.toInt < 0 ∨ (m 99) v4.toNatClampNeg ≠ 0 := p1_m3
        have b24 := i_bd v4
        refine zd (fun (h25 : v4 < (0 : Int32)) => ?_) (fun (h25 : ¬ v4 < (0 : Int32)) => ?_)
        · skip
          have g26 := i_lt h25
          skip
          have b27 := i_bd ix
          exact lp_247_53 (ob := ob) (ix := ix) (oo := oo) hV K _ _ (ix) (oo) (v2) ((0 : Int32)) rfl (zF_zov (zF_zov (zF_u zF_rfl rfl) ws_245_247) ws_245_247) hV_m3 (by omega) (by omega) (by omega) (by omega) (by omega) r_W r_GW r_GU r_OW r_DX r_GG r_HA r_RGc (show (m 94 58).toInt = 0 ∨ (m 94 10).toInt = 5 from by omega)
        · skip
          have g28 := i_nlt h25
          skip
          have b29 := i_bd ix
          have li30 : (1 : Int32).toInt = 1 := rfl
          exact lp_247_53 (ob := ob) (ix := ix) (oo := oo) hV K _ _ (ix) (oo) (v2) ((1 : Int32)) rfl (zF_zov (zF_zov (zF_u zF_rfl rfl) ws_245_247) ws_245_247) hV_m3 (by omega) (by omega) (by omega) (by omega) (by omega) r_W r_GW r_GU r_OW r_DX r_GG r_HA r_RGc (show (m 94 58).toInt = 0 ∨ (m 94 10).toInt = 5 from by omega)

/-! from 94.465 -/
/-! the reference (written by wip/tools/gen94m.py) -/
set_option maxRecDepth 100000 in
theorem hm_179 : ma_md 179 = some (12, yX12_form, cX12_form, 1, (some (FieldType.boolean))) := rfl
theorem f_12_154_12 : ma_fld 12 154 12 = some 22 := by decide +kernel
theorem p_12_154_12 : ma_pk 12 154 12 22 = true := by decide +kernel
theorem v_12_150_12 : ma_vl 12 150 12 = some (1, 175, 7) := by decide +kernel
theorem dX12_form_0 : decode cX12_form 0 = .ok (.aload_n 0, 1) := by decide +kernel
theorem dX12_form_1 : decode cX12_form 1 = .ok (.invokevirtual 140, 3) := by decide +kernel
theorem dX12_form_16 : decode cX12_form 16 = .ok (.aload_n 0, 1) := by decide +kernel
theorem dX12_form_17 : decode cX12_form 17 = .ok (.aload_n 0, 1) := by decide +kernel
theorem dX12_form_18 : decode cX12_form 18 = .ok (.bipush 102, 2) := by decide +kernel
theorem dX12_form_20 : decode cX12_form 20 = .ok (.bipush 105, 2) := by decide +kernel
theorem dX12_form_22 : decode cX12_form 22 = .ok (.bipush 114, 2) := by decide +kernel
theorem dX12_form_24 : decode cX12_form 24 = .ok (.bipush 115, 2) := by decide +kernel
theorem dX12_form_26 : decode cX12_form 26 = .ok (.bipush 116, 2) := by decide +kernel
theorem dX12_form_28 : decode cX12_form 28 = .ok (.iconst 0, 1) := by decide +kernel
theorem dX12_form_29 : decode cX12_form 29 = .ok (.iconst 0, 1) := by decide +kernel
theorem dX12_form_30 : decode cX12_form 30 = .ok (.invokevirtual 150, 3) := by decide +kernel
theorem dX12_form_40 : decode cX12_form 40 = .ok (.aload_n 0, 1) := by decide +kernel
theorem dX12_form_41 : decode cX12_form 41 = .ok (.bipush 110, 2) := by decide +kernel
theorem dX12_form_43 : decode cX12_form 43 = .ok (.bipush 101, 2) := by decide +kernel
theorem dX12_form_45 : decode cX12_form 45 = .ok (.bipush 120, 2) := by decide +kernel
theorem dX12_form_47 : decode cX12_form 47 = .ok (.bipush 116, 2) := by decide +kernel
theorem dX12_form_49 : decode cX12_form 49 = .ok (.iconst 0, 1) := by decide +kernel
theorem dX12_form_50 : decode cX12_form 50 = .ok (.iconst 0, 1) := by decide +kernel
theorem dX12_form_51 : decode cX12_form 51 = .ok (.iconst 0, 1) := by decide +kernel
theorem dX12_form_52 : decode cX12_form 52 = .ok (.invokevirtual 150, 3) := by decide +kernel
theorem dX12_form_62 : decode cX12_form 62 = .ok (.aload_n 0, 1) := by decide +kernel
theorem dX12_form_63 : decode cX12_form 63 = .ok (.bipush 98, 2) := by decide +kernel
theorem dX12_form_65 : decode cX12_form 65 = .ok (.bipush 101, 2) := by decide +kernel
theorem dX12_form_67 : decode cX12_form 67 = .ok (.bipush 115, 2) := by decide +kernel
theorem dX12_form_69 : decode cX12_form 69 = .ok (.bipush 116, 2) := by decide +kernel
theorem dX12_form_71 : decode cX12_form 71 = .ok (.iconst 0, 1) := by decide +kernel
theorem dX12_form_72 : decode cX12_form 72 = .ok (.iconst 0, 1) := by decide +kernel
theorem dX12_form_73 : decode cX12_form 73 = .ok (.iconst 0, 1) := by decide +kernel
theorem dX12_form_74 : decode cX12_form 74 = .ok (.invokevirtual 150, 3) := by decide +kernel
theorem dX12_form_84 : decode cX12_form 84 = .ok (.aload_n 0, 1) := by decide +kernel
theorem dX12_form_85 : decode cX12_form 85 = .ok (.bipush 119, 2) := by decide +kernel
theorem dX12_form_87 : decode cX12_form 87 = .ok (.bipush 111, 2) := by decide +kernel
theorem dX12_form_89 : decode cX12_form 89 = .ok (.bipush 114, 2) := by decide +kernel
theorem dX12_form_91 : decode cX12_form 91 = .ok (.bipush 115, 2) := by decide +kernel
theorem dX12_form_93 : decode cX12_form 93 = .ok (.bipush 116, 2) := by decide +kernel
theorem dX12_form_95 : decode cX12_form 95 = .ok (.iconst 0, 1) := by decide +kernel
theorem dX12_form_96 : decode cX12_form 96 = .ok (.iconst 0, 1) := by decide +kernel
theorem dX12_form_97 : decode cX12_form 97 = .ok (.invokevirtual 150, 3) := by decide +kernel
theorem dX12_form_107 : decode cX12_form 107 = .ok (.iconst (-1), 1) := by decide +kernel
theorem dX12_form_111 : decode cX12_form 111 = .ok (.aload_n 0, 1) := by decide +kernel
theorem dX12_form_115 : decode cX12_form 115 = .ok (.ifCond .ge 14, 3) := by decide +kernel
theorem dX12_form_118 : decode cX12_form 118 = .ok (.aload_n 0, 1) := by decide +kernel
theorem dX12_form_119 : decode cX12_form 119 = .ok (.aload_n 0, 1) := by decide +kernel
theorem dX12_form_123 : decode cX12_form 123 = .ok (.invokevirtual 144, 3) := by decide +kernel
theorem dX12_form_126 : decode cX12_form 126 = .ok (.ifCond .eq 7, 3) := by decide +kernel
theorem dX12_form_133 : decode cX12_form 133 = .ok (.iconst 0, 1) := by decide +kernel
theorem dX12_form_134 : decode cX12_form 134 = .ok (.ireturn, 1) := by decide +kernel
theorem dX12_form_120 : decode cX12_form 120 = .ok (.getfield 127, 3) := by decide +kernel
theorem dX12_form_112 : decode cX12_form 112 = .ok (.getfield 154, 3) := by decide +kernel
theorem dX12_form_108 : decode cX12_form 108 = .ok (.putfield 154, 3) := by decide +kernel
theorem dX12_form_103 : decode cX12_form 103 = .ok (.iconst 3, 1) := by decide +kernel
theorem dX12_form_104 : decode cX12_form 104 = .ok (.goto 4, 3) := by decide +kernel
theorem dX12_form_129 : decode cX12_form 129 = .ok (.iconst 1, 1) := by decide +kernel
theorem dX12_form_130 : decode cX12_form 130 = .ok (.goto 4, 3) := by decide +kernel
theorem dX12_form_100 : decode cX12_form 100 = .ok (.ifCond .eq 7, 3) := by decide +kernel
theorem dX12_form_80 : decode cX12_form 80 = .ok (.iconst 2, 1) := by decide +kernel
theorem dX12_form_81 : decode cX12_form 81 = .ok (.goto 27, 3) := by decide +kernel
theorem dX12_form_77 : decode cX12_form 77 = .ok (.ifCond .eq 7, 3) := by decide +kernel
theorem dX12_form_58 : decode cX12_form 58 = .ok (.iconst 1, 1) := by decide +kernel
theorem dX12_form_59 : decode cX12_form 59 = .ok (.goto 49, 3) := by decide +kernel
theorem dX12_form_55 : decode cX12_form 55 = .ok (.ifCond .eq 7, 3) := by decide +kernel
theorem dX12_form_36 : decode cX12_form 36 = .ok (.iconst 0, 1) := by decide +kernel
theorem dX12_form_37 : decode cX12_form 37 = .ok (.goto 71, 3) := by decide +kernel
theorem dX12_form_33 : decode cX12_form 33 = .ok (.ifCond .eq 7, 3) := by decide +kernel
theorem dX12_form_7 : decode cX12_form 7 = .ok (.aload_n 0, 1) := by decide +kernel
theorem dX12_form_8 : decode cX12_form 8 = .ok (.aload_n 0, 1) := by decide +kernel
theorem dX12_form_12 : decode cX12_form 12 = .ok (.invokevirtual 144, 3) := by decide +kernel
theorem dX12_form_15 : decode cX12_form 15 = .ok (.ireturn, 1) := by decide +kernel
theorem dX12_form_9 : decode cX12_form 9 = .ok (.getfield 124, 3) := by decide +kernel
theorem dX12_form_4 : decode cX12_form 4 = .ok (.ifCond .ne 12, 3) := by decide +kernel
def wr_179 (c k : Nat) : Bool := (Nat.beq c 94 && (Nat.beq k 22 || Nat.beq k 67 || Nat.beq k 68 || Nat.beq k 69 || Nat.beq k 70))
theorem ws_173_179 : ∀ c k, wr_173 c k = true → wr_179 c k = true := by
  intro c k h
  simp only [wr_173, Bool.or_eq_true, Bool.and_eq_true, Nat.beq_eq] at h
  rcases h with ⟨rfl, ((rfl | rfl) | rfl)⟩ <;> rfl
theorem ws_175_179 : ∀ c k, wr_175 c k = true → wr_179 c k = true := fun _ _ h => by cases h
theorem g_179_0 {X : Nat × (Nat → Int32)} {m : Nat → Nat → Int32} {P : Option ma_V → (Nat → Nat → Int32) → Prop}  (h : zm X 0 0 173 0 [(0, .inr (.inr (some 94)))] m (zmi (fun v2 m1 => if v2 = 0 then (P (some (.inl (0 : Int32))) (ma_u m1 94 70 (m1 94 4))) else (zm X 1 22 175 0 [(0, .inr (.inr (some 94))), (1, .inl (102 : Int32)), (2, .inl (105 : Int32)), (3, .inl (114 : Int32)), (4, .inl (115 : Int32)), (5, .inl (116 : Int32)), (6, .inl (0 : Int32)), (7, .inl (0 : Int32))] m1 (zmi (fun v4 m3 => if v4 = 0 then (zm X 1 22 175 0 [(0, .inr (.inr (some 94))), (1, .inl (110 : Int32)), (2, .inl (101 : Int32)), (3, .inl (120 : Int32)), (4, .inl (116 : Int32)), (5, .inl (0 : Int32)), (6, .inl (0 : Int32)), (7, .inl (0 : Int32))] m3 (zmi (fun v6 m5 => if v6 = 0 then (zm X 1 22 175 0 [(0, .inr (.inr (some 94))), (1, .inl (98 : Int32)), (2, .inl (101 : Int32)), (3, .inl (115 : Int32)), (4, .inl (116 : Int32)), (5, .inl (0 : Int32)), (6, .inl (0 : Int32)), (7, .inl (0 : Int32))] m5 (zmi (fun v8 m7 => if v8 = 0 then (zm X 1 22 175 0 [(0, .inr (.inr (some 94))), (1, .inl (119 : Int32)), (2, .inl (111 : Int32)), (3, .inl (114 : Int32)), (4, .inl (115 : Int32)), (5, .inl (116 : Int32)), (6, .inl (0 : Int32)), (7, .inl (0 : Int32))] m7 (zmi (fun v10 m9 => if v10 = 0 then (P (some (.inl (0 : Int32))) (ma_u (ma_u m9 94 22 (-1 : Int32)) 94 70 (m9 94 68))) else (P (some (.inl (1 : Int32))) (ma_u m9 94 22 (3 : Int32)))))) else (P (some (.inl (1 : Int32))) (ma_u m7 94 22 (2 : Int32)))))) else (P (some (.inl (1 : Int32))) (ma_u m5 94 22 (1 : Int32)))))) else (P (some (.inl (1 : Int32))) (ma_u m3 94 22 (0 : Int32))))))))) : zm X 2 50 179 0 [(0, .inr (.inr (some 94)))] m P := by
  intro d w S Q hd hw hS hm HQ
  subst hm
  refine zw_push hm_179 dX12_form_0 (v := .inr (.inr (some 94))) rfl ?_
  refine zw_cv hm_179 dX12_form_1 v_12_140_12 hm_173 [] [] rfl (zT_rt hS s_94 rfl) ⟨by omega, by omega⟩ rfl (h _ _ S _ (by omega) (by omega) hS rfl (fun o9 m1 hv => ?_))
  obtain ⟨v2, rfl, h⟩ := zmi_of hv
  show ma_wp X d w 179 4 [(0, .inr (.inr (some 94)))] [.inl v2] (zst S m1) _
  refine zw_if0 hm_179 dX12_form_4 (t := 16) rfl zc0_ne ?_ ?_
  · intro hc
    rw [if_neg hc] at h
    refine zw_push hm_179 dX12_form_16 (v := .inr (.inr (some 94))) rfl ?_
    refine zw_push hm_179 dX12_form_17 (v := .inr (.inr (some 94))) rfl ?_
    refine zw_push hm_179 dX12_form_18 (v := .inl (102 : Int32)) rfl ?_
    refine zw_push hm_179 dX12_form_20 (v := .inl (105 : Int32)) rfl ?_
    refine zw_push hm_179 dX12_form_22 (v := .inl (114 : Int32)) rfl ?_
    refine zw_push hm_179 dX12_form_24 (v := .inl (115 : Int32)) rfl ?_
    refine zw_push hm_179 dX12_form_26 (v := .inl (116 : Int32)) rfl ?_
    refine zw_push hm_179 dX12_form_28 (v := .inl (0 : Int32)) rfl ?_
    refine zw_push hm_179 dX12_form_29 (v := .inl (0 : Int32)) rfl ?_
    refine zw_cv hm_179 dX12_form_30 v_12_150_12 hm_175 [.inl (0 : Int32), .inl (0 : Int32), .inl (116 : Int32), .inl (115 : Int32), .inl (114 : Int32), .inl (105 : Int32), .inl (102 : Int32)] [.inr (.inr (some 94))] rfl (zT_rt (zT_zst hS m1) s_94 rfl) ⟨by omega, by omega⟩ rfl (h _ _ (zst S m1) _ (by omega) (by omega) (zT_zst hS m1) rfl (fun o9 m3 hv => ?_))
    obtain ⟨v4, rfl, h⟩ := zmi_of hv
    show ma_wp X d w 179 33 [(0, .inr (.inr (some 94)))] [.inl v4, .inr (.inr (some 94))] (zst S m3) _
    refine zw_if0 hm_179 dX12_form_33 (t := 40) rfl zc0_eq ?_ ?_
    · intro hc
      rw [if_pos hc] at h
      refine zw_push hm_179 dX12_form_40 (v := .inr (.inr (some 94))) rfl ?_
      refine zw_push hm_179 dX12_form_41 (v := .inl (110 : Int32)) rfl ?_
      refine zw_push hm_179 dX12_form_43 (v := .inl (101 : Int32)) rfl ?_
      refine zw_push hm_179 dX12_form_45 (v := .inl (120 : Int32)) rfl ?_
      refine zw_push hm_179 dX12_form_47 (v := .inl (116 : Int32)) rfl ?_
      refine zw_push hm_179 dX12_form_49 (v := .inl (0 : Int32)) rfl ?_
      refine zw_push hm_179 dX12_form_50 (v := .inl (0 : Int32)) rfl ?_
      refine zw_push hm_179 dX12_form_51 (v := .inl (0 : Int32)) rfl ?_
      refine zw_cv hm_179 dX12_form_52 v_12_150_12 hm_175 [.inl (0 : Int32), .inl (0 : Int32), .inl (0 : Int32), .inl (116 : Int32), .inl (120 : Int32), .inl (101 : Int32), .inl (110 : Int32)] [.inr (.inr (some 94))] rfl (zT_rt (zT_zst hS m3) s_94 rfl) ⟨by omega, by omega⟩ rfl (h _ _ (zst S m3) _ (by omega) (by omega) (zT_zst hS m3) rfl (fun o9 m5 hv => ?_))
      obtain ⟨v6, rfl, h⟩ := zmi_of hv
      show ma_wp X d w 179 55 [(0, .inr (.inr (some 94)))] [.inl v6, .inr (.inr (some 94))] (zst S m5) _
      refine zw_if0 hm_179 dX12_form_55 (t := 62) rfl zc0_eq ?_ ?_
      · intro hc
        rw [if_pos hc] at h
        refine zw_push hm_179 dX12_form_62 (v := .inr (.inr (some 94))) rfl ?_
        refine zw_push hm_179 dX12_form_63 (v := .inl (98 : Int32)) rfl ?_
        refine zw_push hm_179 dX12_form_65 (v := .inl (101 : Int32)) rfl ?_
        refine zw_push hm_179 dX12_form_67 (v := .inl (115 : Int32)) rfl ?_
        refine zw_push hm_179 dX12_form_69 (v := .inl (116 : Int32)) rfl ?_
        refine zw_push hm_179 dX12_form_71 (v := .inl (0 : Int32)) rfl ?_
        refine zw_push hm_179 dX12_form_72 (v := .inl (0 : Int32)) rfl ?_
        refine zw_push hm_179 dX12_form_73 (v := .inl (0 : Int32)) rfl ?_
        refine zw_cv hm_179 dX12_form_74 v_12_150_12 hm_175 [.inl (0 : Int32), .inl (0 : Int32), .inl (0 : Int32), .inl (116 : Int32), .inl (115 : Int32), .inl (101 : Int32), .inl (98 : Int32)] [.inr (.inr (some 94))] rfl (zT_rt (zT_zst hS m5) s_94 rfl) ⟨by omega, by omega⟩ rfl (h _ _ (zst S m5) _ (by omega) (by omega) (zT_zst hS m5) rfl (fun o9 m7 hv => ?_))
        obtain ⟨v8, rfl, h⟩ := zmi_of hv
        show ma_wp X d w 179 77 [(0, .inr (.inr (some 94)))] [.inl v8, .inr (.inr (some 94))] (zst S m7) _
        refine zw_if0 hm_179 dX12_form_77 (t := 84) rfl zc0_eq ?_ ?_
        · intro hc
          rw [if_pos hc] at h
          refine zw_push hm_179 dX12_form_84 (v := .inr (.inr (some 94))) rfl ?_
          refine zw_push hm_179 dX12_form_85 (v := .inl (119 : Int32)) rfl ?_
          refine zw_push hm_179 dX12_form_87 (v := .inl (111 : Int32)) rfl ?_
          refine zw_push hm_179 dX12_form_89 (v := .inl (114 : Int32)) rfl ?_
          refine zw_push hm_179 dX12_form_91 (v := .inl (115 : Int32)) rfl ?_
          refine zw_push hm_179 dX12_form_93 (v := .inl (116 : Int32)) rfl ?_
          refine zw_push hm_179 dX12_form_95 (v := .inl (0 : Int32)) rfl ?_
          refine zw_push hm_179 dX12_form_96 (v := .inl (0 : Int32)) rfl ?_
          refine zw_cv hm_179 dX12_form_97 v_12_150_12 hm_175 [.inl (0 : Int32), .inl (0 : Int32), .inl (116 : Int32), .inl (115 : Int32), .inl (114 : Int32), .inl (111 : Int32), .inl (119 : Int32)] [.inr (.inr (some 94))] rfl (zT_rt (zT_zst hS m7) s_94 rfl) ⟨by omega, by omega⟩ rfl (h _ _ (zst S m7) _ (by omega) (by omega) (zT_zst hS m7) rfl (fun o9 m9 hv => ?_))
          obtain ⟨v10, rfl, h⟩ := zmi_of hv
          show ma_wp X d w 179 100 [(0, .inr (.inr (some 94)))] [.inl v10, .inr (.inr (some 94))] (zst S m9) _
          refine zw_if0 hm_179 dX12_form_100 (t := 107) rfl zc0_eq ?_ ?_
          · intro hc
            rw [if_pos hc] at h
            refine zw_push hm_179 dX12_form_107 (v := .inl (-1 : Int32)) rfl ?_
            refine zw_pf hm_179 dX12_form_108 (zT_is (zT_zst hS m9) s_94) (zT_t (zT_zst hS m9) s_94) p_12_154_12 zk_int ?_
            refine zw_push hm_179 dX12_form_111 (v := .inr (.inr (some 94))) rfl ?_
            refine zw_gf hm_179 dX12_form_112 (v := .inl (-1 : Int32)) (zT_is (zT_pi (zT_zst hS m9)) s_94) (zT_t (zT_pi (zT_zst hS m9)) s_94) rfl f_12_154_12 rfl ?_
            refine zw_if0 hm_179 dX12_form_115 (t := 129) rfl zc0_ge (fun hc => absurd hc (by decide)) (fun _ => ?_)
            refine zw_push hm_179 dX12_form_118 (v := .inr (.inr (some 94))) rfl ?_
            refine zw_push hm_179 dX12_form_119 (v := .inr (.inr (some 94))) rfl ?_
            refine zw_gf hm_179 dX12_form_120 (v := .inl (m9 94 68)) (zT_is (zT_pi (zT_zst hS m9)) s_94) (zT_t (zT_pi (zT_zst hS m9)) s_94) rfl f_12_127_12 rfl ?_
            refine zw_cv hm_179 dX12_form_123 v_12_144_12 hm_174 [.inl (m9 94 68)] [] rfl (zT_rt (zT_pi (zT_zst hS m9)) s_94 rfl) ⟨by omega, by omega⟩ rfl ?_
            show ma_wp X (d - 1) (w - 21) 174 0 [(0, .inr (.inr (some 94))), (1, .inl (m9 94 68))] [] (ma_put (zst S m9) 94 22 (.inl (-1 : Int32))) _
            refine zw_push hm_174 dX12_wrong_0 (v := .inr (.inr (some 94))) rfl ?_
            refine zw_push hm_174 dX12_wrong_1 (v := .inl (m9 94 68)) rfl ?_
            refine zw_pf hm_174 dX12_wrong_2 (zT_is (zT_pi (zT_zst hS m9)) s_94) (zT_t (zT_pi (zT_zst hS m9)) s_94) p_12_133_12 zk_int ?_
            refine zw_push hm_174 dX12_wrong_5 (v := .inl (0 : Int32)) rfl ?_
            refine zw_bret hm_174 dX12_wrong_6 (by decide) ?_
            show ma_wp X d w 179 126 [(0, .inr (.inr (some 94)))] [.inl (0 : Int32)] (ma_put (ma_put (zst S m9) 94 22 (.inl (-1 : Int32))) 94 70 (.inl (m9 94 68))) _
            refine zw_if0 hm_179 dX12_form_126 (t := 133) rfl zc0_eq (fun _ => ?_) (fun hc => absurd (by decide) hc)
            refine zw_push hm_179 dX12_form_133 (v := .inl (0 : Int32)) rfl ?_
            exact zw_bret hm_179 dX12_form_134 (by decide) (HQ _ _ h)
          · intro hc
            rw [if_neg hc] at h
            refine zw_push hm_179 dX12_form_103 (v := .inl (3 : Int32)) rfl ?_
            refine zw_goto hm_179 dX12_form_104 (t := 108) rfl ?_
            refine zw_pf hm_179 dX12_form_108 (zT_is (zT_zst hS m9) s_94) (zT_t (zT_zst hS m9) s_94) p_12_154_12 zk_int ?_
            refine zw_push hm_179 dX12_form_111 (v := .inr (.inr (some 94))) rfl ?_
            refine zw_gf hm_179 dX12_form_112 (v := .inl (3 : Int32)) (zT_is (zT_pi (zT_zst hS m9)) s_94) (zT_t (zT_pi (zT_zst hS m9)) s_94) rfl f_12_154_12 rfl ?_
            refine zw_if0 hm_179 dX12_form_115 (t := 129) rfl zc0_ge (fun _ => ?_) (fun hc => absurd (by decide) hc)
            refine zw_push hm_179 dX12_form_129 (v := .inl (1 : Int32)) rfl ?_
            refine zw_goto hm_179 dX12_form_130 (t := 134) rfl ?_
            exact zw_bret hm_179 dX12_form_134 (by decide) (HQ _ _ h)
        · intro hc
          rw [if_neg hc] at h
          refine zw_push hm_179 dX12_form_80 (v := .inl (2 : Int32)) rfl ?_
          refine zw_goto hm_179 dX12_form_81 (t := 108) rfl ?_
          refine zw_pf hm_179 dX12_form_108 (zT_is (zT_zst hS m7) s_94) (zT_t (zT_zst hS m7) s_94) p_12_154_12 zk_int ?_
          refine zw_push hm_179 dX12_form_111 (v := .inr (.inr (some 94))) rfl ?_
          refine zw_gf hm_179 dX12_form_112 (v := .inl (2 : Int32)) (zT_is (zT_pi (zT_zst hS m7)) s_94) (zT_t (zT_pi (zT_zst hS m7)) s_94) rfl f_12_154_12 rfl ?_
          refine zw_if0 hm_179 dX12_form_115 (t := 129) rfl zc0_ge (fun _ => ?_) (fun hc => absurd (by decide) hc)
          refine zw_push hm_179 dX12_form_129 (v := .inl (1 : Int32)) rfl ?_
          refine zw_goto hm_179 dX12_form_130 (t := 134) rfl ?_
          exact zw_bret hm_179 dX12_form_134 (by decide) (HQ _ _ h)
      · intro hc
        rw [if_neg hc] at h
        refine zw_push hm_179 dX12_form_58 (v := .inl (1 : Int32)) rfl ?_
        refine zw_goto hm_179 dX12_form_59 (t := 108) rfl ?_
        refine zw_pf hm_179 dX12_form_108 (zT_is (zT_zst hS m5) s_94) (zT_t (zT_zst hS m5) s_94) p_12_154_12 zk_int ?_
        refine zw_push hm_179 dX12_form_111 (v := .inr (.inr (some 94))) rfl ?_
        refine zw_gf hm_179 dX12_form_112 (v := .inl (1 : Int32)) (zT_is (zT_pi (zT_zst hS m5)) s_94) (zT_t (zT_pi (zT_zst hS m5)) s_94) rfl f_12_154_12 rfl ?_
        refine zw_if0 hm_179 dX12_form_115 (t := 129) rfl zc0_ge (fun _ => ?_) (fun hc => absurd (by decide) hc)
        refine zw_push hm_179 dX12_form_129 (v := .inl (1 : Int32)) rfl ?_
        refine zw_goto hm_179 dX12_form_130 (t := 134) rfl ?_
        exact zw_bret hm_179 dX12_form_134 (by decide) (HQ _ _ h)
    · intro hc
      rw [if_neg hc] at h
      refine zw_push hm_179 dX12_form_36 (v := .inl (0 : Int32)) rfl ?_
      refine zw_goto hm_179 dX12_form_37 (t := 108) rfl ?_
      refine zw_pf hm_179 dX12_form_108 (zT_is (zT_zst hS m3) s_94) (zT_t (zT_zst hS m3) s_94) p_12_154_12 zk_int ?_
      refine zw_push hm_179 dX12_form_111 (v := .inr (.inr (some 94))) rfl ?_
      refine zw_gf hm_179 dX12_form_112 (v := .inl (0 : Int32)) (zT_is (zT_pi (zT_zst hS m3)) s_94) (zT_t (zT_pi (zT_zst hS m3)) s_94) rfl f_12_154_12 rfl ?_
      refine zw_if0 hm_179 dX12_form_115 (t := 129) rfl zc0_ge (fun _ => ?_) (fun hc => absurd (by decide) hc)
      refine zw_push hm_179 dX12_form_129 (v := .inl (1 : Int32)) rfl ?_
      refine zw_goto hm_179 dX12_form_130 (t := 134) rfl ?_
      exact zw_bret hm_179 dX12_form_134 (by decide) (HQ _ _ h)
  · intro hc
    rw [if_pos (Classical.not_not.mp hc)] at h
    refine zw_push hm_179 dX12_form_7 (v := .inr (.inr (some 94))) rfl ?_
    refine zw_push hm_179 dX12_form_8 (v := .inr (.inr (some 94))) rfl ?_
    refine zw_gf hm_179 dX12_form_9 (v := .inl (m1 94 4)) (zT_is (zT_zst hS m1) s_94) (zT_t (zT_zst hS m1) s_94) rfl f_12_124_12 rfl ?_
    refine zw_cv hm_179 dX12_form_12 v_12_144_12 hm_174 [.inl (m1 94 4)] [] rfl (zT_rt (zT_zst hS m1) s_94 rfl) ⟨by omega, by omega⟩ rfl ?_
    show ma_wp X (d - 1) (w - 21) 174 0 [(0, .inr (.inr (some 94))), (1, .inl (m1 94 4))] [] (zst S m1) _
    refine zw_push hm_174 dX12_wrong_0 (v := .inr (.inr (some 94))) rfl ?_
    refine zw_push hm_174 dX12_wrong_1 (v := .inl (m1 94 4)) rfl ?_
    refine zw_pf hm_174 dX12_wrong_2 (zT_is (zT_zst hS m1) s_94) (zT_t (zT_zst hS m1) s_94) p_12_133_12 zk_int ?_
    refine zw_push hm_174 dX12_wrong_5 (v := .inl (0 : Int32)) rfl ?_
    refine zw_bret hm_174 dX12_wrong_6 (by decide) ?_
    show ma_wp X d w 179 15 [(0, .inr (.inr (some 94)))] [.inl (0 : Int32)] (ma_put (zst S m1) 94 70 (.inl (m1 94 4))) _
    exact zw_bret hm_179 dX12_form_15 (by decide) (HQ _ _ h)
/-! from 94.466 -/
/-! the reference (written by wip/tools/gen94m.py) -/
set_option maxRecDepth 100000 in
theorem hm_178 : ma_md 178 = some (12, yX12_roomHere, cX12_roomHere, 1, (some (FieldType.boolean))) := rfl
theorem f_12_147_12 : ma_fld 12 147 12 = some 71 := by decide +kernel
theorem p_12_159_12 : ma_pk 12 159 12 21 = true := by decide +kernel
theorem v_12_157_12 : ma_vl 12 157 12 = some (1, 177, 2) := by decide +kernel
theorem dX12_roomHere_0 : decode cX12_roomHere 0 = .ok (.aload_n 0, 1) := by decide +kernel
theorem dX12_roomHere_1 : decode cX12_roomHere 1 = .ok (.bipush 16, 2) := by decide +kernel
theorem dX12_roomHere_3 : decode cX12_roomHere 3 = .ok (.sipush 1500, 3) := by decide +kernel
theorem dX12_roomHere_6 : decode cX12_roomHere 6 = .ok (.invokevirtual 157, 3) := by decide +kernel
theorem dX12_roomHere_14 : decode cX12_roomHere 14 = .ok (.aload_n 0, 1) := by decide +kernel
theorem dX12_roomHere_15 : decode cX12_roomHere 15 = .ok (.aload_n 0, 1) := by decide +kernel
theorem dX12_roomHere_22 : decode cX12_roomHere 22 = .ok (.iconst 1, 1) := by decide +kernel
theorem dX12_roomHere_23 : decode cX12_roomHere 23 = .ok (.ireturn, 1) := by decide +kernel
theorem dX12_roomHere_19 : decode cX12_roomHere 19 = .ok (.putfield 159, 3) := by decide +kernel
theorem dX12_roomHere_16 : decode cX12_roomHere 16 = .ok (.getfield 147, 3) := by decide +kernel
theorem dX12_roomHere_12 : decode cX12_roomHere 12 = .ok (.iconst 0, 1) := by decide +kernel
theorem dX12_roomHere_13 : decode cX12_roomHere 13 = .ok (.ireturn, 1) := by decide +kernel
theorem dX12_roomHere_9 : decode cX12_roomHere 9 = .ok (.ifCond .ne 5, 3) := by decide +kernel
def wr_178 (c k : Nat) : Bool := (Nat.beq c 94 && (Nat.beq k 21 || Nat.beq k 67 || Nat.beq k 68 || Nat.beq k 69 || Nat.beq k 70 || Nat.beq k 71))
theorem ws_177_178 : ∀ c k, wr_177 c k = true → wr_178 c k = true := by
  intro c k h
  simp only [wr_177, Bool.or_eq_true, Bool.and_eq_true, Nat.beq_eq] at h
  rcases h with ⟨rfl, ((((rfl | rfl) | rfl) | rfl) | rfl)⟩ <;> rfl
theorem g_178_0 {X : Nat × (Nat → Int32)} {m : Nat → Nat → Int32} {P : Option ma_V → (Nat → Nat → Int32) → Prop}  (h : zm X 1 21 177 0 [(0, .inr (.inr (some 94))), (1, .inl (16 : Int32)), (2, .inl (1500 : Int32))] m (zmi (fun v2 m1 => if v2 = 0 then (P (some (.inl (0 : Int32))) m1) else (P (some (.inl (1 : Int32))) (ma_u m1 94 21 (m1 94 71)))))) : zm X 2 47 178 0 [(0, .inr (.inr (some 94)))] m P := by
  intro d w S Q hd hw hS hm HQ
  subst hm
  refine zw_push hm_178 dX12_roomHere_0 (v := .inr (.inr (some 94))) rfl ?_
  refine zw_push hm_178 dX12_roomHere_1 (v := .inl (16 : Int32)) rfl ?_
  refine zw_push hm_178 dX12_roomHere_3 (v := .inl (1500 : Int32)) rfl ?_
  refine zw_cv hm_178 dX12_roomHere_6 v_12_157_12 hm_177 [.inl (1500 : Int32), .inl (16 : Int32)] [] rfl (zT_rt hS s_94 rfl) ⟨by omega, by omega⟩ rfl (h _ _ S _ (by omega) (by omega) hS rfl (fun o9 m1 hv => ?_))
  obtain ⟨v2, rfl, h⟩ := zmi_of hv
  show ma_wp X d w 178 9 [(0, .inr (.inr (some 94)))] [.inl v2] (zst S m1) _
  refine zw_if0 hm_178 dX12_roomHere_9 (t := 14) rfl zc0_ne ?_ ?_
  · intro hc
    rw [if_neg hc] at h
    refine zw_push hm_178 dX12_roomHere_14 (v := .inr (.inr (some 94))) rfl ?_
    refine zw_push hm_178 dX12_roomHere_15 (v := .inr (.inr (some 94))) rfl ?_
    refine zw_gf hm_178 dX12_roomHere_16 (v := .inl (m1 94 71)) (zT_is (zT_zst hS m1) s_94) (zT_t (zT_zst hS m1) s_94) rfl f_12_147_12 rfl ?_
    refine zw_pf hm_178 dX12_roomHere_19 (zT_is (zT_zst hS m1) s_94) (zT_t (zT_zst hS m1) s_94) p_12_159_12 zk_int ?_
    refine zw_push hm_178 dX12_roomHere_22 (v := .inl (1 : Int32)) rfl ?_
    exact zw_bret hm_178 dX12_roomHere_23 (by decide) (HQ _ _ h)
  · intro hc
    rw [if_pos (Classical.not_not.mp hc)] at h
    refine zw_push hm_178 dX12_roomHere_12 (v := .inl (0 : Int32)) rfl ?_
    exact zw_bret hm_178 dX12_roomHere_13 (by decide) (HQ _ _ h)
/-! from 94.467 -/
/-! the reference (written by wip/tools/gen94m.py) -/
set_option maxRecDepth 100000 in
theorem hm_172 : ma_md 172 = some (12, yX12_readPolicy, cX12_readPolicy, 1, (some (FieldType.boolean))) := rfl
theorem f_12_159_12 : ma_fld 12 159 12 = some 21 := by decide +kernel
theorem f_12_162_12 : ma_fld 12 162 12 = some 20 := by decide +kernel
theorem f_12_186_12 : ma_fld 12 186 12 = some 30 := by decide +kernel
theorem f_12_190_12 : ma_fld 12 190 12 = some 28 := by decide +kernel
theorem p_12_162_12 : ma_pk 12 162 12 20 = true := by decide +kernel
theorem p_12_165_12 : ma_pk 12 165 12 23 = true := by decide +kernel
theorem p_12_168_12 : ma_pk 12 168 12 24 = true := by decide +kernel
theorem p_12_171_12 : ma_pk 12 171 12 25 = true := by decide +kernel
theorem p_12_174_12 : ma_pk 12 174 12 26 = true := by decide +kernel
theorem p_12_183_12 : ma_pk 12 183 12 27 = true := by decide +kernel
theorem p_12_186_12 : ma_pk 12 186 12 30 = true := by decide +kernel
theorem p_12_190_12 : ma_pk 12 190 12 28 = true := by decide +kernel
theorem p_12_193_12 : ma_pk 12 193 12 29 = true := by decide +kernel
theorem v_12_177_12 : ma_vl 12 177 12 = some (1, 178, 0) := by decide +kernel
theorem v_12_180_12 : ma_vl 12 180 12 = some (1, 179, 0) := by decide +kernel
theorem dX12_readPolicy_0 : decode cX12_readPolicy 0 = .ok (.aload_n 0, 1) := by decide +kernel
theorem dX12_readPolicy_1 : decode cX12_readPolicy 1 = .ok (.iconst 0, 1) := by decide +kernel
theorem dX12_readPolicy_5 : decode cX12_readPolicy 5 = .ok (.aload_n 0, 1) := by decide +kernel
theorem dX12_readPolicy_6 : decode cX12_readPolicy 6 = .ok (.invokevirtual 140, 3) := by decide +kernel
theorem dX12_readPolicy_21 : decode cX12_readPolicy 21 = .ok (.aload_n 0, 1) := by decide +kernel
theorem dX12_readPolicy_22 : decode cX12_readPolicy 22 = .ok (.aload_n 0, 1) := by decide +kernel
theorem dX12_readPolicy_23 : decode cX12_readPolicy 23 = .ok (.bipush 115, 2) := by decide +kernel
theorem dX12_readPolicy_25 : decode cX12_readPolicy 25 = .ok (.bipush 119, 2) := by decide +kernel
theorem dX12_readPolicy_27 : decode cX12_readPolicy 27 = .ok (.bipush 101, 2) := by decide +kernel
theorem dX12_readPolicy_29 : decode cX12_readPolicy 29 = .ok (.bipush 101, 2) := by decide +kernel
theorem dX12_readPolicy_31 : decode cX12_readPolicy 31 = .ok (.bipush 112, 2) := by decide +kernel
theorem dX12_readPolicy_33 : decode cX12_readPolicy 33 = .ok (.iconst 0, 1) := by decide +kernel
theorem dX12_readPolicy_34 : decode cX12_readPolicy 34 = .ok (.iconst 0, 1) := by decide +kernel
theorem dX12_readPolicy_35 : decode cX12_readPolicy 35 = .ok (.invokevirtual 150, 3) := by decide +kernel
theorem dX12_readPolicy_45 : decode cX12_readPolicy 45 = .ok (.aload_n 0, 1) := by decide +kernel
theorem dX12_readPolicy_46 : decode cX12_readPolicy 46 = .ok (.bipush 115, 2) := by decide +kernel
theorem dX12_readPolicy_48 : decode cX12_readPolicy 48 = .ok (.bipush 108, 2) := by decide +kernel
theorem dX12_readPolicy_50 : decode cX12_readPolicy 50 = .ok (.bipush 105, 2) := by decide +kernel
theorem dX12_readPolicy_52 : decode cX12_readPolicy 52 = .ok (.bipush 100, 2) := by decide +kernel
theorem dX12_readPolicy_54 : decode cX12_readPolicy 54 = .ok (.bipush 101, 2) := by decide +kernel
theorem dX12_readPolicy_56 : decode cX12_readPolicy 56 = .ok (.iconst 0, 1) := by decide +kernel
theorem dX12_readPolicy_57 : decode cX12_readPolicy 57 = .ok (.iconst 0, 1) := by decide +kernel
theorem dX12_readPolicy_58 : decode cX12_readPolicy 58 = .ok (.invokevirtual 150, 3) := by decide +kernel
theorem dX12_readPolicy_68 : decode cX12_readPolicy 68 = .ok (.aload_n 0, 1) := by decide +kernel
theorem dX12_readPolicy_69 : decode cX12_readPolicy 69 = .ok (.bipush 104, 2) := by decide +kernel
theorem dX12_readPolicy_71 : decode cX12_readPolicy 71 = .ok (.bipush 97, 2) := by decide +kernel
theorem dX12_readPolicy_73 : decode cX12_readPolicy 73 = .ok (.bipush 108, 2) := by decide +kernel
theorem dX12_readPolicy_75 : decode cX12_readPolicy 75 = .ok (.bipush 118, 2) := by decide +kernel
theorem dX12_readPolicy_77 : decode cX12_readPolicy 77 = .ok (.bipush 101, 2) := by decide +kernel
theorem dX12_readPolicy_79 : decode cX12_readPolicy 79 = .ok (.bipush 115, 2) := by decide +kernel
theorem dX12_readPolicy_81 : decode cX12_readPolicy 81 = .ok (.iconst 0, 1) := by decide +kernel
theorem dX12_readPolicy_82 : decode cX12_readPolicy 82 = .ok (.invokevirtual 150, 3) := by decide +kernel
theorem dX12_readPolicy_92 : decode cX12_readPolicy 92 = .ok (.aload_n 0, 1) := by decide +kernel
theorem dX12_readPolicy_93 : decode cX12_readPolicy 93 = .ok (.bipush 97, 2) := by decide +kernel
theorem dX12_readPolicy_95 : decode cX12_readPolicy 95 = .ok (.bipush 103, 2) := by decide +kernel
theorem dX12_readPolicy_97 : decode cX12_readPolicy 97 = .ok (.bipush 101, 2) := by decide +kernel
theorem dX12_readPolicy_99 : decode cX12_readPolicy 99 = .ok (.bipush 115, 2) := by decide +kernel
theorem dX12_readPolicy_101 : decode cX12_readPolicy 101 = .ok (.iconst 0, 1) := by decide +kernel
theorem dX12_readPolicy_102 : decode cX12_readPolicy 102 = .ok (.iconst 0, 1) := by decide +kernel
theorem dX12_readPolicy_103 : decode cX12_readPolicy 103 = .ok (.iconst 0, 1) := by decide +kernel
theorem dX12_readPolicy_104 : decode cX12_readPolicy 104 = .ok (.invokevirtual 150, 3) := by decide +kernel
theorem dX12_readPolicy_114 : decode cX12_readPolicy 114 = .ok (.aload_n 0, 1) := by decide +kernel
theorem dX12_readPolicy_115 : decode cX12_readPolicy 115 = .ok (.bipush 99, 2) := by decide +kernel
theorem dX12_readPolicy_117 : decode cX12_readPolicy 117 = .ok (.bipush 111, 2) := by decide +kernel
theorem dX12_readPolicy_119 : decode cX12_readPolicy 119 = .ok (.bipush 117, 2) := by decide +kernel
theorem dX12_readPolicy_121 : decode cX12_readPolicy 121 = .ok (.bipush 110, 2) := by decide +kernel
theorem dX12_readPolicy_123 : decode cX12_readPolicy 123 = .ok (.bipush 116, 2) := by decide +kernel
theorem dX12_readPolicy_125 : decode cX12_readPolicy 125 = .ok (.bipush 115, 2) := by decide +kernel
theorem dX12_readPolicy_127 : decode cX12_readPolicy 127 = .ok (.iconst 0, 1) := by decide +kernel
theorem dX12_readPolicy_128 : decode cX12_readPolicy 128 = .ok (.invokevirtual 150, 3) := by decide +kernel
theorem dX12_readPolicy_138 : decode cX12_readPolicy 138 = .ok (.aload_n 0, 1) := by decide +kernel
theorem dX12_readPolicy_139 : decode cX12_readPolicy 139 = .ok (.bipush 115, 2) := by decide +kernel
theorem dX12_readPolicy_141 : decode cX12_readPolicy 141 = .ok (.bipush 116, 2) := by decide +kernel
theorem dX12_readPolicy_143 : decode cX12_readPolicy 143 = .ok (.bipush 101, 2) := by decide +kernel
theorem dX12_readPolicy_145 : decode cX12_readPolicy 145 = .ok (.bipush 112, 2) := by decide +kernel
theorem dX12_readPolicy_147 : decode cX12_readPolicy 147 = .ok (.bipush 115, 2) := by decide +kernel
theorem dX12_readPolicy_149 : decode cX12_readPolicy 149 = .ok (.iconst 0, 1) := by decide +kernel
theorem dX12_readPolicy_150 : decode cX12_readPolicy 150 = .ok (.iconst 0, 1) := by decide +kernel
theorem dX12_readPolicy_151 : decode cX12_readPolicy 151 = .ok (.invokevirtual 150, 3) := by decide +kernel
theorem dX12_readPolicy_161 : decode cX12_readPolicy 161 = .ok (.aload_n 0, 1) := by decide +kernel
theorem dX12_readPolicy_162 : decode cX12_readPolicy 162 = .ok (.bipush 114, 2) := by decide +kernel
theorem dX12_readPolicy_164 : decode cX12_readPolicy 164 = .ok (.bipush 101, 2) := by decide +kernel
theorem dX12_readPolicy_166 : decode cX12_readPolicy 166 = .ok (.bipush 103, 2) := by decide +kernel
theorem dX12_readPolicy_168 : decode cX12_readPolicy 168 = .ok (.bipush 105, 2) := by decide +kernel
theorem dX12_readPolicy_170 : decode cX12_readPolicy 170 = .ok (.bipush 111, 2) := by decide +kernel
theorem dX12_readPolicy_172 : decode cX12_readPolicy 172 = .ok (.bipush 110, 2) := by decide +kernel
theorem dX12_readPolicy_174 : decode cX12_readPolicy 174 = .ok (.bipush 115, 2) := by decide +kernel
theorem dX12_readPolicy_176 : decode cX12_readPolicy 176 = .ok (.invokevirtual 150, 3) := by decide +kernel
theorem dX12_readPolicy_187 : decode cX12_readPolicy 187 = .ok (.iconst (-1), 1) := by decide +kernel
theorem dX12_readPolicy_188 : decode cX12_readPolicy 188 = .ok (.putfield 162, 3) := by decide +kernel
theorem dX12_readPolicy_182 : decode cX12_readPolicy 182 = .ok (.bipush 6, 2) := by decide +kernel
theorem dX12_readPolicy_184 : decode cX12_readPolicy 184 = .ok (.goto 4, 3) := by decide +kernel
theorem dX12_readPolicy_179 : decode cX12_readPolicy 179 = .ok (.ifCond .eq 8, 3) := by decide +kernel
theorem dX12_readPolicy_157 : decode cX12_readPolicy 157 = .ok (.iconst 5, 1) := by decide +kernel
theorem dX12_readPolicy_158 : decode cX12_readPolicy 158 = .ok (.goto 30, 3) := by decide +kernel
theorem dX12_readPolicy_154 : decode cX12_readPolicy 154 = .ok (.ifCond .eq 7, 3) := by decide +kernel
theorem dX12_readPolicy_134 : decode cX12_readPolicy 134 = .ok (.iconst 4, 1) := by decide +kernel
theorem dX12_readPolicy_135 : decode cX12_readPolicy 135 = .ok (.goto 53, 3) := by decide +kernel
theorem dX12_readPolicy_131 : decode cX12_readPolicy 131 = .ok (.ifCond .eq 7, 3) := by decide +kernel
theorem dX12_readPolicy_110 : decode cX12_readPolicy 110 = .ok (.iconst 3, 1) := by decide +kernel
theorem dX12_readPolicy_111 : decode cX12_readPolicy 111 = .ok (.goto 77, 3) := by decide +kernel
theorem dX12_readPolicy_107 : decode cX12_readPolicy 107 = .ok (.ifCond .eq 7, 3) := by decide +kernel
theorem dX12_readPolicy_88 : decode cX12_readPolicy 88 = .ok (.iconst 2, 1) := by decide +kernel
theorem dX12_readPolicy_89 : decode cX12_readPolicy 89 = .ok (.goto 99, 3) := by decide +kernel
theorem dX12_readPolicy_85 : decode cX12_readPolicy 85 = .ok (.ifCond .eq 7, 3) := by decide +kernel
theorem dX12_readPolicy_64 : decode cX12_readPolicy 64 = .ok (.iconst 1, 1) := by decide +kernel
theorem dX12_readPolicy_65 : decode cX12_readPolicy 65 = .ok (.goto 123, 3) := by decide +kernel
theorem dX12_readPolicy_61 : decode cX12_readPolicy 61 = .ok (.ifCond .eq 7, 3) := by decide +kernel
theorem dX12_readPolicy_41 : decode cX12_readPolicy 41 = .ok (.iconst 0, 1) := by decide +kernel
theorem dX12_readPolicy_42 : decode cX12_readPolicy 42 = .ok (.goto 146, 3) := by decide +kernel
theorem dX12_readPolicy_38 : decode cX12_readPolicy 38 = .ok (.ifCond .eq 7, 3) := by decide +kernel
theorem dX12_readPolicy_12 : decode cX12_readPolicy 12 = .ok (.aload_n 0, 1) := by decide +kernel
theorem dX12_readPolicy_13 : decode cX12_readPolicy 13 = .ok (.aload_n 0, 1) := by decide +kernel
theorem dX12_readPolicy_17 : decode cX12_readPolicy 17 = .ok (.invokevirtual 144, 3) := by decide +kernel
theorem dX12_readPolicy_20 : decode cX12_readPolicy 20 = .ok (.ireturn, 1) := by decide +kernel
theorem dX12_readPolicy_14 : decode cX12_readPolicy 14 = .ok (.getfield 124, 3) := by decide +kernel
theorem dX12_readPolicy_9 : decode cX12_readPolicy 9 = .ok (.ifCond .ne 12, 3) := by decide +kernel
theorem dX12_readPolicy_2 : decode cX12_readPolicy 2 = .ok (.putfield 121, 3) := by decide +kernel
theorem dX12_readPolicy_191 : decode cX12_readPolicy 191 = .ok (.aload_n 0, 1) := by decide +kernel
theorem dX12_readPolicy_207 : decode cX12_readPolicy 207 = .ok (.aload_n 0, 1) := by decide +kernel
theorem dX12_readPolicy_211 : decode cX12_readPolicy 211 = .ok (.iconst 3, 1) := by decide +kernel
theorem dX12_readPolicy_302 : decode cX12_readPolicy 302 = .ok (.aload_n 0, 1) := by decide +kernel
theorem dX12_readPolicy_303 : decode cX12_readPolicy 303 = .ok (.invokevirtual 177, 3) := by decide +kernel
theorem dX12_readPolicy_309 : decode cX12_readPolicy 309 = .ok (.iconst 0, 1) := by decide +kernel
theorem dX12_readPolicy_310 : decode cX12_readPolicy 310 = .ok (.ireturn, 1) := by decide +kernel
theorem dX12_readPolicy_306 : decode cX12_readPolicy 306 = .ok (.ifCond .ne 5, 3) := by decide +kernel
theorem dX12_readPolicy_215 : decode cX12_readPolicy 215 = .ok (.aload_n 0, 1) := by decide +kernel
theorem dX12_readPolicy_216 : decode cX12_readPolicy 216 = .ok (.bipush 16, 2) := by decide +kernel
theorem dX12_readPolicy_218 : decode cX12_readPolicy 218 = .ok (.sipush 1500, 3) := by decide +kernel
theorem dX12_readPolicy_221 : decode cX12_readPolicy 221 = .ok (.invokevirtual 157, 3) := by decide +kernel
theorem dX12_readPolicy_229 : decode cX12_readPolicy 229 = .ok (.aload_n 0, 1) := by decide +kernel
theorem dX12_readPolicy_230 : decode cX12_readPolicy 230 = .ok (.aload_n 0, 1) := by decide +kernel
theorem dX12_readPolicy_237 : decode cX12_readPolicy 237 = .ok (.aload_n 0, 1) := by decide +kernel
theorem dX12_readPolicy_238 : decode cX12_readPolicy 238 = .ok (.bipush 16, 2) := by decide +kernel
theorem dX12_readPolicy_240 : decode cX12_readPolicy 240 = .ok (.sipush 1500, 3) := by decide +kernel
theorem dX12_readPolicy_243 : decode cX12_readPolicy 243 = .ok (.invokevirtual 157, 3) := by decide +kernel
theorem dX12_readPolicy_251 : decode cX12_readPolicy 251 = .ok (.aload_n 0, 1) := by decide +kernel
theorem dX12_readPolicy_252 : decode cX12_readPolicy 252 = .ok (.aload_n 0, 1) := by decide +kernel
theorem dX12_readPolicy_259 : decode cX12_readPolicy 259 = .ok (.aload_n 0, 1) := by decide +kernel
theorem dX12_readPolicy_260 : decode cX12_readPolicy 260 = .ok (.iconst 1, 1) := by decide +kernel
theorem dX12_readPolicy_261 : decode cX12_readPolicy 261 = .ok (.bipush 7, 2) := by decide +kernel
theorem dX12_readPolicy_263 : decode cX12_readPolicy 263 = .ok (.invokevirtual 157, 3) := by decide +kernel
theorem dX12_readPolicy_271 : decode cX12_readPolicy 271 = .ok (.aload_n 0, 1) := by decide +kernel
theorem dX12_readPolicy_272 : decode cX12_readPolicy 272 = .ok (.aload_n 0, 1) := by decide +kernel
theorem dX12_readPolicy_279 : decode cX12_readPolicy 279 = .ok (.aload_n 0, 1) := by decide +kernel
theorem dX12_readPolicy_280 : decode cX12_readPolicy 280 = .ok (.iconst 4, 1) := by decide +kernel
theorem dX12_readPolicy_281 : decode cX12_readPolicy 281 = .ok (.bipush 64, 2) := by decide +kernel
theorem dX12_readPolicy_283 : decode cX12_readPolicy 283 = .ok (.invokevirtual 157, 3) := by decide +kernel
theorem dX12_readPolicy_291 : decode cX12_readPolicy 291 = .ok (.aload_n 0, 1) := by decide +kernel
theorem dX12_readPolicy_292 : decode cX12_readPolicy 292 = .ok (.aload_n 0, 1) := by decide +kernel
theorem dX12_readPolicy_299 : decode cX12_readPolicy 299 = .ok (.goto 12, 3) := by decide +kernel
theorem dX12_readPolicy_296 : decode cX12_readPolicy 296 = .ok (.putfield 174, 3) := by decide +kernel
theorem dX12_readPolicy_293 : decode cX12_readPolicy 293 = .ok (.getfield 147, 3) := by decide +kernel
theorem dX12_readPolicy_289 : decode cX12_readPolicy 289 = .ok (.iconst 0, 1) := by decide +kernel
theorem dX12_readPolicy_290 : decode cX12_readPolicy 290 = .ok (.ireturn, 1) := by decide +kernel
theorem dX12_readPolicy_286 : decode cX12_readPolicy 286 = .ok (.ifCond .ne 5, 3) := by decide +kernel
theorem dX12_readPolicy_276 : decode cX12_readPolicy 276 = .ok (.putfield 171, 3) := by decide +kernel
theorem dX12_readPolicy_273 : decode cX12_readPolicy 273 = .ok (.getfield 147, 3) := by decide +kernel
theorem dX12_readPolicy_269 : decode cX12_readPolicy 269 = .ok (.iconst 0, 1) := by decide +kernel
theorem dX12_readPolicy_270 : decode cX12_readPolicy 270 = .ok (.ireturn, 1) := by decide +kernel
theorem dX12_readPolicy_266 : decode cX12_readPolicy 266 = .ok (.ifCond .ne 5, 3) := by decide +kernel
theorem dX12_readPolicy_256 : decode cX12_readPolicy 256 = .ok (.putfield 168, 3) := by decide +kernel
theorem dX12_readPolicy_253 : decode cX12_readPolicy 253 = .ok (.getfield 147, 3) := by decide +kernel
theorem dX12_readPolicy_249 : decode cX12_readPolicy 249 = .ok (.iconst 0, 1) := by decide +kernel
theorem dX12_readPolicy_250 : decode cX12_readPolicy 250 = .ok (.ireturn, 1) := by decide +kernel
theorem dX12_readPolicy_246 : decode cX12_readPolicy 246 = .ok (.ifCond .ne 5, 3) := by decide +kernel
theorem dX12_readPolicy_234 : decode cX12_readPolicy 234 = .ok (.putfield 165, 3) := by decide +kernel
theorem dX12_readPolicy_231 : decode cX12_readPolicy 231 = .ok (.getfield 147, 3) := by decide +kernel
theorem dX12_readPolicy_227 : decode cX12_readPolicy 227 = .ok (.iconst 0, 1) := by decide +kernel
theorem dX12_readPolicy_228 : decode cX12_readPolicy 228 = .ok (.ireturn, 1) := by decide +kernel
theorem dX12_readPolicy_224 : decode cX12_readPolicy 224 = .ok (.ifCond .ne 5, 3) := by decide +kernel
theorem dX12_readPolicy_212 : decode cX12_readPolicy 212 = .ok (.if_icmp .ne 90, 3) := by decide +kernel
theorem dX12_readPolicy_208 : decode cX12_readPolicy 208 = .ok (.getfield 162, 3) := by decide +kernel
theorem dX12_readPolicy_198 : decode cX12_readPolicy 198 = .ok (.aload_n 0, 1) := by decide +kernel
theorem dX12_readPolicy_199 : decode cX12_readPolicy 199 = .ok (.aload_n 0, 1) := by decide +kernel
theorem dX12_readPolicy_203 : decode cX12_readPolicy 203 = .ok (.invokevirtual 144, 3) := by decide +kernel
theorem dX12_readPolicy_206 : decode cX12_readPolicy 206 = .ok (.ireturn, 1) := by decide +kernel
theorem dX12_readPolicy_200 : decode cX12_readPolicy 200 = .ok (.getfield 127, 3) := by decide +kernel
theorem dX12_readPolicy_195 : decode cX12_readPolicy 195 = .ok (.ifCond .ge 12, 3) := by decide +kernel
theorem dX12_readPolicy_192 : decode cX12_readPolicy 192 = .ok (.getfield 162, 3) := by decide +kernel
theorem dX12_readPolicy_311 : decode cX12_readPolicy 311 = .ok (.aload_n 0, 1) := by decide +kernel
theorem dX12_readPolicy_334 : decode cX12_readPolicy 334 = .ok (.aload_n 0, 1) := by decide +kernel
theorem dX12_readPolicy_335 : decode cX12_readPolicy 335 = .ok (.invokevirtual 180, 3) := by decide +kernel
theorem dX12_readPolicy_341 : decode cX12_readPolicy 341 = .ok (.iconst 0, 1) := by decide +kernel
theorem dX12_readPolicy_342 : decode cX12_readPolicy 342 = .ok (.ireturn, 1) := by decide +kernel
theorem dX12_readPolicy_338 : decode cX12_readPolicy 338 = .ok (.ifCond .ne 5, 3) := by decide +kernel
theorem dX12_readPolicy_318 : decode cX12_readPolicy 318 = .ok (.aload_n 0, 1) := by decide +kernel
theorem dX12_readPolicy_322 : decode cX12_readPolicy 322 = .ok (.iconst 4, 1) := by decide +kernel
theorem dX12_readPolicy_326 : decode cX12_readPolicy 326 = .ok (.aload_n 0, 1) := by decide +kernel
theorem dX12_readPolicy_330 : decode cX12_readPolicy 330 = .ok (.iconst 5, 1) := by decide +kernel
theorem dX12_readPolicy_331 : decode cX12_readPolicy 331 = .ok (.if_icmp .ne 12, 3) := by decide +kernel
theorem dX12_readPolicy_327 : decode cX12_readPolicy 327 = .ok (.getfield 162, 3) := by decide +kernel
theorem dX12_readPolicy_323 : decode cX12_readPolicy 323 = .ok (.if_icmp .eq 11, 3) := by decide +kernel
theorem dX12_readPolicy_319 : decode cX12_readPolicy 319 = .ok (.getfield 162, 3) := by decide +kernel
theorem dX12_readPolicy_315 : decode cX12_readPolicy 315 = .ok (.ifCond .eq 19, 3) := by decide +kernel
theorem dX12_readPolicy_312 : decode cX12_readPolicy 312 = .ok (.getfield 162, 3) := by decide +kernel
theorem dX12_readPolicy_343 : decode cX12_readPolicy 343 = .ok (.aload_n 0, 1) := by decide +kernel
theorem dX12_readPolicy_347 : decode cX12_readPolicy 347 = .ok (.iconst 5, 1) := by decide +kernel
theorem dX12_readPolicy_351 : decode cX12_readPolicy 351 = .ok (.aload_n 0, 1) := by decide +kernel
theorem dX12_readPolicy_352 : decode cX12_readPolicy 352 = .ok (.iconst 1, 1) := by decide +kernel
theorem dX12_readPolicy_353 : decode cX12_readPolicy 353 = .ok (.bipush 50, 2) := by decide +kernel
theorem dX12_readPolicy_355 : decode cX12_readPolicy 355 = .ok (.invokevirtual 157, 3) := by decide +kernel
theorem dX12_readPolicy_363 : decode cX12_readPolicy 363 = .ok (.aload_n 0, 1) := by decide +kernel
theorem dX12_readPolicy_364 : decode cX12_readPolicy 364 = .ok (.aload_n 0, 1) := by decide +kernel
theorem dX12_readPolicy_371 : decode cX12_readPolicy 371 = .ok (.aload_n 0, 1) := by decide +kernel
theorem dX12_readPolicy_372 : decode cX12_readPolicy 372 = .ok (.invokevirtual 140, 3) := by decide +kernel
theorem dX12_readPolicy_387 : decode cX12_readPolicy 387 = .ok (.aload_n 0, 1) := by decide +kernel
theorem dX12_readPolicy_388 : decode cX12_readPolicy 388 = .ok (.aload_n 0, 1) := by decide +kernel
theorem dX12_readPolicy_389 : decode cX12_readPolicy 389 = .ok (.bipush 112, 2) := by decide +kernel
theorem dX12_readPolicy_391 : decode cX12_readPolicy 391 = .ok (.bipush 105, 2) := by decide +kernel
theorem dX12_readPolicy_393 : decode cX12_readPolicy 393 = .ok (.bipush 99, 2) := by decide +kernel
theorem dX12_readPolicy_395 : decode cX12_readPolicy 395 = .ok (.bipush 116, 2) := by decide +kernel
theorem dX12_readPolicy_397 : decode cX12_readPolicy 397 = .ok (.bipush 117, 2) := by decide +kernel
theorem dX12_readPolicy_399 : decode cX12_readPolicy 399 = .ok (.bipush 114, 2) := by decide +kernel
theorem dX12_readPolicy_401 : decode cX12_readPolicy 401 = .ok (.bipush 101, 2) := by decide +kernel
theorem dX12_readPolicy_403 : decode cX12_readPolicy 403 = .ok (.invokevirtual 150, 3) := by decide +kernel
theorem dX12_readPolicy_409 : decode cX12_readPolicy 409 = .ok (.aload_n 0, 1) := by decide +kernel
theorem dX12_readPolicy_416 : decode cX12_readPolicy 416 = .ok (.aload_n 0, 1) := by decide +kernel
theorem dX12_readPolicy_417 : decode cX12_readPolicy 417 = .ok (.bipush 110, 2) := by decide +kernel
theorem dX12_readPolicy_419 : decode cX12_readPolicy 419 = .ok (.bipush 101, 2) := by decide +kernel
theorem dX12_readPolicy_421 : decode cX12_readPolicy 421 = .ok (.bipush 119, 2) := by decide +kernel
theorem dX12_readPolicy_423 : decode cX12_readPolicy 423 = .ok (.bipush 115, 2) := by decide +kernel
theorem dX12_readPolicy_425 : decode cX12_readPolicy 425 = .ok (.iconst 0, 1) := by decide +kernel
theorem dX12_readPolicy_426 : decode cX12_readPolicy 426 = .ok (.iconst 0, 1) := by decide +kernel
theorem dX12_readPolicy_427 : decode cX12_readPolicy 427 = .ok (.iconst 0, 1) := by decide +kernel
theorem dX12_readPolicy_428 : decode cX12_readPolicy 428 = .ok (.invokevirtual 150, 3) := by decide +kernel
theorem dX12_readPolicy_434 : decode cX12_readPolicy 434 = .ok (.aload_n 0, 1) := by decide +kernel
theorem dX12_readPolicy_435 : decode cX12_readPolicy 435 = .ok (.aload_n 0, 1) := by decide +kernel
theorem dX12_readPolicy_439 : decode cX12_readPolicy 439 = .ok (.invokevirtual 144, 3) := by decide +kernel
theorem dX12_readPolicy_442 : decode cX12_readPolicy 442 = .ok (.ireturn, 1) := by decide +kernel
theorem dX12_readPolicy_436 : decode cX12_readPolicy 436 = .ok (.getfield 127, 3) := by decide +kernel
theorem dX12_readPolicy_431 : decode cX12_readPolicy 431 = .ok (.ifCond .ne 12, 3) := by decide +kernel
theorem dX12_readPolicy_413 : decode cX12_readPolicy 413 = .ok (.ifCond .ne 30, 3) := by decide +kernel
theorem dX12_readPolicy_410 : decode cX12_readPolicy 410 = .ok (.getfield 186, 3) := by decide +kernel
theorem dX12_readPolicy_406 : decode cX12_readPolicy 406 = .ok (.putfield 186, 3) := by decide +kernel
theorem dX12_readPolicy_378 : decode cX12_readPolicy 378 = .ok (.aload_n 0, 1) := by decide +kernel
theorem dX12_readPolicy_379 : decode cX12_readPolicy 379 = .ok (.aload_n 0, 1) := by decide +kernel
theorem dX12_readPolicy_383 : decode cX12_readPolicy 383 = .ok (.invokevirtual 144, 3) := by decide +kernel
theorem dX12_readPolicy_386 : decode cX12_readPolicy 386 = .ok (.ireturn, 1) := by decide +kernel
theorem dX12_readPolicy_380 : decode cX12_readPolicy 380 = .ok (.getfield 124, 3) := by decide +kernel
theorem dX12_readPolicy_375 : decode cX12_readPolicy 375 = .ok (.ifCond .ne 12, 3) := by decide +kernel
theorem dX12_readPolicy_368 : decode cX12_readPolicy 368 = .ok (.putfield 183, 3) := by decide +kernel
theorem dX12_readPolicy_365 : decode cX12_readPolicy 365 = .ok (.getfield 147, 3) := by decide +kernel
theorem dX12_readPolicy_361 : decode cX12_readPolicy 361 = .ok (.iconst 0, 1) := by decide +kernel
theorem dX12_readPolicy_362 : decode cX12_readPolicy 362 = .ok (.ireturn, 1) := by decide +kernel
theorem dX12_readPolicy_358 : decode cX12_readPolicy 358 = .ok (.ifCond .ne 5, 3) := by decide +kernel
theorem dX12_readPolicy_348 : decode cX12_readPolicy 348 = .ok (.if_icmp .ne 95, 3) := by decide +kernel
theorem dX12_readPolicy_344 : decode cX12_readPolicy 344 = .ok (.getfield 162, 3) := by decide +kernel
theorem dX12_readPolicy_443 : decode cX12_readPolicy 443 = .ok (.aload_n 0, 1) := by decide +kernel
theorem dX12_readPolicy_447 : decode cX12_readPolicy 447 = .ok (.bipush 6, 2) := by decide +kernel
theorem dX12_readPolicy_452 : decode cX12_readPolicy 452 = .ok (.aload_n 0, 1) := by decide +kernel
theorem dX12_readPolicy_453 : decode cX12_readPolicy 453 = .ok (.bipush 16, 2) := by decide +kernel
theorem dX12_readPolicy_455 : decode cX12_readPolicy 455 = .ok (.sipush 256, 3) := by decide +kernel
theorem dX12_readPolicy_458 : decode cX12_readPolicy 458 = .ok (.invokevirtual 157, 3) := by decide +kernel
theorem dX12_readPolicy_466 : decode cX12_readPolicy 466 = .ok (.aload_n 0, 1) := by decide +kernel
theorem dX12_readPolicy_467 : decode cX12_readPolicy 467 = .ok (.aload_n 0, 1) := by decide +kernel
theorem dX12_readPolicy_474 : decode cX12_readPolicy 474 = .ok (.iconst 4, 1) := by decide +kernel
theorem dX12_readPolicy_475 : decode cX12_readPolicy 475 = .ok (.aload_n 0, 1) := by decide +kernel
theorem dX12_readPolicy_479 : decode cX12_readPolicy 479 = .ok (.imul, 1) := by decide +kernel
theorem dX12_readPolicy_480 : decode cX12_readPolicy 480 = .ok (.aload_n 0, 1) := by decide +kernel
theorem dX12_readPolicy_496 : decode cX12_readPolicy 496 = .ok (.aload_n 0, 1) := by decide +kernel
theorem dX12_readPolicy_497 : decode cX12_readPolicy 497 = .ok (.iconst 0, 1) := by decide +kernel
theorem dX12_readPolicy_498 : decode cX12_readPolicy 498 = .ok (.bipush 100, 2) := by decide +kernel
theorem dX12_readPolicy_500 : decode cX12_readPolicy 500 = .ok (.invokevirtual 157, 3) := by decide +kernel
theorem dX12_readPolicy_508 : decode cX12_readPolicy 508 = .ok (.aload_n 0, 1) := by decide +kernel
theorem dX12_readPolicy_509 : decode cX12_readPolicy 509 = .ok (.aload_n 0, 1) := by decide +kernel
theorem dX12_readPolicy_513 : decode cX12_readPolicy 513 = .ok (.putfield 193, 3) := by decide +kernel
theorem dX12_readPolicy_510 : decode cX12_readPolicy 510 = .ok (.getfield 147, 3) := by decide +kernel
theorem dX12_readPolicy_506 : decode cX12_readPolicy 506 = .ok (.iconst 0, 1) := by decide +kernel
theorem dX12_readPolicy_507 : decode cX12_readPolicy 507 = .ok (.ireturn, 1) := by decide +kernel
theorem dX12_readPolicy_503 : decode cX12_readPolicy 503 = .ok (.ifCond .ne 5, 3) := by decide +kernel
theorem dX12_readPolicy_487 : decode cX12_readPolicy 487 = .ok (.aload_n 0, 1) := by decide +kernel
theorem dX12_readPolicy_488 : decode cX12_readPolicy 488 = .ok (.aload_n 0, 1) := by decide +kernel
theorem dX12_readPolicy_492 : decode cX12_readPolicy 492 = .ok (.invokevirtual 144, 3) := by decide +kernel
theorem dX12_readPolicy_495 : decode cX12_readPolicy 495 = .ok (.ireturn, 1) := by decide +kernel
theorem dX12_readPolicy_489 : decode cX12_readPolicy 489 = .ok (.getfield 127, 3) := by decide +kernel
theorem dX12_readPolicy_484 : decode cX12_readPolicy 484 = .ok (.if_icmp .le 12, 3) := by decide +kernel
theorem dX12_readPolicy_481 : decode cX12_readPolicy 481 = .ok (.getfield 159, 3) := by decide +kernel
theorem dX12_readPolicy_476 : decode cX12_readPolicy 476 = .ok (.getfield 190, 3) := by decide +kernel
theorem dX12_readPolicy_471 : decode cX12_readPolicy 471 = .ok (.putfield 190, 3) := by decide +kernel
theorem dX12_readPolicy_468 : decode cX12_readPolicy 468 = .ok (.getfield 147, 3) := by decide +kernel
theorem dX12_readPolicy_464 : decode cX12_readPolicy 464 = .ok (.iconst 0, 1) := by decide +kernel
theorem dX12_readPolicy_465 : decode cX12_readPolicy 465 = .ok (.ireturn, 1) := by decide +kernel
theorem dX12_readPolicy_461 : decode cX12_readPolicy 461 = .ok (.ifCond .ne 5, 3) := by decide +kernel
theorem dX12_readPolicy_449 : decode cX12_readPolicy 449 = .ok (.if_icmp .ne 67, 3) := by decide +kernel
theorem dX12_readPolicy_444 : decode cX12_readPolicy 444 = .ok (.getfield 162, 3) := by decide +kernel
theorem dX12_readPolicy_516 : decode cX12_readPolicy 516 = .ok (.aload_n 0, 1) := by decide +kernel
theorem dX12_readPolicy_517 : decode cX12_readPolicy 517 = .ok (.invokevirtual 140, 3) := by decide +kernel
theorem dX12_readPolicy_534 : decode cX12_readPolicy 534 = .ok (.iconst 1, 1) := by decide +kernel
theorem dX12_readPolicy_535 : decode cX12_readPolicy 535 = .ok (.goto 4, 3) := by decide +kernel
theorem dX12_readPolicy_539 : decode cX12_readPolicy 539 = .ok (.ireturn, 1) := by decide +kernel
theorem dX12_readPolicy_523 : decode cX12_readPolicy 523 = .ok (.aload_n 0, 1) := by decide +kernel
theorem dX12_readPolicy_524 : decode cX12_readPolicy 524 = .ok (.aload_n 0, 1) := by decide +kernel
theorem dX12_readPolicy_528 : decode cX12_readPolicy 528 = .ok (.invokevirtual 144, 3) := by decide +kernel
theorem dX12_readPolicy_531 : decode cX12_readPolicy 531 = .ok (.ifCond .eq 7, 3) := by decide +kernel
theorem dX12_readPolicy_538 : decode cX12_readPolicy 538 = .ok (.iconst 0, 1) := by decide +kernel
theorem dX12_readPolicy_525 : decode cX12_readPolicy 525 = .ok (.getfield 127, 3) := by decide +kernel
theorem dX12_readPolicy_520 : decode cX12_readPolicy 520 = .ok (.ifCond .eq 14, 3) := by decide +kernel
def wr_172 (c k : Nat) : Bool := (Nat.beq c 94 && (Nat.beq k 20 || Nat.beq k 21 || Nat.beq k 22 || Nat.beq k 23 || Nat.beq k 24 || Nat.beq k 25 || Nat.beq k 26 || Nat.beq k 27 || Nat.beq k 28 || Nat.beq k 29 || Nat.beq k 30 || Nat.beq k 67 || Nat.beq k 68 || Nat.beq k 69 || Nat.beq k 70 || Nat.beq k 71))
theorem ws_173_172 : ∀ c k, wr_173 c k = true → wr_172 c k = true := by
  intro c k h
  simp only [wr_173, Bool.or_eq_true, Bool.and_eq_true, Nat.beq_eq] at h
  rcases h with ⟨rfl, ((rfl | rfl) | rfl)⟩ <;> rfl
theorem ws_175_172 : ∀ c k, wr_175 c k = true → wr_172 c k = true := fun _ _ h => by cases h
theorem ws_177_172 : ∀ c k, wr_177 c k = true → wr_172 c k = true := by
  intro c k h
  simp only [wr_177, Bool.or_eq_true, Bool.and_eq_true, Nat.beq_eq] at h
  rcases h with ⟨rfl, ((((rfl | rfl) | rfl) | rfl) | rfl)⟩ <;> rfl
theorem ws_178_172 : ∀ c k, wr_178 c k = true → wr_172 c k = true := by
  intro c k h
  simp only [wr_178, Bool.or_eq_true, Bool.and_eq_true, Nat.beq_eq] at h
  rcases h with ⟨rfl, (((((rfl | rfl) | rfl) | rfl) | rfl) | rfl)⟩ <;> rfl
theorem ws_179_172 : ∀ c k, wr_179 c k = true → wr_172 c k = true := by
  intro c k h
  simp only [wr_179, Bool.or_eq_true, Bool.and_eq_true, Nat.beq_eq] at h
  rcases h with ⟨rfl, ((((rfl | rfl) | rfl) | rfl) | rfl)⟩ <;> rfl
theorem g_172_0 {X : Nat × (Nat → Int32)} {m : Nat → Nat → Int32} {P : Option ma_V → (Nat → Nat → Int32) → Prop}  (h : zm X 0 0 173 0 [(0, .inr (.inr (some 94)))] (ma_u m 94 67 (0 : Int32)) (zmi (fun v2 m1 => if v2 = 0 then (P (some (.inl (0 : Int32))) (ma_u m1 94 70 (m1 94 4))) else (zm X 1 22 175 0 [(0, .inr (.inr (some 94))), (1, .inl (115 : Int32)), (2, .inl (119 : Int32)), (3, .inl (101 : Int32)), (4, .inl (101 : Int32)), (5, .inl (112 : Int32)), (6, .inl (0 : Int32)), (7, .inl (0 : Int32))] m1 (zmi (fun v4 m3 => if v4 = 0 then (zm X 1 22 175 0 [(0, .inr (.inr (some 94))), (1, .inl (115 : Int32)), (2, .inl (108 : Int32)), (3, .inl (105 : Int32)), (4, .inl (100 : Int32)), (5, .inl (101 : Int32)), (6, .inl (0 : Int32)), (7, .inl (0 : Int32))] m3 (zmi (fun v6 m5 => if v6 = 0 then (zm X 1 22 175 0 [(0, .inr (.inr (some 94))), (1, .inl (104 : Int32)), (2, .inl (97 : Int32)), (3, .inl (108 : Int32)), (4, .inl (118 : Int32)), (5, .inl (101 : Int32)), (6, .inl (115 : Int32)), (7, .inl (0 : Int32))] m5 (zmi (fun v8 m7 => if v8 = 0 then (zm X 1 22 175 0 [(0, .inr (.inr (some 94))), (1, .inl (97 : Int32)), (2, .inl (103 : Int32)), (3, .inl (101 : Int32)), (4, .inl (115 : Int32)), (5, .inl (0 : Int32)), (6, .inl (0 : Int32)), (7, .inl (0 : Int32))] m7 (zmi (fun v10 m9 => if v10 = 0 then (zm X 1 22 175 0 [(0, .inr (.inr (some 94))), (1, .inl (99 : Int32)), (2, .inl (111 : Int32)), (3, .inl (117 : Int32)), (4, .inl (110 : Int32)), (5, .inl (116 : Int32)), (6, .inl (115 : Int32)), (7, .inl (0 : Int32))] m9 (zmi (fun v12 m11 => if v12 = 0 then (zm X 1 22 175 0 [(0, .inr (.inr (some 94))), (1, .inl (115 : Int32)), (2, .inl (116 : Int32)), (3, .inl (101 : Int32)), (4, .inl (112 : Int32)), (5, .inl (115 : Int32)), (6, .inl (0 : Int32)), (7, .inl (0 : Int32))] m11 (zmi (fun v14 m13 => if v14 = 0 then (zm X 1 22 175 0 [(0, .inr (.inr (some 94))), (1, .inl (114 : Int32)), (2, .inl (101 : Int32)), (3, .inl (103 : Int32)), (4, .inl (105 : Int32)), (5, .inl (111 : Int32)), (6, .inl (110 : Int32)), (7, .inl (115 : Int32))] m13 (zmi (fun v16 m15 => if v16 = 0 then (zm X 3 70 172 191 [(0, .inr (.inr (some 94)))] (ma_u m15 94 20 (-1 : Int32)) P) else (zm X 3 70 172 191 [(0, .inr (.inr (some 94)))] (ma_u m15 94 20 (6 : Int32)) P)))) else (zm X 3 70 172 191 [(0, .inr (.inr (some 94)))] (ma_u m13 94 20 (5 : Int32)) P)))) else (zm X 3 70 172 191 [(0, .inr (.inr (some 94)))] (ma_u m11 94 20 (4 : Int32)) P)))) else (zm X 3 70 172 191 [(0, .inr (.inr (some 94)))] (ma_u m9 94 20 (3 : Int32)) P)))) else (zm X 3 70 172 191 [(0, .inr (.inr (some 94)))] (ma_u m7 94 20 (2 : Int32)) P)))) else (zm X 3 70 172 191 [(0, .inr (.inr (some 94)))] (ma_u m5 94 20 (1 : Int32)) P)))) else (zm X 3 70 172 191 [(0, .inr (.inr (some 94)))] (ma_u m3 94 20 (0 : Int32)) P))))))) : zm X 3 70 172 0 [(0, .inr (.inr (some 94)))] m P := by
  intro d w S Q hd hw hS hm HQ
  subst hm
  refine zw_push hm_172 dX12_readPolicy_0 (v := .inr (.inr (some 94))) rfl ?_
  refine zw_push hm_172 dX12_readPolicy_1 (v := .inl (0 : Int32)) rfl ?_
  refine zw_pf hm_172 dX12_readPolicy_2 (zT_is hS s_94) (zT_t hS s_94) p_12_121_12 zk_int ?_
  refine zw_push hm_172 dX12_readPolicy_5 (v := .inr (.inr (some 94))) rfl ?_
  refine zw_cv hm_172 dX12_readPolicy_6 v_12_140_12 hm_173 [] [] rfl (zT_rt (zT_pi hS) s_94 rfl) ⟨by omega, by omega⟩ rfl (h _ _ (ma_put S 94 67 (.inl (0 : Int32))) _ (by omega) (by omega) (zT_pi hS) rfl (fun o9 m1 hv => ?_))
  obtain ⟨v2, rfl, h⟩ := zmi_of hv
  show ma_wp X d w 172 9 [(0, .inr (.inr (some 94)))] [.inl v2] (zst S m1) _
  refine zw_if0 hm_172 dX12_readPolicy_9 (t := 21) rfl zc0_ne ?_ ?_
  · intro hc
    rw [if_neg hc] at h
    refine zw_push hm_172 dX12_readPolicy_21 (v := .inr (.inr (some 94))) rfl ?_
    refine zw_push hm_172 dX12_readPolicy_22 (v := .inr (.inr (some 94))) rfl ?_
    refine zw_push hm_172 dX12_readPolicy_23 (v := .inl (115 : Int32)) rfl ?_
    refine zw_push hm_172 dX12_readPolicy_25 (v := .inl (119 : Int32)) rfl ?_
    refine zw_push hm_172 dX12_readPolicy_27 (v := .inl (101 : Int32)) rfl ?_
    refine zw_push hm_172 dX12_readPolicy_29 (v := .inl (101 : Int32)) rfl ?_
    refine zw_push hm_172 dX12_readPolicy_31 (v := .inl (112 : Int32)) rfl ?_
    refine zw_push hm_172 dX12_readPolicy_33 (v := .inl (0 : Int32)) rfl ?_
    refine zw_push hm_172 dX12_readPolicy_34 (v := .inl (0 : Int32)) rfl ?_
    refine zw_cv hm_172 dX12_readPolicy_35 v_12_150_12 hm_175 [.inl (0 : Int32), .inl (0 : Int32), .inl (112 : Int32), .inl (101 : Int32), .inl (101 : Int32), .inl (119 : Int32), .inl (115 : Int32)] [.inr (.inr (some 94))] rfl (zT_rt (zT_zst hS m1) s_94 rfl) ⟨by omega, by omega⟩ rfl (h _ _ (zst S m1) _ (by omega) (by omega) (zT_zst hS m1) rfl (fun o9 m3 hv => ?_))
    obtain ⟨v4, rfl, h⟩ := zmi_of hv
    show ma_wp X d w 172 38 [(0, .inr (.inr (some 94)))] [.inl v4, .inr (.inr (some 94))] (zst S m3) _
    refine zw_if0 hm_172 dX12_readPolicy_38 (t := 45) rfl zc0_eq ?_ ?_
    · intro hc
      rw [if_pos hc] at h
      refine zw_push hm_172 dX12_readPolicy_45 (v := .inr (.inr (some 94))) rfl ?_
      refine zw_push hm_172 dX12_readPolicy_46 (v := .inl (115 : Int32)) rfl ?_
      refine zw_push hm_172 dX12_readPolicy_48 (v := .inl (108 : Int32)) rfl ?_
      refine zw_push hm_172 dX12_readPolicy_50 (v := .inl (105 : Int32)) rfl ?_
      refine zw_push hm_172 dX12_readPolicy_52 (v := .inl (100 : Int32)) rfl ?_
      refine zw_push hm_172 dX12_readPolicy_54 (v := .inl (101 : Int32)) rfl ?_
      refine zw_push hm_172 dX12_readPolicy_56 (v := .inl (0 : Int32)) rfl ?_
      refine zw_push hm_172 dX12_readPolicy_57 (v := .inl (0 : Int32)) rfl ?_
      refine zw_cv hm_172 dX12_readPolicy_58 v_12_150_12 hm_175 [.inl (0 : Int32), .inl (0 : Int32), .inl (101 : Int32), .inl (100 : Int32), .inl (105 : Int32), .inl (108 : Int32), .inl (115 : Int32)] [.inr (.inr (some 94))] rfl (zT_rt (zT_zst hS m3) s_94 rfl) ⟨by omega, by omega⟩ rfl (h _ _ (zst S m3) _ (by omega) (by omega) (zT_zst hS m3) rfl (fun o9 m5 hv => ?_))
      obtain ⟨v6, rfl, h⟩ := zmi_of hv
      show ma_wp X d w 172 61 [(0, .inr (.inr (some 94)))] [.inl v6, .inr (.inr (some 94))] (zst S m5) _
      refine zw_if0 hm_172 dX12_readPolicy_61 (t := 68) rfl zc0_eq ?_ ?_
      · intro hc
        rw [if_pos hc] at h
        refine zw_push hm_172 dX12_readPolicy_68 (v := .inr (.inr (some 94))) rfl ?_
        refine zw_push hm_172 dX12_readPolicy_69 (v := .inl (104 : Int32)) rfl ?_
        refine zw_push hm_172 dX12_readPolicy_71 (v := .inl (97 : Int32)) rfl ?_
        refine zw_push hm_172 dX12_readPolicy_73 (v := .inl (108 : Int32)) rfl ?_
        refine zw_push hm_172 dX12_readPolicy_75 (v := .inl (118 : Int32)) rfl ?_
        refine zw_push hm_172 dX12_readPolicy_77 (v := .inl (101 : Int32)) rfl ?_
        refine zw_push hm_172 dX12_readPolicy_79 (v := .inl (115 : Int32)) rfl ?_
        refine zw_push hm_172 dX12_readPolicy_81 (v := .inl (0 : Int32)) rfl ?_
        refine zw_cv hm_172 dX12_readPolicy_82 v_12_150_12 hm_175 [.inl (0 : Int32), .inl (115 : Int32), .inl (101 : Int32), .inl (118 : Int32), .inl (108 : Int32), .inl (97 : Int32), .inl (104 : Int32)] [.inr (.inr (some 94))] rfl (zT_rt (zT_zst hS m5) s_94 rfl) ⟨by omega, by omega⟩ rfl (h _ _ (zst S m5) _ (by omega) (by omega) (zT_zst hS m5) rfl (fun o9 m7 hv => ?_))
        obtain ⟨v8, rfl, h⟩ := zmi_of hv
        show ma_wp X d w 172 85 [(0, .inr (.inr (some 94)))] [.inl v8, .inr (.inr (some 94))] (zst S m7) _
        refine zw_if0 hm_172 dX12_readPolicy_85 (t := 92) rfl zc0_eq ?_ ?_
        · intro hc
          rw [if_pos hc] at h
          refine zw_push hm_172 dX12_readPolicy_92 (v := .inr (.inr (some 94))) rfl ?_
          refine zw_push hm_172 dX12_readPolicy_93 (v := .inl (97 : Int32)) rfl ?_
          refine zw_push hm_172 dX12_readPolicy_95 (v := .inl (103 : Int32)) rfl ?_
          refine zw_push hm_172 dX12_readPolicy_97 (v := .inl (101 : Int32)) rfl ?_
          refine zw_push hm_172 dX12_readPolicy_99 (v := .inl (115 : Int32)) rfl ?_
          refine zw_push hm_172 dX12_readPolicy_101 (v := .inl (0 : Int32)) rfl ?_
          refine zw_push hm_172 dX12_readPolicy_102 (v := .inl (0 : Int32)) rfl ?_
          refine zw_push hm_172 dX12_readPolicy_103 (v := .inl (0 : Int32)) rfl ?_
          refine zw_cv hm_172 dX12_readPolicy_104 v_12_150_12 hm_175 [.inl (0 : Int32), .inl (0 : Int32), .inl (0 : Int32), .inl (115 : Int32), .inl (101 : Int32), .inl (103 : Int32), .inl (97 : Int32)] [.inr (.inr (some 94))] rfl (zT_rt (zT_zst hS m7) s_94 rfl) ⟨by omega, by omega⟩ rfl (h _ _ (zst S m7) _ (by omega) (by omega) (zT_zst hS m7) rfl (fun o9 m9 hv => ?_))
          obtain ⟨v10, rfl, h⟩ := zmi_of hv
          show ma_wp X d w 172 107 [(0, .inr (.inr (some 94)))] [.inl v10, .inr (.inr (some 94))] (zst S m9) _
          refine zw_if0 hm_172 dX12_readPolicy_107 (t := 114) rfl zc0_eq ?_ ?_
          · intro hc
            rw [if_pos hc] at h
            refine zw_push hm_172 dX12_readPolicy_114 (v := .inr (.inr (some 94))) rfl ?_
            refine zw_push hm_172 dX12_readPolicy_115 (v := .inl (99 : Int32)) rfl ?_
            refine zw_push hm_172 dX12_readPolicy_117 (v := .inl (111 : Int32)) rfl ?_
            refine zw_push hm_172 dX12_readPolicy_119 (v := .inl (117 : Int32)) rfl ?_
            refine zw_push hm_172 dX12_readPolicy_121 (v := .inl (110 : Int32)) rfl ?_
            refine zw_push hm_172 dX12_readPolicy_123 (v := .inl (116 : Int32)) rfl ?_
            refine zw_push hm_172 dX12_readPolicy_125 (v := .inl (115 : Int32)) rfl ?_
            refine zw_push hm_172 dX12_readPolicy_127 (v := .inl (0 : Int32)) rfl ?_
            refine zw_cv hm_172 dX12_readPolicy_128 v_12_150_12 hm_175 [.inl (0 : Int32), .inl (115 : Int32), .inl (116 : Int32), .inl (110 : Int32), .inl (117 : Int32), .inl (111 : Int32), .inl (99 : Int32)] [.inr (.inr (some 94))] rfl (zT_rt (zT_zst hS m9) s_94 rfl) ⟨by omega, by omega⟩ rfl (h _ _ (zst S m9) _ (by omega) (by omega) (zT_zst hS m9) rfl (fun o9 m11 hv => ?_))
            obtain ⟨v12, rfl, h⟩ := zmi_of hv
            show ma_wp X d w 172 131 [(0, .inr (.inr (some 94)))] [.inl v12, .inr (.inr (some 94))] (zst S m11) _
            refine zw_if0 hm_172 dX12_readPolicy_131 (t := 138) rfl zc0_eq ?_ ?_
            · intro hc
              rw [if_pos hc] at h
              refine zw_push hm_172 dX12_readPolicy_138 (v := .inr (.inr (some 94))) rfl ?_
              refine zw_push hm_172 dX12_readPolicy_139 (v := .inl (115 : Int32)) rfl ?_
              refine zw_push hm_172 dX12_readPolicy_141 (v := .inl (116 : Int32)) rfl ?_
              refine zw_push hm_172 dX12_readPolicy_143 (v := .inl (101 : Int32)) rfl ?_
              refine zw_push hm_172 dX12_readPolicy_145 (v := .inl (112 : Int32)) rfl ?_
              refine zw_push hm_172 dX12_readPolicy_147 (v := .inl (115 : Int32)) rfl ?_
              refine zw_push hm_172 dX12_readPolicy_149 (v := .inl (0 : Int32)) rfl ?_
              refine zw_push hm_172 dX12_readPolicy_150 (v := .inl (0 : Int32)) rfl ?_
              refine zw_cv hm_172 dX12_readPolicy_151 v_12_150_12 hm_175 [.inl (0 : Int32), .inl (0 : Int32), .inl (115 : Int32), .inl (112 : Int32), .inl (101 : Int32), .inl (116 : Int32), .inl (115 : Int32)] [.inr (.inr (some 94))] rfl (zT_rt (zT_zst hS m11) s_94 rfl) ⟨by omega, by omega⟩ rfl (h _ _ (zst S m11) _ (by omega) (by omega) (zT_zst hS m11) rfl (fun o9 m13 hv => ?_))
              obtain ⟨v14, rfl, h⟩ := zmi_of hv
              show ma_wp X d w 172 154 [(0, .inr (.inr (some 94)))] [.inl v14, .inr (.inr (some 94))] (zst S m13) _
              refine zw_if0 hm_172 dX12_readPolicy_154 (t := 161) rfl zc0_eq ?_ ?_
              · intro hc
                rw [if_pos hc] at h
                refine zw_push hm_172 dX12_readPolicy_161 (v := .inr (.inr (some 94))) rfl ?_
                refine zw_push hm_172 dX12_readPolicy_162 (v := .inl (114 : Int32)) rfl ?_
                refine zw_push hm_172 dX12_readPolicy_164 (v := .inl (101 : Int32)) rfl ?_
                refine zw_push hm_172 dX12_readPolicy_166 (v := .inl (103 : Int32)) rfl ?_
                refine zw_push hm_172 dX12_readPolicy_168 (v := .inl (105 : Int32)) rfl ?_
                refine zw_push hm_172 dX12_readPolicy_170 (v := .inl (111 : Int32)) rfl ?_
                refine zw_push hm_172 dX12_readPolicy_172 (v := .inl (110 : Int32)) rfl ?_
                refine zw_push hm_172 dX12_readPolicy_174 (v := .inl (115 : Int32)) rfl ?_
                refine zw_cv hm_172 dX12_readPolicy_176 v_12_150_12 hm_175 [.inl (115 : Int32), .inl (110 : Int32), .inl (111 : Int32), .inl (105 : Int32), .inl (103 : Int32), .inl (101 : Int32), .inl (114 : Int32)] [.inr (.inr (some 94))] rfl (zT_rt (zT_zst hS m13) s_94 rfl) ⟨by omega, by omega⟩ rfl (h _ _ (zst S m13) _ (by omega) (by omega) (zT_zst hS m13) rfl (fun o9 m15 hv => ?_))
                obtain ⟨v16, rfl, h⟩ := zmi_of hv
                show ma_wp X d w 172 179 [(0, .inr (.inr (some 94)))] [.inl v16, .inr (.inr (some 94))] (zst S m15) _
                refine zw_if0 hm_172 dX12_readPolicy_179 (t := 187) rfl zc0_eq ?_ ?_
                · intro hc
                  rw [if_pos hc] at h
                  refine zw_push hm_172 dX12_readPolicy_187 (v := .inl (-1 : Int32)) rfl ?_
                  refine zw_pf hm_172 dX12_readPolicy_188 (zT_is (zT_zst hS m15) s_94) (zT_t (zT_zst hS m15) s_94) p_12_162_12 zk_int ?_
                  exact (h d w _ Q (by omega) (by omega) (zT_pi (zT_zst hS m15)) rfl HQ)
                · intro hc
                  rw [if_neg hc] at h
                  refine zw_push hm_172 dX12_readPolicy_182 (v := .inl (6 : Int32)) rfl ?_
                  refine zw_goto hm_172 dX12_readPolicy_184 (t := 188) rfl ?_
                  refine zw_pf hm_172 dX12_readPolicy_188 (zT_is (zT_zst hS m15) s_94) (zT_t (zT_zst hS m15) s_94) p_12_162_12 zk_int ?_
                  exact (h d w _ Q (by omega) (by omega) (zT_pi (zT_zst hS m15)) rfl HQ)
              · intro hc
                rw [if_neg hc] at h
                refine zw_push hm_172 dX12_readPolicy_157 (v := .inl (5 : Int32)) rfl ?_
                refine zw_goto hm_172 dX12_readPolicy_158 (t := 188) rfl ?_
                refine zw_pf hm_172 dX12_readPolicy_188 (zT_is (zT_zst hS m13) s_94) (zT_t (zT_zst hS m13) s_94) p_12_162_12 zk_int ?_
                exact (h d w _ Q (by omega) (by omega) (zT_pi (zT_zst hS m13)) rfl HQ)
            · intro hc
              rw [if_neg hc] at h
              refine zw_push hm_172 dX12_readPolicy_134 (v := .inl (4 : Int32)) rfl ?_
              refine zw_goto hm_172 dX12_readPolicy_135 (t := 188) rfl ?_
              refine zw_pf hm_172 dX12_readPolicy_188 (zT_is (zT_zst hS m11) s_94) (zT_t (zT_zst hS m11) s_94) p_12_162_12 zk_int ?_
              exact (h d w _ Q (by omega) (by omega) (zT_pi (zT_zst hS m11)) rfl HQ)
          · intro hc
            rw [if_neg hc] at h
            refine zw_push hm_172 dX12_readPolicy_110 (v := .inl (3 : Int32)) rfl ?_
            refine zw_goto hm_172 dX12_readPolicy_111 (t := 188) rfl ?_
            refine zw_pf hm_172 dX12_readPolicy_188 (zT_is (zT_zst hS m9) s_94) (zT_t (zT_zst hS m9) s_94) p_12_162_12 zk_int ?_
            exact (h d w _ Q (by omega) (by omega) (zT_pi (zT_zst hS m9)) rfl HQ)
        · intro hc
          rw [if_neg hc] at h
          refine zw_push hm_172 dX12_readPolicy_88 (v := .inl (2 : Int32)) rfl ?_
          refine zw_goto hm_172 dX12_readPolicy_89 (t := 188) rfl ?_
          refine zw_pf hm_172 dX12_readPolicy_188 (zT_is (zT_zst hS m7) s_94) (zT_t (zT_zst hS m7) s_94) p_12_162_12 zk_int ?_
          exact (h d w _ Q (by omega) (by omega) (zT_pi (zT_zst hS m7)) rfl HQ)
      · intro hc
        rw [if_neg hc] at h
        refine zw_push hm_172 dX12_readPolicy_64 (v := .inl (1 : Int32)) rfl ?_
        refine zw_goto hm_172 dX12_readPolicy_65 (t := 188) rfl ?_
        refine zw_pf hm_172 dX12_readPolicy_188 (zT_is (zT_zst hS m5) s_94) (zT_t (zT_zst hS m5) s_94) p_12_162_12 zk_int ?_
        exact (h d w _ Q (by omega) (by omega) (zT_pi (zT_zst hS m5)) rfl HQ)
    · intro hc
      rw [if_neg hc] at h
      refine zw_push hm_172 dX12_readPolicy_41 (v := .inl (0 : Int32)) rfl ?_
      refine zw_goto hm_172 dX12_readPolicy_42 (t := 188) rfl ?_
      refine zw_pf hm_172 dX12_readPolicy_188 (zT_is (zT_zst hS m3) s_94) (zT_t (zT_zst hS m3) s_94) p_12_162_12 zk_int ?_
      exact (h d w _ Q (by omega) (by omega) (zT_pi (zT_zst hS m3)) rfl HQ)
  · intro hc
    rw [if_pos (Classical.not_not.mp hc)] at h
    refine zw_push hm_172 dX12_readPolicy_12 (v := .inr (.inr (some 94))) rfl ?_
    refine zw_push hm_172 dX12_readPolicy_13 (v := .inr (.inr (some 94))) rfl ?_
    refine zw_gf hm_172 dX12_readPolicy_14 (v := .inl (m1 94 4)) (zT_is (zT_zst hS m1) s_94) (zT_t (zT_zst hS m1) s_94) rfl f_12_124_12 rfl ?_
    refine zw_cv hm_172 dX12_readPolicy_17 v_12_144_12 hm_174 [.inl (m1 94 4)] [] rfl (zT_rt (zT_zst hS m1) s_94 rfl) ⟨by omega, by omega⟩ rfl ?_
    show ma_wp X (d - 1) (w - 21) 174 0 [(0, .inr (.inr (some 94))), (1, .inl (m1 94 4))] [] (zst S m1) _
    refine zw_push hm_174 dX12_wrong_0 (v := .inr (.inr (some 94))) rfl ?_
    refine zw_push hm_174 dX12_wrong_1 (v := .inl (m1 94 4)) rfl ?_
    refine zw_pf hm_174 dX12_wrong_2 (zT_is (zT_zst hS m1) s_94) (zT_t (zT_zst hS m1) s_94) p_12_133_12 zk_int ?_
    refine zw_push hm_174 dX12_wrong_5 (v := .inl (0 : Int32)) rfl ?_
    refine zw_bret hm_174 dX12_wrong_6 (by decide) ?_
    show ma_wp X d w 172 20 [(0, .inr (.inr (some 94)))] [.inl (0 : Int32)] (ma_put (zst S m1) 94 70 (.inl (m1 94 4))) _
    exact zw_bret hm_172 dX12_readPolicy_20 (by decide) (HQ _ _ h)
theorem g_172_191 {X : Nat × (Nat → Int32)} {m : Nat → Nat → Int32} {P : Option ma_V → (Nat → Nat → Int32) → Prop}  (h : if 0 ≤ (m 94 20) then (if (m 94 20) = (3 : Int32) then (zm X 1 21 177 0 [(0, .inr (.inr (some 94))), (1, .inl (16 : Int32)), (2, .inl (1500 : Int32))] m (zmi (fun v4 m3 => if v4 = 0 then (P (some (.inl (0 : Int32))) m3) else (zm X 1 21 177 0 [(0, .inr (.inr (some 94))), (1, .inl (16 : Int32)), (2, .inl (1500 : Int32))] (ma_u m3 94 23 (m3 94 71)) (zmi (fun v6 m5 => if v6 = 0 then (P (some (.inl (0 : Int32))) m5) else (zm X 1 21 177 0 [(0, .inr (.inr (some 94))), (1, .inl (1 : Int32)), (2, .inl (7 : Int32))] (ma_u m5 94 24 (m5 94 71)) (zmi (fun v8 m7 => if v8 = 0 then (P (some (.inl (0 : Int32))) m7) else (zm X 1 21 177 0 [(0, .inr (.inr (some 94))), (1, .inl (4 : Int32)), (2, .inl (64 : Int32))] (ma_u m7 94 25 (m7 94 71)) (zmi (fun v10 m9 => if v10 = 0 then (P (some (.inl (0 : Int32))) m9) else (zm X 3 70 172 311 [(0, .inr (.inr (some 94)))] (ma_u m9 94 26 (m9 94 71)) P))))))))))))) else (zm X 2 47 178 0 [(0, .inr (.inr (some 94)))] m (zmi (fun v2 m1 => if v2 = 0 then (P (some (.inl (0 : Int32))) m1) else (zm X 3 70 172 311 [(0, .inr (.inr (some 94)))] m1 P))))) else (P (some (.inl (0 : Int32))) (ma_u m 94 70 (m 94 68)))) : zm X 3 70 172 191 [(0, .inr (.inr (some 94)))] m P := by
  intro d w S Q hd hw hS hm HQ
  subst hm
  refine zw_push hm_172 dX12_readPolicy_191 (v := .inr (.inr (some 94))) rfl ?_
  refine zw_gf hm_172 dX12_readPolicy_192 (v := .inl ((mI S) 94 20)) (zT_is hS s_94) (zT_t hS s_94) rfl f_12_162_12 rfl ?_
  refine zw_if0 hm_172 dX12_readPolicy_195 (t := 207) rfl zc0_ge ?_ ?_
  · intro hc
    rw [if_pos hc] at h
    refine zw_push hm_172 dX12_readPolicy_207 (v := .inr (.inr (some 94))) rfl ?_
    refine zw_gf hm_172 dX12_readPolicy_208 (v := .inl ((mI S) 94 20)) (zT_is hS s_94) (zT_t hS s_94) rfl f_12_162_12 rfl ?_
    refine zw_push hm_172 dX12_readPolicy_211 (v := .inl (3 : Int32)) rfl ?_
    refine zw_if2 hm_172 dX12_readPolicy_212 (t := 302) rfl zc2_ne ?_ ?_
    · intro hc
      rw [if_neg hc] at h
      refine zw_push hm_172 dX12_readPolicy_302 (v := .inr (.inr (some 94))) rfl ?_
      refine zw_cv hm_172 dX12_readPolicy_303 v_12_177_12 hm_178 [] [] rfl (zT_rt hS s_94 rfl) ⟨by omega, by omega⟩ rfl (h _ _ S _ (by omega) (by omega) hS rfl (fun o9 m1 hv => ?_))
      obtain ⟨v2, rfl, h⟩ := zmi_of hv
      show ma_wp X d w 172 306 [(0, .inr (.inr (some 94)))] [.inl v2] (zst S m1) _
      refine zw_if0 hm_172 dX12_readPolicy_306 (t := 311) rfl zc0_ne ?_ ?_
      · intro hc
        rw [if_neg hc] at h
        exact (h d w _ Q (by omega) (by omega) (zT_zst hS m1) rfl HQ)
      · intro hc
        rw [if_pos (Classical.not_not.mp hc)] at h
        refine zw_push hm_172 dX12_readPolicy_309 (v := .inl (0 : Int32)) rfl ?_
        exact zw_bret hm_172 dX12_readPolicy_310 (by decide) (HQ _ _ h)
    · intro hc
      rw [if_pos (Classical.not_not.mp hc)] at h
      refine zw_push hm_172 dX12_readPolicy_215 (v := .inr (.inr (some 94))) rfl ?_
      refine zw_push hm_172 dX12_readPolicy_216 (v := .inl (16 : Int32)) rfl ?_
      refine zw_push hm_172 dX12_readPolicy_218 (v := .inl (1500 : Int32)) rfl ?_
      refine zw_cv hm_172 dX12_readPolicy_221 v_12_157_12 hm_177 [.inl (1500 : Int32), .inl (16 : Int32)] [] rfl (zT_rt hS s_94 rfl) ⟨by omega, by omega⟩ rfl (h _ _ S _ (by omega) (by omega) hS rfl (fun o9 m3 hv => ?_))
      obtain ⟨v4, rfl, h⟩ := zmi_of hv
      show ma_wp X d w 172 224 [(0, .inr (.inr (some 94)))] [.inl v4] (zst S m3) _
      refine zw_if0 hm_172 dX12_readPolicy_224 (t := 229) rfl zc0_ne ?_ ?_
      · intro hc
        rw [if_neg hc] at h
        refine zw_push hm_172 dX12_readPolicy_229 (v := .inr (.inr (some 94))) rfl ?_
        refine zw_push hm_172 dX12_readPolicy_230 (v := .inr (.inr (some 94))) rfl ?_
        refine zw_gf hm_172 dX12_readPolicy_231 (v := .inl (m3 94 71)) (zT_is (zT_zst hS m3) s_94) (zT_t (zT_zst hS m3) s_94) rfl f_12_147_12 rfl ?_
        refine zw_pf hm_172 dX12_readPolicy_234 (zT_is (zT_zst hS m3) s_94) (zT_t (zT_zst hS m3) s_94) p_12_165_12 zk_int ?_
        refine zw_push hm_172 dX12_readPolicy_237 (v := .inr (.inr (some 94))) rfl ?_
        refine zw_push hm_172 dX12_readPolicy_238 (v := .inl (16 : Int32)) rfl ?_
        refine zw_push hm_172 dX12_readPolicy_240 (v := .inl (1500 : Int32)) rfl ?_
        refine zw_cv hm_172 dX12_readPolicy_243 v_12_157_12 hm_177 [.inl (1500 : Int32), .inl (16 : Int32)] [] rfl (zT_rt (zT_pi (zT_zst hS m3)) s_94 rfl) ⟨by omega, by omega⟩ rfl (h _ _ (ma_put (zst S m3) 94 23 (.inl (m3 94 71))) _ (by omega) (by omega) (zT_pi (zT_zst hS m3)) rfl (fun o9 m5 hv => ?_))
        obtain ⟨v6, rfl, h⟩ := zmi_of hv
        show ma_wp X d w 172 246 [(0, .inr (.inr (some 94)))] [.inl v6] (zst S m5) _
        refine zw_if0 hm_172 dX12_readPolicy_246 (t := 251) rfl zc0_ne ?_ ?_
        · intro hc
          rw [if_neg hc] at h
          refine zw_push hm_172 dX12_readPolicy_251 (v := .inr (.inr (some 94))) rfl ?_
          refine zw_push hm_172 dX12_readPolicy_252 (v := .inr (.inr (some 94))) rfl ?_
          refine zw_gf hm_172 dX12_readPolicy_253 (v := .inl (m5 94 71)) (zT_is (zT_zst hS m5) s_94) (zT_t (zT_zst hS m5) s_94) rfl f_12_147_12 rfl ?_
          refine zw_pf hm_172 dX12_readPolicy_256 (zT_is (zT_zst hS m5) s_94) (zT_t (zT_zst hS m5) s_94) p_12_168_12 zk_int ?_
          refine zw_push hm_172 dX12_readPolicy_259 (v := .inr (.inr (some 94))) rfl ?_
          refine zw_push hm_172 dX12_readPolicy_260 (v := .inl (1 : Int32)) rfl ?_
          refine zw_push hm_172 dX12_readPolicy_261 (v := .inl (7 : Int32)) rfl ?_
          refine zw_cv hm_172 dX12_readPolicy_263 v_12_157_12 hm_177 [.inl (7 : Int32), .inl (1 : Int32)] [] rfl (zT_rt (zT_pi (zT_zst hS m5)) s_94 rfl) ⟨by omega, by omega⟩ rfl (h _ _ (ma_put (zst S m5) 94 24 (.inl (m5 94 71))) _ (by omega) (by omega) (zT_pi (zT_zst hS m5)) rfl (fun o9 m7 hv => ?_))
          obtain ⟨v8, rfl, h⟩ := zmi_of hv
          show ma_wp X d w 172 266 [(0, .inr (.inr (some 94)))] [.inl v8] (zst S m7) _
          refine zw_if0 hm_172 dX12_readPolicy_266 (t := 271) rfl zc0_ne ?_ ?_
          · intro hc
            rw [if_neg hc] at h
            refine zw_push hm_172 dX12_readPolicy_271 (v := .inr (.inr (some 94))) rfl ?_
            refine zw_push hm_172 dX12_readPolicy_272 (v := .inr (.inr (some 94))) rfl ?_
            refine zw_gf hm_172 dX12_readPolicy_273 (v := .inl (m7 94 71)) (zT_is (zT_zst hS m7) s_94) (zT_t (zT_zst hS m7) s_94) rfl f_12_147_12 rfl ?_
            refine zw_pf hm_172 dX12_readPolicy_276 (zT_is (zT_zst hS m7) s_94) (zT_t (zT_zst hS m7) s_94) p_12_171_12 zk_int ?_
            refine zw_push hm_172 dX12_readPolicy_279 (v := .inr (.inr (some 94))) rfl ?_
            refine zw_push hm_172 dX12_readPolicy_280 (v := .inl (4 : Int32)) rfl ?_
            refine zw_push hm_172 dX12_readPolicy_281 (v := .inl (64 : Int32)) rfl ?_
            refine zw_cv hm_172 dX12_readPolicy_283 v_12_157_12 hm_177 [.inl (64 : Int32), .inl (4 : Int32)] [] rfl (zT_rt (zT_pi (zT_zst hS m7)) s_94 rfl) ⟨by omega, by omega⟩ rfl (h _ _ (ma_put (zst S m7) 94 25 (.inl (m7 94 71))) _ (by omega) (by omega) (zT_pi (zT_zst hS m7)) rfl (fun o9 m9 hv => ?_))
            obtain ⟨v10, rfl, h⟩ := zmi_of hv
            show ma_wp X d w 172 286 [(0, .inr (.inr (some 94)))] [.inl v10] (zst S m9) _
            refine zw_if0 hm_172 dX12_readPolicy_286 (t := 291) rfl zc0_ne ?_ ?_
            · intro hc
              rw [if_neg hc] at h
              refine zw_push hm_172 dX12_readPolicy_291 (v := .inr (.inr (some 94))) rfl ?_
              refine zw_push hm_172 dX12_readPolicy_292 (v := .inr (.inr (some 94))) rfl ?_
              refine zw_gf hm_172 dX12_readPolicy_293 (v := .inl (m9 94 71)) (zT_is (zT_zst hS m9) s_94) (zT_t (zT_zst hS m9) s_94) rfl f_12_147_12 rfl ?_
              refine zw_pf hm_172 dX12_readPolicy_296 (zT_is (zT_zst hS m9) s_94) (zT_t (zT_zst hS m9) s_94) p_12_174_12 zk_int ?_
              refine zw_goto hm_172 dX12_readPolicy_299 (t := 311) rfl ?_
              exact (h d w _ Q (by omega) (by omega) (zT_pi (zT_zst hS m9)) rfl HQ)
            · intro hc
              rw [if_pos (Classical.not_not.mp hc)] at h
              refine zw_push hm_172 dX12_readPolicy_289 (v := .inl (0 : Int32)) rfl ?_
              exact zw_bret hm_172 dX12_readPolicy_290 (by decide) (HQ _ _ h)
          · intro hc
            rw [if_pos (Classical.not_not.mp hc)] at h
            refine zw_push hm_172 dX12_readPolicy_269 (v := .inl (0 : Int32)) rfl ?_
            exact zw_bret hm_172 dX12_readPolicy_270 (by decide) (HQ _ _ h)
        · intro hc
          rw [if_pos (Classical.not_not.mp hc)] at h
          refine zw_push hm_172 dX12_readPolicy_249 (v := .inl (0 : Int32)) rfl ?_
          exact zw_bret hm_172 dX12_readPolicy_250 (by decide) (HQ _ _ h)
      · intro hc
        rw [if_pos (Classical.not_not.mp hc)] at h
        refine zw_push hm_172 dX12_readPolicy_227 (v := .inl (0 : Int32)) rfl ?_
        exact zw_bret hm_172 dX12_readPolicy_228 (by decide) (HQ _ _ h)
  · intro hc
    rw [if_neg hc] at h
    refine zw_push hm_172 dX12_readPolicy_198 (v := .inr (.inr (some 94))) rfl ?_
    refine zw_push hm_172 dX12_readPolicy_199 (v := .inr (.inr (some 94))) rfl ?_
    refine zw_gf hm_172 dX12_readPolicy_200 (v := .inl ((mI S) 94 68)) (zT_is hS s_94) (zT_t hS s_94) rfl f_12_127_12 rfl ?_
    refine zw_cv hm_172 dX12_readPolicy_203 v_12_144_12 hm_174 [.inl ((mI S) 94 68)] [] rfl (zT_rt hS s_94 rfl) ⟨by omega, by omega⟩ rfl ?_
    show ma_wp X (d - 1) (w - 21) 174 0 [(0, .inr (.inr (some 94))), (1, .inl ((mI S) 94 68))] [] S _
    refine zw_push hm_174 dX12_wrong_0 (v := .inr (.inr (some 94))) rfl ?_
    refine zw_push hm_174 dX12_wrong_1 (v := .inl ((mI S) 94 68)) rfl ?_
    refine zw_pf hm_174 dX12_wrong_2 (zT_is hS s_94) (zT_t hS s_94) p_12_133_12 zk_int ?_
    refine zw_push hm_174 dX12_wrong_5 (v := .inl (0 : Int32)) rfl ?_
    refine zw_bret hm_174 dX12_wrong_6 (by decide) ?_
    show ma_wp X d w 172 206 [(0, .inr (.inr (some 94)))] [.inl (0 : Int32)] (ma_put S 94 70 (.inl ((mI S) 94 68))) _
    exact zw_bret hm_172 dX12_readPolicy_206 (by decide) (HQ _ _ h)
theorem g_172_311 {X : Nat × (Nat → Int32)} {m : Nat → Nat → Int32} {P : Option ma_V → (Nat → Nat → Int32) → Prop}  (h : if (m 94 20) = 0 then (zm X 2 50 179 0 [(0, .inr (.inr (some 94)))] m (zmi (fun v2 m1 => if v2 = 0 then (P (some (.inl (0 : Int32))) m1) else (zm X 3 70 172 343 [(0, .inr (.inr (some 94)))] m1 P)))) else (if (m 94 20) = (4 : Int32) then (zm X 2 50 179 0 [(0, .inr (.inr (some 94)))] m (zmi (fun v4 m3 => if v4 = 0 then (P (some (.inl (0 : Int32))) m3) else (zm X 3 70 172 343 [(0, .inr (.inr (some 94)))] m3 P)))) else (if (m 94 20) = (5 : Int32) then (zm X 2 50 179 0 [(0, .inr (.inr (some 94)))] m (zmi (fun v6 m5 => if v6 = 0 then (P (some (.inl (0 : Int32))) m5) else (zm X 3 70 172 343 [(0, .inr (.inr (some 94)))] m5 P)))) else (zm X 3 70 172 343 [(0, .inr (.inr (some 94)))] m P)))) : zm X 3 70 172 311 [(0, .inr (.inr (some 94)))] m P := by
  intro d w S Q hd hw hS hm HQ
  subst hm
  refine zw_push hm_172 dX12_readPolicy_311 (v := .inr (.inr (some 94))) rfl ?_
  refine zw_gf hm_172 dX12_readPolicy_312 (v := .inl ((mI S) 94 20)) (zT_is hS s_94) (zT_t hS s_94) rfl f_12_162_12 rfl ?_
  refine zw_if0 hm_172 dX12_readPolicy_315 (t := 334) rfl zc0_eq ?_ ?_
  · intro hc
    rw [if_pos hc] at h
    refine zw_push hm_172 dX12_readPolicy_334 (v := .inr (.inr (some 94))) rfl ?_
    refine zw_cv hm_172 dX12_readPolicy_335 v_12_180_12 hm_179 [] [] rfl (zT_rt hS s_94 rfl) ⟨by omega, by omega⟩ rfl (h _ _ S _ (by omega) (by omega) hS rfl (fun o9 m1 hv => ?_))
    obtain ⟨v2, rfl, h⟩ := zmi_of hv
    show ma_wp X d w 172 338 [(0, .inr (.inr (some 94)))] [.inl v2] (zst S m1) _
    refine zw_if0 hm_172 dX12_readPolicy_338 (t := 343) rfl zc0_ne ?_ ?_
    · intro hc
      rw [if_neg hc] at h
      exact (h d w _ Q (by omega) (by omega) (zT_zst hS m1) rfl HQ)
    · intro hc
      rw [if_pos (Classical.not_not.mp hc)] at h
      refine zw_push hm_172 dX12_readPolicy_341 (v := .inl (0 : Int32)) rfl ?_
      exact zw_bret hm_172 dX12_readPolicy_342 (by decide) (HQ _ _ h)
  · intro hc
    rw [if_neg hc] at h
    refine zw_push hm_172 dX12_readPolicy_318 (v := .inr (.inr (some 94))) rfl ?_
    refine zw_gf hm_172 dX12_readPolicy_319 (v := .inl ((mI S) 94 20)) (zT_is hS s_94) (zT_t hS s_94) rfl f_12_162_12 rfl ?_
    refine zw_push hm_172 dX12_readPolicy_322 (v := .inl (4 : Int32)) rfl ?_
    refine zw_if2 hm_172 dX12_readPolicy_323 (t := 334) rfl zc2_eq ?_ ?_
    · intro hc
      rw [if_pos hc] at h
      refine zw_push hm_172 dX12_readPolicy_334 (v := .inr (.inr (some 94))) rfl ?_
      refine zw_cv hm_172 dX12_readPolicy_335 v_12_180_12 hm_179 [] [] rfl (zT_rt hS s_94 rfl) ⟨by omega, by omega⟩ rfl (h _ _ S _ (by omega) (by omega) hS rfl (fun o9 m3 hv => ?_))
      obtain ⟨v4, rfl, h⟩ := zmi_of hv
      show ma_wp X d w 172 338 [(0, .inr (.inr (some 94)))] [.inl v4] (zst S m3) _
      refine zw_if0 hm_172 dX12_readPolicy_338 (t := 343) rfl zc0_ne ?_ ?_
      · intro hc
        rw [if_neg hc] at h
        exact (h d w _ Q (by omega) (by omega) (zT_zst hS m3) rfl HQ)
      · intro hc
        rw [if_pos (Classical.not_not.mp hc)] at h
        refine zw_push hm_172 dX12_readPolicy_341 (v := .inl (0 : Int32)) rfl ?_
        exact zw_bret hm_172 dX12_readPolicy_342 (by decide) (HQ _ _ h)
    · intro hc
      rw [if_neg hc] at h
      refine zw_push hm_172 dX12_readPolicy_326 (v := .inr (.inr (some 94))) rfl ?_
      refine zw_gf hm_172 dX12_readPolicy_327 (v := .inl ((mI S) 94 20)) (zT_is hS s_94) (zT_t hS s_94) rfl f_12_162_12 rfl ?_
      refine zw_push hm_172 dX12_readPolicy_330 (v := .inl (5 : Int32)) rfl ?_
      refine zw_if2 hm_172 dX12_readPolicy_331 (t := 343) rfl zc2_ne ?_ ?_
      · intro hc
        rw [if_neg hc] at h
        exact (h d w _ Q (by omega) (by omega) hS rfl HQ)
      · intro hc
        rw [if_pos (Classical.not_not.mp hc)] at h
        refine zw_push hm_172 dX12_readPolicy_334 (v := .inr (.inr (some 94))) rfl ?_
        refine zw_cv hm_172 dX12_readPolicy_335 v_12_180_12 hm_179 [] [] rfl (zT_rt hS s_94 rfl) ⟨by omega, by omega⟩ rfl (h _ _ S _ (by omega) (by omega) hS rfl (fun o9 m5 hv => ?_))
        obtain ⟨v6, rfl, h⟩ := zmi_of hv
        show ma_wp X d w 172 338 [(0, .inr (.inr (some 94)))] [.inl v6] (zst S m5) _
        refine zw_if0 hm_172 dX12_readPolicy_338 (t := 343) rfl zc0_ne ?_ ?_
        · intro hc
          rw [if_neg hc] at h
          exact (h d w _ Q (by omega) (by omega) (zT_zst hS m5) rfl HQ)
        · intro hc
          rw [if_pos (Classical.not_not.mp hc)] at h
          refine zw_push hm_172 dX12_readPolicy_341 (v := .inl (0 : Int32)) rfl ?_
          exact zw_bret hm_172 dX12_readPolicy_342 (by decide) (HQ _ _ h)
theorem g_172_343 {X : Nat × (Nat → Int32)} {m : Nat → Nat → Int32} {P : Option ma_V → (Nat → Nat → Int32) → Prop}  (h : if (m 94 20) = (5 : Int32) then (zm X 1 21 177 0 [(0, .inr (.inr (some 94))), (1, .inl (1 : Int32)), (2, .inl (50 : Int32))] m (zmi (fun v2 m1 => if v2 = 0 then (P (some (.inl (0 : Int32))) m1) else (zm X 0 0 173 0 [(0, .inr (.inr (some 94)))] (ma_u m1 94 27 (m1 94 71)) (zmi (fun v4 m3 => if v4 = 0 then (P (some (.inl (0 : Int32))) (ma_u m3 94 70 (m3 94 4))) else (zm X 1 22 175 0 [(0, .inr (.inr (some 94))), (1, .inl (112 : Int32)), (2, .inl (105 : Int32)), (3, .inl (99 : Int32)), (4, .inl (116 : Int32)), (5, .inl (117 : Int32)), (6, .inl (114 : Int32)), (7, .inl (101 : Int32))] m3 (zmi (fun v6 m5 => (v6 = 0 ∨ v6 = 1) ∧ (if v6 = 0 then (zm X 1 22 175 0 [(0, .inr (.inr (some 94))), (1, .inl (110 : Int32)), (2, .inl (101 : Int32)), (3, .inl (119 : Int32)), (4, .inl (115 : Int32)), (5, .inl (0 : Int32)), (6, .inl (0 : Int32)), (7, .inl (0 : Int32))] (ma_u m5 94 30 v6) (zmi (fun v8 m7 => if v8 = 0 then (P (some (.inl (0 : Int32))) (ma_u m7 94 70 (m7 94 68))) else (zm X 3 70 172 443 [(0, .inr (.inr (some 94)))] m7 P)))) else (zm X 3 70 172 443 [(0, .inr (.inr (some 94)))] (ma_u m5 94 30 v6) P))))))))))) else (zm X 3 70 172 443 [(0, .inr (.inr (some 94)))] m P)) : zm X 3 70 172 343 [(0, .inr (.inr (some 94)))] m P := by
  intro d w S Q hd hw hS hm HQ
  subst hm
  refine zw_push hm_172 dX12_readPolicy_343 (v := .inr (.inr (some 94))) rfl ?_
  refine zw_gf hm_172 dX12_readPolicy_344 (v := .inl ((mI S) 94 20)) (zT_is hS s_94) (zT_t hS s_94) rfl f_12_162_12 rfl ?_
  refine zw_push hm_172 dX12_readPolicy_347 (v := .inl (5 : Int32)) rfl ?_
  refine zw_if2 hm_172 dX12_readPolicy_348 (t := 443) rfl zc2_ne ?_ ?_
  · intro hc
    rw [if_neg hc] at h
    exact (h d w _ Q (by omega) (by omega) hS rfl HQ)
  · intro hc
    rw [if_pos (Classical.not_not.mp hc)] at h
    refine zw_push hm_172 dX12_readPolicy_351 (v := .inr (.inr (some 94))) rfl ?_
    refine zw_push hm_172 dX12_readPolicy_352 (v := .inl (1 : Int32)) rfl ?_
    refine zw_push hm_172 dX12_readPolicy_353 (v := .inl (50 : Int32)) rfl ?_
    refine zw_cv hm_172 dX12_readPolicy_355 v_12_157_12 hm_177 [.inl (50 : Int32), .inl (1 : Int32)] [] rfl (zT_rt hS s_94 rfl) ⟨by omega, by omega⟩ rfl (h _ _ S _ (by omega) (by omega) hS rfl (fun o9 m1 hv => ?_))
    obtain ⟨v2, rfl, h⟩ := zmi_of hv
    show ma_wp X d w 172 358 [(0, .inr (.inr (some 94)))] [.inl v2] (zst S m1) _
    refine zw_if0 hm_172 dX12_readPolicy_358 (t := 363) rfl zc0_ne ?_ ?_
    · intro hc
      rw [if_neg hc] at h
      refine zw_push hm_172 dX12_readPolicy_363 (v := .inr (.inr (some 94))) rfl ?_
      refine zw_push hm_172 dX12_readPolicy_364 (v := .inr (.inr (some 94))) rfl ?_
      refine zw_gf hm_172 dX12_readPolicy_365 (v := .inl (m1 94 71)) (zT_is (zT_zst hS m1) s_94) (zT_t (zT_zst hS m1) s_94) rfl f_12_147_12 rfl ?_
      refine zw_pf hm_172 dX12_readPolicy_368 (zT_is (zT_zst hS m1) s_94) (zT_t (zT_zst hS m1) s_94) p_12_183_12 zk_int ?_
      refine zw_push hm_172 dX12_readPolicy_371 (v := .inr (.inr (some 94))) rfl ?_
      refine zw_cv hm_172 dX12_readPolicy_372 v_12_140_12 hm_173 [] [] rfl (zT_rt (zT_pi (zT_zst hS m1)) s_94 rfl) ⟨by omega, by omega⟩ rfl (h _ _ (ma_put (zst S m1) 94 27 (.inl (m1 94 71))) _ (by omega) (by omega) (zT_pi (zT_zst hS m1)) rfl (fun o9 m3 hv => ?_))
      obtain ⟨v4, rfl, h⟩ := zmi_of hv
      show ma_wp X d w 172 375 [(0, .inr (.inr (some 94)))] [.inl v4] (zst S m3) _
      refine zw_if0 hm_172 dX12_readPolicy_375 (t := 387) rfl zc0_ne ?_ ?_
      · intro hc
        rw [if_neg hc] at h
        refine zw_push hm_172 dX12_readPolicy_387 (v := .inr (.inr (some 94))) rfl ?_
        refine zw_push hm_172 dX12_readPolicy_388 (v := .inr (.inr (some 94))) rfl ?_
        refine zw_push hm_172 dX12_readPolicy_389 (v := .inl (112 : Int32)) rfl ?_
        refine zw_push hm_172 dX12_readPolicy_391 (v := .inl (105 : Int32)) rfl ?_
        refine zw_push hm_172 dX12_readPolicy_393 (v := .inl (99 : Int32)) rfl ?_
        refine zw_push hm_172 dX12_readPolicy_395 (v := .inl (116 : Int32)) rfl ?_
        refine zw_push hm_172 dX12_readPolicy_397 (v := .inl (117 : Int32)) rfl ?_
        refine zw_push hm_172 dX12_readPolicy_399 (v := .inl (114 : Int32)) rfl ?_
        refine zw_push hm_172 dX12_readPolicy_401 (v := .inl (101 : Int32)) rfl ?_
        refine zw_cv hm_172 dX12_readPolicy_403 v_12_150_12 hm_175 [.inl (101 : Int32), .inl (114 : Int32), .inl (117 : Int32), .inl (116 : Int32), .inl (99 : Int32), .inl (105 : Int32), .inl (112 : Int32)] [.inr (.inr (some 94))] rfl (zT_rt (zT_zst hS m3) s_94 rfl) ⟨by omega, by omega⟩ rfl (h _ _ (zst S m3) _ (by omega) (by omega) (zT_zst hS m3) rfl (fun o9 m5 hv => ?_))
        obtain ⟨v6, rfl, h⟩ := zmi_of hv
        show ma_wp X d w 172 406 [(0, .inr (.inr (some 94)))] [.inl v6, .inr (.inr (some 94))] (zst S m5) _
        obtain ⟨hg2, h⟩ := h
        refine zw_pf hm_172 dX12_readPolicy_406 (zT_is (zT_zst hS m5) s_94) (zT_t (zT_zst hS m5) s_94) p_12_186_12 (zk_bool hg2) ?_
        refine zw_push hm_172 dX12_readPolicy_409 (v := .inr (.inr (some 94))) rfl ?_
        refine zw_gf hm_172 dX12_readPolicy_410 (v := .inl v6) (zT_is (zT_pi (zT_zst hS m5)) s_94) (zT_t (zT_pi (zT_zst hS m5)) s_94) rfl f_12_186_12 rfl ?_
        refine zw_if0 hm_172 dX12_readPolicy_413 (t := 443) rfl zc0_ne ?_ ?_
        · intro hc
          rw [if_neg hc] at h
          exact (h d w _ Q (by omega) (by omega) (zT_pi (zT_zst hS m5)) rfl HQ)
        · intro hc
          rw [if_pos (Classical.not_not.mp hc)] at h
          refine zw_push hm_172 dX12_readPolicy_416 (v := .inr (.inr (some 94))) rfl ?_
          refine zw_push hm_172 dX12_readPolicy_417 (v := .inl (110 : Int32)) rfl ?_
          refine zw_push hm_172 dX12_readPolicy_419 (v := .inl (101 : Int32)) rfl ?_
          refine zw_push hm_172 dX12_readPolicy_421 (v := .inl (119 : Int32)) rfl ?_
          refine zw_push hm_172 dX12_readPolicy_423 (v := .inl (115 : Int32)) rfl ?_
          refine zw_push hm_172 dX12_readPolicy_425 (v := .inl (0 : Int32)) rfl ?_
          refine zw_push hm_172 dX12_readPolicy_426 (v := .inl (0 : Int32)) rfl ?_
          refine zw_push hm_172 dX12_readPolicy_427 (v := .inl (0 : Int32)) rfl ?_
          refine zw_cv hm_172 dX12_readPolicy_428 v_12_150_12 hm_175 [.inl (0 : Int32), .inl (0 : Int32), .inl (0 : Int32), .inl (115 : Int32), .inl (119 : Int32), .inl (101 : Int32), .inl (110 : Int32)] [] rfl (zT_rt (zT_pi (zT_zst hS m5)) s_94 rfl) ⟨by omega, by omega⟩ rfl (h _ _ (ma_put (zst S m5) 94 30 (.inl v6)) _ (by omega) (by omega) (zT_pi (zT_zst hS m5)) rfl (fun o9 m7 hv => ?_))
          obtain ⟨v8, rfl, h⟩ := zmi_of hv
          show ma_wp X d w 172 431 [(0, .inr (.inr (some 94)))] [.inl v8] (zst S m7) _
          refine zw_if0 hm_172 dX12_readPolicy_431 (t := 443) rfl zc0_ne ?_ ?_
          · intro hc
            rw [if_neg hc] at h
            exact (h d w _ Q (by omega) (by omega) (zT_zst hS m7) rfl HQ)
          · intro hc
            rw [if_pos (Classical.not_not.mp hc)] at h
            refine zw_push hm_172 dX12_readPolicy_434 (v := .inr (.inr (some 94))) rfl ?_
            refine zw_push hm_172 dX12_readPolicy_435 (v := .inr (.inr (some 94))) rfl ?_
            refine zw_gf hm_172 dX12_readPolicy_436 (v := .inl (m7 94 68)) (zT_is (zT_zst hS m7) s_94) (zT_t (zT_zst hS m7) s_94) rfl f_12_127_12 rfl ?_
            refine zw_cv hm_172 dX12_readPolicy_439 v_12_144_12 hm_174 [.inl (m7 94 68)] [] rfl (zT_rt (zT_zst hS m7) s_94 rfl) ⟨by omega, by omega⟩ rfl ?_
            show ma_wp X (d - 1) (w - 21) 174 0 [(0, .inr (.inr (some 94))), (1, .inl (m7 94 68))] [] (zst S m7) _
            refine zw_push hm_174 dX12_wrong_0 (v := .inr (.inr (some 94))) rfl ?_
            refine zw_push hm_174 dX12_wrong_1 (v := .inl (m7 94 68)) rfl ?_
            refine zw_pf hm_174 dX12_wrong_2 (zT_is (zT_zst hS m7) s_94) (zT_t (zT_zst hS m7) s_94) p_12_133_12 zk_int ?_
            refine zw_push hm_174 dX12_wrong_5 (v := .inl (0 : Int32)) rfl ?_
            refine zw_bret hm_174 dX12_wrong_6 (by decide) ?_
            show ma_wp X d w 172 442 [(0, .inr (.inr (some 94)))] [.inl (0 : Int32)] (ma_put (zst S m7) 94 70 (.inl (m7 94 68))) _
            exact zw_bret hm_172 dX12_readPolicy_442 (by decide) (HQ _ _ h)
      · intro hc
        rw [if_pos (Classical.not_not.mp hc)] at h
        refine zw_push hm_172 dX12_readPolicy_378 (v := .inr (.inr (some 94))) rfl ?_
        refine zw_push hm_172 dX12_readPolicy_379 (v := .inr (.inr (some 94))) rfl ?_
        refine zw_gf hm_172 dX12_readPolicy_380 (v := .inl (m3 94 4)) (zT_is (zT_zst hS m3) s_94) (zT_t (zT_zst hS m3) s_94) rfl f_12_124_12 rfl ?_
        refine zw_cv hm_172 dX12_readPolicy_383 v_12_144_12 hm_174 [.inl (m3 94 4)] [] rfl (zT_rt (zT_zst hS m3) s_94 rfl) ⟨by omega, by omega⟩ rfl ?_
        show ma_wp X (d - 1) (w - 21) 174 0 [(0, .inr (.inr (some 94))), (1, .inl (m3 94 4))] [] (zst S m3) _
        refine zw_push hm_174 dX12_wrong_0 (v := .inr (.inr (some 94))) rfl ?_
        refine zw_push hm_174 dX12_wrong_1 (v := .inl (m3 94 4)) rfl ?_
        refine zw_pf hm_174 dX12_wrong_2 (zT_is (zT_zst hS m3) s_94) (zT_t (zT_zst hS m3) s_94) p_12_133_12 zk_int ?_
        refine zw_push hm_174 dX12_wrong_5 (v := .inl (0 : Int32)) rfl ?_
        refine zw_bret hm_174 dX12_wrong_6 (by decide) ?_
        show ma_wp X d w 172 386 [(0, .inr (.inr (some 94)))] [.inl (0 : Int32)] (ma_put (zst S m3) 94 70 (.inl (m3 94 4))) _
        exact zw_bret hm_172 dX12_readPolicy_386 (by decide) (HQ _ _ h)
    · intro hc
      rw [if_pos (Classical.not_not.mp hc)] at h
      refine zw_push hm_172 dX12_readPolicy_361 (v := .inl (0 : Int32)) rfl ?_
      exact zw_bret hm_172 dX12_readPolicy_362 (by decide) (HQ _ _ h)
theorem g_172_443 {X : Nat × (Nat → Int32)} {m : Nat → Nat → Int32} {P : Option ma_V → (Nat → Nat → Int32) → Prop}  (h : if (m 94 20) = (6 : Int32) then (zm X 1 21 177 0 [(0, .inr (.inr (some 94))), (1, .inl (16 : Int32)), (2, .inl (256 : Int32))] m (zmi (fun v2 m1 => if v2 = 0 then (P (some (.inl (0 : Int32))) m1) else (if ((4 : Int32) * (m1 94 71)) ≤ (m1 94 21) then (zm X 1 21 177 0 [(0, .inr (.inr (some 94))), (1, .inl (0 : Int32)), (2, .inl (100 : Int32))] (ma_u m1 94 28 (m1 94 71)) (zmi (fun v4 m3 => if v4 = 0 then (P (some (.inl (0 : Int32))) m3) else (zm X 3 70 172 516 [(0, .inr (.inr (some 94)))] (ma_u m3 94 29 (m3 94 71)) P)))) else (P (some (.inl (0 : Int32))) (ma_u (ma_u m1 94 28 (m1 94 71)) 94 70 (m1 94 68))))))) else (zm X 3 70 172 516 [(0, .inr (.inr (some 94)))] m P)) : zm X 3 70 172 443 [(0, .inr (.inr (some 94)))] m P := by
  intro d w S Q hd hw hS hm HQ
  subst hm
  refine zw_push hm_172 dX12_readPolicy_443 (v := .inr (.inr (some 94))) rfl ?_
  refine zw_gf hm_172 dX12_readPolicy_444 (v := .inl ((mI S) 94 20)) (zT_is hS s_94) (zT_t hS s_94) rfl f_12_162_12 rfl ?_
  refine zw_push hm_172 dX12_readPolicy_447 (v := .inl (6 : Int32)) rfl ?_
  refine zw_if2 hm_172 dX12_readPolicy_449 (t := 516) rfl zc2_ne ?_ ?_
  · intro hc
    rw [if_neg hc] at h
    exact (h d w _ Q (by omega) (by omega) hS rfl HQ)
  · intro hc
    rw [if_pos (Classical.not_not.mp hc)] at h
    refine zw_push hm_172 dX12_readPolicy_452 (v := .inr (.inr (some 94))) rfl ?_
    refine zw_push hm_172 dX12_readPolicy_453 (v := .inl (16 : Int32)) rfl ?_
    refine zw_push hm_172 dX12_readPolicy_455 (v := .inl (256 : Int32)) rfl ?_
    refine zw_cv hm_172 dX12_readPolicy_458 v_12_157_12 hm_177 [.inl (256 : Int32), .inl (16 : Int32)] [] rfl (zT_rt hS s_94 rfl) ⟨by omega, by omega⟩ rfl (h _ _ S _ (by omega) (by omega) hS rfl (fun o9 m1 hv => ?_))
    obtain ⟨v2, rfl, h⟩ := zmi_of hv
    show ma_wp X d w 172 461 [(0, .inr (.inr (some 94)))] [.inl v2] (zst S m1) _
    refine zw_if0 hm_172 dX12_readPolicy_461 (t := 466) rfl zc0_ne ?_ ?_
    · intro hc
      rw [if_neg hc] at h
      refine zw_push hm_172 dX12_readPolicy_466 (v := .inr (.inr (some 94))) rfl ?_
      refine zw_push hm_172 dX12_readPolicy_467 (v := .inr (.inr (some 94))) rfl ?_
      refine zw_gf hm_172 dX12_readPolicy_468 (v := .inl (m1 94 71)) (zT_is (zT_zst hS m1) s_94) (zT_t (zT_zst hS m1) s_94) rfl f_12_147_12 rfl ?_
      refine zw_pf hm_172 dX12_readPolicy_471 (zT_is (zT_zst hS m1) s_94) (zT_t (zT_zst hS m1) s_94) p_12_190_12 zk_int ?_
      refine zw_push hm_172 dX12_readPolicy_474 (v := .inl (4 : Int32)) rfl ?_
      refine zw_push hm_172 dX12_readPolicy_475 (v := .inr (.inr (some 94))) rfl ?_
      refine zw_gf hm_172 dX12_readPolicy_476 (v := .inl (m1 94 71)) (zT_is (zT_pi (zT_zst hS m1)) s_94) (zT_t (zT_pi (zT_zst hS m1)) s_94) rfl f_12_190_12 rfl ?_
      refine zw_stk hm_172 dX12_readPolicy_479 (st₉ := [.inl ((4 : Int32) * (m1 94 71))]) rfl rfl ?_
      refine zw_push hm_172 dX12_readPolicy_480 (v := .inr (.inr (some 94))) rfl ?_
      refine zw_gf hm_172 dX12_readPolicy_481 (v := .inl (m1 94 21)) (zT_is (zT_pi (zT_zst hS m1)) s_94) (zT_t (zT_pi (zT_zst hS m1)) s_94) rfl f_12_159_12 rfl ?_
      refine zw_if2 hm_172 dX12_readPolicy_484 (t := 496) rfl zc2_le ?_ ?_
      · intro hc
        rw [if_pos hc] at h
        refine zw_push hm_172 dX12_readPolicy_496 (v := .inr (.inr (some 94))) rfl ?_
        refine zw_push hm_172 dX12_readPolicy_497 (v := .inl (0 : Int32)) rfl ?_
        refine zw_push hm_172 dX12_readPolicy_498 (v := .inl (100 : Int32)) rfl ?_
        refine zw_cv hm_172 dX12_readPolicy_500 v_12_157_12 hm_177 [.inl (100 : Int32), .inl (0 : Int32)] [] rfl (zT_rt (zT_pi (zT_zst hS m1)) s_94 rfl) ⟨by omega, by omega⟩ rfl (h _ _ (ma_put (zst S m1) 94 28 (.inl (m1 94 71))) _ (by omega) (by omega) (zT_pi (zT_zst hS m1)) rfl (fun o9 m3 hv => ?_))
        obtain ⟨v4, rfl, h⟩ := zmi_of hv
        show ma_wp X d w 172 503 [(0, .inr (.inr (some 94)))] [.inl v4] (zst S m3) _
        refine zw_if0 hm_172 dX12_readPolicy_503 (t := 508) rfl zc0_ne ?_ ?_
        · intro hc
          rw [if_neg hc] at h
          refine zw_push hm_172 dX12_readPolicy_508 (v := .inr (.inr (some 94))) rfl ?_
          refine zw_push hm_172 dX12_readPolicy_509 (v := .inr (.inr (some 94))) rfl ?_
          refine zw_gf hm_172 dX12_readPolicy_510 (v := .inl (m3 94 71)) (zT_is (zT_zst hS m3) s_94) (zT_t (zT_zst hS m3) s_94) rfl f_12_147_12 rfl ?_
          refine zw_pf hm_172 dX12_readPolicy_513 (zT_is (zT_zst hS m3) s_94) (zT_t (zT_zst hS m3) s_94) p_12_193_12 zk_int ?_
          exact (h d w _ Q (by omega) (by omega) (zT_pi (zT_zst hS m3)) rfl HQ)
        · intro hc
          rw [if_pos (Classical.not_not.mp hc)] at h
          refine zw_push hm_172 dX12_readPolicy_506 (v := .inl (0 : Int32)) rfl ?_
          exact zw_bret hm_172 dX12_readPolicy_507 (by decide) (HQ _ _ h)
      · intro hc
        rw [if_neg hc] at h
        refine zw_push hm_172 dX12_readPolicy_487 (v := .inr (.inr (some 94))) rfl ?_
        refine zw_push hm_172 dX12_readPolicy_488 (v := .inr (.inr (some 94))) rfl ?_
        refine zw_gf hm_172 dX12_readPolicy_489 (v := .inl (m1 94 68)) (zT_is (zT_pi (zT_zst hS m1)) s_94) (zT_t (zT_pi (zT_zst hS m1)) s_94) rfl f_12_127_12 rfl ?_
        refine zw_cv hm_172 dX12_readPolicy_492 v_12_144_12 hm_174 [.inl (m1 94 68)] [] rfl (zT_rt (zT_pi (zT_zst hS m1)) s_94 rfl) ⟨by omega, by omega⟩ rfl ?_
        show ma_wp X (d - 1) (w - 21) 174 0 [(0, .inr (.inr (some 94))), (1, .inl (m1 94 68))] [] (ma_put (zst S m1) 94 28 (.inl (m1 94 71))) _
        refine zw_push hm_174 dX12_wrong_0 (v := .inr (.inr (some 94))) rfl ?_
        refine zw_push hm_174 dX12_wrong_1 (v := .inl (m1 94 68)) rfl ?_
        refine zw_pf hm_174 dX12_wrong_2 (zT_is (zT_pi (zT_zst hS m1)) s_94) (zT_t (zT_pi (zT_zst hS m1)) s_94) p_12_133_12 zk_int ?_
        refine zw_push hm_174 dX12_wrong_5 (v := .inl (0 : Int32)) rfl ?_
        refine zw_bret hm_174 dX12_wrong_6 (by decide) ?_
        show ma_wp X d w 172 495 [(0, .inr (.inr (some 94)))] [.inl (0 : Int32)] (ma_put (ma_put (zst S m1) 94 28 (.inl (m1 94 71))) 94 70 (.inl (m1 94 68))) _
        exact zw_bret hm_172 dX12_readPolicy_495 (by decide) (HQ _ _ h)
    · intro hc
      rw [if_pos (Classical.not_not.mp hc)] at h
      refine zw_push hm_172 dX12_readPolicy_464 (v := .inl (0 : Int32)) rfl ?_
      exact zw_bret hm_172 dX12_readPolicy_465 (by decide) (HQ _ _ h)
theorem g_172_516 {X : Nat × (Nat → Int32)} {m : Nat → Nat → Int32} {P : Option ma_V → (Nat → Nat → Int32) → Prop}  (h : zm X 0 0 173 0 [(0, .inr (.inr (some 94)))] m (zmi (fun v2 m1 => if v2 = 0 then (P (some (.inl (1 : Int32))) m1) else (P (some (.inl (0 : Int32))) (ma_u m1 94 70 (m1 94 68)))))) : zm X 3 70 172 516 [(0, .inr (.inr (some 94)))] m P := by
  intro d w S Q hd hw hS hm HQ
  subst hm
  refine zw_push hm_172 dX12_readPolicy_516 (v := .inr (.inr (some 94))) rfl ?_
  refine zw_cv hm_172 dX12_readPolicy_517 v_12_140_12 hm_173 [] [] rfl (zT_rt hS s_94 rfl) ⟨by omega, by omega⟩ rfl (h _ _ S _ (by omega) (by omega) hS rfl (fun o9 m1 hv => ?_))
  obtain ⟨v2, rfl, h⟩ := zmi_of hv
  show ma_wp X d w 172 520 [(0, .inr (.inr (some 94)))] [.inl v2] (zst S m1) _
  refine zw_if0 hm_172 dX12_readPolicy_520 (t := 534) rfl zc0_eq ?_ ?_
  · intro hc
    rw [if_pos hc] at h
    refine zw_push hm_172 dX12_readPolicy_534 (v := .inl (1 : Int32)) rfl ?_
    refine zw_goto hm_172 dX12_readPolicy_535 (t := 539) rfl ?_
    exact zw_bret hm_172 dX12_readPolicy_539 (by decide) (HQ _ _ h)
  · intro hc
    rw [if_neg hc] at h
    refine zw_push hm_172 dX12_readPolicy_523 (v := .inr (.inr (some 94))) rfl ?_
    refine zw_push hm_172 dX12_readPolicy_524 (v := .inr (.inr (some 94))) rfl ?_
    refine zw_gf hm_172 dX12_readPolicy_525 (v := .inl (m1 94 68)) (zT_is (zT_zst hS m1) s_94) (zT_t (zT_zst hS m1) s_94) rfl f_12_127_12 rfl ?_
    refine zw_cv hm_172 dX12_readPolicy_528 v_12_144_12 hm_174 [.inl (m1 94 68)] [] rfl (zT_rt (zT_zst hS m1) s_94 rfl) ⟨by omega, by omega⟩ rfl ?_
    show ma_wp X (d - 1) (w - 21) 174 0 [(0, .inr (.inr (some 94))), (1, .inl (m1 94 68))] [] (zst S m1) _
    refine zw_push hm_174 dX12_wrong_0 (v := .inr (.inr (some 94))) rfl ?_
    refine zw_push hm_174 dX12_wrong_1 (v := .inl (m1 94 68)) rfl ?_
    refine zw_pf hm_174 dX12_wrong_2 (zT_is (zT_zst hS m1) s_94) (zT_t (zT_zst hS m1) s_94) p_12_133_12 zk_int ?_
    refine zw_push hm_174 dX12_wrong_5 (v := .inl (0 : Int32)) rfl ?_
    refine zw_bret hm_174 dX12_wrong_6 (by decide) ?_
    show ma_wp X d w 172 531 [(0, .inr (.inr (some 94)))] [.inl (0 : Int32)] (ma_put (zst S m1) 94 70 (.inl (m1 94 68))) _
    refine zw_if0 hm_172 dX12_readPolicy_531 (t := 538) rfl zc0_eq (fun _ => ?_) (fun hc => absurd (by decide) hc)
    refine zw_push hm_172 dX12_readPolicy_538 (v := .inl (0 : Int32)) rfl ?_
    exact zw_bret hm_172 dX12_readPolicy_539 (by decide) (HQ _ _ h)
/-! from 94.468 -/
/-! an empty heap -/
section EM1
variable {m : Nat → Nat → Int32} {c : Nat} {i j x : Int32} {r us at₉ ow ws di kr kd wd rt wk wi : Nat → Int32} {n : Nat} {b : Nat → Bool} {po ro yo ol ca hf tp ot si rg pr wm : Int32} {T : Nat}
theorem neg_step (h : ∀ s : Nat, (s : Int) < i.toInt → (m c s).toInt < 0) (h0 : 0 ≤ i.toInt) (e : j.toInt = i.toInt + 1) (hx : x.toInt < 0) : ∀ s : Nat, (s : Int) < j.toInt → (ma_u m c i.toNatClampNeg x c s).toInt < 0 := by
  intro s hs
  rw [mu_at]
  split
  · exact hx
  · next q => exact h s (by rw [tn_eq] at q; omega)
theorem cnt_zero (h : ∀ s : Nat, s < n → r s = 0) : cnt r n = 0 := by
  induction n with
  | zero => rfl
  | succ n ih =>
    unfold cnt
    rw [ih (fun s hs => h s (by omega)), if_pos (h n (by omega))]
theorem sm_zero (h : ∀ s : Nat, s < n → b s = false) : sm b ws n = 0 := by
  induction n with
  | zero => rfl
  | succ n ih =>
    unfold sm
    rw [ih (fun s hs => h s (by omega)), h n (by omega)]
    simp
theorem GU_e (h : ∀ s : Nat, s < 3100 → us s = 0) (hx : x.toInt = 0) (hT : T ≤ 3000) : zGU T x us := by
  refine ⟨?_, ?_, hT⟩
  · rw [cnt_zero h]; omega
  · omega
theorem OW_e (h : ∀ s : Nat, s < 4600 → (ow s).toInt < 0) : zOw us at₉ ow := fun p hp z => by have := h p hp; omega
theorem DX_e (h : ∀ s : Nat, s < 3100 → us s = 0) (hr : ∀ s : Nat, (s : Int) < 16 → (rt s).toInt < 0) (hk : ∀ s : Nat, (s : Int) < 16 → (wk s).toInt < 0) (hw : wm.toInt = 0) : zDX po us rt wk wi wm kr kd ws wd := fun _ => ⟨fun k hk₉ => Or.inl (hr k hk₉), fun k hk₉ => Or.inl (hk k hk₉), fun k hk₉ => by omega, fun s hs hu => absurd (h s hs) hu⟩
theorem HA_e (h : ∀ s : Nat, s < 3100 → us s = 0) (h2 : po.toInt = 2 → tp.toInt = 0 ∧ 0 ≤ ro.toInt) (h3 : po.toInt = 3 → tp.toInt = ol.toInt ∧ 0 ≤ yo.toInt ∧ 0 ≤ ol.toInt ∧ 4 ≤ ca.toInt) (hf0 : hf.toInt = 0) (ho : ot.toInt = 0) : zHA po ro yo ol ca hf tp ot us ws at₉ ow di kr kd wd := by
  refine ⟨fun e => ?_, fun e => ?_⟩
  · have a := h2 e
    have s0 : sm (zbU us) ws 3100 = 0 := sm_zero (fun s hs => by unfold zbU; simp [h s hs])
    unfold zB2
    rw [if_pos hf0, s0]
    omega
  · have a := h3 e
    have s0 : sm (zbY ol.toInt us at₉) ws 3100 = 0 := sm_zero (fun s hs => by unfold zbY; simp [h s hs])
    unfold zB3
    rw [if_pos hf0, s0]
    exact ⟨a.2.2.2, by omega, by omega, fun s hs hu => absurd (h s hs) hu, fun s hs hu => absurd (h s hs) hu⟩
theorem RG_e (h : ∀ s : Nat, s < 3100 → us s = 0) (hs : 16 ≤ si.toInt) (hr : 4 * si.toInt ≤ ro.toInt) (hb : ro.toInt ≤ 1500) (e : rg = ro / si) (hp : pr.toInt = 0) (ht : ∀ s : Nat, s < 128 → rt s = 0) (hg : rg.toInt ≤ 93) : zRG1 si rg pr us at₉ ws rt := by
  have d := i_div (x := ro) (y := si) (by omega) (by omega)
  have g4 : 1 ≤ rg.toInt := by
    refine Classical.byContradiction (fun z => ?_)
    rw [e, d.2.2.1] at z
    have := Int.le_ediv_of_mul_le (a := 4) (b := ro.toInt) (c := si.toInt) (by omega) hr
    omega
  refine ⟨hs, g4, ?_, ⟨by omega, by omega⟩, fun r hr₉ => ?_, fun s hs₉ hu => absurd (h s hs₉) hu⟩
  · rw [e]
    have := d.2.2.2
    omega
  · rw [ht r (by omega)]
    have : (0 : Int32).toInt = 0 := rfl
    omega
end EM1

/-! from 94.469 -/
/-! the reference (written by wip/tools/gen94m.py) -/
set_option maxRecDepth 100000 in
theorem hm_180 : ma_md 180 = some (12, yX12_empty, cX12_empty, 2, none) := rfl
theorem p_12_234_12 : ma_pk 12 234 12 64 = true := by decide +kernel
theorem p_12_237_12 : ma_pk 12 237 12 8 = true := by decide +kernel
theorem p_12_246_12 : ma_pk 12 246 12 46 = true := by decide +kernel
theorem p_12_273_12 : ma_pk 12 273 12 61 = true := by decide +kernel
theorem p_12_279_12 : ma_pk 12 279 12 60 = true := by decide +kernel
theorem p_12_282_12 : ma_pk 12 282 12 62 = true := by decide +kernel
theorem dX12_empty_0 : decode cX12_empty 0 = .ok (.aload_n 0, 1) := by decide +kernel
theorem dX12_empty_1 : decode cX12_empty 1 = .ok (.iconst 1, 1) := by decide +kernel
theorem dX12_empty_5 : decode cX12_empty 5 = .ok (.iconst 0, 1) := by decide +kernel
theorem dX12_empty_6 : decode cX12_empty 6 = .ok (.istore_n 1, 1) := by decide +kernel
theorem dX12_empty_2 : decode cX12_empty 2 = .ok (.putfield 237, 3) := by decide +kernel
theorem dX12_empty_7 : decode cX12_empty 7 = .ok (.iload_n 1, 1) := by decide +kernel
theorem dX12_empty_8 : decode cX12_empty 8 = .ok (.sipush 3100, 3) := by decide +kernel
theorem dX12_empty_27 : decode cX12_empty 27 = .ok (.iconst 0, 1) := by decide +kernel
theorem dX12_empty_28 : decode cX12_empty 28 = .ok (.istore_n 1, 1) := by decide +kernel
theorem dX12_empty_14 : decode cX12_empty 14 = .ok (.aload_n 0, 1) := by decide +kernel
theorem dX12_empty_18 : decode cX12_empty 18 = .ok (.iload_n 1, 1) := by decide +kernel
theorem dX12_empty_19 : decode cX12_empty 19 = .ok (.iconst 0, 1) := by decide +kernel
theorem dX12_empty_21 : decode cX12_empty 21 = .ok (.iinc 1 1, 3) := by decide +kernel
theorem dX12_empty_24 : decode cX12_empty 24 = .ok (.goto (-17), 3) := by decide +kernel
theorem dX12_empty_20 : decode cX12_empty 20 = .ok (.bastore, 1) := by decide +kernel
theorem dX12_empty_15 : decode cX12_empty 15 = .ok (.getfield 27, 3) := by decide +kernel
theorem dX12_empty_11 : decode cX12_empty 11 = .ok (.if_icmp .ge 16, 3) := by decide +kernel
theorem dX12_empty_29 : decode cX12_empty 29 = .ok (.iload_n 1, 1) := by decide +kernel
theorem dX12_empty_30 : decode cX12_empty 30 = .ok (.sipush 4600, 3) := by decide +kernel
theorem dX12_empty_49 : decode cX12_empty 49 = .ok (.iconst 0, 1) := by decide +kernel
theorem dX12_empty_50 : decode cX12_empty 50 = .ok (.istore_n 1, 1) := by decide +kernel
theorem dX12_empty_36 : decode cX12_empty 36 = .ok (.aload_n 0, 1) := by decide +kernel
theorem dX12_empty_40 : decode cX12_empty 40 = .ok (.iload_n 1, 1) := by decide +kernel
theorem dX12_empty_41 : decode cX12_empty 41 = .ok (.iconst (-1), 1) := by decide +kernel
theorem dX12_empty_43 : decode cX12_empty 43 = .ok (.iinc 1 1, 3) := by decide +kernel
theorem dX12_empty_46 : decode cX12_empty 46 = .ok (.goto (-17), 3) := by decide +kernel
theorem dX12_empty_42 : decode cX12_empty 42 = .ok (.iastore, 1) := by decide +kernel
theorem dX12_empty_37 : decode cX12_empty 37 = .ok (.getfield 65, 3) := by decide +kernel
theorem dX12_empty_33 : decode cX12_empty 33 = .ok (.if_icmp .ge 16, 3) := by decide +kernel
theorem dX12_empty_51 : decode cX12_empty 51 = .ok (.iload_n 1, 1) := by decide +kernel
theorem dX12_empty_52 : decode cX12_empty 52 = .ok (.bipush 16, 2) := by decide +kernel
theorem dX12_empty_77 : decode cX12_empty 77 = .ok (.aload_n 0, 1) := by decide +kernel
theorem dX12_empty_78 : decode cX12_empty 78 = .ok (.iconst 0, 1) := by decide +kernel
theorem dX12_empty_82 : decode cX12_empty 82 = .ok (.aload_n 0, 1) := by decide +kernel
theorem dX12_empty_83 : decode cX12_empty 83 = .ok (.iconst 0, 1) := by decide +kernel
theorem dX12_empty_87 : decode cX12_empty 87 = .ok (.aload_n 0, 1) := by decide +kernel
theorem dX12_empty_88 : decode cX12_empty 88 = .ok (.iconst 0, 1) := by decide +kernel
theorem dX12_empty_92 : decode cX12_empty 92 = .ok (.aload_n 0, 1) := by decide +kernel
theorem dX12_empty_93 : decode cX12_empty 93 = .ok (.iconst 0, 1) := by decide +kernel
theorem dX12_empty_94 : decode cX12_empty 94 = .ok (.putfield 249, 3) := by decide +kernel
theorem dX12_empty_89 : decode cX12_empty 89 = .ok (.putfield 246, 3) := by decide +kernel
theorem dX12_empty_84 : decode cX12_empty 84 = .ok (.putfield 243, 3) := by decide +kernel
theorem dX12_empty_79 : decode cX12_empty 79 = .ok (.putfield 240, 3) := by decide +kernel
theorem dX12_empty_57 : decode cX12_empty 57 = .ok (.aload_n 0, 1) := by decide +kernel
theorem dX12_empty_61 : decode cX12_empty 61 = .ok (.iload_n 1, 1) := by decide +kernel
theorem dX12_empty_62 : decode cX12_empty 62 = .ok (.iconst (-1), 1) := by decide +kernel
theorem dX12_empty_64 : decode cX12_empty 64 = .ok (.aload_n 0, 1) := by decide +kernel
theorem dX12_empty_68 : decode cX12_empty 68 = .ok (.iload_n 1, 1) := by decide +kernel
theorem dX12_empty_69 : decode cX12_empty 69 = .ok (.iconst (-1), 1) := by decide +kernel
theorem dX12_empty_71 : decode cX12_empty 71 = .ok (.iinc 1 1, 3) := by decide +kernel
theorem dX12_empty_74 : decode cX12_empty 74 = .ok (.goto (-23), 3) := by decide +kernel
theorem dX12_empty_70 : decode cX12_empty 70 = .ok (.iastore, 1) := by decide +kernel
theorem dX12_empty_65 : decode cX12_empty 65 = .ok (.getfield 71, 3) := by decide +kernel
theorem dX12_empty_63 : decode cX12_empty 63 = .ok (.iastore, 1) := by decide +kernel
theorem dX12_empty_58 : decode cX12_empty 58 = .ok (.getfield 68, 3) := by decide +kernel
theorem dX12_empty_54 : decode cX12_empty 54 = .ok (.if_icmp .ge 23, 3) := by decide +kernel
theorem dX12_empty_97 : decode cX12_empty 97 = .ok (.aload_n 0, 1) := by decide +kernel
theorem dX12_empty_98 : decode cX12_empty 98 = .ok (.iconst 0, 1) := by decide +kernel
theorem dX12_empty_102 : decode cX12_empty 102 = .ok (.aload_n 0, 1) := by decide +kernel
theorem dX12_empty_103 : decode cX12_empty 103 = .ok (.iconst 0, 1) := by decide +kernel
theorem dX12_empty_107 : decode cX12_empty 107 = .ok (.aload_n 0, 1) := by decide +kernel
theorem dX12_empty_108 : decode cX12_empty 108 = .ok (.iconst 0, 1) := by decide +kernel
theorem dX12_empty_112 : decode cX12_empty 112 = .ok (.aload_n 0, 1) := by decide +kernel
theorem dX12_empty_113 : decode cX12_empty 113 = .ok (.iconst 0, 1) := by decide +kernel
theorem dX12_empty_114 : decode cX12_empty 114 = .ok (.putfield 261, 3) := by decide +kernel
theorem dX12_empty_109 : decode cX12_empty 109 = .ok (.putfield 258, 3) := by decide +kernel
theorem dX12_empty_104 : decode cX12_empty 104 = .ok (.putfield 255, 3) := by decide +kernel
theorem dX12_empty_99 : decode cX12_empty 99 = .ok (.putfield 252, 3) := by decide +kernel
theorem dX12_empty_117 : decode cX12_empty 117 = .ok (.aload_n 0, 1) := by decide +kernel
theorem dX12_empty_118 : decode cX12_empty 118 = .ok (.iconst 0, 1) := by decide +kernel
theorem dX12_empty_122 : decode cX12_empty 122 = .ok (.aload_n 0, 1) := by decide +kernel
theorem dX12_empty_123 : decode cX12_empty 123 = .ok (.iconst 0, 1) := by decide +kernel
theorem dX12_empty_127 : decode cX12_empty 127 = .ok (.aload_n 0, 1) := by decide +kernel
theorem dX12_empty_128 : decode cX12_empty 128 = .ok (.iconst 0, 1) := by decide +kernel
theorem dX12_empty_132 : decode cX12_empty 132 = .ok (.aload_n 0, 1) := by decide +kernel
theorem dX12_empty_133 : decode cX12_empty 133 = .ok (.iconst 0, 1) := by decide +kernel
theorem dX12_empty_134 : decode cX12_empty 134 = .ok (.putfield 273, 3) := by decide +kernel
theorem dX12_empty_129 : decode cX12_empty 129 = .ok (.putfield 270, 3) := by decide +kernel
theorem dX12_empty_124 : decode cX12_empty 124 = .ok (.putfield 267, 3) := by decide +kernel
theorem dX12_empty_119 : decode cX12_empty 119 = .ok (.putfield 264, 3) := by decide +kernel
theorem dX12_empty_137 : decode cX12_empty 137 = .ok (.aload_n 0, 1) := by decide +kernel
theorem dX12_empty_138 : decode cX12_empty 138 = .ok (.aload_n 0, 1) := by decide +kernel
theorem dX12_empty_142 : decode cX12_empty 142 = .ok (.iconst 3, 1) := by decide +kernel
theorem dX12_empty_153 : decode cX12_empty 153 = .ok (.iconst 0, 1) := by decide +kernel
theorem dX12_empty_154 : decode cX12_empty 154 = .ok (.putfield 276, 3) := by decide +kernel
theorem dX12_empty_146 : decode cX12_empty 146 = .ok (.aload_n 0, 1) := by decide +kernel
theorem dX12_empty_150 : decode cX12_empty 150 = .ok (.goto 4, 3) := by decide +kernel
theorem dX12_empty_147 : decode cX12_empty 147 = .ok (.getfield 210, 3) := by decide +kernel
theorem dX12_empty_143 : decode cX12_empty 143 = .ok (.if_icmp .ne 10, 3) := by decide +kernel
theorem dX12_empty_139 : decode cX12_empty 139 = .ok (.getfield 199, 3) := by decide +kernel
theorem dX12_empty_157 : decode cX12_empty 157 = .ok (.aload_n 0, 1) := by decide +kernel
theorem dX12_empty_158 : decode cX12_empty 158 = .ok (.iconst 0, 1) := by decide +kernel
theorem dX12_empty_162 : decode cX12_empty 162 = .ok (.aload_n 0, 1) := by decide +kernel
theorem dX12_empty_163 : decode cX12_empty 163 = .ok (.iconst 0, 1) := by decide +kernel
theorem dX12_empty_167 : decode cX12_empty 167 = .ok (.aload_n 0, 1) := by decide +kernel
theorem dX12_empty_168 : decode cX12_empty 168 = .ok (.iconst 0, 1) := by decide +kernel
theorem dX12_empty_169 : decode cX12_empty 169 = .ok (.putfield 285, 3) := by decide +kernel
theorem dX12_empty_164 : decode cX12_empty 164 = .ok (.putfield 282, 3) := by decide +kernel
theorem dX12_empty_159 : decode cX12_empty 159 = .ok (.putfield 279, 3) := by decide +kernel
theorem dX12_empty_172 : decode cX12_empty 172 = .ok (.aload_n 0, 1) := by decide +kernel
theorem dX12_empty_173 : decode cX12_empty 173 = .ok (.aload_n 0, 1) := by decide +kernel
theorem dX12_empty_177 : decode cX12_empty 177 = .ok (.bipush 6, 2) := by decide +kernel
theorem dX12_empty_194 : decode cX12_empty 194 = .ok (.iconst 0, 1) := by decide +kernel
theorem dX12_empty_198 : decode cX12_empty 198 = .ok (.iconst 0, 1) := by decide +kernel
theorem dX12_empty_199 : decode cX12_empty 199 = .ok (.istore_n 1, 1) := by decide +kernel
theorem dX12_empty_195 : decode cX12_empty 195 = .ok (.putfield 234, 3) := by decide +kernel
theorem dX12_empty_182 : decode cX12_empty 182 = .ok (.aload_n 0, 1) := by decide +kernel
theorem dX12_empty_186 : decode cX12_empty 186 = .ok (.aload_n 0, 1) := by decide +kernel
theorem dX12_empty_191 : decode cX12_empty 191 = .ok (.goto 4, 3) := by decide +kernel
theorem dX12_empty_190 : decode cX12_empty 190 = .ok (.idiv, 1) := by decide +kernel
theorem dX12_empty_187 : decode cX12_empty 187 = .ok (.getfield 222, 3) := by decide +kernel
theorem dX12_empty_183 : decode cX12_empty 183 = .ok (.getfield 202, 3) := by decide +kernel
theorem dX12_empty_179 : decode cX12_empty 179 = .ok (.if_icmp .ne 15, 3) := by decide +kernel
theorem dX12_empty_174 : decode cX12_empty 174 = .ok (.getfield 199, 3) := by decide +kernel
theorem dX12_empty_200 : decode cX12_empty 200 = .ok (.iload_n 1, 1) := by decide +kernel
theorem dX12_empty_201 : decode cX12_empty 201 = .ok (.aload_n 0, 1) := by decide +kernel
theorem dX12_empty_205 : decode cX12_empty 205 = .ok (.arraylength, 1) := by decide +kernel
theorem dX12_empty_222 : decode cX12_empty 222 = .ok (.iconst 0, 1) := by decide +kernel
theorem dX12_empty_223 : decode cX12_empty 223 = .ok (.istore_n 1, 1) := by decide +kernel
theorem dX12_empty_209 : decode cX12_empty 209 = .ok (.aload_n 0, 1) := by decide +kernel
theorem dX12_empty_213 : decode cX12_empty 213 = .ok (.iload_n 1, 1) := by decide +kernel
theorem dX12_empty_214 : decode cX12_empty 214 = .ok (.iconst 0, 1) := by decide +kernel
theorem dX12_empty_216 : decode cX12_empty 216 = .ok (.iinc 1 1, 3) := by decide +kernel
theorem dX12_empty_219 : decode cX12_empty 219 = .ok (.goto (-19), 3) := by decide +kernel
theorem dX12_empty_215 : decode cX12_empty 215 = .ok (.iastore, 1) := by decide +kernel
theorem dX12_empty_210 : decode cX12_empty 210 = .ok (.getfield 80, 3) := by decide +kernel
theorem dX12_empty_206 : decode cX12_empty 206 = .ok (.if_icmp .ge 16, 3) := by decide +kernel
theorem dX12_empty_202 : decode cX12_empty 202 = .ok (.getfield 80, 3) := by decide +kernel
theorem dX12_empty_224 : decode cX12_empty 224 = .ok (.iload_n 1, 1) := by decide +kernel
theorem dX12_empty_225 : decode cX12_empty 225 = .ok (.aload_n 0, 1) := by decide +kernel
theorem dX12_empty_229 : decode cX12_empty 229 = .ok (.arraylength, 1) := by decide +kernel
theorem dX12_empty_246 : decode cX12_empty 246 = .ok (.return_, 1) := by decide +kernel
theorem dX12_empty_233 : decode cX12_empty 233 = .ok (.aload_n 0, 1) := by decide +kernel
theorem dX12_empty_237 : decode cX12_empty 237 = .ok (.iload_n 1, 1) := by decide +kernel
theorem dX12_empty_238 : decode cX12_empty 238 = .ok (.iconst 0, 1) := by decide +kernel
theorem dX12_empty_240 : decode cX12_empty 240 = .ok (.iinc 1 1, 3) := by decide +kernel
theorem dX12_empty_243 : decode cX12_empty 243 = .ok (.goto (-19), 3) := by decide +kernel
theorem dX12_empty_239 : decode cX12_empty 239 = .ok (.bastore, 1) := by decide +kernel
theorem dX12_empty_234 : decode cX12_empty 234 = .ok (.getfield 83, 3) := by decide +kernel
theorem dX12_empty_230 : decode cX12_empty 230 = .ok (.if_icmp .ge 16, 3) := by decide +kernel
theorem dX12_empty_226 : decode cX12_empty 226 = .ok (.getfield 83, 3) := by decide +kernel
def wr_180 (c k : Nat) : Bool := Nat.beq c 99 || Nat.beq c 111 || Nat.beq c 112 || Nat.beq c 113 || Nat.beq c 116 || Nat.beq c 117 || (Nat.beq c 94 && (Nat.beq k 8 || Nat.beq k 44 || Nat.beq k 45 || Nat.beq k 46 || Nat.beq k 47 || Nat.beq k 48 || Nat.beq k 49 || Nat.beq k 50 || Nat.beq k 55 || Nat.beq k 56 || Nat.beq k 57 || Nat.beq k 58 || Nat.beq k 59 || Nat.beq k 60 || Nat.beq k 61 || Nat.beq k 62 || Nat.beq k 63 || Nat.beq k 64))
theorem g_180_0 {X : Nat × (Nat → Int32)} {m : Nat → Nat → Int32} {P : Option ma_V → (Nat → Nat → Int32) → Prop}  (h : zm X 0 0 180 7 [(0, .inr (.inr (some 94))), (1, .inl (0 : Int32))] (ma_u m 94 8 (1 : Int32)) P) : zm X 0 0 180 0 [(0, .inr (.inr (some 94)))] m P := by
  intro d w S Q hd hw hS hm HQ
  subst hm
  refine zw_push hm_180 dX12_empty_0 (v := .inr (.inr (some 94))) rfl ?_
  refine zw_push hm_180 dX12_empty_1 (v := .inl (1 : Int32)) rfl ?_
  refine zw_pf hm_180 dX12_empty_2 (zT_is hS s_94) (zT_t hS s_94) p_12_237_12 (zk_bool (by decide)) ?_
  refine zw_push hm_180 dX12_empty_5 (v := .inl (0 : Int32)) rfl ?_
  refine zw_sto hm_180 dX12_empty_6 [(1, .inl (0 : Int32)), (0, .inr (.inr (some 94)))] rfl rfl rfl ?_
  exact zw_sub (ma_nd_of (ks := [0, 1]) rfl (by decide)) (ma_nd_of (ks := [1, 0]) rfl (by decide)) (ma_le_cons rfl (ma_le_cons rfl (ma_le_nil _))) (h d w _ Q (by omega) (by omega) (zT_pi hS) rfl HQ)
theorem g_180_7 {X : Nat × (Nat → Int32)} {m : Nat → Nat → Int32} {P : Option ma_V → (Nat → Nat → Int32) → Prop} (l1 : Int32) (h : if (3100 : Int32) ≤ l1 then (zm X 0 0 180 29 [(0, .inr (.inr (some 94))), (1, .inl (0 : Int32))] m P) else ((0 ≤ l1 ∧ l1.toNatClampNeg < 3100) ∧ (zm X 0 0 180 7 [(0, .inr (.inr (some 94))), (1, .inl (l1 + (1 : Int32)))] (ma_u m 99 l1.toNatClampNeg (0 : Int32)) P))) : zm X 0 0 180 7 [(0, .inr (.inr (some 94))), (1, .inl l1)] m P := by
  intro d w S Q hd hw hS hm HQ
  subst hm
  refine zw_push hm_180 dX12_empty_7 (v := .inl l1) rfl ?_
  refine zw_push hm_180 dX12_empty_8 (v := .inl (3100 : Int32)) rfl ?_
  refine zw_if2 hm_180 dX12_empty_11 (t := 27) rfl zc2_ge ?_ ?_
  · intro hc
    rw [if_pos hc] at h
    refine zw_push hm_180 dX12_empty_27 (v := .inl (0 : Int32)) rfl ?_
    refine zw_sto hm_180 dX12_empty_28 [(1, .inl (0 : Int32)), (0, .inr (.inr (some 94)))] rfl rfl rfl ?_
    exact zw_sub (ma_nd_of (ks := [0, 1]) rfl (by decide)) (ma_nd_of (ks := [1, 0]) rfl (by decide)) (ma_le_cons rfl (ma_le_cons rfl (ma_le_nil _))) (h d w _ Q (by omega) (by omega) hS rfl HQ)
  · intro hc
    rw [if_neg hc] at h
    refine zw_push hm_180 dX12_empty_14 (v := .inr (.inr (some 94))) rfl ?_
    refine zw_gf hm_180 dX12_empty_15 (v := .inr (.inr (some 99))) (zT_is hS s_94) (zT_t hS s_94) rfl f_12_27_12 (zT_f hS r_94_31) ?_
    refine zw_push hm_180 dX12_empty_18 (v := .inl l1) rfl ?_
    refine zw_push hm_180 dX12_empty_19 (v := .inl (0 : Int32)) rfl ?_
    obtain ⟨hg, h⟩ := h
    refine zw_bas22l hm_180 dX12_empty_20 (hx := by decide) (yv := (0 : Int32)) (zT_is hS s_99) (zT_h hS s_99) rfl hg ?_
    refine zw_sto hm_180 dX12_empty_21 [(1, .inl (l1 + (1 : Int32))), (0, .inr (.inr (some 94)))] rfl rfl rfl ?_
    refine zw_goto hm_180 dX12_empty_24 (t := 7) rfl ?_
    exact zw_sub (ma_nd_of (ks := [0, 1]) rfl (by decide)) (ma_nd_of (ks := [1, 0]) rfl (by decide)) (ma_le_cons rfl (ma_le_cons rfl (ma_le_nil _))) (h d w _ Q (by omega) (by omega) (zT_pi hS) rfl HQ)
theorem g_180_29 {X : Nat × (Nat → Int32)} {m : Nat → Nat → Int32} {P : Option ma_V → (Nat → Nat → Int32) → Prop} (l1 : Int32) (h : if (4600 : Int32) ≤ l1 then (zm X 0 0 180 51 [(0, .inr (.inr (some 94))), (1, .inl (0 : Int32))] m P) else ((0 ≤ l1 ∧ l1.toNatClampNeg < 4600) ∧ (zm X 0 0 180 29 [(0, .inr (.inr (some 94))), (1, .inl (l1 + (1 : Int32)))] (ma_u m 111 l1.toNatClampNeg (-1 : Int32)) P))) : zm X 0 0 180 29 [(0, .inr (.inr (some 94))), (1, .inl l1)] m P := by
  intro d w S Q hd hw hS hm HQ
  subst hm
  refine zw_push hm_180 dX12_empty_29 (v := .inl l1) rfl ?_
  refine zw_push hm_180 dX12_empty_30 (v := .inl (4600 : Int32)) rfl ?_
  refine zw_if2 hm_180 dX12_empty_33 (t := 49) rfl zc2_ge ?_ ?_
  · intro hc
    rw [if_pos hc] at h
    refine zw_push hm_180 dX12_empty_49 (v := .inl (0 : Int32)) rfl ?_
    refine zw_sto hm_180 dX12_empty_50 [(1, .inl (0 : Int32)), (0, .inr (.inr (some 94)))] rfl rfl rfl ?_
    exact zw_sub (ma_nd_of (ks := [0, 1]) rfl (by decide)) (ma_nd_of (ks := [1, 0]) rfl (by decide)) (ma_le_cons rfl (ma_le_cons rfl (ma_le_nil _))) (h d w _ Q (by omega) (by omega) hS rfl HQ)
  · intro hc
    rw [if_neg hc] at h
    refine zw_push hm_180 dX12_empty_36 (v := .inr (.inr (some 94))) rfl ?_
    refine zw_gf hm_180 dX12_empty_37 (v := .inr (.inr (some 111))) (zT_is hS s_94) (zT_t hS s_94) rfl f_12_65_12 (zT_f hS r_94_43) ?_
    refine zw_push hm_180 dX12_empty_40 (v := .inl l1) rfl ?_
    refine zw_push hm_180 dX12_empty_41 (v := .inl (-1 : Int32)) rfl ?_
    obtain ⟨hg, h⟩ := h
    refine zw_ias hm_180 dX12_empty_42 (zT_is hS s_111) (zT_h hS s_111) rfl hg ?_
    refine zw_sto hm_180 dX12_empty_43 [(1, .inl (l1 + (1 : Int32))), (0, .inr (.inr (some 94)))] rfl rfl rfl ?_
    refine zw_goto hm_180 dX12_empty_46 (t := 29) rfl ?_
    exact zw_sub (ma_nd_of (ks := [0, 1]) rfl (by decide)) (ma_nd_of (ks := [1, 0]) rfl (by decide)) (ma_le_cons rfl (ma_le_cons rfl (ma_le_nil _))) (h d w _ Q (by omega) (by omega) (zT_pi hS) rfl HQ)
theorem g_180_51 {X : Nat × (Nat → Int32)} {m : Nat → Nat → Int32} {P : Option ma_V → (Nat → Nat → Int32) → Prop} (l1 : Int32) (h : if (16 : Int32) ≤ l1 then (zm X 0 0 180 97 [(0, .inr (.inr (some 94)))] (ma_u (ma_u (ma_u (ma_u m 94 44 (0 : Int32)) 94 45 (0 : Int32)) 94 46 (0 : Int32)) 94 47 (0 : Int32)) P) else ((0 ≤ l1 ∧ l1.toNatClampNeg < 16) ∧ ((0 ≤ l1 ∧ l1.toNatClampNeg < 16) ∧ (zm X 0 0 180 51 [(0, .inr (.inr (some 94))), (1, .inl (l1 + (1 : Int32)))] (ma_u (ma_u m 112 l1.toNatClampNeg (-1 : Int32)) 113 l1.toNatClampNeg (-1 : Int32)) P)))) : zm X 0 0 180 51 [(0, .inr (.inr (some 94))), (1, .inl l1)] m P := by
  intro d w S Q hd hw hS hm HQ
  subst hm
  refine zw_push hm_180 dX12_empty_51 (v := .inl l1) rfl ?_
  refine zw_push hm_180 dX12_empty_52 (v := .inl (16 : Int32)) rfl ?_
  refine zw_if2 hm_180 dX12_empty_54 (t := 77) rfl zc2_ge ?_ ?_
  · intro hc
    rw [if_pos hc] at h
    refine zw_push hm_180 dX12_empty_77 (v := .inr (.inr (some 94))) rfl ?_
    refine zw_push hm_180 dX12_empty_78 (v := .inl (0 : Int32)) rfl ?_
    refine zw_pf hm_180 dX12_empty_79 (zT_is hS s_94) (zT_t hS s_94) p_12_240_12 zk_int ?_
    refine zw_push hm_180 dX12_empty_82 (v := .inr (.inr (some 94))) rfl ?_
    refine zw_push hm_180 dX12_empty_83 (v := .inl (0 : Int32)) rfl ?_
    refine zw_pf hm_180 dX12_empty_84 (zT_is (zT_pi hS) s_94) (zT_t (zT_pi hS) s_94) p_12_243_12 zk_int ?_
    refine zw_push hm_180 dX12_empty_87 (v := .inr (.inr (some 94))) rfl ?_
    refine zw_push hm_180 dX12_empty_88 (v := .inl (0 : Int32)) rfl ?_
    refine zw_pf hm_180 dX12_empty_89 (zT_is (zT_pi (zT_pi hS)) s_94) (zT_t (zT_pi (zT_pi hS)) s_94) p_12_246_12 zk_int ?_
    refine zw_push hm_180 dX12_empty_92 (v := .inr (.inr (some 94))) rfl ?_
    refine zw_push hm_180 dX12_empty_93 (v := .inl (0 : Int32)) rfl ?_
    refine zw_pf hm_180 dX12_empty_94 (zT_is (zT_pi (zT_pi (zT_pi hS))) s_94) (zT_t (zT_pi (zT_pi (zT_pi hS))) s_94) p_12_249_12 zk_int ?_
    exact zw_sub (ma_nd_of (ks := [0]) rfl (by decide)) (ma_nd_of (ks := [0, 1]) rfl (by decide)) (ma_le_cons rfl (ma_le_nil _)) (h d w _ Q (by omega) (by omega) (zT_pi (zT_pi (zT_pi (zT_pi hS)))) rfl HQ)
  · intro hc
    rw [if_neg hc] at h
    refine zw_push hm_180 dX12_empty_57 (v := .inr (.inr (some 94))) rfl ?_
    refine zw_gf hm_180 dX12_empty_58 (v := .inr (.inr (some 112))) (zT_is hS s_94) (zT_t hS s_94) rfl f_12_68_12 (zT_f hS r_94_51) ?_
    refine zw_push hm_180 dX12_empty_61 (v := .inl l1) rfl ?_
    refine zw_push hm_180 dX12_empty_62 (v := .inl (-1 : Int32)) rfl ?_
    obtain ⟨hg, h⟩ := h
    refine zw_ias hm_180 dX12_empty_63 (zT_is hS s_112) (zT_h hS s_112) rfl hg ?_
    refine zw_push hm_180 dX12_empty_64 (v := .inr (.inr (some 94))) rfl ?_
    refine zw_gf hm_180 dX12_empty_65 (v := .inr (.inr (some 113))) (zT_is (zT_pi hS) s_94) (zT_t (zT_pi hS) s_94) rfl f_12_71_12 (zT_f (zT_pi hS) r_94_52) ?_
    refine zw_push hm_180 dX12_empty_68 (v := .inl l1) rfl ?_
    refine zw_push hm_180 dX12_empty_69 (v := .inl (-1 : Int32)) rfl ?_
    obtain ⟨hg, h⟩ := h
    refine zw_ias hm_180 dX12_empty_70 (zT_is (zT_pi hS) s_113) (zT_h (zT_pi hS) s_113) rfl hg ?_
    refine zw_sto hm_180 dX12_empty_71 [(1, .inl (l1 + (1 : Int32))), (0, .inr (.inr (some 94)))] rfl rfl rfl ?_
    refine zw_goto hm_180 dX12_empty_74 (t := 51) rfl ?_
    exact zw_sub (ma_nd_of (ks := [0, 1]) rfl (by decide)) (ma_nd_of (ks := [1, 0]) rfl (by decide)) (ma_le_cons rfl (ma_le_cons rfl (ma_le_nil _))) (h d w _ Q (by omega) (by omega) (zT_pi (zT_pi hS)) rfl HQ)
theorem g_180_97 {X : Nat × (Nat → Int32)} {m : Nat → Nat → Int32} {P : Option ma_V → (Nat → Nat → Int32) → Prop}  (h : zm X 0 0 180 117 [(0, .inr (.inr (some 94)))] (ma_u (ma_u (ma_u (ma_u m 94 48 (0 : Int32)) 94 49 (0 : Int32)) 94 50 (0 : Int32)) 94 55 (0 : Int32)) P) : zm X 0 0 180 97 [(0, .inr (.inr (some 94)))] m P := by
  intro d w S Q hd hw hS hm HQ
  subst hm
  refine zw_push hm_180 dX12_empty_97 (v := .inr (.inr (some 94))) rfl ?_
  refine zw_push hm_180 dX12_empty_98 (v := .inl (0 : Int32)) rfl ?_
  refine zw_pf hm_180 dX12_empty_99 (zT_is hS s_94) (zT_t hS s_94) p_12_252_12 zk_int ?_
  refine zw_push hm_180 dX12_empty_102 (v := .inr (.inr (some 94))) rfl ?_
  refine zw_push hm_180 dX12_empty_103 (v := .inl (0 : Int32)) rfl ?_
  refine zw_pf hm_180 dX12_empty_104 (zT_is (zT_pi hS) s_94) (zT_t (zT_pi hS) s_94) p_12_255_12 zk_int ?_
  refine zw_push hm_180 dX12_empty_107 (v := .inr (.inr (some 94))) rfl ?_
  refine zw_push hm_180 dX12_empty_108 (v := .inl (0 : Int32)) rfl ?_
  refine zw_pf hm_180 dX12_empty_109 (zT_is (zT_pi (zT_pi hS)) s_94) (zT_t (zT_pi (zT_pi hS)) s_94) p_12_258_12 zk_int ?_
  refine zw_push hm_180 dX12_empty_112 (v := .inr (.inr (some 94))) rfl ?_
  refine zw_push hm_180 dX12_empty_113 (v := .inl (0 : Int32)) rfl ?_
  refine zw_pf hm_180 dX12_empty_114 (zT_is (zT_pi (zT_pi (zT_pi hS))) s_94) (zT_t (zT_pi (zT_pi (zT_pi hS))) s_94) p_12_261_12 zk_int ?_
  exact (h d w _ Q (by omega) (by omega) (zT_pi (zT_pi (zT_pi (zT_pi hS)))) rfl HQ)
theorem g_180_117 {X : Nat × (Nat → Int32)} {m : Nat → Nat → Int32} {P : Option ma_V → (Nat → Nat → Int32) → Prop}  (h : zm X 0 0 180 137 [(0, .inr (.inr (some 94)))] (ma_u (ma_u (ma_u (ma_u m 94 56 (0 : Int32)) 94 57 (0 : Int32)) 94 58 (0 : Int32)) 94 61 (0 : Int32)) P) : zm X 0 0 180 117 [(0, .inr (.inr (some 94)))] m P := by
  intro d w S Q hd hw hS hm HQ
  subst hm
  refine zw_push hm_180 dX12_empty_117 (v := .inr (.inr (some 94))) rfl ?_
  refine zw_push hm_180 dX12_empty_118 (v := .inl (0 : Int32)) rfl ?_
  refine zw_pf hm_180 dX12_empty_119 (zT_is hS s_94) (zT_t hS s_94) p_12_264_12 zk_int ?_
  refine zw_push hm_180 dX12_empty_122 (v := .inr (.inr (some 94))) rfl ?_
  refine zw_push hm_180 dX12_empty_123 (v := .inl (0 : Int32)) rfl ?_
  refine zw_pf hm_180 dX12_empty_124 (zT_is (zT_pi hS) s_94) (zT_t (zT_pi hS) s_94) p_12_267_12 zk_int ?_
  refine zw_push hm_180 dX12_empty_127 (v := .inr (.inr (some 94))) rfl ?_
  refine zw_push hm_180 dX12_empty_128 (v := .inl (0 : Int32)) rfl ?_
  refine zw_pf hm_180 dX12_empty_129 (zT_is (zT_pi (zT_pi hS)) s_94) (zT_t (zT_pi (zT_pi hS)) s_94) p_12_270_12 (zk_bool (by decide)) ?_
  refine zw_push hm_180 dX12_empty_132 (v := .inr (.inr (some 94))) rfl ?_
  refine zw_push hm_180 dX12_empty_133 (v := .inl (0 : Int32)) rfl ?_
  refine zw_pf hm_180 dX12_empty_134 (zT_is (zT_pi (zT_pi (zT_pi hS))) s_94) (zT_t (zT_pi (zT_pi (zT_pi hS))) s_94) p_12_273_12 zk_int ?_
  exact (h d w _ Q (by omega) (by omega) (zT_pi (zT_pi (zT_pi (zT_pi hS)))) rfl HQ)
theorem g_180_137 {X : Nat × (Nat → Int32)} {m : Nat → Nat → Int32} {P : Option ma_V → (Nat → Nat → Int32) → Prop}  (h : if (m 94 10) = (3 : Int32) then (zm X 0 0 180 157 [(0, .inr (.inr (some 94)))] (ma_u m 94 59 (m 94 14)) P) else (zm X 0 0 180 157 [(0, .inr (.inr (some 94)))] (ma_u m 94 59 (0 : Int32)) P)) : zm X 0 0 180 137 [(0, .inr (.inr (some 94)))] m P := by
  intro d w S Q hd hw hS hm HQ
  subst hm
  refine zw_push hm_180 dX12_empty_137 (v := .inr (.inr (some 94))) rfl ?_
  refine zw_push hm_180 dX12_empty_138 (v := .inr (.inr (some 94))) rfl ?_
  refine zw_gf hm_180 dX12_empty_139 (v := .inl ((mI S) 94 10)) (zT_is hS s_94) (zT_t hS s_94) rfl f_12_199_12 rfl ?_
  refine zw_push hm_180 dX12_empty_142 (v := .inl (3 : Int32)) rfl ?_
  refine zw_if2 hm_180 dX12_empty_143 (t := 153) rfl zc2_ne ?_ ?_
  · intro hc
    rw [if_neg hc] at h
    refine zw_push hm_180 dX12_empty_153 (v := .inl (0 : Int32)) rfl ?_
    refine zw_pf hm_180 dX12_empty_154 (zT_is hS s_94) (zT_t hS s_94) p_12_276_12 zk_int ?_
    exact (h d w _ Q (by omega) (by omega) (zT_pi hS) rfl HQ)
  · intro hc
    rw [if_pos (Classical.not_not.mp hc)] at h
    refine zw_push hm_180 dX12_empty_146 (v := .inr (.inr (some 94))) rfl ?_
    refine zw_gf hm_180 dX12_empty_147 (v := .inl ((mI S) 94 14)) (zT_is hS s_94) (zT_t hS s_94) rfl f_12_210_12 rfl ?_
    refine zw_goto hm_180 dX12_empty_150 (t := 154) rfl ?_
    refine zw_pf hm_180 dX12_empty_154 (zT_is hS s_94) (zT_t hS s_94) p_12_276_12 zk_int ?_
    exact (h d w _ Q (by omega) (by omega) (zT_pi hS) rfl HQ)
theorem g_180_157 {X : Nat × (Nat → Int32)} {m : Nat → Nat → Int32} {P : Option ma_V → (Nat → Nat → Int32) → Prop}  (h : zm X 0 0 180 172 [(0, .inr (.inr (some 94)))] (ma_u (ma_u (ma_u m 94 60 (0 : Int32)) 94 62 (0 : Int32)) 94 63 (0 : Int32)) P) : zm X 0 0 180 157 [(0, .inr (.inr (some 94)))] m P := by
  intro d w S Q hd hw hS hm HQ
  subst hm
  refine zw_push hm_180 dX12_empty_157 (v := .inr (.inr (some 94))) rfl ?_
  refine zw_push hm_180 dX12_empty_158 (v := .inl (0 : Int32)) rfl ?_
  refine zw_pf hm_180 dX12_empty_159 (zT_is hS s_94) (zT_t hS s_94) p_12_279_12 zk_int ?_
  refine zw_push hm_180 dX12_empty_162 (v := .inr (.inr (some 94))) rfl ?_
  refine zw_push hm_180 dX12_empty_163 (v := .inl (0 : Int32)) rfl ?_
  refine zw_pf hm_180 dX12_empty_164 (zT_is (zT_pi hS) s_94) (zT_t (zT_pi hS) s_94) p_12_282_12 zk_int ?_
  refine zw_push hm_180 dX12_empty_167 (v := .inr (.inr (some 94))) rfl ?_
  refine zw_push hm_180 dX12_empty_168 (v := .inl (0 : Int32)) rfl ?_
  refine zw_pf hm_180 dX12_empty_169 (zT_is (zT_pi (zT_pi hS)) s_94) (zT_t (zT_pi (zT_pi hS)) s_94) p_12_285_12 zk_int ?_
  exact (h d w _ Q (by omega) (by omega) (zT_pi (zT_pi (zT_pi hS))) rfl HQ)
theorem g_180_172 {X : Nat × (Nat → Int32)} {m : Nat → Nat → Int32} {P : Option ma_V → (Nat → Nat → Int32) → Prop}  (h : if (m 94 10) = (6 : Int32) then ((m 94 18) ≠ 0 ∧ (zm X 0 0 180 200 [(0, .inr (.inr (some 94))), (1, .inl (0 : Int32))] (ma_u m 94 64 ((m 94 11) / (m 94 18))) P)) else (zm X 0 0 180 200 [(0, .inr (.inr (some 94))), (1, .inl (0 : Int32))] (ma_u m 94 64 (0 : Int32)) P)) : zm X 0 0 180 172 [(0, .inr (.inr (some 94)))] m P := by
  intro d w S Q hd hw hS hm HQ
  subst hm
  refine zw_push hm_180 dX12_empty_172 (v := .inr (.inr (some 94))) rfl ?_
  refine zw_push hm_180 dX12_empty_173 (v := .inr (.inr (some 94))) rfl ?_
  refine zw_gf hm_180 dX12_empty_174 (v := .inl ((mI S) 94 10)) (zT_is hS s_94) (zT_t hS s_94) rfl f_12_199_12 rfl ?_
  refine zw_push hm_180 dX12_empty_177 (v := .inl (6 : Int32)) rfl ?_
  refine zw_if2 hm_180 dX12_empty_179 (t := 194) rfl zc2_ne ?_ ?_
  · intro hc
    rw [if_neg hc] at h
    refine zw_push hm_180 dX12_empty_194 (v := .inl (0 : Int32)) rfl ?_
    refine zw_pf hm_180 dX12_empty_195 (zT_is hS s_94) (zT_t hS s_94) p_12_234_12 zk_int ?_
    refine zw_push hm_180 dX12_empty_198 (v := .inl (0 : Int32)) rfl ?_
    refine zw_sto hm_180 dX12_empty_199 [(1, .inl (0 : Int32)), (0, .inr (.inr (some 94)))] rfl rfl rfl ?_
    exact zw_sub (ma_nd_of (ks := [0, 1]) rfl (by decide)) (ma_nd_of (ks := [1, 0]) rfl (by decide)) (ma_le_cons rfl (ma_le_cons rfl (ma_le_nil _))) (h d w _ Q (by omega) (by omega) (zT_pi hS) rfl HQ)
  · intro hc
    rw [if_pos (Classical.not_not.mp hc)] at h
    refine zw_push hm_180 dX12_empty_182 (v := .inr (.inr (some 94))) rfl ?_
    refine zw_gf hm_180 dX12_empty_183 (v := .inl ((mI S) 94 11)) (zT_is hS s_94) (zT_t hS s_94) rfl f_12_202_12 rfl ?_
    refine zw_push hm_180 dX12_empty_186 (v := .inr (.inr (some 94))) rfl ?_
    refine zw_gf hm_180 dX12_empty_187 (v := .inl ((mI S) 94 18)) (zT_is hS s_94) (zT_t hS s_94) rfl f_12_222_12 rfl ?_
    obtain ⟨hg, h⟩ := h
    refine zw_stk hm_180 dX12_empty_190 (st₉ := [.inl (((mI S) 94 11) / ((mI S) 94 18)), .inr (.inr (some 94))]) rfl (if_neg hg) ?_
    refine zw_goto hm_180 dX12_empty_191 (t := 195) rfl ?_
    refine zw_pf hm_180 dX12_empty_195 (zT_is hS s_94) (zT_t hS s_94) p_12_234_12 zk_int ?_
    refine zw_push hm_180 dX12_empty_198 (v := .inl (0 : Int32)) rfl ?_
    refine zw_sto hm_180 dX12_empty_199 [(1, .inl (0 : Int32)), (0, .inr (.inr (some 94)))] rfl rfl rfl ?_
    exact zw_sub (ma_nd_of (ks := [0, 1]) rfl (by decide)) (ma_nd_of (ks := [1, 0]) rfl (by decide)) (ma_le_cons rfl (ma_le_cons rfl (ma_le_nil _))) (h d w _ Q (by omega) (by omega) (zT_pi hS) rfl HQ)
theorem g_180_200 {X : Nat × (Nat → Int32)} {m : Nat → Nat → Int32} {P : Option ma_V → (Nat → Nat → Int32) → Prop} (l1 : Int32) (h : if (128 : Int32) ≤ l1 then (zm X 0 0 180 224 [(0, .inr (.inr (some 94))), (1, .inl (0 : Int32))] m P) else ((0 ≤ l1 ∧ l1.toNatClampNeg < 128) ∧ (zm X 0 0 180 200 [(0, .inr (.inr (some 94))), (1, .inl (l1 + (1 : Int32)))] (ma_u m 116 l1.toNatClampNeg (0 : Int32)) P))) : zm X 0 0 180 200 [(0, .inr (.inr (some 94))), (1, .inl l1)] m P := by
  intro d w S Q hd hw hS hm HQ
  subst hm
  refine zw_push hm_180 dX12_empty_200 (v := .inl l1) rfl ?_
  refine zw_push hm_180 dX12_empty_201 (v := .inr (.inr (some 94))) rfl ?_
  refine zw_gf hm_180 dX12_empty_202 (v := .inr (.inr (some 116))) (zT_is hS s_94) (zT_t hS s_94) rfl f_12_80_12 (zT_f hS r_94_65) ?_
  refine zw_len hm_180 dX12_empty_205 (v := (128 : Int32)) (zT_is hS s_116) (zT_h hS s_116) rfl rfl ?_
  refine zw_if2 hm_180 dX12_empty_206 (t := 222) rfl zc2_ge ?_ ?_
  · intro hc
    rw [if_pos hc] at h
    refine zw_push hm_180 dX12_empty_222 (v := .inl (0 : Int32)) rfl ?_
    refine zw_sto hm_180 dX12_empty_223 [(1, .inl (0 : Int32)), (0, .inr (.inr (some 94)))] rfl rfl rfl ?_
    exact zw_sub (ma_nd_of (ks := [0, 1]) rfl (by decide)) (ma_nd_of (ks := [1, 0]) rfl (by decide)) (ma_le_cons rfl (ma_le_cons rfl (ma_le_nil _))) (h d w _ Q (by omega) (by omega) hS rfl HQ)
  · intro hc
    rw [if_neg hc] at h
    refine zw_push hm_180 dX12_empty_209 (v := .inr (.inr (some 94))) rfl ?_
    refine zw_gf hm_180 dX12_empty_210 (v := .inr (.inr (some 116))) (zT_is hS s_94) (zT_t hS s_94) rfl f_12_80_12 (zT_f hS r_94_65) ?_
    refine zw_push hm_180 dX12_empty_213 (v := .inl l1) rfl ?_
    refine zw_push hm_180 dX12_empty_214 (v := .inl (0 : Int32)) rfl ?_
    obtain ⟨hg, h⟩ := h
    refine zw_ias hm_180 dX12_empty_215 (zT_is hS s_116) (zT_h hS s_116) rfl hg ?_
    refine zw_sto hm_180 dX12_empty_216 [(1, .inl (l1 + (1 : Int32))), (0, .inr (.inr (some 94)))] rfl rfl rfl ?_
    refine zw_goto hm_180 dX12_empty_219 (t := 200) rfl ?_
    exact zw_sub (ma_nd_of (ks := [0, 1]) rfl (by decide)) (ma_nd_of (ks := [1, 0]) rfl (by decide)) (ma_le_cons rfl (ma_le_cons rfl (ma_le_nil _))) (h d w _ Q (by omega) (by omega) (zT_pi hS) rfl HQ)
theorem g_180_224 {X : Nat × (Nat → Int32)} {m : Nat → Nat → Int32} {P : Option ma_V → (Nat → Nat → Int32) → Prop} (l1 : Int32) (h : if (512 : Int32) ≤ l1 then (P none m) else ((0 ≤ l1 ∧ l1.toNatClampNeg < 512) ∧ (zm X 0 0 180 224 [(0, .inr (.inr (some 94))), (1, .inl (l1 + (1 : Int32)))] (ma_u m 117 l1.toNatClampNeg (0 : Int32)) P))) : zm X 0 0 180 224 [(0, .inr (.inr (some 94))), (1, .inl l1)] m P := by
  intro d w S Q hd hw hS hm HQ
  subst hm
  refine zw_push hm_180 dX12_empty_224 (v := .inl l1) rfl ?_
  refine zw_push hm_180 dX12_empty_225 (v := .inr (.inr (some 94))) rfl ?_
  refine zw_gf hm_180 dX12_empty_226 (v := .inr (.inr (some 117))) (zT_is hS s_94) (zT_t hS s_94) rfl f_12_83_12 (zT_f hS r_94_66) ?_
  refine zw_len hm_180 dX12_empty_229 (v := (512 : Int32)) (zT_is hS s_117) (zT_h hS s_117) rfl rfl ?_
  refine zw_if2 hm_180 dX12_empty_230 (t := 246) rfl zc2_ge ?_ ?_
  · intro hc
    rw [if_pos hc] at h
    exact zw_vret hm_180 dX12_empty_246 (HQ _ _ h)
  · intro hc
    rw [if_neg hc] at h
    refine zw_push hm_180 dX12_empty_233 (v := .inr (.inr (some 94))) rfl ?_
    refine zw_gf hm_180 dX12_empty_234 (v := .inr (.inr (some 117))) (zT_is hS s_94) (zT_t hS s_94) rfl f_12_83_12 (zT_f hS r_94_66) ?_
    refine zw_push hm_180 dX12_empty_237 (v := .inl l1) rfl ?_
    refine zw_push hm_180 dX12_empty_238 (v := .inl (0 : Int32)) rfl ?_
    obtain ⟨hg, h⟩ := h
    refine zw_bas22l hm_180 dX12_empty_239 (hx := by decide) (yv := (0 : Int32)) (zT_is hS s_117) (zT_h hS s_117) rfl hg ?_
    refine zw_sto hm_180 dX12_empty_240 [(1, .inl (l1 + (1 : Int32))), (0, .inr (.inr (some 94)))] rfl rfl rfl ?_
    refine zw_goto hm_180 dX12_empty_243 (t := 224) rfl ?_
    exact zw_sub (ma_nd_of (ks := [0, 1]) rfl (by decide)) (ma_nd_of (ks := [1, 0]) rfl (by decide)) (ma_le_cons rfl (ma_le_cons rfl (ma_le_nil _))) (h d w _ Q (by omega) (by omega) (zT_pi hS) rfl HQ)
/-! from 94.470 -/
/-! the reference (written by wip/tools/gen94m.py) -/
set_option maxRecDepth 100000 in
theorem hm_171 : ma_md 171 = some (12, yX12_heap, cX12_heap, 2, (some (FieldType.int))) := rfl
theorem f_12_133_12 : ma_fld 12 133 12 = some 70 := by decide +kernel
theorem f_12_165_12 : ma_fld 12 165 12 = some 23 := by decide +kernel
theorem f_12_168_12 : ma_fld 12 168 12 = some 24 := by decide +kernel
theorem f_12_171_12 : ma_fld 12 171 12 = some 25 := by decide +kernel
theorem f_12_174_12 : ma_fld 12 174 12 = some 26 := by decide +kernel
theorem f_12_183_12 : ma_fld 12 183 12 = some 27 := by decide +kernel
theorem f_12_193_12 : ma_fld 12 193 12 = some 29 := by decide +kernel
theorem f_12_207_12 : ma_fld 12 207 12 = some 13 := by decide +kernel
theorem p_12_124_12 : ma_pk 12 124 12 4 = true := by decide +kernel
theorem p_12_199_12 : ma_pk 12 199 12 10 = true := by decide +kernel
theorem p_12_202_12 : ma_pk 12 202 12 11 = true := by decide +kernel
theorem p_12_205_12 : ma_pk 12 205 12 12 = true := by decide +kernel
theorem p_12_207_12 : ma_pk 12 207 12 13 = true := by decide +kernel
theorem p_12_210_12 : ma_pk 12 210 12 14 = true := by decide +kernel
theorem p_12_213_12 : ma_pk 12 213 12 15 = true := by decide +kernel
theorem p_12_216_12 : ma_pk 12 216 12 16 = true := by decide +kernel
theorem p_12_219_12 : ma_pk 12 219 12 17 = true := by decide +kernel
theorem p_12_222_12 : ma_pk 12 222 12 18 = true := by decide +kernel
theorem p_12_225_12 : ma_pk 12 225 12 19 = true := by decide +kernel
theorem p_12_228_12 : ma_pk 12 228 12 9 = true := by decide +kernel
theorem v_12_196_12 : ma_vl 12 196 12 = some (1, 172, 0) := by decide +kernel
theorem v_12_231_12 : ma_vl 12 231 12 = some (1, 180, 0) := by decide +kernel
theorem dX12_heap_0 : decode cX12_heap 0 = .ok (.aload_n 0, 1) := by decide +kernel
theorem dX12_heap_1 : decode cX12_heap 1 = .ok (.iconst 0, 1) := by decide +kernel
theorem dX12_heap_5 : decode cX12_heap 5 = .ok (.aload_n 0, 1) := by decide +kernel
theorem dX12_heap_6 : decode cX12_heap 6 = .ok (.aload_n 0, 1) := by decide +kernel
theorem dX12_heap_13 : decode cX12_heap 13 = .ok (.aload_n 0, 1) := by decide +kernel
theorem dX12_heap_14 : decode cX12_heap 14 = .ok (.iconst 0, 1) := by decide +kernel
theorem dX12_heap_18 : decode cX12_heap 18 = .ok (.iconst 0, 1) := by decide +kernel
theorem dX12_heap_19 : decode cX12_heap 19 = .ok (.istore_n 1, 1) := by decide +kernel
theorem dX12_heap_15 : decode cX12_heap 15 = .ok (.putfield 107, 3) := by decide +kernel
theorem dX12_heap_10 : decode cX12_heap 10 = .ok (.putfield 124, 3) := by decide +kernel
theorem dX12_heap_7 : decode cX12_heap 7 = .ok (.getfield 107, 3) := by decide +kernel
theorem dX12_heap_2 : decode cX12_heap 2 = .ok (.putfield 1, 3) := by decide +kernel
theorem dX12_heap_20 : decode cX12_heap 20 = .ok (.iload_n 1, 1) := by decide +kernel
theorem dX12_heap_21 : decode cX12_heap 21 = .ok (.aload_n 0, 1) := by decide +kernel
theorem dX12_heap_46 : decode cX12_heap 46 = .ok (.aload_n 0, 1) := by decide +kernel
theorem dX12_heap_47 : decode cX12_heap 47 = .ok (.invokevirtual 196, 3) := by decide +kernel
theorem dX12_heap_53 : decode cX12_heap 53 = .ok (.iconst (-1), 1) := by decide +kernel
theorem dX12_heap_54 : decode cX12_heap 54 = .ok (.aload_n 0, 1) := by decide +kernel
theorem dX12_heap_58 : decode cX12_heap 58 = .ok (.isub, 1) := by decide +kernel
theorem dX12_heap_59 : decode cX12_heap 59 = .ok (.ireturn, 1) := by decide +kernel
theorem dX12_heap_55 : decode cX12_heap 55 = .ok (.getfield 133, 3) := by decide +kernel
theorem dX12_heap_50 : decode cX12_heap 50 = .ok (.ifCond .ne 10, 3) := by decide +kernel
theorem dX12_heap_28 : decode cX12_heap 28 = .ok (.aload_n 0, 1) := by decide +kernel
theorem dX12_heap_32 : decode cX12_heap 32 = .ok (.iload_n 1, 1) := by decide +kernel
theorem dX12_heap_33 : decode cX12_heap 33 = .ok (.aload_n 0, 1) := by decide +kernel
theorem dX12_heap_37 : decode cX12_heap 37 = .ok (.iload_n 1, 1) := by decide +kernel
theorem dX12_heap_40 : decode cX12_heap 40 = .ok (.iinc 1 1, 3) := by decide +kernel
theorem dX12_heap_43 : decode cX12_heap 43 = .ok (.goto (-23), 3) := by decide +kernel
theorem dX12_heap_39 : decode cX12_heap 39 = .ok (.bastore, 1) := by decide +kernel
theorem dX12_heap_38 : decode cX12_heap 38 = .ok (.baload, 1) := by decide +kernel
theorem dX12_heap_34 : decode cX12_heap 34 = .ok (.getfield 13, 3) := by decide +kernel
theorem dX12_heap_29 : decode cX12_heap 29 = .ok (.getfield 17, 3) := by decide +kernel
theorem dX12_heap_25 : decode cX12_heap 25 = .ok (.if_icmp .ge 21, 3) := by decide +kernel
theorem dX12_heap_22 : decode cX12_heap 22 = .ok (.getfield 124, 3) := by decide +kernel
theorem dX12_heap_60 : decode cX12_heap 60 = .ok (.aload_n 0, 1) := by decide +kernel
theorem dX12_heap_61 : decode cX12_heap 61 = .ok (.aload_n 0, 1) := by decide +kernel
theorem dX12_heap_68 : decode cX12_heap 68 = .ok (.aload_n 0, 1) := by decide +kernel
theorem dX12_heap_69 : decode cX12_heap 69 = .ok (.aload_n 0, 1) := by decide +kernel
theorem dX12_heap_76 : decode cX12_heap 76 = .ok (.aload_n 0, 1) := by decide +kernel
theorem dX12_heap_77 : decode cX12_heap 77 = .ok (.aload_n 0, 1) := by decide +kernel
theorem dX12_heap_84 : decode cX12_heap 84 = .ok (.aload_n 0, 1) := by decide +kernel
theorem dX12_heap_85 : decode cX12_heap 85 = .ok (.aload_n 0, 1) := by decide +kernel
theorem dX12_heap_89 : decode cX12_heap 89 = .ok (.putfield 207, 3) := by decide +kernel
theorem dX12_heap_86 : decode cX12_heap 86 = .ok (.getfield 165, 3) := by decide +kernel
theorem dX12_heap_81 : decode cX12_heap 81 = .ok (.putfield 205, 3) := by decide +kernel
theorem dX12_heap_78 : decode cX12_heap 78 = .ok (.getfield 154, 3) := by decide +kernel
theorem dX12_heap_73 : decode cX12_heap 73 = .ok (.putfield 202, 3) := by decide +kernel
theorem dX12_heap_70 : decode cX12_heap 70 = .ok (.getfield 159, 3) := by decide +kernel
theorem dX12_heap_65 : decode cX12_heap 65 = .ok (.putfield 199, 3) := by decide +kernel
theorem dX12_heap_62 : decode cX12_heap 62 = .ok (.getfield 162, 3) := by decide +kernel
theorem dX12_heap_92 : decode cX12_heap 92 = .ok (.aload_n 0, 1) := by decide +kernel
theorem dX12_heap_93 : decode cX12_heap 93 = .ok (.aload_n 0, 1) := by decide +kernel
theorem dX12_heap_100 : decode cX12_heap 100 = .ok (.aload_n 0, 1) := by decide +kernel
theorem dX12_heap_101 : decode cX12_heap 101 = .ok (.aload_n 0, 1) := by decide +kernel
theorem dX12_heap_108 : decode cX12_heap 108 = .ok (.aload_n 0, 1) := by decide +kernel
theorem dX12_heap_109 : decode cX12_heap 109 = .ok (.aload_n 0, 1) := by decide +kernel
theorem dX12_heap_116 : decode cX12_heap 116 = .ok (.aload_n 0, 1) := by decide +kernel
theorem dX12_heap_117 : decode cX12_heap 117 = .ok (.aload_n 0, 1) := by decide +kernel
theorem dX12_heap_121 : decode cX12_heap 121 = .ok (.putfield 219, 3) := by decide +kernel
theorem dX12_heap_118 : decode cX12_heap 118 = .ok (.getfield 183, 3) := by decide +kernel
theorem dX12_heap_113 : decode cX12_heap 113 = .ok (.putfield 216, 3) := by decide +kernel
theorem dX12_heap_110 : decode cX12_heap 110 = .ok (.getfield 174, 3) := by decide +kernel
theorem dX12_heap_105 : decode cX12_heap 105 = .ok (.putfield 213, 3) := by decide +kernel
theorem dX12_heap_102 : decode cX12_heap 102 = .ok (.getfield 171, 3) := by decide +kernel
theorem dX12_heap_97 : decode cX12_heap 97 = .ok (.putfield 210, 3) := by decide +kernel
theorem dX12_heap_94 : decode cX12_heap 94 = .ok (.getfield 168, 3) := by decide +kernel
theorem dX12_heap_124 : decode cX12_heap 124 = .ok (.aload_n 0, 1) := by decide +kernel
theorem dX12_heap_125 : decode cX12_heap 125 = .ok (.aload_n 0, 1) := by decide +kernel
theorem dX12_heap_132 : decode cX12_heap 132 = .ok (.aload_n 0, 1) := by decide +kernel
theorem dX12_heap_133 : decode cX12_heap 133 = .ok (.aload_n 0, 1) := by decide +kernel
theorem dX12_heap_140 : decode cX12_heap 140 = .ok (.aload_n 0, 1) := by decide +kernel
theorem dX12_heap_141 : decode cX12_heap 141 = .ok (.aload_n 0, 1) := by decide +kernel
theorem dX12_heap_145 : decode cX12_heap 145 = .ok (.putfield 228, 3) := by decide +kernel
theorem dX12_heap_142 : decode cX12_heap 142 = .ok (.getfield 186, 3) := by decide +kernel
theorem dX12_heap_137 : decode cX12_heap 137 = .ok (.putfield 225, 3) := by decide +kernel
theorem dX12_heap_134 : decode cX12_heap 134 = .ok (.getfield 193, 3) := by decide +kernel
theorem dX12_heap_129 : decode cX12_heap 129 = .ok (.putfield 222, 3) := by decide +kernel
theorem dX12_heap_126 : decode cX12_heap 126 = .ok (.getfield 190, 3) := by decide +kernel
theorem dX12_heap_148 : decode cX12_heap 148 = .ok (.aload_n 0, 1) := by decide +kernel
theorem dX12_heap_149 : decode cX12_heap 149 = .ok (.invokevirtual 231, 3) := by decide +kernel
theorem dX12_heap_152 : decode cX12_heap 152 = .ok (.aload_n 0, 1) := by decide +kernel
theorem dX12_heap_156 : decode cX12_heap 156 = .ok (.iconst 2, 1) := by decide +kernel
theorem dX12_heap_169 : decode cX12_heap 169 = .ok (.aload_n 0, 1) := by decide +kernel
theorem dX12_heap_173 : decode cX12_heap 173 = .ok (.iconst 3, 1) := by decide +kernel
theorem dX12_heap_191 : decode cX12_heap 191 = .ok (.aload_n 0, 1) := by decide +kernel
theorem dX12_heap_195 : decode cX12_heap 195 = .ok (.bipush 6, 2) := by decide +kernel
theorem dX12_heap_212 : decode cX12_heap 212 = .ok (.aload_n 0, 1) := by decide +kernel
theorem dX12_heap_216 : decode cX12_heap 216 = .ok (.ireturn, 1) := by decide +kernel
theorem dX12_heap_213 : decode cX12_heap 213 = .ok (.getfield 202, 3) := by decide +kernel
theorem dX12_heap_200 : decode cX12_heap 200 = .ok (.aload_n 0, 1) := by decide +kernel
theorem dX12_heap_204 : decode cX12_heap 204 = .ok (.aload_n 0, 1) := by decide +kernel
theorem dX12_heap_208 : decode cX12_heap 208 = .ok (.imul, 1) := by decide +kernel
theorem dX12_heap_209 : decode cX12_heap 209 = .ok (.goto 7, 3) := by decide +kernel
theorem dX12_heap_205 : decode cX12_heap 205 = .ok (.getfield 222, 3) := by decide +kernel
theorem dX12_heap_201 : decode cX12_heap 201 = .ok (.getfield 234, 3) := by decide +kernel
theorem dX12_heap_197 : decode cX12_heap 197 = .ok (.if_icmp .ne 15, 3) := by decide +kernel
theorem dX12_heap_192 : decode cX12_heap 192 = .ok (.getfield 199, 3) := by decide +kernel
theorem dX12_heap_177 : decode cX12_heap 177 = .ok (.aload_n 0, 1) := by decide +kernel
theorem dX12_heap_181 : decode cX12_heap 181 = .ok (.iconst 2, 1) := by decide +kernel
theorem dX12_heap_182 : decode cX12_heap 182 = .ok (.aload_n 0, 1) := by decide +kernel
theorem dX12_heap_186 : decode cX12_heap 186 = .ok (.imul, 1) := by decide +kernel
theorem dX12_heap_187 : decode cX12_heap 187 = .ok (.iadd, 1) := by decide +kernel
theorem dX12_heap_188 : decode cX12_heap 188 = .ok (.goto 28, 3) := by decide +kernel
theorem dX12_heap_183 : decode cX12_heap 183 = .ok (.getfield 207, 3) := by decide +kernel
theorem dX12_heap_178 : decode cX12_heap 178 = .ok (.getfield 210, 3) := by decide +kernel
theorem dX12_heap_174 : decode cX12_heap 174 = .ok (.if_icmp .ne 17, 3) := by decide +kernel
theorem dX12_heap_170 : decode cX12_heap 170 = .ok (.getfield 199, 3) := by decide +kernel
theorem dX12_heap_160 : decode cX12_heap 160 = .ok (.iconst 2, 1) := by decide +kernel
theorem dX12_heap_161 : decode cX12_heap 161 = .ok (.aload_n 0, 1) := by decide +kernel
theorem dX12_heap_165 : decode cX12_heap 165 = .ok (.imul, 1) := by decide +kernel
theorem dX12_heap_166 : decode cX12_heap 166 = .ok (.goto 50, 3) := by decide +kernel
theorem dX12_heap_162 : decode cX12_heap 162 = .ok (.getfield 202, 3) := by decide +kernel
theorem dX12_heap_157 : decode cX12_heap 157 = .ok (.if_icmp .ne 12, 3) := by decide +kernel
theorem dX12_heap_153 : decode cX12_heap 153 = .ok (.getfield 199, 3) := by decide +kernel
def wr_171 (c k : Nat) : Bool := Nat.beq c 96 || Nat.beq c 99 || Nat.beq c 111 || Nat.beq c 112 || Nat.beq c 113 || Nat.beq c 116 || Nat.beq c 117 || (Nat.beq c 94 && (Nat.beq k 0 || Nat.beq k 3 || Nat.beq k 4 || Nat.beq k 8 || Nat.beq k 9 || Nat.beq k 10 || Nat.beq k 11 || Nat.beq k 12 || Nat.beq k 13 || Nat.beq k 14 || Nat.beq k 15 || Nat.beq k 16 || Nat.beq k 17 || Nat.beq k 18 || Nat.beq k 19 || Nat.beq k 20 || Nat.beq k 21 || Nat.beq k 22 || Nat.beq k 23 || Nat.beq k 24 || Nat.beq k 25 || Nat.beq k 26 || Nat.beq k 27 || Nat.beq k 28 || Nat.beq k 29 || Nat.beq k 30 || Nat.beq k 44 || Nat.beq k 45 || Nat.beq k 46 || Nat.beq k 47 || Nat.beq k 48 || Nat.beq k 49 || Nat.beq k 50 || Nat.beq k 55 || Nat.beq k 56 || Nat.beq k 57 || Nat.beq k 58 || Nat.beq k 59 || Nat.beq k 60 || Nat.beq k 61 || Nat.beq k 62 || Nat.beq k 63 || Nat.beq k 64 || Nat.beq k 67 || Nat.beq k 68 || Nat.beq k 69 || Nat.beq k 70 || Nat.beq k 71))
theorem ws_172_171 : ∀ c k, wr_172 c k = true → wr_171 c k = true := by
  intro c k h
  simp only [wr_172, Bool.or_eq_true, Bool.and_eq_true, Nat.beq_eq] at h
  rcases h with ⟨rfl, (((((((((((((((rfl | rfl) | rfl) | rfl) | rfl) | rfl) | rfl) | rfl) | rfl) | rfl) | rfl) | rfl) | rfl) | rfl) | rfl) | rfl)⟩ <;> rfl
theorem ws_180_171 : ∀ c k, wr_180 c k = true → wr_171 c k = true := by
  intro c k h
  simp only [wr_180, Bool.or_eq_true, Bool.and_eq_true, Nat.beq_eq] at h
  rcases h with (((((rfl | rfl) | rfl) | rfl) | rfl) | rfl) | ⟨rfl, (((((((((((((((((rfl | rfl) | rfl) | rfl) | rfl) | rfl) | rfl) | rfl) | rfl) | rfl) | rfl) | rfl) | rfl) | rfl) | rfl) | rfl) | rfl) | rfl)⟩ <;> rfl
theorem g_171_0 {X : Nat × (Nat → Int32)} {m : Nat → Nat → Int32} {P : Option ma_V → (Nat → Nat → Int32) → Prop}  (h : zm X 4 90 171 20 [(0, .inr (.inr (some 94))), (1, .inl (0 : Int32))] (ma_u (ma_u (ma_u m 94 0 (0 : Int32)) 94 4 (m 94 3)) 94 3 (0 : Int32)) P) : zm X 4 90 171 0 [(0, .inr (.inr (some 94)))] m P := by
  intro d w S Q hd hw hS hm HQ
  subst hm
  refine zw_push hm_171 dX12_heap_0 (v := .inr (.inr (some 94))) rfl ?_
  refine zw_push hm_171 dX12_heap_1 (v := .inl (0 : Int32)) rfl ?_
  refine zw_pf hm_171 dX12_heap_2 (zT_is hS s_94) (zT_t hS s_94) p_12_1_12 zk_int ?_
  refine zw_push hm_171 dX12_heap_5 (v := .inr (.inr (some 94))) rfl ?_
  refine zw_push hm_171 dX12_heap_6 (v := .inr (.inr (some 94))) rfl ?_
  refine zw_gf hm_171 dX12_heap_7 (v := .inl ((mI S) 94 3)) (zT_is (zT_pi hS) s_94) (zT_t (zT_pi hS) s_94) rfl f_12_107_12 rfl ?_
  refine zw_pf hm_171 dX12_heap_10 (zT_is (zT_pi hS) s_94) (zT_t (zT_pi hS) s_94) p_12_124_12 zk_int ?_
  refine zw_push hm_171 dX12_heap_13 (v := .inr (.inr (some 94))) rfl ?_
  refine zw_push hm_171 dX12_heap_14 (v := .inl (0 : Int32)) rfl ?_
  refine zw_pf hm_171 dX12_heap_15 (zT_is (zT_pi (zT_pi hS)) s_94) (zT_t (zT_pi (zT_pi hS)) s_94) p_12_107_12 zk_int ?_
  refine zw_push hm_171 dX12_heap_18 (v := .inl (0 : Int32)) rfl ?_
  refine zw_sto hm_171 dX12_heap_19 [(1, .inl (0 : Int32)), (0, .inr (.inr (some 94)))] rfl rfl rfl ?_
  exact zw_sub (ma_nd_of (ks := [0, 1]) rfl (by decide)) (ma_nd_of (ks := [1, 0]) rfl (by decide)) (ma_le_cons rfl (ma_le_cons rfl (ma_le_nil _))) (h d w _ Q (by omega) (by omega) (zT_pi (zT_pi (zT_pi hS))) rfl HQ)
theorem g_171_20 {X : Nat × (Nat → Int32)} {m : Nat → Nat → Int32} {P : Option ma_V → (Nat → Nat → Int32) → Prop} (l1 : Int32) (h : if (m 94 4) ≤ l1 then (zm X 3 70 172 0 [(0, .inr (.inr (some 94)))] m (zmi (fun v2 m1 => if v2 = 0 then (P (some (.inl ((-1 : Int32) - (m1 94 70)))) m1) else (zm X 4 90 171 60 [(0, .inr (.inr (some 94)))] m1 P)))) else ((0 ≤ l1 ∧ l1.toNatClampNeg < 100) ∧ ((0 ≤ l1 ∧ l1.toNatClampNeg < 100) ∧ (zm X 4 90 171 20 [(0, .inr (.inr (some 94))), (1, .inl (l1 + (1 : Int32)))] (ma_u m 96 l1.toNatClampNeg (vp_nar .byte (m 95 l1.toNatClampNeg))) P)))) : zm X 4 90 171 20 [(0, .inr (.inr (some 94))), (1, .inl l1)] m P := by
  intro d w S Q hd hw hS hm HQ
  subst hm
  refine zw_push hm_171 dX12_heap_20 (v := .inl l1) rfl ?_
  refine zw_push hm_171 dX12_heap_21 (v := .inr (.inr (some 94))) rfl ?_
  refine zw_gf hm_171 dX12_heap_22 (v := .inl ((mI S) 94 4)) (zT_is hS s_94) (zT_t hS s_94) rfl f_12_124_12 rfl ?_
  refine zw_if2 hm_171 dX12_heap_25 (t := 46) rfl zc2_ge ?_ ?_
  · intro hc
    rw [if_pos hc] at h
    refine zw_push hm_171 dX12_heap_46 (v := .inr (.inr (some 94))) rfl ?_
    refine zw_cv hm_171 dX12_heap_47 v_12_196_12 hm_172 [] [] rfl (zT_rt hS s_94 rfl) ⟨by omega, by omega⟩ rfl (h _ _ S _ (by omega) (by omega) hS rfl (fun o9 m1 hv => ?_))
    obtain ⟨v2, rfl, h⟩ := zmi_of hv
    show ma_wp X d w 171 50 [(0, .inr (.inr (some 94))), (1, .inl l1)] [.inl v2] (zst S m1) _
    refine zw_if0 hm_171 dX12_heap_50 (t := 60) rfl zc0_ne ?_ ?_
    · intro hc
      rw [if_neg hc] at h
      exact zw_sub (ma_nd_of (ks := [0]) rfl (by decide)) (ma_nd_of (ks := [0, 1]) rfl (by decide)) (ma_le_cons rfl (ma_le_nil _)) (h d w _ Q (by omega) (by omega) (zT_zst hS m1) rfl HQ)
    · intro hc
      rw [if_pos (Classical.not_not.mp hc)] at h
      refine zw_push hm_171 dX12_heap_53 (v := .inl (-1 : Int32)) rfl ?_
      refine zw_push hm_171 dX12_heap_54 (v := .inr (.inr (some 94))) rfl ?_
      refine zw_gf hm_171 dX12_heap_55 (v := .inl (m1 94 70)) (zT_is (zT_zst hS m1) s_94) (zT_t (zT_zst hS m1) s_94) rfl f_12_133_12 rfl ?_
      refine zw_stk hm_171 dX12_heap_58 (st₉ := [.inl ((-1 : Int32) - (m1 94 70))]) rfl rfl ?_
      exact zw_iret hm_171 dX12_heap_59 (HQ _ _ h)
  · intro hc
    rw [if_neg hc] at h
    refine zw_push hm_171 dX12_heap_28 (v := .inr (.inr (some 94))) rfl ?_
    refine zw_gf hm_171 dX12_heap_29 (v := .inr (.inr (some 96))) (zT_is hS s_94) (zT_t hS s_94) rfl f_12_17_12 (zT_f hS r_94_2) ?_
    refine zw_push hm_171 dX12_heap_32 (v := .inl l1) rfl ?_
    refine zw_push hm_171 dX12_heap_33 (v := .inr (.inr (some 94))) rfl ?_
    refine zw_gf hm_171 dX12_heap_34 (v := .inr (.inr (some 95))) (zT_is hS s_94) (zT_t hS s_94) rfl f_12_13_12 (zT_f hS r_94_1) ?_
    refine zw_push hm_171 dX12_heap_37 (v := .inl l1) rfl ?_
    obtain ⟨hg, h⟩ := h
    refine zw_ba hm_171 dX12_heap_38 (zT_is hS s_95) (zT_h hS s_95) rfl rfl hg ?_
    show ma_wp X d w 171 39 [(0, .inr (.inr (some 94))), (1, .inl l1)] [.inl ((mI S) 95 l1.toNatClampNeg), .inl l1, .inr (.inr (some 96))] S _
    obtain ⟨hg, h⟩ := h
    refine zw_bas21 hm_171 dX12_heap_39 (zT_is hS s_96) (zT_h hS s_96) rfl hg ?_
    refine zw_sto hm_171 dX12_heap_40 [(1, .inl (l1 + (1 : Int32))), (0, .inr (.inr (some 94)))] rfl rfl rfl ?_
    refine zw_goto hm_171 dX12_heap_43 (t := 20) rfl ?_
    exact zw_sub (ma_nd_of (ks := [0, 1]) rfl (by decide)) (ma_nd_of (ks := [1, 0]) rfl (by decide)) (ma_le_cons rfl (ma_le_cons rfl (ma_le_nil _))) (h d w _ Q (by omega) (by omega) (zT_pi hS) rfl HQ)
theorem g_171_60 {X : Nat × (Nat → Int32)} {m : Nat → Nat → Int32} {P : Option ma_V → (Nat → Nat → Int32) → Prop}  (h : zm X 4 90 171 92 [(0, .inr (.inr (some 94)))] (ma_u (ma_u (ma_u (ma_u m 94 10 (m 94 20)) 94 11 (m 94 21)) 94 12 (m 94 22)) 94 13 (m 94 23)) P) : zm X 4 90 171 60 [(0, .inr (.inr (some 94)))] m P := by
  intro d w S Q hd hw hS hm HQ
  subst hm
  refine zw_push hm_171 dX12_heap_60 (v := .inr (.inr (some 94))) rfl ?_
  refine zw_push hm_171 dX12_heap_61 (v := .inr (.inr (some 94))) rfl ?_
  refine zw_gf hm_171 dX12_heap_62 (v := .inl ((mI S) 94 20)) (zT_is hS s_94) (zT_t hS s_94) rfl f_12_162_12 rfl ?_
  refine zw_pf hm_171 dX12_heap_65 (zT_is hS s_94) (zT_t hS s_94) p_12_199_12 zk_int ?_
  refine zw_push hm_171 dX12_heap_68 (v := .inr (.inr (some 94))) rfl ?_
  refine zw_push hm_171 dX12_heap_69 (v := .inr (.inr (some 94))) rfl ?_
  refine zw_gf hm_171 dX12_heap_70 (v := .inl ((mI S) 94 21)) (zT_is (zT_pi hS) s_94) (zT_t (zT_pi hS) s_94) rfl f_12_159_12 rfl ?_
  refine zw_pf hm_171 dX12_heap_73 (zT_is (zT_pi hS) s_94) (zT_t (zT_pi hS) s_94) p_12_202_12 zk_int ?_
  refine zw_push hm_171 dX12_heap_76 (v := .inr (.inr (some 94))) rfl ?_
  refine zw_push hm_171 dX12_heap_77 (v := .inr (.inr (some 94))) rfl ?_
  refine zw_gf hm_171 dX12_heap_78 (v := .inl ((mI S) 94 22)) (zT_is (zT_pi (zT_pi hS)) s_94) (zT_t (zT_pi (zT_pi hS)) s_94) rfl f_12_154_12 rfl ?_
  refine zw_pf hm_171 dX12_heap_81 (zT_is (zT_pi (zT_pi hS)) s_94) (zT_t (zT_pi (zT_pi hS)) s_94) p_12_205_12 zk_int ?_
  refine zw_push hm_171 dX12_heap_84 (v := .inr (.inr (some 94))) rfl ?_
  refine zw_push hm_171 dX12_heap_85 (v := .inr (.inr (some 94))) rfl ?_
  refine zw_gf hm_171 dX12_heap_86 (v := .inl ((mI S) 94 23)) (zT_is (zT_pi (zT_pi (zT_pi hS))) s_94) (zT_t (zT_pi (zT_pi (zT_pi hS))) s_94) rfl f_12_165_12 rfl ?_
  refine zw_pf hm_171 dX12_heap_89 (zT_is (zT_pi (zT_pi (zT_pi hS))) s_94) (zT_t (zT_pi (zT_pi (zT_pi hS))) s_94) p_12_207_12 zk_int ?_
  exact (h d w _ Q (by omega) (by omega) (zT_pi (zT_pi (zT_pi (zT_pi hS)))) rfl HQ)
theorem g_171_92 {X : Nat × (Nat → Int32)} {m : Nat → Nat → Int32} {P : Option ma_V → (Nat → Nat → Int32) → Prop}  (h : zm X 4 90 171 124 [(0, .inr (.inr (some 94)))] (ma_u (ma_u (ma_u (ma_u m 94 14 (m 94 24)) 94 15 (m 94 25)) 94 16 (m 94 26)) 94 17 (m 94 27)) P) : zm X 4 90 171 92 [(0, .inr (.inr (some 94)))] m P := by
  intro d w S Q hd hw hS hm HQ
  subst hm
  refine zw_push hm_171 dX12_heap_92 (v := .inr (.inr (some 94))) rfl ?_
  refine zw_push hm_171 dX12_heap_93 (v := .inr (.inr (some 94))) rfl ?_
  refine zw_gf hm_171 dX12_heap_94 (v := .inl ((mI S) 94 24)) (zT_is hS s_94) (zT_t hS s_94) rfl f_12_168_12 rfl ?_
  refine zw_pf hm_171 dX12_heap_97 (zT_is hS s_94) (zT_t hS s_94) p_12_210_12 zk_int ?_
  refine zw_push hm_171 dX12_heap_100 (v := .inr (.inr (some 94))) rfl ?_
  refine zw_push hm_171 dX12_heap_101 (v := .inr (.inr (some 94))) rfl ?_
  refine zw_gf hm_171 dX12_heap_102 (v := .inl ((mI S) 94 25)) (zT_is (zT_pi hS) s_94) (zT_t (zT_pi hS) s_94) rfl f_12_171_12 rfl ?_
  refine zw_pf hm_171 dX12_heap_105 (zT_is (zT_pi hS) s_94) (zT_t (zT_pi hS) s_94) p_12_213_12 zk_int ?_
  refine zw_push hm_171 dX12_heap_108 (v := .inr (.inr (some 94))) rfl ?_
  refine zw_push hm_171 dX12_heap_109 (v := .inr (.inr (some 94))) rfl ?_
  refine zw_gf hm_171 dX12_heap_110 (v := .inl ((mI S) 94 26)) (zT_is (zT_pi (zT_pi hS)) s_94) (zT_t (zT_pi (zT_pi hS)) s_94) rfl f_12_174_12 rfl ?_
  refine zw_pf hm_171 dX12_heap_113 (zT_is (zT_pi (zT_pi hS)) s_94) (zT_t (zT_pi (zT_pi hS)) s_94) p_12_216_12 zk_int ?_
  refine zw_push hm_171 dX12_heap_116 (v := .inr (.inr (some 94))) rfl ?_
  refine zw_push hm_171 dX12_heap_117 (v := .inr (.inr (some 94))) rfl ?_
  refine zw_gf hm_171 dX12_heap_118 (v := .inl ((mI S) 94 27)) (zT_is (zT_pi (zT_pi (zT_pi hS))) s_94) (zT_t (zT_pi (zT_pi (zT_pi hS))) s_94) rfl f_12_183_12 rfl ?_
  refine zw_pf hm_171 dX12_heap_121 (zT_is (zT_pi (zT_pi (zT_pi hS))) s_94) (zT_t (zT_pi (zT_pi (zT_pi hS))) s_94) p_12_219_12 zk_int ?_
  exact (h d w _ Q (by omega) (by omega) (zT_pi (zT_pi (zT_pi (zT_pi hS)))) rfl HQ)
theorem g_171_124 {X : Nat × (Nat → Int32)} {m : Nat → Nat → Int32} {P : Option ma_V → (Nat → Nat → Int32) → Prop}  (h : ((m 94 30) = 0 ∨ (m 94 30) = 1) ∧ (zm X 4 90 171 148 [(0, .inr (.inr (some 94)))] (ma_u (ma_u (ma_u m 94 18 (m 94 28)) 94 19 (m 94 29)) 94 9 (m 94 30)) P)) : zm X 4 90 171 124 [(0, .inr (.inr (some 94)))] m P := by
  intro d w S Q hd hw hS hm HQ
  subst hm
  refine zw_push hm_171 dX12_heap_124 (v := .inr (.inr (some 94))) rfl ?_
  refine zw_push hm_171 dX12_heap_125 (v := .inr (.inr (some 94))) rfl ?_
  refine zw_gf hm_171 dX12_heap_126 (v := .inl ((mI S) 94 28)) (zT_is hS s_94) (zT_t hS s_94) rfl f_12_190_12 rfl ?_
  refine zw_pf hm_171 dX12_heap_129 (zT_is hS s_94) (zT_t hS s_94) p_12_222_12 zk_int ?_
  refine zw_push hm_171 dX12_heap_132 (v := .inr (.inr (some 94))) rfl ?_
  refine zw_push hm_171 dX12_heap_133 (v := .inr (.inr (some 94))) rfl ?_
  refine zw_gf hm_171 dX12_heap_134 (v := .inl ((mI S) 94 29)) (zT_is (zT_pi hS) s_94) (zT_t (zT_pi hS) s_94) rfl f_12_193_12 rfl ?_
  refine zw_pf hm_171 dX12_heap_137 (zT_is (zT_pi hS) s_94) (zT_t (zT_pi hS) s_94) p_12_225_12 zk_int ?_
  refine zw_push hm_171 dX12_heap_140 (v := .inr (.inr (some 94))) rfl ?_
  refine zw_push hm_171 dX12_heap_141 (v := .inr (.inr (some 94))) rfl ?_
  refine zw_gf hm_171 dX12_heap_142 (v := .inl ((mI S) 94 30)) (zT_is (zT_pi (zT_pi hS)) s_94) (zT_t (zT_pi (zT_pi hS)) s_94) rfl f_12_186_12 rfl ?_
  obtain ⟨hg2, h⟩ := h
  refine zw_pf hm_171 dX12_heap_145 (zT_is (zT_pi (zT_pi hS)) s_94) (zT_t (zT_pi (zT_pi hS)) s_94) p_12_228_12 (zk_bool hg2) ?_
  exact (h d w _ Q (by omega) (by omega) (zT_pi (zT_pi (zT_pi hS))) rfl HQ)
theorem g_171_148 {X : Nat × (Nat → Int32)} {m : Nat → Nat → Int32} {P : Option ma_V → (Nat → Nat → Int32) → Prop}  (h : zm X 0 0 180 0 [(0, .inr (.inr (some 94)))] m (zmv (fun m1 => if (m1 94 10) = (2 : Int32) then (P (some (.inl ((2 : Int32) * (m1 94 11)))) m1) else (if (m1 94 10) = (3 : Int32) then (P (some (.inl ((m1 94 14) + ((2 : Int32) * (m1 94 13))))) m1) else (if (m1 94 10) = (6 : Int32) then (P (some (.inl ((m1 94 64) * (m1 94 18)))) m1) else (P (some (.inl (m1 94 11))) m1)))))) : zm X 4 90 171 148 [(0, .inr (.inr (some 94)))] m P := by
  intro d w S Q hd hw hS hm HQ
  subst hm
  refine zw_push hm_171 dX12_heap_148 (v := .inr (.inr (some 94))) rfl ?_
  refine zw_cv hm_171 dX12_heap_149 v_12_231_12 hm_180 [] [] rfl (zT_rt hS s_94 rfl) ⟨by omega, by omega⟩ rfl (h _ _ S _ (by omega) (by omega) hS rfl (fun o9 m1 hv => ?_))
  obtain ⟨rfl, h⟩ := zmv_of hv
  show ma_wp X d w 171 152 [(0, .inr (.inr (some 94)))] [] (zst S m1) _
  refine zw_push hm_171 dX12_heap_152 (v := .inr (.inr (some 94))) rfl ?_
  refine zw_gf hm_171 dX12_heap_153 (v := .inl (m1 94 10)) (zT_is (zT_zst hS m1) s_94) (zT_t (zT_zst hS m1) s_94) rfl f_12_199_12 rfl ?_
  refine zw_push hm_171 dX12_heap_156 (v := .inl (2 : Int32)) rfl ?_
  refine zw_if2 hm_171 dX12_heap_157 (t := 169) rfl zc2_ne ?_ ?_
  · intro hc
    rw [if_neg hc] at h
    refine zw_push hm_171 dX12_heap_169 (v := .inr (.inr (some 94))) rfl ?_
    refine zw_gf hm_171 dX12_heap_170 (v := .inl (m1 94 10)) (zT_is (zT_zst hS m1) s_94) (zT_t (zT_zst hS m1) s_94) rfl f_12_199_12 rfl ?_
    refine zw_push hm_171 dX12_heap_173 (v := .inl (3 : Int32)) rfl ?_
    refine zw_if2 hm_171 dX12_heap_174 (t := 191) rfl zc2_ne ?_ ?_
    · intro hc
      rw [if_neg hc] at h
      refine zw_push hm_171 dX12_heap_191 (v := .inr (.inr (some 94))) rfl ?_
      refine zw_gf hm_171 dX12_heap_192 (v := .inl (m1 94 10)) (zT_is (zT_zst hS m1) s_94) (zT_t (zT_zst hS m1) s_94) rfl f_12_199_12 rfl ?_
      refine zw_push hm_171 dX12_heap_195 (v := .inl (6 : Int32)) rfl ?_
      refine zw_if2 hm_171 dX12_heap_197 (t := 212) rfl zc2_ne ?_ ?_
      · intro hc
        rw [if_neg hc] at h
        refine zw_push hm_171 dX12_heap_212 (v := .inr (.inr (some 94))) rfl ?_
        refine zw_gf hm_171 dX12_heap_213 (v := .inl (m1 94 11)) (zT_is (zT_zst hS m1) s_94) (zT_t (zT_zst hS m1) s_94) rfl f_12_202_12 rfl ?_
        exact zw_iret hm_171 dX12_heap_216 (HQ _ _ h)
      · intro hc
        rw [if_pos (Classical.not_not.mp hc)] at h
        refine zw_push hm_171 dX12_heap_200 (v := .inr (.inr (some 94))) rfl ?_
        refine zw_gf hm_171 dX12_heap_201 (v := .inl (m1 94 64)) (zT_is (zT_zst hS m1) s_94) (zT_t (zT_zst hS m1) s_94) rfl f_12_234_12 rfl ?_
        refine zw_push hm_171 dX12_heap_204 (v := .inr (.inr (some 94))) rfl ?_
        refine zw_gf hm_171 dX12_heap_205 (v := .inl (m1 94 18)) (zT_is (zT_zst hS m1) s_94) (zT_t (zT_zst hS m1) s_94) rfl f_12_222_12 rfl ?_
        refine zw_stk hm_171 dX12_heap_208 (st₉ := [.inl ((m1 94 64) * (m1 94 18))]) rfl rfl ?_
        refine zw_goto hm_171 dX12_heap_209 (t := 216) rfl ?_
        exact zw_iret hm_171 dX12_heap_216 (HQ _ _ h)
    · intro hc
      rw [if_pos (Classical.not_not.mp hc)] at h
      refine zw_push hm_171 dX12_heap_177 (v := .inr (.inr (some 94))) rfl ?_
      refine zw_gf hm_171 dX12_heap_178 (v := .inl (m1 94 14)) (zT_is (zT_zst hS m1) s_94) (zT_t (zT_zst hS m1) s_94) rfl f_12_210_12 rfl ?_
      refine zw_push hm_171 dX12_heap_181 (v := .inl (2 : Int32)) rfl ?_
      refine zw_push hm_171 dX12_heap_182 (v := .inr (.inr (some 94))) rfl ?_
      refine zw_gf hm_171 dX12_heap_183 (v := .inl (m1 94 13)) (zT_is (zT_zst hS m1) s_94) (zT_t (zT_zst hS m1) s_94) rfl f_12_207_12 rfl ?_
      refine zw_stk hm_171 dX12_heap_186 (st₉ := [.inl ((2 : Int32) * (m1 94 13)), .inl (m1 94 14)]) rfl rfl ?_
      refine zw_stk hm_171 dX12_heap_187 (st₉ := [.inl ((m1 94 14) + ((2 : Int32) * (m1 94 13)))]) rfl rfl ?_
      refine zw_goto hm_171 dX12_heap_188 (t := 216) rfl ?_
      exact zw_iret hm_171 dX12_heap_216 (HQ _ _ h)
  · intro hc
    rw [if_pos (Classical.not_not.mp hc)] at h
    refine zw_push hm_171 dX12_heap_160 (v := .inl (2 : Int32)) rfl ?_
    refine zw_push hm_171 dX12_heap_161 (v := .inr (.inr (some 94))) rfl ?_
    refine zw_gf hm_171 dX12_heap_162 (v := .inl (m1 94 11)) (zT_is (zT_zst hS m1) s_94) (zT_t (zT_zst hS m1) s_94) rfl f_12_202_12 rfl ?_
    refine zw_stk hm_171 dX12_heap_165 (st₉ := [.inl ((2 : Int32) * (m1 94 11))]) rfl rfl ?_
    refine zw_goto hm_171 dX12_heap_166 (t := 216) rfl ?_
    exact zw_iret hm_171 dX12_heap_216 (HQ _ _ h)
/-! from 94.471 -/
/-! dirty cards are found anew; the major cleaning -/
def zDP (ol ca : Int) (at₉ kr kd wd di : Nat → Int32) (s i : Nat) : Prop := (zrf kr kd wd s i).toInt < 0 ∨ (at₉ (zrf kr kd wd s i).toNatClampNeg).toInt < ol ∨ di (((at₉ s).toInt + 1 + i) / ca).toNat ≠ 0
def zDCu (ol ca : Int) (us at₉ ws kr kd wd di : Nat → Int32) (cur i0 : Nat) : Prop := ∀ s, s < 3100 → us s ≠ 0 → (at₉ s).toInt < ol → ∀ i : Nat, (i : Int) < (ws s).toInt → (s < cur ∨ (s = cur ∧ i < i0)) → zDP ol ca at₉ kr kd wd di s i
section DC1
variable {ol ca : Int} {us at₉ ws kr kd wd di : Nat → Int32} {cur cur2 i0 i2 k c : Nat} {m : Nat → Nat → Int32} {x : Int32}
theorem DCu_0 : zDCu ol ca us at₉ ws kr kd wd di 0 0 := fun s _ _ _ i _ h => by omega
theorem DCu_skip (h : zDCu ol ca us at₉ ws kr kd wd di cur 0) (hs : us cur = 0 ∨ ol ≤ (at₉ cur).toInt) (e : cur2 = cur + 1) : zDCu ol ca us at₉ ws kr kd wd di cur2 0 := by
  subst e
  intro s hs1 hu ha i hi hc
  by_cases q : s = cur
  · subst q
    rcases hs with z | z
    · exact absurd z hu
    · omega
  · exact h s hs1 hu ha i hi (Or.inl (by omega))
theorem DCu_next (h : zDCu ol ca us at₉ ws kr kd wd di cur i0) (hs : (ws cur).toInt ≤ (i0 : Int)) (e : cur2 = cur + 1) : zDCu ol ca us at₉ ws kr kd wd di cur2 0 := by
  subst e
  intro s hs1 hu ha i hi hc
  by_cases q : s = cur
  · exact h s hs1 hu ha i hi (Or.inr ⟨q, by rw [q] at hi; omega⟩)
  · exact h s hs1 hu ha i hi (Or.inl (by omega))
theorem DCu_adv (h : zDCu ol ca us at₉ ws kr kd wd di cur i0) (hp : zDP ol ca at₉ kr kd wd di cur i0) (e : i2 = i0 + 1) : zDCu ol ca us at₉ ws kr kd wd di cur i2 := by
  subst e
  intro s hs1 hu ha i hi hc
  by_cases q : s = cur ∧ i = i0
  · rw [q.1, q.2]; exact hp
  · refine h s hs1 hu ha i hi ?_
    rcases hc with z | z
    · exact Or.inl z
    · exact Or.inr ⟨z.1, by have := z.1; have := z.2; rcases Nat.lt_or_ge i i0 with y | y; exact y; exact absurd ⟨z.1, by omega⟩ q⟩
theorem DCu_put (h : zDCu ol ca us at₉ ws kr kd wd (m c) cur i0) (hx : x ≠ 0) : zDCu ol ca us at₉ ws kr kd wd (ma_u m c k x c) cur i0 := by
  intro s hs1 hu ha i hi hc
  rcases h s hs1 hu ha i hi hc with q | q | q
  · exact Or.inl q
  · exact Or.inr (Or.inl q)
  · exact Or.inr (Or.inr (mu_mono hx q))
theorem DCu_end (h : zDCu ol ca us at₉ ws kr kd wd di cur i0) (hc : 3100 ≤ cur) : zDC ol ca us at₉ ws kr kd wd di := fun s hs hu ha i hi => h s hs hu ha i hi (Or.inl (by omega))
theorem sm_mono {b b₉ : Nat → Bool} {n : Nat} (h : ∀ s, s < n → b s = true → b₉ s = true) (hw : ∀ s, s < n → 0 ≤ (ws s).toInt) : sm b ws n ≤ sm b₉ ws n := by
  induction n with
  | zero => exact Int.le_refl _
  | succ n ih =>
    unfold sm
    have i := ih (fun s hs => h s (by omega)) (fun s hs => hw s (by omega))
    have w := hw n (by omega)
    have t := h n (by omega)
    by_cases q : b n = true
    · rw [if_pos q, if_pos (t q)]; omega
    · rw [if_neg q]
      split <;> omega
theorem HA_major {po ro yo ol ca hf tp ot ot₉ : Int32} {us us₉ ws at₉ at2 ow ow2 di di₉ : Nat → Int32} (h : zHA po ro yo ol ca hf tp ot us ws at₉ ow di kr kd wd) (hp : po.toInt = 3) (hu : ∀ s, s < 3100 → us₉ s ≠ 0 → us s ≠ 0) (hl : zLO ol.toInt at₉ at2) (hw : ∀ s, s < 3100 → 0 ≤ (ws s).toInt) (hk : ot₉.toInt ≤ ot.toInt ∧ zPK ol.toInt ot₉.toInt us₉ ws at2 ow2) (hd : zDC ol.toInt ca.toInt us₉ at2 ws kr kd wd di₉) : zHA po ro yo ol ca hf tp ot₉ us₉ ws at2 ow2 di₉ kr kd wd := by
  obtain ⟨a1, a2, a3, a4, a5⟩ := h.2 hp
  refine ⟨fun e => by omega, fun _ => ⟨a1, ⟨a2.1, a2.2.1, ?_⟩, by omega, hk.2, hd⟩⟩
  refine Int.le_trans (sm_mono (fun s hs hb => ?_) hw) a2.2.2
  unfold zbY at hb ⊢
  rw [decide_eq_true_eq] at hb ⊢
  refine ⟨hu s hs hb.1, ?_⟩
  rcases hl s hs with q | q
  · rw [← q]; exact hb.2
  · omega
end DC1

