/-! from 94.464 -/
/-! the reference (written by wip/tools/gen94m.py) -/
set_option maxRecDepth 100000 in
theorem hm_213 : ma_md 213 = some (12, yX12_cardOf, cX12_cardOf, 3, (some (FieldType.int))) := rfl
set_option maxRecDepth 100000 in
theorem hm_247 : ma_md 247 = some (12, yX12_link, cX12_link, 9, (some (FieldType.int))) := rfl
theorem f_12_216_12 : ma_fld 12 216 12 = some 16 := by decide +kernel
theorem v_12_375_12 : ma_vl 12 375 12 = some (1, 213, 2) := by decide +kernel
theorem dX12_link_0 : decode cX12_link 0 = .ok (.aload_n 0, 1) := by decide +kernel
theorem dX12_link_1 : decode cX12_link 1 = .ok (.aload_n 0, 1) := by decide +kernel
theorem dX12_link_12 : decode cX12_link 12 = .ok (.iconst 0, 1) := by decide +kernel
theorem dX12_link_13 : decode cX12_link 13 = .ok (.invokevirtual 110, 3) := by decide +kernel
theorem dX12_link_16 : decode cX12_link 16 = .ok (.ifCond .eq 5, 3) := by decide +kernel
theorem dX12_link_21 : decode cX12_link 21 = .ok (.aload_n 0, 1) := by decide +kernel
theorem dX12_link_22 : decode cX12_link 22 = .ok (.iload_n 1, 1) := by decide +kernel
theorem dX12_link_23 : decode cX12_link 23 = .ok (.invokevirtual 499, 3) := by decide +kernel
theorem dX12_link_26 : decode cX12_link 26 = .ok (.istore 4, 2) := by decide +kernel
theorem dX12_link_28 : decode cX12_link 28 = .ok (.iload 4, 2) := by decide +kernel
theorem dX12_link_50 : decode cX12_link 50 = .ok (.iconst 0, 1) := by decide +kernel
theorem dX12_link_51 : decode cX12_link 51 = .ok (.istore 5, 2) := by decide +kernel
theorem dX12_link_33 : decode cX12_link 33 = .ok (.iload_n 3, 1) := by decide +kernel
theorem dX12_link_34 : decode cX12_link 34 = .ok (.iconst (-1), 1) := by decide +kernel
theorem dX12_link_46 : decode cX12_link 46 = .ok (.iconst 1, 1) := by decide +kernel
theorem dX12_link_47 : decode cX12_link 47 = .ok (.goto 4, 3) := by decide +kernel
theorem dX12_link_38 : decode cX12_link 38 = .ok (.aload_n 0, 1) := by decide +kernel
theorem dX12_link_39 : decode cX12_link 39 = .ok (.iload_n 3, 1) := by decide +kernel
theorem dX12_link_40 : decode cX12_link 40 = .ok (.invokevirtual 499, 3) := by decide +kernel
theorem dX12_link_43 : decode cX12_link 43 = .ok (.ifCond .lt 7, 3) := by decide +kernel
theorem dX12_link_35 : decode cX12_link 35 = .ok (.if_icmp .eq 11, 3) := by decide +kernel
theorem dX12_link_30 : decode cX12_link 30 = .ok (.ifCond .lt 20, 3) := by decide +kernel
theorem dX12_link_8 : decode cX12_link 8 = .ok (.iconst 1, 1) := by decide +kernel
theorem dX12_link_9 : decode cX12_link 9 = .ok (.goto 4, 3) := by decide +kernel
theorem dX12_link_19 : decode cX12_link 19 = .ok (.iconst 0, 1) := by decide +kernel
theorem dX12_link_20 : decode cX12_link 20 = .ok (.ireturn, 1) := by decide +kernel
theorem dX12_link_5 : decode cX12_link 5 = .ok (.ifCond .ne 7, 3) := by decide +kernel
theorem dX12_link_2 : decode cX12_link 2 = .ok (.getfield 237, 3) := by decide +kernel
theorem dX12_link_53 : decode cX12_link 53 = .ok (.aload_n 0, 1) := by decide +kernel
theorem dX12_link_54 : decode cX12_link 54 = .ok (.iload 5, 2) := by decide +kernel
theorem dX12_link_63 : decode cX12_link 63 = .ok (.iload_n 2, 1) := by decide +kernel
theorem dX12_link_78 : decode cX12_link 78 = .ok (.iconst 3, 1) := by decide +kernel
theorem dX12_link_79 : decode cX12_link 79 = .ok (.goto 18, 3) := by decide +kernel
theorem dX12_link_97 : decode cX12_link 97 = .ok (.invokevirtual 110, 3) := by decide +kernel
theorem dX12_link_100 : decode cX12_link 100 = .ok (.ifCond .eq 5, 3) := by decide +kernel
theorem dX12_link_103 : decode cX12_link 103 = .ok (.iconst 0, 1) := by decide +kernel
theorem dX12_link_104 : decode cX12_link 104 = .ok (.ireturn, 1) := by decide +kernel
theorem dX12_link_67 : decode cX12_link 67 = .ok (.iload_n 2, 1) := by decide +kernel
theorem dX12_link_68 : decode cX12_link 68 = .ok (.aload_n 0, 1) := by decide +kernel
theorem dX12_link_72 : decode cX12_link 72 = .ok (.iload 4, 2) := by decide +kernel
theorem dX12_link_82 : decode cX12_link 82 = .ok (.aload_n 0, 1) := by decide +kernel
theorem dX12_link_83 : decode cX12_link 83 = .ok (.iload 4, 2) := by decide +kernel
theorem dX12_link_85 : decode cX12_link 85 = .ok (.iload_n 2, 1) := by decide +kernel
theorem dX12_link_86 : decode cX12_link 86 = .ok (.invokevirtual 288, 3) := by decide +kernel
theorem dX12_link_89 : decode cX12_link 89 = .ok (.ifCond .ne 7, 3) := by decide +kernel
theorem dX12_link_96 : decode cX12_link 96 = .ok (.iconst 0, 1) := by decide +kernel
theorem dX12_link_92 : decode cX12_link 92 = .ok (.iconst 4, 1) := by decide +kernel
theorem dX12_link_93 : decode cX12_link 93 = .ok (.goto 4, 3) := by decide +kernel
theorem dX12_link_75 : decode cX12_link 75 = .ok (.if_icmp .lt 7, 3) := by decide +kernel
theorem dX12_link_74 : decode cX12_link 74 = .ok (.iaload, 1) := by decide +kernel
theorem dX12_link_69 : decode cX12_link 69 = .ok (.getfield 37, 3) := by decide +kernel
theorem dX12_link_64 : decode cX12_link 64 = .ok (.ifCond .lt 14, 3) := by decide +kernel
theorem dX12_link_59 : decode cX12_link 59 = .ok (.iconst 2, 1) := by decide +kernel
theorem dX12_link_60 : decode cX12_link 60 = .ok (.goto 37, 3) := by decide +kernel
theorem dX12_link_56 : decode cX12_link 56 = .ok (.ifCond .ne 7, 3) := by decide +kernel
theorem dX12_link_105 : decode cX12_link 105 = .ok (.iload_n 3, 1) := by decide +kernel
theorem dX12_link_106 : decode cX12_link 106 = .ok (.iconst (-1), 1) := by decide +kernel
theorem dX12_link_114 : decode cX12_link 114 = .ok (.aload_n 0, 1) := by decide +kernel
theorem dX12_link_115 : decode cX12_link 115 = .ok (.iload_n 3, 1) := by decide +kernel
theorem dX12_link_116 : decode cX12_link 116 = .ok (.invokevirtual 307, 3) := by decide +kernel
theorem dX12_link_119 : decode cX12_link 119 = .ok (.istore 6, 2) := by decide +kernel
theorem dX12_link_110 : decode cX12_link 110 = .ok (.iconst (-1), 1) := by decide +kernel
theorem dX12_link_111 : decode cX12_link 111 = .ok (.goto 8, 3) := by decide +kernel
theorem dX12_link_107 : decode cX12_link 107 = .ok (.if_icmp .ne 7, 3) := by decide +kernel
theorem dX12_link_121 : decode cX12_link 121 = .ok (.aload_n 0, 1) := by decide +kernel
theorem dX12_link_125 : decode cX12_link 125 = .ok (.iload 4, 2) := by decide +kernel
theorem dX12_link_127 : decode cX12_link 127 = .ok (.bipush 60, 2) := by decide +kernel
theorem dX12_link_129 : decode cX12_link 129 = .ok (.imul, 1) := by decide +kernel
theorem dX12_link_130 : decode cX12_link 130 = .ok (.iload_n 2, 1) := by decide +kernel
theorem dX12_link_131 : decode cX12_link 131 = .ok (.iadd, 1) := by decide +kernel
theorem dX12_link_133 : decode cX12_link 133 = .ok (.istore 7, 2) := by decide +kernel
theorem dX12_link_135 : decode cX12_link 135 = .ok (.aload_n 0, 1) := by decide +kernel
theorem dX12_link_136 : decode cX12_link 136 = .ok (.iload 7, 2) := by decide +kernel
theorem dX12_link_138 : decode cX12_link 138 = .ok (.invokevirtual 502, 3) := by decide +kernel
theorem dX12_link_141 : decode cX12_link 141 = .ok (.istore 8, 2) := by decide +kernel
theorem dX12_link_143 : decode cX12_link 143 = .ok (.aload_n 0, 1) := by decide +kernel
theorem dX12_link_144 : decode cX12_link 144 = .ok (.iload 6, 2) := by decide +kernel
theorem dX12_link_146 : decode cX12_link 146 = .ok (.invokevirtual 484, 3) := by decide +kernel
theorem dX12_link_132 : decode cX12_link 132 = .ok (.iaload, 1) := by decide +kernel
theorem dX12_link_122 : decode cX12_link 122 = .ok (.getfield 56, 3) := by decide +kernel
theorem dX12_link_149 : decode cX12_link 149 = .ok (.aload_n 0, 1) := by decide +kernel
theorem dX12_link_153 : decode cX12_link 153 = .ok (.iload 4, 2) := by decide +kernel
theorem dX12_link_155 : decode cX12_link 155 = .ok (.bipush 60, 2) := by decide +kernel
theorem dX12_link_157 : decode cX12_link 157 = .ok (.imul, 1) := by decide +kernel
theorem dX12_link_158 : decode cX12_link 158 = .ok (.iload_n 2, 1) := by decide +kernel
theorem dX12_link_159 : decode cX12_link 159 = .ok (.iadd, 1) := by decide +kernel
theorem dX12_link_160 : decode cX12_link 160 = .ok (.iload 6, 2) := by decide +kernel
theorem dX12_link_163 : decode cX12_link 163 = .ok (.aload_n 0, 1) := by decide +kernel
theorem dX12_link_167 : decode cX12_link 167 = .ok (.iconst 3, 1) := by decide +kernel
theorem dX12_link_171 : decode cX12_link 171 = .ok (.aload_n 0, 1) := by decide +kernel
theorem dX12_link_172 : decode cX12_link 172 = .ok (.iload 4, 2) := by decide +kernel
theorem dX12_link_174 : decode cX12_link 174 = .ok (.invokevirtual 314, 3) := by decide +kernel
theorem dX12_link_177 : decode cX12_link 177 = .ok (.ifCond .eq 30, 3) := by decide +kernel
theorem dX12_link_180 : decode cX12_link 180 = .ok (.iload 6, 2) := by decide +kernel
theorem dX12_link_185 : decode cX12_link 185 = .ok (.aload_n 0, 1) := by decide +kernel
theorem dX12_link_186 : decode cX12_link 186 = .ok (.iload 6, 2) := by decide +kernel
theorem dX12_link_188 : decode cX12_link 188 = .ok (.invokevirtual 314, 3) := by decide +kernel
theorem dX12_link_191 : decode cX12_link 191 = .ok (.ifCond .ne 16, 3) := by decide +kernel
theorem dX12_link_194 : decode cX12_link 194 = .ok (.aload_n 0, 1) := by decide +kernel
theorem dX12_link_198 : decode cX12_link 198 = .ok (.aload_n 0, 1) := by decide +kernel
theorem dX12_link_199 : decode cX12_link 199 = .ok (.iload 4, 2) := by decide +kernel
theorem dX12_link_201 : decode cX12_link 201 = .ok (.iload_n 2, 1) := by decide +kernel
theorem dX12_link_202 : decode cX12_link 202 = .ok (.invokevirtual 375, 3) := by decide +kernel
theorem dX12_cardOf_0 : decode cX12_cardOf 0 = .ok (.aload_n 0, 1) := by decide +kernel
theorem dX12_cardOf_4 : decode cX12_cardOf 4 = .ok (.iload_n 1, 1) := by decide +kernel
theorem dX12_cardOf_6 : decode cX12_cardOf 6 = .ok (.iconst 1, 1) := by decide +kernel
theorem dX12_cardOf_7 : decode cX12_cardOf 7 = .ok (.iadd, 1) := by decide +kernel
theorem dX12_cardOf_8 : decode cX12_cardOf 8 = .ok (.iload_n 2, 1) := by decide +kernel
theorem dX12_cardOf_9 : decode cX12_cardOf 9 = .ok (.iadd, 1) := by decide +kernel
theorem dX12_cardOf_10 : decode cX12_cardOf 10 = .ok (.aload_n 0, 1) := by decide +kernel
theorem dX12_link_205 : decode cX12_link 205 = .ok (.iconst 1, 1) := by decide +kernel
theorem dX12_link_206 : decode cX12_link 206 = .ok (.bastore, 1) := by decide +kernel
theorem dX12_cardOf_15 : decode cX12_cardOf 15 = .ok (.ireturn, 1) := by decide +kernel
theorem dX12_cardOf_14 : decode cX12_cardOf 14 = .ok (.idiv, 1) := by decide +kernel
theorem dX12_cardOf_11 : decode cX12_cardOf 11 = .ok (.getfield 216, 3) := by decide +kernel
theorem dX12_cardOf_5 : decode cX12_cardOf 5 = .ok (.iaload, 1) := by decide +kernel
theorem dX12_cardOf_1 : decode cX12_cardOf 1 = .ok (.getfield 40, 3) := by decide +kernel
theorem dX12_link_195 : decode cX12_link 195 = .ok (.getfield 83, 3) := by decide +kernel
theorem dX12_link_182 : decode cX12_link 182 = .ok (.ifCond .lt 25, 3) := by decide +kernel
theorem dX12_link_168 : decode cX12_link 168 = .ok (.if_icmp .ne 39, 3) := by decide +kernel
theorem dX12_link_164 : decode cX12_link 164 = .ok (.getfield 199, 3) := by decide +kernel
theorem dX12_link_162 : decode cX12_link 162 = .ok (.iastore, 1) := by decide +kernel
theorem dX12_link_150 : decode cX12_link 150 = .ok (.getfield 56, 3) := by decide +kernel
theorem dX12_link_207 : decode cX12_link 207 = .ok (.aload_n 0, 1) := by decide +kernel
theorem dX12_link_208 : decode cX12_link 208 = .ok (.iload 7, 2) := by decide +kernel
theorem dX12_link_210 : decode cX12_link 210 = .ok (.iload 6, 2) := by decide +kernel
theorem dX12_link_212 : decode cX12_link 212 = .ok (.invokevirtual 487, 3) := by decide +kernel
theorem dX12_link_215 : decode cX12_link 215 = .ok (.aload_n 0, 1) := by decide +kernel
theorem dX12_link_216 : decode cX12_link 216 = .ok (.iload 7, 2) := by decide +kernel
theorem dX12_link_218 : decode cX12_link 218 = .ok (.invokevirtual 490, 3) := by decide +kernel
theorem dX12_link_221 : decode cX12_link 221 = .ok (.iload 8, 2) := by decide +kernel
theorem dX12_link_223 : decode cX12_link 223 = .ok (.ireturn, 1) := by decide +kernel
def wr_247 (c k : Nat) : Bool := Nat.beq c 99 || Nat.beq c 105 || Nat.beq c 106 || Nat.beq c 108 || Nat.beq c 109 || Nat.beq c 110 || Nat.beq c 111 || Nat.beq c 113 || Nat.beq c 114 || Nat.beq c 115 || Nat.beq c 117 || Nat.beq c 118 || Nat.beq c 120 || Nat.beq c 121 || (Nat.beq c 94 && (Nat.beq k 0 || Nat.beq k 44 || Nat.beq k 45 || Nat.beq k 49 || Nat.beq k 55 || Nat.beq k 56 || Nat.beq k 73 || Nat.beq k 80))
theorem ws_240_247 : ∀ c k, wr_240 c k = true → wr_247 c k = true := by
  intro c k h
  simp only [wr_240, wr_247, Bool.or_eq_true, Bool.and_eq_true, Nat.beq_eq] at h ⊢
  omega
theorem ws_241_247 : ∀ c k, wr_241 c k = true → wr_247 c k = true := by
  intro c k h
  simp only [wr_241, wr_247, Bool.or_eq_true, Bool.and_eq_true, Nat.beq_eq] at h ⊢
  omega
theorem ws_245_247 : ∀ c k, wr_245 c k = true → wr_247 c k = true := by
  intro c k h
  simp only [wr_245, wr_247, Bool.or_eq_true, Bool.and_eq_true, Nat.beq_eq] at h ⊢
  omega
theorem ws_246_247 : ∀ c k, wr_246 c k = true → wr_247 c k = true := fun _ _ h => by cases h
theorem g_247_0 {X : Nat × (Nat → Int32)} {m : Nat → Nat → Int32} {P : Option ma_V → (Nat → Nat → Int32) → Prop} (ob : Int32) (ix : Int32) (oo : Int32) (h : if (m 94 8) = 0 then (P (some (.inl (0 : Int32))) (ma_u m 94 0 (1 : Int32))) else (zm X 4 87 245 0 [(0, .inr (.inr (some 94))), (1, .inl ob)] (ma_u m 94 0 (0 : Int32)) (zmi (fun v2 m1 => if v2 < 0 then (zm X 5 109 247 53 [(0, .inr (.inr (some 94))), (2, .inl ix), (3, .inl oo), (4, .inl v2), (5, .inl (0 : Int32))] m1 P) else (if oo = (-1 : Int32) then (zm X 5 109 247 53 [(0, .inr (.inr (some 94))), (2, .inl ix), (3, .inl oo), (4, .inl v2), (5, .inl (1 : Int32))] m1 P) else (zm X 4 87 245 0 [(0, .inr (.inr (some 94))), (1, .inl oo)] m1 (zmi (fun v4 m3 => if v4 < 0 then (zm X 5 109 247 53 [(0, .inr (.inr (some 94))), (2, .inl ix), (3, .inl oo), (4, .inl v2), (5, .inl (0 : Int32))] m3 P) else (zm X 5 109 247 53 [(0, .inr (.inr (some 94))), (2, .inl ix), (3, .inl oo), (4, .inl v2), (5, .inl (1 : Int32))] m3 P))))))))) : zm X 5 109 247 0 [(0, .inr (.inr (some 94))), (1, .inl ob), (2, .inl ix), (3, .inl oo)] m P := by
  intro d w S Q hd hw hS hm HQ
  subst hm
  refine zw_push hm_247 dX12_link_0 (v := .inr (.inr (some 94))) rfl ?_
  refine zw_push hm_247 dX12_link_1 (v := .inr (.inr (some 94))) rfl ?_
  refine zw_gf hm_247 dX12_link_2 (v := .inl ((mI S) 94 8)) (zT_is hS s_94) (zT_t hS s_94) rfl f_12_237_12 rfl ?_
  refine zw_if0 hm_247 dX12_link_5 (t := 12) rfl zc0_ne ?_ ?_
  · intro hc
    rw [if_neg hc] at h
    refine zw_push hm_247 dX12_link_12 (v := .inl (0 : Int32)) rfl ?_
    refine zw_cv hm_247 dX12_link_13 v_12_110_12 hm_167 [.inl (0 : Int32)] [] rfl (zT_rt hS s_94 rfl) ⟨by omega, by omega⟩ rfl ?_
    show ma_wp X (d - 1) (w - 21) 167 0 [(0, .inr (.inr (some 94))), (1, .inl (0 : Int32))] [] S _
    refine zw_push hm_167 dX12_fails_0 (v := .inr (.inr (some 94))) rfl ?_
    refine zw_push hm_167 dX12_fails_1 (v := .inl (0 : Int32)) rfl ?_
    refine zw_pf hm_167 dX12_fails_2 (zT_is hS s_94) (zT_t hS s_94) p_12_1_12 zk_int ?_
    refine zw_push hm_167 dX12_fails_5 (v := .inl (0 : Int32)) rfl ?_
    refine zw_if0 hm_167 dX12_fails_6 (t := 13) rfl zc0_eq (fun _ => ?_) (fun hc => absurd (by decide) hc)
    refine zw_push hm_167 dX12_fails_13 (v := .inl (0 : Int32)) rfl ?_
    refine zw_bret hm_167 dX12_fails_14 (by decide) ?_
    show ma_wp X d w 247 16 [(0, .inr (.inr (some 94))), (1, .inl ob), (2, .inl ix), (3, .inl oo)] [.inl (0 : Int32)] (ma_put S 94 0 (.inl (0 : Int32))) _
    refine zw_if0 hm_247 dX12_link_16 (t := 21) rfl zc0_eq (fun _ => ?_) (fun hc => absurd (by decide) hc)
    refine zw_push hm_247 dX12_link_21 (v := .inr (.inr (some 94))) rfl ?_
    refine zw_push hm_247 dX12_link_22 (v := .inl ob) rfl ?_
    refine zw_cv hm_247 dX12_link_23 v_12_499_12 hm_245 [.inl ob] [] rfl (zT_rt (zT_pi hS) s_94 rfl) ⟨by omega, by omega⟩ rfl (h _ _ (ma_put S 94 0 (.inl (0 : Int32))) _ (by omega) (by omega) (zT_pi hS) rfl (fun o9 m1 hv => ?_))
    obtain ⟨v2, rfl, h⟩ := zmi_of hv
    show ma_wp X d w 247 26 [(0, .inr (.inr (some 94))), (1, .inl ob), (2, .inl ix), (3, .inl oo)] [.inl v2] (zst S m1) _
    refine zw_sto hm_247 dX12_link_26 [(4, .inl v2), (0, .inr (.inr (some 94))), (1, .inl ob), (2, .inl ix), (3, .inl oo)] rfl rfl rfl ?_
    refine zw_push hm_247 dX12_link_28 (v := .inl v2) rfl ?_
    refine zw_if0 hm_247 dX12_link_30 (t := 50) rfl zc0_lt ?_ ?_
    · intro hc
      rw [if_pos hc] at h
      refine zw_push hm_247 dX12_link_50 (v := .inl (0 : Int32)) rfl ?_
      refine zw_sto hm_247 dX12_link_51 [(5, .inl (0 : Int32)), (4, .inl v2), (0, .inr (.inr (some 94))), (1, .inl ob), (2, .inl ix), (3, .inl oo)] rfl rfl rfl ?_
      exact zw_sub (ma_nd_of (ks := [0, 2, 3, 4, 5]) rfl (by decide)) (ma_nd_of (ks := [5, 4, 0, 1, 2, 3]) rfl (by decide)) (ma_le_cons rfl (ma_le_cons rfl (ma_le_cons rfl (ma_le_cons rfl (ma_le_cons rfl (ma_le_nil _)))))) (h d w _ Q (by omega) (by omega) (zT_zst hS m1) rfl HQ)
    · intro hc
      rw [if_neg hc] at h
      refine zw_push hm_247 dX12_link_33 (v := .inl oo) rfl ?_
      refine zw_push hm_247 dX12_link_34 (v := .inl (-1 : Int32)) rfl ?_
      refine zw_if2 hm_247 dX12_link_35 (t := 46) rfl zc2_eq ?_ ?_
      · intro hc
        rw [if_pos hc] at h
        refine zw_push hm_247 dX12_link_46 (v := .inl (1 : Int32)) rfl ?_
        refine zw_goto hm_247 dX12_link_47 (t := 51) rfl ?_
        refine zw_sto hm_247 dX12_link_51 [(5, .inl (1 : Int32)), (4, .inl v2), (0, .inr (.inr (some 94))), (1, .inl ob), (2, .inl ix), (3, .inl oo)] rfl rfl rfl ?_
        exact zw_sub (ma_nd_of (ks := [0, 2, 3, 4, 5]) rfl (by decide)) (ma_nd_of (ks := [5, 4, 0, 1, 2, 3]) rfl (by decide)) (ma_le_cons rfl (ma_le_cons rfl (ma_le_cons rfl (ma_le_cons rfl (ma_le_cons rfl (ma_le_nil _)))))) (h d w _ Q (by omega) (by omega) (zT_zst hS m1) rfl HQ)
      · intro hc
        rw [if_neg hc] at h
        refine zw_push hm_247 dX12_link_38 (v := .inr (.inr (some 94))) rfl ?_
        refine zw_push hm_247 dX12_link_39 (v := .inl oo) rfl ?_
        refine zw_cv hm_247 dX12_link_40 v_12_499_12 hm_245 [.inl oo] [] rfl (zT_rt (zT_zst hS m1) s_94 rfl) ⟨by omega, by omega⟩ rfl (h _ _ (zst S m1) _ (by omega) (by omega) (zT_zst hS m1) rfl (fun o9 m3 hv => ?_))
        obtain ⟨v4, rfl, h⟩ := zmi_of hv
        show ma_wp X d w 247 43 [(4, .inl v2), (0, .inr (.inr (some 94))), (1, .inl ob), (2, .inl ix), (3, .inl oo)] [.inl v4] (zst S m3) _
        refine zw_if0 hm_247 dX12_link_43 (t := 50) rfl zc0_lt ?_ ?_
        · intro hc
          rw [if_pos hc] at h
          refine zw_push hm_247 dX12_link_50 (v := .inl (0 : Int32)) rfl ?_
          refine zw_sto hm_247 dX12_link_51 [(5, .inl (0 : Int32)), (4, .inl v2), (0, .inr (.inr (some 94))), (1, .inl ob), (2, .inl ix), (3, .inl oo)] rfl rfl rfl ?_
          exact zw_sub (ma_nd_of (ks := [0, 2, 3, 4, 5]) rfl (by decide)) (ma_nd_of (ks := [5, 4, 0, 1, 2, 3]) rfl (by decide)) (ma_le_cons rfl (ma_le_cons rfl (ma_le_cons rfl (ma_le_cons rfl (ma_le_cons rfl (ma_le_nil _)))))) (h d w _ Q (by omega) (by omega) (zT_zst hS m3) rfl HQ)
        · intro hc
          rw [if_neg hc] at h
          refine zw_push hm_247 dX12_link_46 (v := .inl (1 : Int32)) rfl ?_
          refine zw_goto hm_247 dX12_link_47 (t := 51) rfl ?_
          refine zw_sto hm_247 dX12_link_51 [(5, .inl (1 : Int32)), (4, .inl v2), (0, .inr (.inr (some 94))), (1, .inl ob), (2, .inl ix), (3, .inl oo)] rfl rfl rfl ?_
          exact zw_sub (ma_nd_of (ks := [0, 2, 3, 4, 5]) rfl (by decide)) (ma_nd_of (ks := [5, 4, 0, 1, 2, 3]) rfl (by decide)) (ma_le_cons rfl (ma_le_cons rfl (ma_le_cons rfl (ma_le_cons rfl (ma_le_cons rfl (ma_le_nil _)))))) (h d w _ Q (by omega) (by omega) (zT_zst hS m3) rfl HQ)
  · intro hc
    rw [if_pos (Classical.not_not.mp hc)] at h
    refine zw_push hm_247 dX12_link_8 (v := .inl (1 : Int32)) rfl ?_
    refine zw_goto hm_247 dX12_link_9 (t := 13) rfl ?_
    refine zw_cv hm_247 dX12_link_13 v_12_110_12 hm_167 [.inl (1 : Int32)] [] rfl (zT_rt hS s_94 rfl) ⟨by omega, by omega⟩ rfl ?_
    show ma_wp X (d - 1) (w - 21) 167 0 [(0, .inr (.inr (some 94))), (1, .inl (1 : Int32))] [] S _
    refine zw_push hm_167 dX12_fails_0 (v := .inr (.inr (some 94))) rfl ?_
    refine zw_push hm_167 dX12_fails_1 (v := .inl (1 : Int32)) rfl ?_
    refine zw_pf hm_167 dX12_fails_2 (zT_is hS s_94) (zT_t hS s_94) p_12_1_12 zk_int ?_
    refine zw_push hm_167 dX12_fails_5 (v := .inl (1 : Int32)) rfl ?_
    refine zw_if0 hm_167 dX12_fails_6 (t := 13) rfl zc0_eq (fun hc => absurd hc (by decide)) (fun _ => ?_)
    refine zw_push hm_167 dX12_fails_9 (v := .inl (1 : Int32)) rfl ?_
    refine zw_goto hm_167 dX12_fails_10 (t := 14) rfl ?_
    refine zw_bret hm_167 dX12_fails_14 (by decide) ?_
    show ma_wp X d w 247 16 [(0, .inr (.inr (some 94))), (1, .inl ob), (2, .inl ix), (3, .inl oo)] [.inl (1 : Int32)] (ma_put S 94 0 (.inl (1 : Int32))) _
    refine zw_if0 hm_247 dX12_link_16 (t := 21) rfl zc0_eq (fun hc => absurd hc (by decide)) (fun _ => ?_)
    refine zw_push hm_247 dX12_link_19 (v := .inl (0 : Int32)) rfl ?_
    exact zw_iret hm_247 dX12_link_20 (HQ _ _ h)
theorem g_247_53 {X : Nat × (Nat → Int32)} {m : Nat → Nat → Int32} {P : Option ma_V → (Nat → Nat → Int32) → Prop} (l2 : Int32) (l3 : Int32) (l4 : Int32) (l5 : Int32) (h : if l5 = 0 then (P (some (.inl (0 : Int32))) (ma_u m 94 0 (2 : Int32))) else (if l2 < 0 then (P (some (.inl (0 : Int32))) (ma_u m 94 0 (3 : Int32))) else ((0 ≤ l4 ∧ l4.toNatClampNeg < 3100) ∧ (if l2 < (m 102 l4.toNatClampNeg) then ((0 ≤ l4 ∧ l4.toNatClampNeg < 3100) ∧ (if (m 101 l4.toNatClampNeg) = (16 : Int32) then (zm X 5 109 247 105 [(0, .inr (.inr (some 94))), (2, .inl l2), (3, .inl l3), (4, .inl l4)] (ma_u m 94 0 (0 : Int32)) P) else ((0 ≤ l4 ∧ l4.toNatClampNeg < 3100) ∧ (if (16 : Int32) ≤ (m 101 l4.toNatClampNeg) then (P (some (.inl (0 : Int32))) (ma_u m 94 0 (4 : Int32))) else ((0 ≤ l4 ∧ l4.toNatClampNeg < 3100) ∧ ((0 ≤ (m 101 l4.toNatClampNeg) ∧ (m 101 l4.toNatClampNeg).toNatClampNeg < 16) ∧ (if (((m 98 (m 101 l4.toNatClampNeg).toNatClampNeg) >>> (l2 &&& 31)) &&& (1 : Int32)) = (1 : Int32) then (zm X 5 109 247 105 [(0, .inr (.inr (some 94))), (2, .inl l2), (3, .inl l3), (4, .inl l4)] (ma_u m 94 0 (0 : Int32)) P) else (P (some (.inl (0 : Int32))) (ma_u m 94 0 (4 : Int32)))))))))) else (P (some (.inl (0 : Int32))) (ma_u m 94 0 (3 : Int32))))))) : zm X 5 109 247 53 [(0, .inr (.inr (some 94))), (2, .inl l2), (3, .inl l3), (4, .inl l4), (5, .inl l5)] m P := by
  intro d w S Q hd hw hS hm HQ
  subst hm
  refine zw_push hm_247 dX12_link_53 (v := .inr (.inr (some 94))) rfl ?_
  refine zw_push hm_247 dX12_link_54 (v := .inl l5) rfl ?_
  refine zw_if0 hm_247 dX12_link_56 (t := 63) rfl zc0_ne ?_ ?_
  · intro hc
    rw [if_neg hc] at h
    refine zw_push hm_247 dX12_link_63 (v := .inl l2) rfl ?_
    refine zw_if0 hm_247 dX12_link_64 (t := 78) rfl zc0_lt ?_ ?_
    · intro hc
      rw [if_pos hc] at h
      refine zw_push hm_247 dX12_link_78 (v := .inl (3 : Int32)) rfl ?_
      refine zw_goto hm_247 dX12_link_79 (t := 97) rfl ?_
      refine zw_cv hm_247 dX12_link_97 v_12_110_12 hm_167 [.inl (3 : Int32)] [] rfl (zT_rt hS s_94 rfl) ⟨by omega, by omega⟩ rfl ?_
      show ma_wp X (d - 1) (w - 21) 167 0 [(0, .inr (.inr (some 94))), (1, .inl (3 : Int32))] [] S _
      refine zw_push hm_167 dX12_fails_0 (v := .inr (.inr (some 94))) rfl ?_
      refine zw_push hm_167 dX12_fails_1 (v := .inl (3 : Int32)) rfl ?_
      refine zw_pf hm_167 dX12_fails_2 (zT_is hS s_94) (zT_t hS s_94) p_12_1_12 zk_int ?_
      refine zw_push hm_167 dX12_fails_5 (v := .inl (3 : Int32)) rfl ?_
      refine zw_if0 hm_167 dX12_fails_6 (t := 13) rfl zc0_eq (fun hc => absurd hc (by decide)) (fun _ => ?_)
      refine zw_push hm_167 dX12_fails_9 (v := .inl (1 : Int32)) rfl ?_
      refine zw_goto hm_167 dX12_fails_10 (t := 14) rfl ?_
      refine zw_bret hm_167 dX12_fails_14 (by decide) ?_
      show ma_wp X d w 247 100 [(0, .inr (.inr (some 94))), (2, .inl l2), (3, .inl l3), (4, .inl l4), (5, .inl l5)] [.inl (1 : Int32)] (ma_put S 94 0 (.inl (3 : Int32))) _
      refine zw_if0 hm_247 dX12_link_100 (t := 105) rfl zc0_eq (fun hc => absurd hc (by decide)) (fun _ => ?_)
      refine zw_push hm_247 dX12_link_103 (v := .inl (0 : Int32)) rfl ?_
      exact zw_iret hm_247 dX12_link_104 (HQ _ _ h)
    · intro hc
      rw [if_neg hc] at h
      refine zw_push hm_247 dX12_link_67 (v := .inl l2) rfl ?_
      refine zw_push hm_247 dX12_link_68 (v := .inr (.inr (some 94))) rfl ?_
      refine zw_gf hm_247 dX12_link_69 (v := .inr (.inr (some 102))) (zT_is hS s_94) (zT_t hS s_94) rfl f_12_37_12 (zT_f hS r_94_34) ?_
      refine zw_push hm_247 dX12_link_72 (v := .inl l4) rfl ?_
      obtain ⟨hg, h⟩ := h
      refine zw_ia hm_247 dX12_link_74 (zT_is hS s_102) (zT_h hS s_102) rfl hg ?_
      show ma_wp X d w 247 75 [(0, .inr (.inr (some 94))), (2, .inl l2), (3, .inl l3), (4, .inl l4), (5, .inl l5)] [.inl ((mI S) 102 l4.toNatClampNeg), .inl l2, .inr (.inr (some 94))] S _
      refine zw_if2 hm_247 dX12_link_75 (t := 82) rfl zc2_lt ?_ ?_
      · intro hc
        rw [if_pos hc] at h
        refine zw_push hm_247 dX12_link_82 (v := .inr (.inr (some 94))) rfl ?_
        refine zw_push hm_247 dX12_link_83 (v := .inl l4) rfl ?_
        refine zw_push hm_247 dX12_link_85 (v := .inl l2) rfl ?_
        refine zw_cv hm_247 dX12_link_86 v_12_288_12 hm_193 [.inl l2, .inl l4] [.inr (.inr (some 94))] rfl (zT_rt hS s_94 rfl) ⟨by omega, by omega⟩ rfl ?_
        show ma_wp X (d - 1) (w - 22) 193 0 [(0, .inr (.inr (some 94))), (1, .inl l4), (2, .inl l2)] [] S _
        refine zw_push hm_193 dX12_isReference_0 (v := .inr (.inr (some 94))) rfl ?_
        refine zw_gf hm_193 dX12_isReference_1 (v := .inr (.inr (some 101))) (zT_is hS s_94) (zT_t hS s_94) rfl f_12_34_12 (zT_f hS r_94_33) ?_
        refine zw_push hm_193 dX12_isReference_4 (v := .inl l4) rfl ?_
        obtain ⟨hg, h⟩ := h
        refine zw_ia hm_193 dX12_isReference_5 (zT_is hS s_101) (zT_h hS s_101) rfl hg ?_
        show ma_wp X (d - 1) (w - 22) 193 6 [(0, .inr (.inr (some 94))), (1, .inl l4), (2, .inl l2)] [.inl ((mI S) 101 l4.toNatClampNeg)] S _
        refine zw_push hm_193 dX12_isReference_6 (v := .inl (16 : Int32)) rfl ?_
        refine zw_if2 hm_193 dX12_isReference_8 (t := 41) rfl zc2_eq ?_ ?_
        · intro hc
          rw [if_pos hc] at h
          refine zw_push hm_193 dX12_isReference_41 (v := .inl (1 : Int32)) rfl ?_
          refine zw_goto hm_193 dX12_isReference_42 (t := 46) rfl ?_
          refine zw_bret hm_193 dX12_isReference_46 (by decide) ?_
          show ma_wp X d w 247 89 [(0, .inr (.inr (some 94))), (2, .inl l2), (3, .inl l3), (4, .inl l4), (5, .inl l5)] [.inl (1 : Int32), .inr (.inr (some 94))] S _
          refine zw_if0 hm_247 dX12_link_89 (t := 96) rfl zc0_ne (fun _ => ?_) (fun hc => absurd (by decide) hc)
          refine zw_push hm_247 dX12_link_96 (v := .inl (0 : Int32)) rfl ?_
          refine zw_cv hm_247 dX12_link_97 v_12_110_12 hm_167 [.inl (0 : Int32)] [] rfl (zT_rt hS s_94 rfl) ⟨by omega, by omega⟩ rfl ?_
          show ma_wp X (d - 1) (w - 21) 167 0 [(0, .inr (.inr (some 94))), (1, .inl (0 : Int32))] [] S _
          refine zw_push hm_167 dX12_fails_0 (v := .inr (.inr (some 94))) rfl ?_
          refine zw_push hm_167 dX12_fails_1 (v := .inl (0 : Int32)) rfl ?_
          refine zw_pf hm_167 dX12_fails_2 (zT_is hS s_94) (zT_t hS s_94) p_12_1_12 zk_int ?_
          refine zw_push hm_167 dX12_fails_5 (v := .inl (0 : Int32)) rfl ?_
          refine zw_if0 hm_167 dX12_fails_6 (t := 13) rfl zc0_eq (fun _ => ?_) (fun hc => absurd (by decide) hc)
          refine zw_push hm_167 dX12_fails_13 (v := .inl (0 : Int32)) rfl ?_
          refine zw_bret hm_167 dX12_fails_14 (by decide) ?_
          show ma_wp X d w 247 100 [(0, .inr (.inr (some 94))), (2, .inl l2), (3, .inl l3), (4, .inl l4), (5, .inl l5)] [.inl (0 : Int32)] (ma_put S 94 0 (.inl (0 : Int32))) _
          refine zw_if0 hm_247 dX12_link_100 (t := 105) rfl zc0_eq (fun _ => ?_) (fun hc => absurd (by decide) hc)
          exact zw_sub (ma_nd_of (ks := [0, 2, 3, 4]) rfl (by decide)) (ma_nd_of (ks := [0, 2, 3, 4, 5]) rfl (by decide)) (ma_le_cons rfl (ma_le_cons rfl (ma_le_cons rfl (ma_le_cons rfl (ma_le_nil _))))) (h d w _ Q (by omega) (by omega) (zT_pi hS) rfl HQ)
        · intro hc
          rw [if_neg hc] at h
          refine zw_push hm_193 dX12_isReference_11 (v := .inr (.inr (some 94))) rfl ?_
          refine zw_gf hm_193 dX12_isReference_12 (v := .inr (.inr (some 101))) (zT_is hS s_94) (zT_t hS s_94) rfl f_12_34_12 (zT_f hS r_94_33) ?_
          refine zw_push hm_193 dX12_isReference_15 (v := .inl l4) rfl ?_
          obtain ⟨hg, h⟩ := h
          refine zw_ia hm_193 dX12_isReference_16 (zT_is hS s_101) (zT_h hS s_101) rfl hg ?_
          show ma_wp X (d - 1) (w - 22) 193 17 [(0, .inr (.inr (some 94))), (1, .inl l4), (2, .inl l2)] [.inl ((mI S) 101 l4.toNatClampNeg)] S _
          refine zw_push hm_193 dX12_isReference_17 (v := .inl (16 : Int32)) rfl ?_
          refine zw_if2 hm_193 dX12_isReference_19 (t := 45) rfl zc2_ge ?_ ?_
          · intro hc
            rw [if_pos hc] at h
            refine zw_push hm_193 dX12_isReference_45 (v := .inl (0 : Int32)) rfl ?_
            refine zw_bret hm_193 dX12_isReference_46 (by decide) ?_
            show ma_wp X d w 247 89 [(0, .inr (.inr (some 94))), (2, .inl l2), (3, .inl l3), (4, .inl l4), (5, .inl l5)] [.inl (0 : Int32), .inr (.inr (some 94))] S _
            refine zw_if0 hm_247 dX12_link_89 (t := 96) rfl zc0_ne (fun hc => absurd hc (by decide)) (fun _ => ?_)
            refine zw_push hm_247 dX12_link_92 (v := .inl (4 : Int32)) rfl ?_
            refine zw_goto hm_247 dX12_link_93 (t := 97) rfl ?_
            refine zw_cv hm_247 dX12_link_97 v_12_110_12 hm_167 [.inl (4 : Int32)] [] rfl (zT_rt hS s_94 rfl) ⟨by omega, by omega⟩ rfl ?_
            show ma_wp X (d - 1) (w - 21) 167 0 [(0, .inr (.inr (some 94))), (1, .inl (4 : Int32))] [] S _
            refine zw_push hm_167 dX12_fails_0 (v := .inr (.inr (some 94))) rfl ?_
            refine zw_push hm_167 dX12_fails_1 (v := .inl (4 : Int32)) rfl ?_
            refine zw_pf hm_167 dX12_fails_2 (zT_is hS s_94) (zT_t hS s_94) p_12_1_12 zk_int ?_
            refine zw_push hm_167 dX12_fails_5 (v := .inl (4 : Int32)) rfl ?_
            refine zw_if0 hm_167 dX12_fails_6 (t := 13) rfl zc0_eq (fun hc => absurd hc (by decide)) (fun _ => ?_)
            refine zw_push hm_167 dX12_fails_9 (v := .inl (1 : Int32)) rfl ?_
            refine zw_goto hm_167 dX12_fails_10 (t := 14) rfl ?_
            refine zw_bret hm_167 dX12_fails_14 (by decide) ?_
            show ma_wp X d w 247 100 [(0, .inr (.inr (some 94))), (2, .inl l2), (3, .inl l3), (4, .inl l4), (5, .inl l5)] [.inl (1 : Int32)] (ma_put S 94 0 (.inl (4 : Int32))) _
            refine zw_if0 hm_247 dX12_link_100 (t := 105) rfl zc0_eq (fun hc => absurd hc (by decide)) (fun _ => ?_)
            refine zw_push hm_247 dX12_link_103 (v := .inl (0 : Int32)) rfl ?_
            exact zw_iret hm_247 dX12_link_104 (HQ _ _ h)
          · intro hc
            rw [if_neg hc] at h
            refine zw_push hm_193 dX12_isReference_22 (v := .inr (.inr (some 94))) rfl ?_
            refine zw_gf hm_193 dX12_isReference_23 (v := .inr (.inr (some 98))) (zT_is hS s_94) (zT_t hS s_94) rfl f_12_24_12 (zT_f hS r_94_6) ?_
            refine zw_push hm_193 dX12_isReference_26 (v := .inr (.inr (some 94))) rfl ?_
            refine zw_gf hm_193 dX12_isReference_27 (v := .inr (.inr (some 101))) (zT_is hS s_94) (zT_t hS s_94) rfl f_12_34_12 (zT_f hS r_94_33) ?_
            refine zw_push hm_193 dX12_isReference_30 (v := .inl l4) rfl ?_
            obtain ⟨hg, h⟩ := h
            refine zw_ia hm_193 dX12_isReference_31 (zT_is hS s_101) (zT_h hS s_101) rfl hg ?_
            show ma_wp X (d - 1) (w - 22) 193 32 [(0, .inr (.inr (some 94))), (1, .inl l4), (2, .inl l2)] [.inl ((mI S) 101 l4.toNatClampNeg), .inr (.inr (some 98))] S _
            obtain ⟨hg, h⟩ := h
            refine zw_ia hm_193 dX12_isReference_32 (zT_is hS s_98) (zT_h hS s_98) rfl hg ?_
            show ma_wp X (d - 1) (w - 22) 193 33 [(0, .inr (.inr (some 94))), (1, .inl l4), (2, .inl l2)] [.inl ((mI S) 98 ((mI S) 101 l4.toNatClampNeg).toNatClampNeg)] S _
            refine zw_push hm_193 dX12_isReference_33 (v := .inl l2) rfl ?_
            refine zw_stk hm_193 dX12_isReference_34 (st₉ := [.inl (((mI S) 98 ((mI S) 101 l4.toNatClampNeg).toNatClampNeg) >>> (l2 &&& 31))]) rfl rfl ?_
            refine zw_push hm_193 dX12_isReference_35 (v := .inl (1 : Int32)) rfl ?_
            refine zw_stk hm_193 dX12_isReference_36 (st₉ := [.inl ((((mI S) 98 ((mI S) 101 l4.toNatClampNeg).toNatClampNeg) >>> (l2 &&& 31)) &&& (1 : Int32))]) rfl rfl ?_
            refine zw_push hm_193 dX12_isReference_37 (v := .inl (1 : Int32)) rfl ?_
            refine zw_if2 hm_193 dX12_isReference_38 (t := 45) rfl zc2_ne ?_ ?_
            · intro hc
              rw [if_neg hc] at h
              refine zw_push hm_193 dX12_isReference_45 (v := .inl (0 : Int32)) rfl ?_
              refine zw_bret hm_193 dX12_isReference_46 (by decide) ?_
              show ma_wp X d w 247 89 [(0, .inr (.inr (some 94))), (2, .inl l2), (3, .inl l3), (4, .inl l4), (5, .inl l5)] [.inl (0 : Int32), .inr (.inr (some 94))] S _
              refine zw_if0 hm_247 dX12_link_89 (t := 96) rfl zc0_ne (fun hc => absurd hc (by decide)) (fun _ => ?_)
              refine zw_push hm_247 dX12_link_92 (v := .inl (4 : Int32)) rfl ?_
              refine zw_goto hm_247 dX12_link_93 (t := 97) rfl ?_
              refine zw_cv hm_247 dX12_link_97 v_12_110_12 hm_167 [.inl (4 : Int32)] [] rfl (zT_rt hS s_94 rfl) ⟨by omega, by omega⟩ rfl ?_
              show ma_wp X (d - 1) (w - 21) 167 0 [(0, .inr (.inr (some 94))), (1, .inl (4 : Int32))] [] S _
              refine zw_push hm_167 dX12_fails_0 (v := .inr (.inr (some 94))) rfl ?_
              refine zw_push hm_167 dX12_fails_1 (v := .inl (4 : Int32)) rfl ?_
              refine zw_pf hm_167 dX12_fails_2 (zT_is hS s_94) (zT_t hS s_94) p_12_1_12 zk_int ?_
              refine zw_push hm_167 dX12_fails_5 (v := .inl (4 : Int32)) rfl ?_
              refine zw_if0 hm_167 dX12_fails_6 (t := 13) rfl zc0_eq (fun hc => absurd hc (by decide)) (fun _ => ?_)
              refine zw_push hm_167 dX12_fails_9 (v := .inl (1 : Int32)) rfl ?_
              refine zw_goto hm_167 dX12_fails_10 (t := 14) rfl ?_
              refine zw_bret hm_167 dX12_fails_14 (by decide) ?_
              show ma_wp X d w 247 100 [(0, .inr (.inr (some 94))), (2, .inl l2), (3, .inl l3), (4, .inl l4), (5, .inl l5)] [.inl (1 : Int32)] (ma_put S 94 0 (.inl (4 : Int32))) _
              refine zw_if0 hm_247 dX12_link_100 (t := 105) rfl zc0_eq (fun hc => absurd hc (by decide)) (fun _ => ?_)
              refine zw_push hm_247 dX12_link_103 (v := .inl (0 : Int32)) rfl ?_
              exact zw_iret hm_247 dX12_link_104 (HQ _ _ h)
            · intro hc
              rw [if_pos (Classical.not_not.mp hc)] at h
              refine zw_push hm_193 dX12_isReference_41 (v := .inl (1 : Int32)) rfl ?_
              refine zw_goto hm_193 dX12_isReference_42 (t := 46) rfl ?_
              refine zw_bret hm_193 dX12_isReference_46 (by decide) ?_
              show ma_wp X d w 247 89 [(0, .inr (.inr (some 94))), (2, .inl l2), (3, .inl l3), (4, .inl l4), (5, .inl l5)] [.inl (1 : Int32), .inr (.inr (some 94))] S _
              refine zw_if0 hm_247 dX12_link_89 (t := 96) rfl zc0_ne (fun _ => ?_) (fun hc => absurd (by decide) hc)
              refine zw_push hm_247 dX12_link_96 (v := .inl (0 : Int32)) rfl ?_
              refine zw_cv hm_247 dX12_link_97 v_12_110_12 hm_167 [.inl (0 : Int32)] [] rfl (zT_rt hS s_94 rfl) ⟨by omega, by omega⟩ rfl ?_
              show ma_wp X (d - 1) (w - 21) 167 0 [(0, .inr (.inr (some 94))), (1, .inl (0 : Int32))] [] S _
              refine zw_push hm_167 dX12_fails_0 (v := .inr (.inr (some 94))) rfl ?_
              refine zw_push hm_167 dX12_fails_1 (v := .inl (0 : Int32)) rfl ?_
              refine zw_pf hm_167 dX12_fails_2 (zT_is hS s_94) (zT_t hS s_94) p_12_1_12 zk_int ?_
              refine zw_push hm_167 dX12_fails_5 (v := .inl (0 : Int32)) rfl ?_
              refine zw_if0 hm_167 dX12_fails_6 (t := 13) rfl zc0_eq (fun _ => ?_) (fun hc => absurd (by decide) hc)
              refine zw_push hm_167 dX12_fails_13 (v := .inl (0 : Int32)) rfl ?_
              refine zw_bret hm_167 dX12_fails_14 (by decide) ?_
              show ma_wp X d w 247 100 [(0, .inr (.inr (some 94))), (2, .inl l2), (3, .inl l3), (4, .inl l4), (5, .inl l5)] [.inl (0 : Int32)] (ma_put S 94 0 (.inl (0 : Int32))) _
              refine zw_if0 hm_247 dX12_link_100 (t := 105) rfl zc0_eq (fun _ => ?_) (fun hc => absurd (by decide) hc)
              exact zw_sub (ma_nd_of (ks := [0, 2, 3, 4]) rfl (by decide)) (ma_nd_of (ks := [0, 2, 3, 4, 5]) rfl (by decide)) (ma_le_cons rfl (ma_le_cons rfl (ma_le_cons rfl (ma_le_cons rfl (ma_le_nil _))))) (h d w _ Q (by omega) (by omega) (zT_pi hS) rfl HQ)
      · intro hc
        rw [if_neg hc] at h
        refine zw_push hm_247 dX12_link_78 (v := .inl (3 : Int32)) rfl ?_
        refine zw_goto hm_247 dX12_link_79 (t := 97) rfl ?_
        refine zw_cv hm_247 dX12_link_97 v_12_110_12 hm_167 [.inl (3 : Int32)] [] rfl (zT_rt hS s_94 rfl) ⟨by omega, by omega⟩ rfl ?_
        show ma_wp X (d - 1) (w - 21) 167 0 [(0, .inr (.inr (some 94))), (1, .inl (3 : Int32))] [] S _
        refine zw_push hm_167 dX12_fails_0 (v := .inr (.inr (some 94))) rfl ?_
        refine zw_push hm_167 dX12_fails_1 (v := .inl (3 : Int32)) rfl ?_
        refine zw_pf hm_167 dX12_fails_2 (zT_is hS s_94) (zT_t hS s_94) p_12_1_12 zk_int ?_
        refine zw_push hm_167 dX12_fails_5 (v := .inl (3 : Int32)) rfl ?_
        refine zw_if0 hm_167 dX12_fails_6 (t := 13) rfl zc0_eq (fun hc => absurd hc (by decide)) (fun _ => ?_)
        refine zw_push hm_167 dX12_fails_9 (v := .inl (1 : Int32)) rfl ?_
        refine zw_goto hm_167 dX12_fails_10 (t := 14) rfl ?_
        refine zw_bret hm_167 dX12_fails_14 (by decide) ?_
        show ma_wp X d w 247 100 [(0, .inr (.inr (some 94))), (2, .inl l2), (3, .inl l3), (4, .inl l4), (5, .inl l5)] [.inl (1 : Int32)] (ma_put S 94 0 (.inl (3 : Int32))) _
        refine zw_if0 hm_247 dX12_link_100 (t := 105) rfl zc0_eq (fun hc => absurd hc (by decide)) (fun _ => ?_)
        refine zw_push hm_247 dX12_link_103 (v := .inl (0 : Int32)) rfl ?_
        exact zw_iret hm_247 dX12_link_104 (HQ _ _ h)
  · intro hc
    rw [if_pos (Classical.not_not.mp hc)] at h
    refine zw_push hm_247 dX12_link_59 (v := .inl (2 : Int32)) rfl ?_
    refine zw_goto hm_247 dX12_link_60 (t := 97) rfl ?_
    refine zw_cv hm_247 dX12_link_97 v_12_110_12 hm_167 [.inl (2 : Int32)] [] rfl (zT_rt hS s_94 rfl) ⟨by omega, by omega⟩ rfl ?_
    show ma_wp X (d - 1) (w - 21) 167 0 [(0, .inr (.inr (some 94))), (1, .inl (2 : Int32))] [] S _
    refine zw_push hm_167 dX12_fails_0 (v := .inr (.inr (some 94))) rfl ?_
    refine zw_push hm_167 dX12_fails_1 (v := .inl (2 : Int32)) rfl ?_
    refine zw_pf hm_167 dX12_fails_2 (zT_is hS s_94) (zT_t hS s_94) p_12_1_12 zk_int ?_
    refine zw_push hm_167 dX12_fails_5 (v := .inl (2 : Int32)) rfl ?_
    refine zw_if0 hm_167 dX12_fails_6 (t := 13) rfl zc0_eq (fun hc => absurd hc (by decide)) (fun _ => ?_)
    refine zw_push hm_167 dX12_fails_9 (v := .inl (1 : Int32)) rfl ?_
    refine zw_goto hm_167 dX12_fails_10 (t := 14) rfl ?_
    refine zw_bret hm_167 dX12_fails_14 (by decide) ?_
    show ma_wp X d w 247 100 [(0, .inr (.inr (some 94))), (2, .inl l2), (3, .inl l3), (4, .inl l4), (5, .inl l5)] [.inl (1 : Int32)] (ma_put S 94 0 (.inl (2 : Int32))) _
    refine zw_if0 hm_247 dX12_link_100 (t := 105) rfl zc0_eq (fun hc => absurd hc (by decide)) (fun _ => ?_)
    refine zw_push hm_247 dX12_link_103 (v := .inl (0 : Int32)) rfl ?_
    exact zw_iret hm_247 dX12_link_104 (HQ _ _ h)
theorem g_247_105 {X : Nat × (Nat → Int32)} {m : Nat → Nat → Int32} {P : Option ma_V → (Nat → Nat → Int32) → Prop} (l2 : Int32) (l3 : Int32) (l4 : Int32) (h : if l3 = (-1 : Int32) then (zm X 5 109 247 121 [(0, .inr (.inr (some 94))), (2, .inl l2), (4, .inl l4), (6, .inl (-1 : Int32))] m P) else (zm X 0 0 246 0 [(0, .inr (.inr (some 94))), (1, .inl l3)] m (zmi (fun v2 m1 => zm X 5 109 247 121 [(0, .inr (.inr (some 94))), (2, .inl l2), (4, .inl l4), (6, .inl v2)] m1 P)))) : zm X 5 109 247 105 [(0, .inr (.inr (some 94))), (2, .inl l2), (3, .inl l3), (4, .inl l4)] m P := by
  intro d w S Q hd hw hS hm HQ
  subst hm
  refine zw_push hm_247 dX12_link_105 (v := .inl l3) rfl ?_
  refine zw_push hm_247 dX12_link_106 (v := .inl (-1 : Int32)) rfl ?_
  refine zw_if2 hm_247 dX12_link_107 (t := 114) rfl zc2_ne ?_ ?_
  · intro hc
    rw [if_neg hc] at h
    refine zw_push hm_247 dX12_link_114 (v := .inr (.inr (some 94))) rfl ?_
    refine zw_push hm_247 dX12_link_115 (v := .inl l3) rfl ?_
    refine zw_cv hm_247 dX12_link_116 v_12_307_12 hm_246 [.inl l3] [] rfl (zT_rt hS s_94 rfl) ⟨by omega, by omega⟩ rfl (h _ _ S _ (by omega) (by omega) hS rfl (fun o9 m1 hv => ?_))
    obtain ⟨v2, rfl, h⟩ := zmi_of hv
    show ma_wp X d w 247 119 [(0, .inr (.inr (some 94))), (2, .inl l2), (3, .inl l3), (4, .inl l4)] [.inl v2] (zst S m1) _
    refine zw_sto hm_247 dX12_link_119 [(6, .inl v2), (0, .inr (.inr (some 94))), (2, .inl l2), (3, .inl l3), (4, .inl l4)] rfl rfl rfl ?_
    exact zw_sub (ma_nd_of (ks := [0, 2, 4, 6]) rfl (by decide)) (ma_nd_of (ks := [6, 0, 2, 3, 4]) rfl (by decide)) (ma_le_cons rfl (ma_le_cons rfl (ma_le_cons rfl (ma_le_cons rfl (ma_le_nil _))))) (h d w _ Q (by omega) (by omega) (zT_zst hS m1) rfl HQ)
  · intro hc
    rw [if_pos (Classical.not_not.mp hc)] at h
    refine zw_push hm_247 dX12_link_110 (v := .inl (-1 : Int32)) rfl ?_
    refine zw_goto hm_247 dX12_link_111 (t := 119) rfl ?_
    refine zw_sto hm_247 dX12_link_119 [(6, .inl (-1 : Int32)), (0, .inr (.inr (some 94))), (2, .inl l2), (3, .inl l3), (4, .inl l4)] rfl rfl rfl ?_
    exact zw_sub (ma_nd_of (ks := [0, 2, 4, 6]) rfl (by decide)) (ma_nd_of (ks := [6, 0, 2, 3, 4]) rfl (by decide)) (ma_le_cons rfl (ma_le_cons rfl (ma_le_cons rfl (ma_le_cons rfl (ma_le_nil _))))) (h d w _ Q (by omega) (by omega) hS rfl HQ)
theorem g_247_121 {X : Nat × (Nat → Int32)} {m : Nat → Nat → Int32} {P : Option ma_V → (Nat → Nat → Int32) → Prop} (l2 : Int32) (l4 : Int32) (l6 : Int32) (h : (0 ≤ ((l4 * (60 : Int32)) + l2) ∧ ((l4 * (60 : Int32)) + l2).toNatClampNeg < 186000) ∧ (if 0 ≤ (m 108 ((l4 * (60 : Int32)) + l2).toNatClampNeg) then ((0 ≤ (m 108 ((l4 * (60 : Int32)) + l2).toNatClampNeg) ∧ (m 108 ((l4 * (60 : Int32)) + l2).toNatClampNeg).toNatClampNeg < 3100) ∧ (if l6 < 0 then (zm X 5 109 247 149 [(0, .inr (.inr (some 94))), (2, .inl l2), (4, .inl l4), (6, .inl l6), (7, .inl (m 108 ((l4 * (60 : Int32)) + l2).toNatClampNeg)), (8, .inl (m 100 (m 108 ((l4 * (60 : Int32)) + l2).toNatClampNeg).toNatClampNeg))] m P) else (if (m 94 10) = (4 : Int32) then ((0 ≤ l6 ∧ l6.toNatClampNeg < 3100) ∧ ((0 ≤ l6 ∧ l6.toNatClampNeg < 3100) ∧ (zm X 5 109 247 149 [(0, .inr (.inr (some 94))), (2, .inl l2), (4, .inl l4), (6, .inl l6), (7, .inl (m 108 ((l4 * (60 : Int32)) + l2).toNatClampNeg)), (8, .inl (m 100 (m 108 ((l4 * (60 : Int32)) + l2).toNatClampNeg).toNatClampNeg))] (ma_u m 105 l6.toNatClampNeg ((m 105 l6.toNatClampNeg) + (1 : Int32))) P))) else (zm X 5 109 247 149 [(0, .inr (.inr (some 94))), (2, .inl l2), (4, .inl l4), (6, .inl l6), (7, .inl (m 108 ((l4 * (60 : Int32)) + l2).toNatClampNeg)), (8, .inl (m 100 (m 108 ((l4 * (60 : Int32)) + l2).toNatClampNeg).toNatClampNeg))] m P)))) else (if l6 < 0 then (zm X 5 109 247 149 [(0, .inr (.inr (some 94))), (2, .inl l2), (4, .inl l4), (6, .inl l6), (7, .inl (m 108 ((l4 * (60 : Int32)) + l2).toNatClampNeg)), (8, .inl (-1 : Int32))] m P) else (if (m 94 10) = (4 : Int32) then ((0 ≤ l6 ∧ l6.toNatClampNeg < 3100) ∧ ((0 ≤ l6 ∧ l6.toNatClampNeg < 3100) ∧ (zm X 5 109 247 149 [(0, .inr (.inr (some 94))), (2, .inl l2), (4, .inl l4), (6, .inl l6), (7, .inl (m 108 ((l4 * (60 : Int32)) + l2).toNatClampNeg)), (8, .inl (-1 : Int32))] (ma_u m 105 l6.toNatClampNeg ((m 105 l6.toNatClampNeg) + (1 : Int32))) P))) else (zm X 5 109 247 149 [(0, .inr (.inr (some 94))), (2, .inl l2), (4, .inl l4), (6, .inl l6), (7, .inl (m 108 ((l4 * (60 : Int32)) + l2).toNatClampNeg)), (8, .inl (-1 : Int32))] m P))))) : zm X 5 109 247 121 [(0, .inr (.inr (some 94))), (2, .inl l2), (4, .inl l4), (6, .inl l6)] m P := by
  intro d w S Q hd hw hS hm HQ
  subst hm
  refine zw_push hm_247 dX12_link_121 (v := .inr (.inr (some 94))) rfl ?_
  refine zw_gf hm_247 dX12_link_122 (v := .inr (.inr (some 108))) (zT_is hS s_94) (zT_t hS s_94) rfl f_12_56_12 (zT_f hS r_94_40) ?_
  refine zw_push hm_247 dX12_link_125 (v := .inl l4) rfl ?_
  refine zw_push hm_247 dX12_link_127 (v := .inl (60 : Int32)) rfl ?_
  refine zw_stk hm_247 dX12_link_129 (st₉ := [.inl (l4 * (60 : Int32)), .inr (.inr (some 108))]) rfl rfl ?_
  refine zw_push hm_247 dX12_link_130 (v := .inl l2) rfl ?_
  refine zw_stk hm_247 dX12_link_131 (st₉ := [.inl ((l4 * (60 : Int32)) + l2), .inr (.inr (some 108))]) rfl rfl ?_
  obtain ⟨hg, h⟩ := h
  refine zw_ia hm_247 dX12_link_132 (zT_is hS s_108) (zT_h hS s_108) rfl hg ?_
  show ma_wp X d w 247 133 [(0, .inr (.inr (some 94))), (2, .inl l2), (4, .inl l4), (6, .inl l6)] [.inl ((mI S) 108 ((l4 * (60 : Int32)) + l2).toNatClampNeg)] S _
  refine zw_sto hm_247 dX12_link_133 [(7, .inl ((mI S) 108 ((l4 * (60 : Int32)) + l2).toNatClampNeg)), (0, .inr (.inr (some 94))), (2, .inl l2), (4, .inl l4), (6, .inl l6)] rfl rfl rfl ?_
  refine zw_push hm_247 dX12_link_135 (v := .inr (.inr (some 94))) rfl ?_
  refine zw_push hm_247 dX12_link_136 (v := .inl ((mI S) 108 ((l4 * (60 : Int32)) + l2).toNatClampNeg)) rfl ?_
  refine zw_cv hm_247 dX12_link_138 v_12_502_12 hm_248 [.inl ((mI S) 108 ((l4 * (60 : Int32)) + l2).toNatClampNeg)] [] rfl (zT_rt hS s_94 rfl) ⟨by omega, by omega⟩ rfl ?_
  show ma_wp X (d - 1) (w - 21) 248 0 [(0, .inr (.inr (some 94))), (1, .inl ((mI S) 108 ((l4 * (60 : Int32)) + l2).toNatClampNeg))] [] S _
  refine zw_push hm_248 dX12_numberOf_0 (v := .inl ((mI S) 108 ((l4 * (60 : Int32)) + l2).toNatClampNeg)) rfl ?_
  refine zw_if0 hm_248 dX12_numberOf_1 (t := 8) rfl zc0_ge ?_ ?_
  · intro hc
    rw [if_pos hc] at h
    refine zw_push hm_248 dX12_numberOf_8 (v := .inr (.inr (some 94))) rfl ?_
    refine zw_gf hm_248 dX12_numberOf_9 (v := .inr (.inr (some 100))) (zT_is hS s_94) (zT_t hS s_94) rfl f_12_31_12 (zT_f hS r_94_32) ?_
    refine zw_push hm_248 dX12_numberOf_12 (v := .inl ((mI S) 108 ((l4 * (60 : Int32)) + l2).toNatClampNeg)) rfl ?_
    obtain ⟨hg, h⟩ := h
    refine zw_ia hm_248 dX12_numberOf_13 (zT_is hS s_100) (zT_h hS s_100) rfl hg ?_
    show ma_wp X (d - 1) (w - 21) 248 14 [(0, .inr (.inr (some 94))), (1, .inl ((mI S) 108 ((l4 * (60 : Int32)) + l2).toNatClampNeg))] [.inl ((mI S) 100 ((mI S) 108 ((l4 * (60 : Int32)) + l2).toNatClampNeg).toNatClampNeg)] S _
    refine zw_iret hm_248 dX12_numberOf_14 ?_
    show ma_wp X d w 247 141 [(7, .inl ((mI S) 108 ((l4 * (60 : Int32)) + l2).toNatClampNeg)), (0, .inr (.inr (some 94))), (2, .inl l2), (4, .inl l4), (6, .inl l6)] [.inl ((mI S) 100 ((mI S) 108 ((l4 * (60 : Int32)) + l2).toNatClampNeg).toNatClampNeg)] S _
    refine zw_sto hm_247 dX12_link_141 [(8, .inl ((mI S) 100 ((mI S) 108 ((l4 * (60 : Int32)) + l2).toNatClampNeg).toNatClampNeg)), (7, .inl ((mI S) 108 ((l4 * (60 : Int32)) + l2).toNatClampNeg)), (0, .inr (.inr (some 94))), (2, .inl l2), (4, .inl l4), (6, .inl l6)] rfl rfl rfl ?_
    refine zw_push hm_247 dX12_link_143 (v := .inr (.inr (some 94))) rfl ?_
    refine zw_push hm_247 dX12_link_144 (v := .inl l6) rfl ?_
    refine zw_cv hm_247 dX12_link_146 v_12_484_12 hm_239 [.inl l6] [] rfl (zT_rt hS s_94 rfl) ⟨by omega, by omega⟩ rfl ?_
    show ma_wp X (d - 1) (w - 21) 239 0 [(0, .inr (.inr (some 94))), (1, .inl l6)] [] S _
    refine zw_push hm_239 dX12_more_0 (v := .inl l6) rfl ?_
    refine zw_if0 hm_239 dX12_more_1 (t := 22) rfl zc0_lt ?_ ?_
    · intro hc
      rw [if_pos hc] at h
      refine zw_vret hm_239 dX12_more_22 ?_
      show ma_wp X d w 247 149 [(8, .inl ((mI S) 100 ((mI S) 108 ((l4 * (60 : Int32)) + l2).toNatClampNeg).toNatClampNeg)), (7, .inl ((mI S) 108 ((l4 * (60 : Int32)) + l2).toNatClampNeg)), (0, .inr (.inr (some 94))), (2, .inl l2), (4, .inl l4), (6, .inl l6)] [] S _
      exact zw_sub (ma_nd_of (ks := [0, 2, 4, 6, 7, 8]) rfl (by decide)) (ma_nd_of (ks := [8, 7, 0, 2, 4, 6]) rfl (by decide)) (ma_le_cons rfl (ma_le_cons rfl (ma_le_cons rfl (ma_le_cons rfl (ma_le_cons rfl (ma_le_cons rfl (ma_le_nil _))))))) (h d w _ Q (by omega) (by omega) hS rfl HQ)
    · intro hc
      rw [if_neg hc] at h
      refine zw_push hm_239 dX12_more_4 (v := .inr (.inr (some 94))) rfl ?_
      refine zw_gf hm_239 dX12_more_5 (v := .inl ((mI S) 94 10)) (zT_is hS s_94) (zT_t hS s_94) rfl f_12_199_12 rfl ?_
      refine zw_push hm_239 dX12_more_8 (v := .inl (4 : Int32)) rfl ?_
      refine zw_if2 hm_239 dX12_more_9 (t := 22) rfl zc2_ne ?_ ?_
      · intro hc
        rw [if_neg hc] at h
        refine zw_vret hm_239 dX12_more_22 ?_
        show ma_wp X d w 247 149 [(8, .inl ((mI S) 100 ((mI S) 108 ((l4 * (60 : Int32)) + l2).toNatClampNeg).toNatClampNeg)), (7, .inl ((mI S) 108 ((l4 * (60 : Int32)) + l2).toNatClampNeg)), (0, .inr (.inr (some 94))), (2, .inl l2), (4, .inl l4), (6, .inl l6)] [] S _
        exact zw_sub (ma_nd_of (ks := [0, 2, 4, 6, 7, 8]) rfl (by decide)) (ma_nd_of (ks := [8, 7, 0, 2, 4, 6]) rfl (by decide)) (ma_le_cons rfl (ma_le_cons rfl (ma_le_cons rfl (ma_le_cons rfl (ma_le_cons rfl (ma_le_cons rfl (ma_le_nil _))))))) (h d w _ Q (by omega) (by omega) hS rfl HQ)
      · intro hc
        rw [if_pos (Classical.not_not.mp hc)] at h
        refine zw_push hm_239 dX12_more_12 (v := .inr (.inr (some 94))) rfl ?_
        refine zw_gf hm_239 dX12_more_13 (v := .inr (.inr (some 105))) (zT_is hS s_94) (zT_t hS s_94) rfl f_12_46_12 (zT_f hS r_94_37) ?_
        refine zw_push hm_239 dX12_more_16 (v := .inl l6) rfl ?_
        refine zw_stk hm_239 dX12_more_17 (st₉ := [.inl l6, .inr (.inr (some 105)), .inl l6, .inr (.inr (some 105))]) rfl rfl ?_
        obtain ⟨hg, h⟩ := h
        refine zw_ia hm_239 dX12_more_18 (zT_is hS s_105) (zT_h hS s_105) rfl hg ?_
        show ma_wp X (d - 1) (w - 21) 239 19 [(0, .inr (.inr (some 94))), (1, .inl l6)] [.inl ((mI S) 105 l6.toNatClampNeg), .inl l6, .inr (.inr (some 105))] S _
        refine zw_push hm_239 dX12_more_19 (v := .inl (1 : Int32)) rfl ?_
        refine zw_stk hm_239 dX12_more_20 (st₉ := [.inl (((mI S) 105 l6.toNatClampNeg) + (1 : Int32)), .inl l6, .inr (.inr (some 105))]) rfl rfl ?_
        obtain ⟨hg, h⟩ := h
        refine zw_ias hm_239 dX12_more_21 (zT_is hS s_105) (zT_h hS s_105) rfl hg ?_
        refine zw_vret hm_239 dX12_more_22 ?_
        show ma_wp X d w 247 149 [(8, .inl ((mI S) 100 ((mI S) 108 ((l4 * (60 : Int32)) + l2).toNatClampNeg).toNatClampNeg)), (7, .inl ((mI S) 108 ((l4 * (60 : Int32)) + l2).toNatClampNeg)), (0, .inr (.inr (some 94))), (2, .inl l2), (4, .inl l4), (6, .inl l6)] [] (ma_put S 105 l6.toNatClampNeg (.inl (((mI S) 105 l6.toNatClampNeg) + (1 : Int32)))) _
        exact zw_sub (ma_nd_of (ks := [0, 2, 4, 6, 7, 8]) rfl (by decide)) (ma_nd_of (ks := [8, 7, 0, 2, 4, 6]) rfl (by decide)) (ma_le_cons rfl (ma_le_cons rfl (ma_le_cons rfl (ma_le_cons rfl (ma_le_cons rfl (ma_le_cons rfl (ma_le_nil _))))))) (h d w _ Q (by omega) (by omega) (zT_pi hS) rfl HQ)
  · intro hc
    rw [if_neg hc] at h
    refine zw_push hm_248 dX12_numberOf_4 (v := .inl (-1 : Int32)) rfl ?_
    refine zw_goto hm_248 dX12_numberOf_5 (t := 14) rfl ?_
    refine zw_iret hm_248 dX12_numberOf_14 ?_
    show ma_wp X d w 247 141 [(7, .inl ((mI S) 108 ((l4 * (60 : Int32)) + l2).toNatClampNeg)), (0, .inr (.inr (some 94))), (2, .inl l2), (4, .inl l4), (6, .inl l6)] [.inl (-1 : Int32)] S _
    refine zw_sto hm_247 dX12_link_141 [(8, .inl (-1 : Int32)), (7, .inl ((mI S) 108 ((l4 * (60 : Int32)) + l2).toNatClampNeg)), (0, .inr (.inr (some 94))), (2, .inl l2), (4, .inl l4), (6, .inl l6)] rfl rfl rfl ?_
    refine zw_push hm_247 dX12_link_143 (v := .inr (.inr (some 94))) rfl ?_
    refine zw_push hm_247 dX12_link_144 (v := .inl l6) rfl ?_
    refine zw_cv hm_247 dX12_link_146 v_12_484_12 hm_239 [.inl l6] [] rfl (zT_rt hS s_94 rfl) ⟨by omega, by omega⟩ rfl ?_
    show ma_wp X (d - 1) (w - 21) 239 0 [(0, .inr (.inr (some 94))), (1, .inl l6)] [] S _
    refine zw_push hm_239 dX12_more_0 (v := .inl l6) rfl ?_
    refine zw_if0 hm_239 dX12_more_1 (t := 22) rfl zc0_lt ?_ ?_
    · intro hc
      rw [if_pos hc] at h
      refine zw_vret hm_239 dX12_more_22 ?_
      show ma_wp X d w 247 149 [(8, .inl (-1 : Int32)), (7, .inl ((mI S) 108 ((l4 * (60 : Int32)) + l2).toNatClampNeg)), (0, .inr (.inr (some 94))), (2, .inl l2), (4, .inl l4), (6, .inl l6)] [] S _
      exact zw_sub (ma_nd_of (ks := [0, 2, 4, 6, 7, 8]) rfl (by decide)) (ma_nd_of (ks := [8, 7, 0, 2, 4, 6]) rfl (by decide)) (ma_le_cons rfl (ma_le_cons rfl (ma_le_cons rfl (ma_le_cons rfl (ma_le_cons rfl (ma_le_cons rfl (ma_le_nil _))))))) (h d w _ Q (by omega) (by omega) hS rfl HQ)
    · intro hc
      rw [if_neg hc] at h
      refine zw_push hm_239 dX12_more_4 (v := .inr (.inr (some 94))) rfl ?_
      refine zw_gf hm_239 dX12_more_5 (v := .inl ((mI S) 94 10)) (zT_is hS s_94) (zT_t hS s_94) rfl f_12_199_12 rfl ?_
      refine zw_push hm_239 dX12_more_8 (v := .inl (4 : Int32)) rfl ?_
      refine zw_if2 hm_239 dX12_more_9 (t := 22) rfl zc2_ne ?_ ?_
      · intro hc
        rw [if_neg hc] at h
        refine zw_vret hm_239 dX12_more_22 ?_
        show ma_wp X d w 247 149 [(8, .inl (-1 : Int32)), (7, .inl ((mI S) 108 ((l4 * (60 : Int32)) + l2).toNatClampNeg)), (0, .inr (.inr (some 94))), (2, .inl l2), (4, .inl l4), (6, .inl l6)] [] S _
        exact zw_sub (ma_nd_of (ks := [0, 2, 4, 6, 7, 8]) rfl (by decide)) (ma_nd_of (ks := [8, 7, 0, 2, 4, 6]) rfl (by decide)) (ma_le_cons rfl (ma_le_cons rfl (ma_le_cons rfl (ma_le_cons rfl (ma_le_cons rfl (ma_le_cons rfl (ma_le_nil _))))))) (h d w _ Q (by omega) (by omega) hS rfl HQ)
      · intro hc
        rw [if_pos (Classical.not_not.mp hc)] at h
        refine zw_push hm_239 dX12_more_12 (v := .inr (.inr (some 94))) rfl ?_
        refine zw_gf hm_239 dX12_more_13 (v := .inr (.inr (some 105))) (zT_is hS s_94) (zT_t hS s_94) rfl f_12_46_12 (zT_f hS r_94_37) ?_
        refine zw_push hm_239 dX12_more_16 (v := .inl l6) rfl ?_
        refine zw_stk hm_239 dX12_more_17 (st₉ := [.inl l6, .inr (.inr (some 105)), .inl l6, .inr (.inr (some 105))]) rfl rfl ?_
        obtain ⟨hg, h⟩ := h
        refine zw_ia hm_239 dX12_more_18 (zT_is hS s_105) (zT_h hS s_105) rfl hg ?_
        show ma_wp X (d - 1) (w - 21) 239 19 [(0, .inr (.inr (some 94))), (1, .inl l6)] [.inl ((mI S) 105 l6.toNatClampNeg), .inl l6, .inr (.inr (some 105))] S _
        refine zw_push hm_239 dX12_more_19 (v := .inl (1 : Int32)) rfl ?_
        refine zw_stk hm_239 dX12_more_20 (st₉ := [.inl (((mI S) 105 l6.toNatClampNeg) + (1 : Int32)), .inl l6, .inr (.inr (some 105))]) rfl rfl ?_
        obtain ⟨hg, h⟩ := h
        refine zw_ias hm_239 dX12_more_21 (zT_is hS s_105) (zT_h hS s_105) rfl hg ?_
        refine zw_vret hm_239 dX12_more_22 ?_
        show ma_wp X d w 247 149 [(8, .inl (-1 : Int32)), (7, .inl ((mI S) 108 ((l4 * (60 : Int32)) + l2).toNatClampNeg)), (0, .inr (.inr (some 94))), (2, .inl l2), (4, .inl l4), (6, .inl l6)] [] (ma_put S 105 l6.toNatClampNeg (.inl (((mI S) 105 l6.toNatClampNeg) + (1 : Int32)))) _
        exact zw_sub (ma_nd_of (ks := [0, 2, 4, 6, 7, 8]) rfl (by decide)) (ma_nd_of (ks := [8, 7, 0, 2, 4, 6]) rfl (by decide)) (ma_le_cons rfl (ma_le_cons rfl (ma_le_cons rfl (ma_le_cons rfl (ma_le_cons rfl (ma_le_cons rfl (ma_le_nil _))))))) (h d w _ Q (by omega) (by omega) (zT_pi hS) rfl HQ)
theorem g_247_149 {X : Nat × (Nat → Int32)} {m : Nat → Nat → Int32} {P : Option ma_V → (Nat → Nat → Int32) → Prop} (l2 : Int32) (l4 : Int32) (l6 : Int32) (l7 : Int32) (l8 : Int32) (h : (0 ≤ ((l4 * (60 : Int32)) + l2) ∧ ((l4 * (60 : Int32)) + l2).toNatClampNeg < 186000) ∧ (if (m 94 10) = (3 : Int32) then ((0 ≤ l4 ∧ l4.toNatClampNeg < 3100) ∧ (if (m 94 14) ≤ (m 103 l4.toNatClampNeg) then (zm X 5 109 247 207 [(0, .inr (.inr (some 94))), (6, .inl l6), (7, .inl l7), (8, .inl l8)] (ma_u m 108 ((l4 * (60 : Int32)) + l2).toNatClampNeg l6) P) else (if l6 < 0 then (zm X 5 109 247 207 [(0, .inr (.inr (some 94))), (6, .inl l6), (7, .inl l7), (8, .inl l8)] (ma_u m 108 ((l4 * (60 : Int32)) + l2).toNatClampNeg l6) P) else ((0 ≤ l6 ∧ l6.toNatClampNeg < 3100) ∧ (if (m 94 14) ≤ (m 103 l6.toNatClampNeg) then ((0 ≤ l4 ∧ l4.toNatClampNeg < 3100) ∧ ((m 94 16) ≠ 0 ∧ ((0 ≤ ((((m 103 l4.toNatClampNeg) + (1 : Int32)) + l2) / (m 94 16)) ∧ ((((m 103 l4.toNatClampNeg) + (1 : Int32)) + l2) / (m 94 16)).toNatClampNeg < 512) ∧ (zm X 5 109 247 207 [(0, .inr (.inr (some 94))), (6, .inl l6), (7, .inl l7), (8, .inl l8)] (ma_u (ma_u m 108 ((l4 * (60 : Int32)) + l2).toNatClampNeg l6) 117 ((((m 103 l4.toNatClampNeg) + (1 : Int32)) + l2) / (m 94 16)).toNatClampNeg (1 : Int32)) P)))) else (zm X 5 109 247 207 [(0, .inr (.inr (some 94))), (6, .inl l6), (7, .inl l7), (8, .inl l8)] (ma_u m 108 ((l4 * (60 : Int32)) + l2).toNatClampNeg l6) P)))))) else (zm X 5 109 247 207 [(0, .inr (.inr (some 94))), (6, .inl l6), (7, .inl l7), (8, .inl l8)] (ma_u m 108 ((l4 * (60 : Int32)) + l2).toNatClampNeg l6) P))) : zm X 5 109 247 149 [(0, .inr (.inr (some 94))), (2, .inl l2), (4, .inl l4), (6, .inl l6), (7, .inl l7), (8, .inl l8)] m P := by
  intro d w S Q hd hw hS hm HQ
  subst hm
  refine zw_push hm_247 dX12_link_149 (v := .inr (.inr (some 94))) rfl ?_
  refine zw_gf hm_247 dX12_link_150 (v := .inr (.inr (some 108))) (zT_is hS s_94) (zT_t hS s_94) rfl f_12_56_12 (zT_f hS r_94_40) ?_
  refine zw_push hm_247 dX12_link_153 (v := .inl l4) rfl ?_
  refine zw_push hm_247 dX12_link_155 (v := .inl (60 : Int32)) rfl ?_
  refine zw_stk hm_247 dX12_link_157 (st₉ := [.inl (l4 * (60 : Int32)), .inr (.inr (some 108))]) rfl rfl ?_
  refine zw_push hm_247 dX12_link_158 (v := .inl l2) rfl ?_
  refine zw_stk hm_247 dX12_link_159 (st₉ := [.inl ((l4 * (60 : Int32)) + l2), .inr (.inr (some 108))]) rfl rfl ?_
  refine zw_push hm_247 dX12_link_160 (v := .inl l6) rfl ?_
  obtain ⟨hg, h⟩ := h
  refine zw_ias hm_247 dX12_link_162 (zT_is hS s_108) (zT_h hS s_108) rfl hg ?_
  refine zw_push hm_247 dX12_link_163 (v := .inr (.inr (some 94))) rfl ?_
  refine zw_gf hm_247 dX12_link_164 (v := .inl ((mI S) 94 10)) (zT_is (zT_pi hS) s_94) (zT_t (zT_pi hS) s_94) rfl f_12_199_12 rfl ?_
  refine zw_push hm_247 dX12_link_167 (v := .inl (3 : Int32)) rfl ?_
  refine zw_if2 hm_247 dX12_link_168 (t := 207) rfl zc2_ne ?_ ?_
  · intro hc
    rw [if_neg hc] at h
    exact zw_sub (ma_nd_of (ks := [0, 6, 7, 8]) rfl (by decide)) (ma_nd_of (ks := [0, 2, 4, 6, 7, 8]) rfl (by decide)) (ma_le_cons rfl (ma_le_cons rfl (ma_le_cons rfl (ma_le_cons rfl (ma_le_nil _))))) (h d w _ Q (by omega) (by omega) (zT_pi hS) rfl HQ)
  · intro hc
    rw [if_pos (Classical.not_not.mp hc)] at h
    refine zw_push hm_247 dX12_link_171 (v := .inr (.inr (some 94))) rfl ?_
    refine zw_push hm_247 dX12_link_172 (v := .inl l4) rfl ?_
    refine zw_cv hm_247 dX12_link_174 v_12_314_12 hm_196 [.inl l4] [] rfl (zT_rt (zT_pi hS) s_94 rfl) ⟨by omega, by omega⟩ rfl ?_
    show ma_wp X (d - 1) (w - 21) 196 0 [(0, .inr (.inr (some 94))), (1, .inl l4)] [] (ma_put S 108 ((l4 * (60 : Int32)) + l2).toNatClampNeg (.inl l6)) _
    refine zw_push hm_196 dX12_isOld_0 (v := .inr (.inr (some 94))) rfl ?_
    refine zw_gf hm_196 dX12_isOld_1 (v := .inr (.inr (some 103))) (zT_is (zT_pi hS) s_94) (zT_t (zT_pi hS) s_94) rfl f_12_40_12 (zT_f (zT_pi hS) r_94_35) ?_
    refine zw_push hm_196 dX12_isOld_4 (v := .inl l4) rfl ?_
    obtain ⟨hg, h⟩ := h
    refine zw_ia hm_196 dX12_isOld_5 (zT_is (zT_pi hS) s_103) (zT_h (zT_pi hS) s_103) rfl hg ?_
    show ma_wp X (d - 1) (w - 21) 196 6 [(0, .inr (.inr (some 94))), (1, .inl l4)] [.inl ((mI S) 103 l4.toNatClampNeg)] (ma_put S 108 ((l4 * (60 : Int32)) + l2).toNatClampNeg (.inl l6)) _
    refine zw_push hm_196 dX12_isOld_6 (v := .inr (.inr (some 94))) rfl ?_
    refine zw_gf hm_196 dX12_isOld_7 (v := .inl ((mI S) 94 14)) (zT_is (zT_pi hS) s_94) (zT_t (zT_pi hS) s_94) rfl f_12_210_12 rfl ?_
    refine zw_if2 hm_196 dX12_isOld_10 (t := 17) rfl zc2_ge ?_ ?_
    · intro hc
      rw [if_pos hc] at h
      refine zw_push hm_196 dX12_isOld_17 (v := .inl (0 : Int32)) rfl ?_
      refine zw_bret hm_196 dX12_isOld_18 (by decide) ?_
      show ma_wp X d w 247 177 [(0, .inr (.inr (some 94))), (2, .inl l2), (4, .inl l4), (6, .inl l6), (7, .inl l7), (8, .inl l8)] [.inl (0 : Int32)] (ma_put S 108 ((l4 * (60 : Int32)) + l2).toNatClampNeg (.inl l6)) _
      refine zw_if0 hm_247 dX12_link_177 (t := 207) rfl zc0_eq (fun _ => ?_) (fun hc => absurd (by decide) hc)
      exact zw_sub (ma_nd_of (ks := [0, 6, 7, 8]) rfl (by decide)) (ma_nd_of (ks := [0, 2, 4, 6, 7, 8]) rfl (by decide)) (ma_le_cons rfl (ma_le_cons rfl (ma_le_cons rfl (ma_le_cons rfl (ma_le_nil _))))) (h d w _ Q (by omega) (by omega) (zT_pi hS) rfl HQ)
    · intro hc
      rw [if_neg hc] at h
      refine zw_push hm_196 dX12_isOld_13 (v := .inl (1 : Int32)) rfl ?_
      refine zw_goto hm_196 dX12_isOld_14 (t := 18) rfl ?_
      refine zw_bret hm_196 dX12_isOld_18 (by decide) ?_
      show ma_wp X d w 247 177 [(0, .inr (.inr (some 94))), (2, .inl l2), (4, .inl l4), (6, .inl l6), (7, .inl l7), (8, .inl l8)] [.inl (1 : Int32)] (ma_put S 108 ((l4 * (60 : Int32)) + l2).toNatClampNeg (.inl l6)) _
      refine zw_if0 hm_247 dX12_link_177 (t := 207) rfl zc0_eq (fun hc => absurd hc (by decide)) (fun _ => ?_)
      refine zw_push hm_247 dX12_link_180 (v := .inl l6) rfl ?_
      refine zw_if0 hm_247 dX12_link_182 (t := 207) rfl zc0_lt ?_ ?_
      · intro hc
        rw [if_pos hc] at h
        exact zw_sub (ma_nd_of (ks := [0, 6, 7, 8]) rfl (by decide)) (ma_nd_of (ks := [0, 2, 4, 6, 7, 8]) rfl (by decide)) (ma_le_cons rfl (ma_le_cons rfl (ma_le_cons rfl (ma_le_cons rfl (ma_le_nil _))))) (h d w _ Q (by omega) (by omega) (zT_pi hS) rfl HQ)
      · intro hc
        rw [if_neg hc] at h
        refine zw_push hm_247 dX12_link_185 (v := .inr (.inr (some 94))) rfl ?_
        refine zw_push hm_247 dX12_link_186 (v := .inl l6) rfl ?_
        refine zw_cv hm_247 dX12_link_188 v_12_314_12 hm_196 [.inl l6] [] rfl (zT_rt (zT_pi hS) s_94 rfl) ⟨by omega, by omega⟩ rfl ?_
        show ma_wp X (d - 1) (w - 21) 196 0 [(0, .inr (.inr (some 94))), (1, .inl l6)] [] (ma_put S 108 ((l4 * (60 : Int32)) + l2).toNatClampNeg (.inl l6)) _
        refine zw_push hm_196 dX12_isOld_0 (v := .inr (.inr (some 94))) rfl ?_
        refine zw_gf hm_196 dX12_isOld_1 (v := .inr (.inr (some 103))) (zT_is (zT_pi hS) s_94) (zT_t (zT_pi hS) s_94) rfl f_12_40_12 (zT_f (zT_pi hS) r_94_35) ?_
        refine zw_push hm_196 dX12_isOld_4 (v := .inl l6) rfl ?_
        obtain ⟨hg, h⟩ := h
        refine zw_ia hm_196 dX12_isOld_5 (zT_is (zT_pi hS) s_103) (zT_h (zT_pi hS) s_103) rfl hg ?_
        show ma_wp X (d - 1) (w - 21) 196 6 [(0, .inr (.inr (some 94))), (1, .inl l6)] [.inl ((mI S) 103 l6.toNatClampNeg)] (ma_put S 108 ((l4 * (60 : Int32)) + l2).toNatClampNeg (.inl l6)) _
        refine zw_push hm_196 dX12_isOld_6 (v := .inr (.inr (some 94))) rfl ?_
        refine zw_gf hm_196 dX12_isOld_7 (v := .inl ((mI S) 94 14)) (zT_is (zT_pi hS) s_94) (zT_t (zT_pi hS) s_94) rfl f_12_210_12 rfl ?_
        refine zw_if2 hm_196 dX12_isOld_10 (t := 17) rfl zc2_ge ?_ ?_
        · intro hc
          rw [if_pos hc] at h
          refine zw_push hm_196 dX12_isOld_17 (v := .inl (0 : Int32)) rfl ?_
          refine zw_bret hm_196 dX12_isOld_18 (by decide) ?_
          show ma_wp X d w 247 191 [(0, .inr (.inr (some 94))), (2, .inl l2), (4, .inl l4), (6, .inl l6), (7, .inl l7), (8, .inl l8)] [.inl (0 : Int32)] (ma_put S 108 ((l4 * (60 : Int32)) + l2).toNatClampNeg (.inl l6)) _
          refine zw_if0 hm_247 dX12_link_191 (t := 207) rfl zc0_ne (fun hc => absurd hc (by decide)) (fun _ => ?_)
          refine zw_push hm_247 dX12_link_194 (v := .inr (.inr (some 94))) rfl ?_
          refine zw_gf hm_247 dX12_link_195 (v := .inr (.inr (some 117))) (zT_is (zT_pi hS) s_94) (zT_t (zT_pi hS) s_94) rfl f_12_83_12 (zT_f (zT_pi hS) r_94_66) ?_
          refine zw_push hm_247 dX12_link_198 (v := .inr (.inr (some 94))) rfl ?_
          refine zw_push hm_247 dX12_link_199 (v := .inl l4) rfl ?_
          refine zw_push hm_247 dX12_link_201 (v := .inl l2) rfl ?_
          refine zw_cv hm_247 dX12_link_202 v_12_375_12 hm_213 [.inl l2, .inl l4] [.inr (.inr (some 117))] rfl (zT_rt (zT_pi hS) s_94 rfl) ⟨by omega, by omega⟩ rfl ?_
          show ma_wp X (d - 1) (w - 22) 213 0 [(0, .inr (.inr (some 94))), (1, .inl l4), (2, .inl l2)] [] (ma_put S 108 ((l4 * (60 : Int32)) + l2).toNatClampNeg (.inl l6)) _
          refine zw_push hm_213 dX12_cardOf_0 (v := .inr (.inr (some 94))) rfl ?_
          refine zw_gf hm_213 dX12_cardOf_1 (v := .inr (.inr (some 103))) (zT_is (zT_pi hS) s_94) (zT_t (zT_pi hS) s_94) rfl f_12_40_12 (zT_f (zT_pi hS) r_94_35) ?_
          refine zw_push hm_213 dX12_cardOf_4 (v := .inl l4) rfl ?_
          obtain ⟨hg, h⟩ := h
          refine zw_ia hm_213 dX12_cardOf_5 (zT_is (zT_pi hS) s_103) (zT_h (zT_pi hS) s_103) rfl hg ?_
          show ma_wp X (d - 1) (w - 22) 213 6 [(0, .inr (.inr (some 94))), (1, .inl l4), (2, .inl l2)] [.inl ((mI S) 103 l4.toNatClampNeg)] (ma_put S 108 ((l4 * (60 : Int32)) + l2).toNatClampNeg (.inl l6)) _
          refine zw_push hm_213 dX12_cardOf_6 (v := .inl (1 : Int32)) rfl ?_
          refine zw_stk hm_213 dX12_cardOf_7 (st₉ := [.inl (((mI S) 103 l4.toNatClampNeg) + (1 : Int32))]) rfl rfl ?_
          refine zw_push hm_213 dX12_cardOf_8 (v := .inl l2) rfl ?_
          refine zw_stk hm_213 dX12_cardOf_9 (st₉ := [.inl ((((mI S) 103 l4.toNatClampNeg) + (1 : Int32)) + l2)]) rfl rfl ?_
          refine zw_push hm_213 dX12_cardOf_10 (v := .inr (.inr (some 94))) rfl ?_
          refine zw_gf hm_213 dX12_cardOf_11 (v := .inl ((mI S) 94 16)) (zT_is (zT_pi hS) s_94) (zT_t (zT_pi hS) s_94) rfl f_12_216_12 rfl ?_
          obtain ⟨hg, h⟩ := h
          refine zw_stk hm_213 dX12_cardOf_14 (st₉ := [.inl (((((mI S) 103 l4.toNatClampNeg) + (1 : Int32)) + l2) / ((mI S) 94 16))]) rfl (if_neg hg) ?_
          refine zw_iret hm_213 dX12_cardOf_15 ?_
          show ma_wp X d w 247 205 [(0, .inr (.inr (some 94))), (2, .inl l2), (4, .inl l4), (6, .inl l6), (7, .inl l7), (8, .inl l8)] [.inl (((((mI S) 103 l4.toNatClampNeg) + (1 : Int32)) + l2) / ((mI S) 94 16)), .inr (.inr (some 117))] (ma_put S 108 ((l4 * (60 : Int32)) + l2).toNatClampNeg (.inl l6)) _
          refine zw_push hm_247 dX12_link_205 (v := .inl (1 : Int32)) rfl ?_
          obtain ⟨hg, h⟩ := h
          refine zw_bas22l hm_247 dX12_link_206 (hx := by decide) (yv := (1 : Int32)) (zT_is (zT_pi hS) s_117) (zT_h (zT_pi hS) s_117) rfl hg ?_
          exact zw_sub (ma_nd_of (ks := [0, 6, 7, 8]) rfl (by decide)) (ma_nd_of (ks := [0, 2, 4, 6, 7, 8]) rfl (by decide)) (ma_le_cons rfl (ma_le_cons rfl (ma_le_cons rfl (ma_le_cons rfl (ma_le_nil _))))) (h d w _ Q (by omega) (by omega) (zT_pi (zT_pi hS)) rfl HQ)
        · intro hc
          rw [if_neg hc] at h
          refine zw_push hm_196 dX12_isOld_13 (v := .inl (1 : Int32)) rfl ?_
          refine zw_goto hm_196 dX12_isOld_14 (t := 18) rfl ?_
          refine zw_bret hm_196 dX12_isOld_18 (by decide) ?_
          show ma_wp X d w 247 191 [(0, .inr (.inr (some 94))), (2, .inl l2), (4, .inl l4), (6, .inl l6), (7, .inl l7), (8, .inl l8)] [.inl (1 : Int32)] (ma_put S 108 ((l4 * (60 : Int32)) + l2).toNatClampNeg (.inl l6)) _
          refine zw_if0 hm_247 dX12_link_191 (t := 207) rfl zc0_ne (fun _ => ?_) (fun hc => absurd (by decide) hc)
          exact zw_sub (ma_nd_of (ks := [0, 6, 7, 8]) rfl (by decide)) (ma_nd_of (ks := [0, 2, 4, 6, 7, 8]) rfl (by decide)) (ma_le_cons rfl (ma_le_cons rfl (ma_le_cons rfl (ma_le_cons rfl (ma_le_nil _))))) (h d w _ Q (by omega) (by omega) (zT_pi hS) rfl HQ)
theorem g_247_207 {X : Nat × (Nat → Int32)} {m : Nat → Nat → Int32} {P : Option ma_V → (Nat → Nat → Int32) → Prop} (l6 : Int32) (l7 : Int32) (l8 : Int32) (h : zm X 1 21 240 0 [(0, .inr (.inr (some 94))), (1, .inl l7), (2, .inl l6)] m (zmv (fun m1 => zm X 3 64 241 0 [(0, .inr (.inr (some 94))), (1, .inl l7)] m1 (zmv (fun m3 => P (some (.inl l8)) m3))))) : zm X 5 109 247 207 [(0, .inr (.inr (some 94))), (6, .inl l6), (7, .inl l7), (8, .inl l8)] m P := by
  intro d w S Q hd hw hS hm HQ
  subst hm
  refine zw_push hm_247 dX12_link_207 (v := .inr (.inr (some 94))) rfl ?_
  refine zw_push hm_247 dX12_link_208 (v := .inl l7) rfl ?_
  refine zw_push hm_247 dX12_link_210 (v := .inl l6) rfl ?_
  refine zw_cv hm_247 dX12_link_212 v_12_487_12 hm_240 [.inl l6, .inl l7] [] rfl (zT_rt hS s_94 rfl) ⟨by omega, by omega⟩ rfl (h _ _ S _ (by omega) (by omega) hS rfl (fun o9 m1 hv => ?_))
  obtain ⟨rfl, h⟩ := zmv_of hv
  show ma_wp X d w 247 215 [(0, .inr (.inr (some 94))), (6, .inl l6), (7, .inl l7), (8, .inl l8)] [] (zst S m1) _
  refine zw_push hm_247 dX12_link_215 (v := .inr (.inr (some 94))) rfl ?_
  refine zw_push hm_247 dX12_link_216 (v := .inl l7) rfl ?_
  refine zw_cv hm_247 dX12_link_218 v_12_490_12 hm_241 [.inl l7] [] rfl (zT_rt (zT_zst hS m1) s_94 rfl) ⟨by omega, by omega⟩ rfl (h _ _ (zst S m1) _ (by omega) (by omega) (zT_zst hS m1) rfl (fun o9 m3 hv => ?_))
  obtain ⟨rfl, h⟩ := zmv_of hv
  show ma_wp X d w 247 221 [(0, .inr (.inr (some 94))), (6, .inl l6), (7, .inl l7), (8, .inl l8)] [] (zst S m3) _
  refine zw_push hm_247 dX12_link_221 (v := .inl l8) rfl ?_
  exact zw_iret hm_247 dX12_link_223 (HQ _ _ h)
theorem lp_247_207 {X : Nat × (Nat → Int32)} {P : Option ma_V → (Nat → Nat → Int32) → Prop} {T : Nat} {ob : Int32} {ix : Int32} {oo : Int32} {m0 : Nat → Nat → Int32} (h0 : zV m0) (K : ∀ v m₉, zF wr_247 m0 m₉ → zV m₉ → (zW (m₉ 94 7) (m₉ 98) (m₉ 101) (m₉ 102) (m₉ 108)) → (zGW T (m₉ 94 55) (m₉ 109)) → (zGU T (m₉ 94 46) (m₉ 99)) → (zOw (m₉ 99) (m₉ 103) (m₉ 111)) → (zDX (m₉ 94 10) (m₉ 99) (m₉ 112) (m₉ 113) (m₉ 114) (m₉ 94 55) (m₉ 98) (m₉ 101) (m₉ 102) (m₉ 108)) → (zGG (m₉ 94 58) (m₉ 94 56) (m₉ 94 57) (m₉ 106)) → (zHA (m₉ 94 10) (m₉ 94 11) (m₉ 94 13) (m₉ 94 14) (m₉ 94 16) (m₉ 94 61) (m₉ 94 59) (m₉ 94 60) (m₉ 99) (m₉ 102) (m₉ 103) (m₉ 111) (m₉ 117) (m₉ 98) (m₉ 101) (m₉ 108)) → (zRG (m₉ 94 10) (m₉ 94 18) (m₉ 94 64) (m₉ 94 63) (m₉ 99) (m₉ 103) (m₉ 102) (m₉ 116)) → ((m₉ 94 58).toInt = 0 ∨ (m₉ 94 10).toInt = 5) → P (some (.inl v)) m₉) : ∀ (n : Nat) (m : Nat → Nat → Int32) (l6 : Int32) (l7 : Int32) (l8 : Int32), ((0 : Int)).toNat = n → zF wr_247 m0 m → zV m → (-1 ≤ l6.toInt) → (l6.toInt ≤ 3099) → (-1 ≤ l7.toInt) → (l7.toInt ≤ 3099) → (zW (m 94 7) (m 98) (m 101) (m 102) (m 108)) → (zGW T (m 94 55) (m 109)) → (zGU T (m 94 46) (m 99)) → (zOw (m 99) (m 103) (m 111)) → (zDX (m 94 10) (m 99) (m 112) (m 113) (m 114) (m 94 55) (m 98) (m 101) (m 102) (m 108)) → (zGG (m 94 58) (m 94 56) (m 94 57) (m 106)) → (zHA (m 94 10) (m 94 11) (m 94 13) (m 94 14) (m 94 16) (m 94 61) (m 94 59) (m 94 60) (m 99) (m 102) (m 103) (m 111) (m 117) (m 98) (m 101) (m 108)) → (zRG (m 94 10) (m 94 18) (m 94 64) (m 94 63) (m 99) (m 103) (m 102) (m 116)) → ((m 94 58).toInt = 0 ∨ (m 94 10).toInt = 5) → zm X 5 109 247 207 [(0, .inr (.inr (some 94))), (6, .inl l6), (7, .inl l7), (8, .inl l8)] m P := by
  intro n
  induction n using Nat.strongRecOn with
  | _ n IH =>
    intro m l6 l7 l8 hmu hF hV hi0 hi1 hi2 hi3 r_W r_GW r_GU r_OW r_DX r_GG r_HA r_RGc hi12
    refine g_247_207 l6 l7 l8 ?_
    have f1 : 0 ≤ (m 94 58).toInt ∧ (m 94 58).toInt ≤ 1 := rs_94_58 (m := m) hV
    have f2 : 0 ≤ (m 94 10).toInt ∧ (m 94 10).toInt ≤ 6 := rs_94_10 (m := m) hV
    have b3 := i_bd l7
    have b4 := i_bd l6
    refine sp_240 (l7) (l6) hV (by omega) (by omega) r_GG (show (m 94 58).toInt = 0 ∨ (m 94 10).toInt = 5 from by omega) (fun m1 hV_m1 p0_m1 => zmv_n ?_)
    have p0_m1 : zGG (m 94 58) (m1 94 56) (m 94 57) (m1 106) := p0_m1
    refine sp_241 (l7) hV_m1 (by omega) r_W r_GW r_GU r_OW r_DX (fun m3 hV_m3 p0_m3 p1_m3 p2_m3 p3_m3 p4_m3 => zmv_n ?_)
    have p0_m3 : zGW T (m3 94 55) (m3 109) := p0_m3
    have p1_m3 : zGU T (m 94 46) (m3 99) := p1_m3
    have p2_m3 : zOw (m3 99) (m 103) (m3 111) := p2_m3
    have p3_m3 : zDX (m 94 10) (m3 99) (m 112) (m3 113) (m3 114) (m3 94 55) (m 98) (m 101) (m 102) (m 108) := p3_m3
    have p4_m3 : (m 94 10).toInt ≠ 4 → ((m3 99) = (m 99) ∧ (m3 111) = (m 111) ∧ (m3 113) = (m 113) ∧ (m3 114) = (m 114) ∧ (m3 94 55) = (m 94 55) ∧ (m3 109) = (m 109)) := p4_m3
    try have w60 := (ra_102 hV (k := l4.toNatClampNeg) (by omega)).2
    have b5 := i_bd l8
    exact K (l8) _ (zF_zov (zF_zov hF ws_240_247) ws_241_247) hV_m3 r_W p0_m3 p1_m3 p2_m3 p3_m3 p0_m1 (show zHA (m 94 10) (m 94 11) (m 94 13) (m 94 14) (m 94 16) (m 94 61) (m 94 59) (m 94 60) (m3 99) (m 102) (m 103) (m3 111) (m 117) (m 98) (m 101) (m 108) from by first | (exact HA_lq r_HA (fun z => ⟨(p4_m3 z).1, (p4_m3 z).2.1⟩)) | (exact HA_lq r_HA (fun z => ⟨(p4_m3 z).1, (p4_m3 z).2.1⟩)) | (exfalso; omega; done) | (exfalso; contradiction; done)) (show zRG (m 94 10) (m 94 18) (m 94 64) (m 94 63) (m3 99) (m 103) (m 102) (m 116) from by first | (exact RG_lq r_RGc (fun z => (p4_m3 z).1)) | (exfalso; omega; done) | (exfalso; contradiction; done)) (show (m 94 58).toInt = 0 ∨ (m 94 10).toInt = 5 from by omega)
theorem lp_247_149 {X : Nat × (Nat → Int32)} {P : Option ma_V → (Nat → Nat → Int32) → Prop} {T : Nat} {ob : Int32} {ix : Int32} {oo : Int32} {m0 : Nat → Nat → Int32} (h0 : zV m0) (K : ∀ v m₉, zF wr_247 m0 m₉ → zV m₉ → (zW (m₉ 94 7) (m₉ 98) (m₉ 101) (m₉ 102) (m₉ 108)) → (zGW T (m₉ 94 55) (m₉ 109)) → (zGU T (m₉ 94 46) (m₉ 99)) → (zOw (m₉ 99) (m₉ 103) (m₉ 111)) → (zDX (m₉ 94 10) (m₉ 99) (m₉ 112) (m₉ 113) (m₉ 114) (m₉ 94 55) (m₉ 98) (m₉ 101) (m₉ 102) (m₉ 108)) → (zGG (m₉ 94 58) (m₉ 94 56) (m₉ 94 57) (m₉ 106)) → (zHA (m₉ 94 10) (m₉ 94 11) (m₉ 94 13) (m₉ 94 14) (m₉ 94 16) (m₉ 94 61) (m₉ 94 59) (m₉ 94 60) (m₉ 99) (m₉ 102) (m₉ 103) (m₉ 111) (m₉ 117) (m₉ 98) (m₉ 101) (m₉ 108)) → (zRG (m₉ 94 10) (m₉ 94 18) (m₉ 94 64) (m₉ 94 63) (m₉ 99) (m₉ 103) (m₉ 102) (m₉ 116)) → ((m₉ 94 58).toInt = 0 ∨ (m₉ 94 10).toInt = 5) → P (some (.inl v)) m₉) : ∀ (n : Nat) (m : Nat → Nat → Int32) (l2 : Int32) (l4 : Int32) (l6 : Int32) (l7 : Int32) (l8 : Int32), ((0 : Int)).toNat = n → zF wr_247 m0 m → zV m → (0 ≤ l4.toInt) → (l4.toInt ≤ 3099) → (0 ≤ l2.toInt) → (l2.toInt < (m 102 l4.toNatClampNeg).toInt) → ((m 101) l4.toNatClampNeg = 16 ∨ ((m 101) l4.toNatClampNeg < 16 ∧ (((m 98) ((m 101) l4.toNatClampNeg).toNatClampNeg >>> (l2 &&& 31)) &&& 1) = 1)) → (-1 ≤ l6.toInt) → (l6.toInt ≤ 3099) → (-1 ≤ l7.toInt) → (l7.toInt ≤ 3099) → (l6.toInt < 0 ∨ (m 99) l6.toNatClampNeg ≠ 0) → (zW (m 94 7) (m 98) (m 101) (m 102) (m 108)) → (zGW T (m 94 55) (m 109)) → (zGU T (m 94 46) (m 99)) → (zOw (m 99) (m 103) (m 111)) → (zDX (m 94 10) (m 99) (m 112) (m 113) (m 114) (m 94 55) (m 98) (m 101) (m 102) (m 108)) → (zGG (m 94 58) (m 94 56) (m 94 57) (m 106)) → (zHA (m 94 10) (m 94 11) (m 94 13) (m 94 14) (m 94 16) (m 94 61) (m 94 59) (m 94 60) (m 99) (m 102) (m 103) (m 111) (m 117) (m 98) (m 101) (m 108)) → (zRG (m 94 10) (m 94 18) (m 94 64) (m 94 63) (m 99) (m 103) (m 102) (m 116)) → ((m 94 58).toInt = 0 ∨ (m 94 10).toInt = 5) → zm X 5 109 247 149 [(0, .inr (.inr (some 94))), (2, .inl l2), (4, .inl l4), (6, .inl l6), (7, .inl l7), (8, .inl l8)] m P := by
  intro n
  induction n using Nat.strongRecOn with
  | _ n IH =>
    intro m l2 l4 l6 l7 l8 hmu hF hV hi0 hi1 hi2 hi3 r_ISR hi5 hi6 hi7 hi8 r_PU r_W r_GW r_GU r_OW r_DX r_GG r_HA r_RGc hi18
    refine g_247_149 l2 l4 l6 l7 l8 ?_
    have b1 := i_bd l4
    first | have f2 : 0 ≤ (m 102 l4.toNatClampNeg).toInt ∧ (m 102 l4.toNatClampNeg).toInt ≤ 60 := ra_102 (m := m) hV (k := l4.toNatClampNeg) (i_ix (n := 3100) (by omega) (by omega)).2 | have b3 := i_bd (m 102 l4.toNatClampNeg)
    have f4 : 0 ≤ (m 94 58).toInt ∧ (m 94 58).toInt ≤ 1 := rs_94_58 (m := m) hV
    have f5 : 0 ≤ (m 94 10).toInt ∧ (m 94 10).toInt ≤ 6 := rs_94_10 (m := m) hV
    have li6 : (60 : Int32).toInt = 60 := rfl
    first | have e7 : (l4 * (60 : Int32)).toInt = l4.toInt * 60 := i_mulk rfl (by omega) (by omega) | have b8 := i_bd (l4 * (60 : Int32))
    have b9 := i_bd l2
    first | have e10 : ((l4 * (60 : Int32)) + l2).toInt = (l4 * (60 : Int32)).toInt + l2.toInt := i_add (by omega) (by omega) | have b11 := i_bd ((l4 * (60 : Int32)) + l2)
    have hg12 : (0 ≤ ((l4 * (60 : Int32)) + l2) ∧ ((l4 * (60 : Int32)) + l2).toNatClampNeg < 186000) := i_ix (by omega) (by omega)
    refine ⟨hg12, ?_⟩
    have li13 : (3 : Int32).toInt = 3 := rfl
    refine zd (fun (h14 : (m 94 10) = (3 : Int32)) => ?_) (fun (h14 : ¬ (m 94 10) = (3 : Int32)) => ?_)
    · skip
      have g15 := i_eq h14
      have hg16 : (0 ≤ l4 ∧ l4.toNatClampNeg < 3100) := i_ix (by omega) (by omega)
      refine ⟨hg16, ?_⟩
      have f17 : 0 ≤ (m 94 14).toInt ∧ (m 94 14).toInt ≤ 1500 := rs_94_14 (m := m) hV
      first | have f18 : 0 ≤ (m 103 l4.toNatClampNeg).toInt ∧ (m 103 l4.toNatClampNeg).toInt ≤ 4599 := ra_103 (m := m) hV (k := l4.toNatClampNeg) (i_ix (n := 3100) (by omega) (by omega)).2 | have b19 := i_bd (m 103 l4.toNatClampNeg)
      refine zd (fun (h20 : (m 94 14) ≤ (m 103 l4.toNatClampNeg)) => ?_) (fun (h20 : ¬ (m 94 14) ≤ (m 103 l4.toNatClampNeg)) => ?_)
      · skip
        have g21 := i_le h20
        try have w60 := (ra_102 hV (k := l4.toNatClampNeg) (by omega)).2
        try have ww := W_isr r_W (s := l4) (i := l2) (by omega) (by omega) (by omega) (by omega) (by omega) r_ISR
        have hV22 : zV (ma_u m 108 ((l4 * (60 : Int32)) + l2).toNatClampNeg l6) := ua_108 hV
        have b23 := i_bd l6
        have b24 := i_bd l7
        have b25 := i_bd l8
        exact lp_247_207 (ob := ob) (ix := ix) (oo := oo) h0 K _ _ (l6) (l7) (l8) rfl (zF_u hF rfl) hV22 (by omega) (by omega) (by omega) (by omega) (show zW (m 94 7) (m 98) (m 101) (m 102) ((ma_u m 108 ((l4 * (60 : Int32)) + l2).toNatClampNeg l6) 108) from by first | (exact W_link r_W (by omega) (by omega) (fun s2 i2 hs2 hi2 => zrf_link (s := l4) (i := l2) (by omega) (by omega) (by omega) (by omega) r_ISR s2 i2 (by have := (ra_102 hV hs2).2; omega))) | (exfalso; omega; done) | (exfalso; contradiction; done)) r_GW r_GU r_OW (show zDX (m 94 10) (m 99) (m 112) (m 113) (m 114) (m 94 55) (m 98) (m 101) (m 102) ((ma_u m 108 ((l4 * (60 : Int32)) + l2).toNatClampNeg l6) 108) from by first | (exact DX_link r_DX (fun _ => r_PU) (fun s2 i2 hs2 hi2 => zrf_link (s := l4) (i := l2) (by omega) (by omega) (by omega) (by omega) r_ISR s2 i2 (by have := (ra_102 hV hs2).2; omega))) | (exfalso; omega; done) | (exfalso; contradiction; done)) r_GG (show zHA (m 94 10) (m 94 11) (m 94 13) (m 94 14) (m 94 16) (m 94 61) (m 94 59) (m 94 60) (m 99) (m 102) (m 103) (m 111) (m 117) (m 98) (m 101) ((ma_u m 108 ((l4 * (60 : Int32)) + l2).toNatClampNeg l6) 108) from by first | (exact HA_link r_HA (fun _ z => z) (fun s2 i2 hs2 hi2 => zrf_link (s := l4) (i := l2) (by omega) (by omega) (by omega) (by omega) r_ISR s2 i2 (by have := (ra_102 hV hs2).2; omega)) (fun hp hl => by first | (exfalso; omega) | exact Or.inl (by omega) | exact Or.inr (Or.inl (by omega)))) | (exfalso; omega; done) | (exfalso; contradiction; done)) r_RGc (show (m 94 58).toInt = 0 ∨ (m 94 10).toInt = 5 from by omega)
      · skip
        have g26 := i_nle h20
        have b27 := i_bd l6
        have li28 : (0 : Int32).toInt = 0 := rfl
        refine zd (fun (h29 : l6 < (0 : Int32)) => ?_) (fun (h29 : ¬ l6 < (0 : Int32)) => ?_)
        · skip
          have g30 := i_lt h29
          try have w60 := (ra_102 hV (k := l4.toNatClampNeg) (by omega)).2
          try have ww := W_isr r_W (s := l4) (i := l2) (by omega) (by omega) (by omega) (by omega) (by omega) r_ISR
          have hV31 : zV (ma_u m 108 ((l4 * (60 : Int32)) + l2).toNatClampNeg l6) := ua_108 hV
          have b32 := i_bd l7
          have b33 := i_bd l8
          exact lp_247_207 (ob := ob) (ix := ix) (oo := oo) h0 K _ _ (l6) (l7) (l8) rfl (zF_u hF rfl) hV31 (by omega) (by omega) (by omega) (by omega) (show zW (m 94 7) (m 98) (m 101) (m 102) ((ma_u m 108 ((l4 * (60 : Int32)) + l2).toNatClampNeg l6) 108) from by first | (exact W_link r_W (by omega) (by omega) (fun s2 i2 hs2 hi2 => zrf_link (s := l4) (i := l2) (by omega) (by omega) (by omega) (by omega) r_ISR s2 i2 (by have := (ra_102 hV hs2).2; omega))) | (exfalso; omega; done) | (exfalso; contradiction; done)) r_GW r_GU r_OW (show zDX (m 94 10) (m 99) (m 112) (m 113) (m 114) (m 94 55) (m 98) (m 101) (m 102) ((ma_u m 108 ((l4 * (60 : Int32)) + l2).toNatClampNeg l6) 108) from by first | (exact DX_link r_DX (fun _ => r_PU) (fun s2 i2 hs2 hi2 => zrf_link (s := l4) (i := l2) (by omega) (by omega) (by omega) (by omega) r_ISR s2 i2 (by have := (ra_102 hV hs2).2; omega))) | (exfalso; omega; done) | (exfalso; contradiction; done)) r_GG (show zHA (m 94 10) (m 94 11) (m 94 13) (m 94 14) (m 94 16) (m 94 61) (m 94 59) (m 94 60) (m 99) (m 102) (m 103) (m 111) (m 117) (m 98) (m 101) ((ma_u m 108 ((l4 * (60 : Int32)) + l2).toNatClampNeg l6) 108) from by first | (exact HA_link r_HA (fun _ z => z) (fun s2 i2 hs2 hi2 => zrf_link (s := l4) (i := l2) (by omega) (by omega) (by omega) (by omega) r_ISR s2 i2 (by have := (ra_102 hV hs2).2; omega)) (fun hp hl => by first | (exfalso; omega) | exact Or.inl (by omega) | exact Or.inr (Or.inl (by omega)))) | (exfalso; omega; done) | (exfalso; contradiction; done)) r_RGc (show (m 94 58).toInt = 0 ∨ (m 94 10).toInt = 5 from by omega)
        · skip
          have g34 := i_nlt h29
          have hg35 : (0 ≤ l6 ∧ l6.toNatClampNeg < 3100) := i_ix (by omega) (by omega)
          refine ⟨hg35, ?_⟩
          first | have f36 : 0 ≤ (m 103 l6.toNatClampNeg).toInt ∧ (m 103 l6.toNatClampNeg).toInt ≤ 4599 := ra_103 (m := m) hV (k := l6.toNatClampNeg) (i_ix (n := 3100) (by omega) (by omega)).2 | have b37 := i_bd (m 103 l6.toNatClampNeg)
          refine zd (fun (h38 : (m 94 14) ≤ (m 103 l6.toNatClampNeg)) => ?_) (fun (h38 : ¬ (m 94 14) ≤ (m 103 l6.toNatClampNeg)) => ?_)
          · skip
            have g39 := i_le h38
            have hg40 : (0 ≤ l4 ∧ l4.toNatClampNeg < 3100) := i_ix (by omega) (by omega)
            refine ⟨hg40, ?_⟩
            have f41 : 0 ≤ (m 94 16).toInt ∧ (m 94 16).toInt ≤ 64 := rs_94_16 (m := m) hV
            try have ca4 := (r_HA.2 (by omega)).1
            have hg42 : (m 94 16) ≠ 0 := i_nz (by omega)
            refine ⟨hg42, ?_⟩
            first | have e43 : ((m 103 l4.toNatClampNeg) + (1 : Int32)).toInt = (m 103 l4.toNatClampNeg).toInt + (1) := i_addk rfl (by omega) (by omega) | have b44 := i_bd ((m 103 l4.toNatClampNeg) + (1 : Int32))
            first | have e45 : (((m 103 l4.toNatClampNeg) + (1 : Int32)) + l2).toInt = ((m 103 l4.toNatClampNeg) + (1 : Int32)).toInt + l2.toInt := i_add (by omega) (by omega) | have b46 := i_bd (((m 103 l4.toNatClampNeg) + (1 : Int32)) + l2)
            first | have f47 := i_div (x := (((m 103 l4.toNatClampNeg) + (1 : Int32)) + l2)) (y := (m 94 16)) (by omega) (by omega) | have b48 := i_bd ((((m 103 l4.toNatClampNeg) + (1 : Int32)) + l2) / (m 94 16))
            try have ca4 := (r_HA.2 (by omega)).1
            try have dv : 0 ≤ (((((m 103 l4.toNatClampNeg) + (1 : Int32)) + l2) / (m 94 16))).toInt ∧ (((((m 103 l4.toNatClampNeg) + (1 : Int32)) + l2) / (m 94 16))).toInt ≤ 499 := i_div4 (by omega) (by omega) (by omega)
            have hg49 : (0 ≤ ((((m 103 l4.toNatClampNeg) + (1 : Int32)) + l2) / (m 94 16)) ∧ ((((m 103 l4.toNatClampNeg) + (1 : Int32)) + l2) / (m 94 16)).toNatClampNeg < 512) := i_ix (by omega) (by omega)
            refine ⟨hg49, ?_⟩
            try have w60 := (ra_102 hV (k := l4.toNatClampNeg) (by omega)).2
            try have ww := W_isr r_W (s := l4) (i := l2) (by omega) (by omega) (by omega) (by omega) (by omega) r_ISR
            have hV50 : zV (ma_u m 108 ((l4 * (60 : Int32)) + l2).toNatClampNeg l6) := ua_108 hV
            have li52 : (1 : Int32).toInt = 1 := rfl
            have hV51 : zV (ma_u (ma_u m 108 ((l4 * (60 : Int32)) + l2).toNatClampNeg l6) 117 ((((m 103 l4.toNatClampNeg) + (1 : Int32)) + l2) / (m 94 16)).toNatClampNeg (1 : Int32)) := ua_117 hV50 (by omega) (by omega)
            have b53 := i_bd l7
            have b54 := i_bd l8
            exact lp_247_207 (ob := ob) (ix := ix) (oo := oo) h0 K _ _ (l6) (l7) (l8) rfl (zF_u (zF_u hF rfl) rfl) hV51 (by omega) (by omega) (by omega) (by omega) (show zW (m 94 7) (m 98) (m 101) (m 102) ((ma_u m 108 ((l4 * (60 : Int32)) + l2).toNatClampNeg l6) 108) from by first | (exact W_link r_W (by omega) (by omega) (fun s2 i2 hs2 hi2 => zrf_link (s := l4) (i := l2) (by omega) (by omega) (by omega) (by omega) r_ISR s2 i2 (by have := (ra_102 hV hs2).2; omega))) | (exfalso; omega; done) | (exfalso; contradiction; done)) r_GW r_GU r_OW (show zDX (m 94 10) (m 99) (m 112) (m 113) (m 114) (m 94 55) (m 98) (m 101) (m 102) ((ma_u m 108 ((l4 * (60 : Int32)) + l2).toNatClampNeg l6) 108) from by first | (exact DX_link r_DX (fun _ => r_PU) (fun s2 i2 hs2 hi2 => zrf_link (s := l4) (i := l2) (by omega) (by omega) (by omega) (by omega) r_ISR s2 i2 (by have := (ra_102 hV hs2).2; omega))) | (exfalso; omega; done) | (exfalso; contradiction; done)) r_GG (show zHA (m 94 10) (m 94 11) (m 94 13) (m 94 14) (m 94 16) (m 94 61) (m 94 59) (m 94 60) (m 99) (m 102) (m 103) (m 111) ((ma_u m 117 ((((m 103 l4.toNatClampNeg) + (1 : Int32)) + l2) / (m 94 16)).toNatClampNeg (1 : Int32)) 117) (m 98) (m 101) ((ma_u m 108 ((l4 * (60 : Int32)) + l2).toNatClampNeg l6) 108) from by first | (exact HA_link r_HA (fun j z => mu_mono (by decide) z) (fun s2 i2 hs2 hi2 => zrf_link (s := l4) (i := l2) (by omega) (by omega) (by omega) (by omega) r_ISR s2 i2 (by have := (ra_102 hV hs2).2; omega)) (fun _ _ => Or.inr (Or.inr (by rw [← card_ix (by omega) (by omega) (by omega) (by omega) (by omega), mu_self]; decide)))) | (exfalso; omega; done) | (exfalso; contradiction; done)) r_RGc (show (m 94 58).toInt = 0 ∨ (m 94 10).toInt = 5 from by omega)
          · skip
            have g55 := i_nle h38
            try have w60 := (ra_102 hV (k := l4.toNatClampNeg) (by omega)).2
            try have ww := W_isr r_W (s := l4) (i := l2) (by omega) (by omega) (by omega) (by omega) (by omega) r_ISR
            have hV56 : zV (ma_u m 108 ((l4 * (60 : Int32)) + l2).toNatClampNeg l6) := ua_108 hV
            have b57 := i_bd l7
            have b58 := i_bd l8
            exact lp_247_207 (ob := ob) (ix := ix) (oo := oo) h0 K _ _ (l6) (l7) (l8) rfl (zF_u hF rfl) hV56 (by omega) (by omega) (by omega) (by omega) (show zW (m 94 7) (m 98) (m 101) (m 102) ((ma_u m 108 ((l4 * (60 : Int32)) + l2).toNatClampNeg l6) 108) from by first | (exact W_link r_W (by omega) (by omega) (fun s2 i2 hs2 hi2 => zrf_link (s := l4) (i := l2) (by omega) (by omega) (by omega) (by omega) r_ISR s2 i2 (by have := (ra_102 hV hs2).2; omega))) | (exfalso; omega; done) | (exfalso; contradiction; done)) r_GW r_GU r_OW (show zDX (m 94 10) (m 99) (m 112) (m 113) (m 114) (m 94 55) (m 98) (m 101) (m 102) ((ma_u m 108 ((l4 * (60 : Int32)) + l2).toNatClampNeg l6) 108) from by first | (exact DX_link r_DX (fun _ => r_PU) (fun s2 i2 hs2 hi2 => zrf_link (s := l4) (i := l2) (by omega) (by omega) (by omega) (by omega) r_ISR s2 i2 (by have := (ra_102 hV hs2).2; omega))) | (exfalso; omega; done) | (exfalso; contradiction; done)) r_GG (show zHA (m 94 10) (m 94 11) (m 94 13) (m 94 14) (m 94 16) (m 94 61) (m 94 59) (m 94 60) (m 99) (m 102) (m 103) (m 111) (m 117) (m 98) (m 101) ((ma_u m 108 ((l4 * (60 : Int32)) + l2).toNatClampNeg l6) 108) from by first | (exact HA_link r_HA (fun _ z => z) (fun s2 i2 hs2 hi2 => zrf_link (s := l4) (i := l2) (by omega) (by omega) (by omega) (by omega) r_ISR s2 i2 (by have := (ra_102 hV hs2).2; omega)) (fun hp hl => by first | (exfalso; omega) | exact Or.inl (by omega) | exact Or.inr (Or.inl (by omega)))) | (exfalso; omega; done) | (exfalso; contradiction; done)) r_RGc (show (m 94 58).toInt = 0 ∨ (m 94 10).toInt = 5 from by omega)
    · skip
      have g59 := i_ne h14
      try have w60 := (ra_102 hV (k := l4.toNatClampNeg) (by omega)).2
      try have ww := W_isr r_W (s := l4) (i := l2) (by omega) (by omega) (by omega) (by omega) (by omega) r_ISR
      have hV60 : zV (ma_u m 108 ((l4 * (60 : Int32)) + l2).toNatClampNeg l6) := ua_108 hV
      have b61 := i_bd l6
      have b62 := i_bd l7
      have b63 := i_bd l8
      exact lp_247_207 (ob := ob) (ix := ix) (oo := oo) h0 K _ _ (l6) (l7) (l8) rfl (zF_u hF rfl) hV60 (by omega) (by omega) (by omega) (by omega) (show zW (m 94 7) (m 98) (m 101) (m 102) ((ma_u m 108 ((l4 * (60 : Int32)) + l2).toNatClampNeg l6) 108) from by first | (exact W_link r_W (by omega) (by omega) (fun s2 i2 hs2 hi2 => zrf_link (s := l4) (i := l2) (by omega) (by omega) (by omega) (by omega) r_ISR s2 i2 (by have := (ra_102 hV hs2).2; omega))) | (exfalso; omega; done) | (exfalso; contradiction; done)) r_GW r_GU r_OW (show zDX (m 94 10) (m 99) (m 112) (m 113) (m 114) (m 94 55) (m 98) (m 101) (m 102) ((ma_u m 108 ((l4 * (60 : Int32)) + l2).toNatClampNeg l6) 108) from by first | (exact DX_link r_DX (fun _ => r_PU) (fun s2 i2 hs2 hi2 => zrf_link (s := l4) (i := l2) (by omega) (by omega) (by omega) (by omega) r_ISR s2 i2 (by have := (ra_102 hV hs2).2; omega))) | (exfalso; omega; done) | (exfalso; contradiction; done)) r_GG (show zHA (m 94 10) (m 94 11) (m 94 13) (m 94 14) (m 94 16) (m 94 61) (m 94 59) (m 94 60) (m 99) (m 102) (m 103) (m 111) (m 117) (m 98) (m 101) ((ma_u m 108 ((l4 * (60 : Int32)) + l2).toNatClampNeg l6) 108) from by first | (exact HA_link r_HA (fun _ z => z) (fun s2 i2 hs2 hi2 => zrf_link (s := l4) (i := l2) (by omega) (by omega) (by omega) (by omega) r_ISR s2 i2 (by have := (ra_102 hV hs2).2; omega)) (fun hp hl => by first | (exfalso; omega) | exact Or.inl (by omega) | exact Or.inr (Or.inl (by omega)))) | (exfalso; omega; done) | (exfalso; contradiction; done)) r_RGc (show (m 94 58).toInt = 0 ∨ (m 94 10).toInt = 5 from by omega)
theorem lp_247_121 {X : Nat × (Nat → Int32)} {P : Option ma_V → (Nat → Nat → Int32) → Prop} {T : Nat} {ob : Int32} {ix : Int32} {oo : Int32} {m0 : Nat → Nat → Int32} (h0 : zV m0) (K : ∀ v m₉, zF wr_247 m0 m₉ → zV m₉ → (zW (m₉ 94 7) (m₉ 98) (m₉ 101) (m₉ 102) (m₉ 108)) → (zGW T (m₉ 94 55) (m₉ 109)) → (zGU T (m₉ 94 46) (m₉ 99)) → (zOw (m₉ 99) (m₉ 103) (m₉ 111)) → (zDX (m₉ 94 10) (m₉ 99) (m₉ 112) (m₉ 113) (m₉ 114) (m₉ 94 55) (m₉ 98) (m₉ 101) (m₉ 102) (m₉ 108)) → (zGG (m₉ 94 58) (m₉ 94 56) (m₉ 94 57) (m₉ 106)) → (zHA (m₉ 94 10) (m₉ 94 11) (m₉ 94 13) (m₉ 94 14) (m₉ 94 16) (m₉ 94 61) (m₉ 94 59) (m₉ 94 60) (m₉ 99) (m₉ 102) (m₉ 103) (m₉ 111) (m₉ 117) (m₉ 98) (m₉ 101) (m₉ 108)) → (zRG (m₉ 94 10) (m₉ 94 18) (m₉ 94 64) (m₉ 94 63) (m₉ 99) (m₉ 103) (m₉ 102) (m₉ 116)) → ((m₉ 94 58).toInt = 0 ∨ (m₉ 94 10).toInt = 5) → P (some (.inl v)) m₉) : ∀ (n : Nat) (m : Nat → Nat → Int32) (l2 : Int32) (l4 : Int32) (l6 : Int32), ((0 : Int)).toNat = n → zF wr_247 m0 m → zV m → (0 ≤ l4.toInt) → (l4.toInt ≤ 3099) → (0 ≤ l2.toInt) → (l2.toInt < (m 102 l4.toNatClampNeg).toInt) → ((m 101) l4.toNatClampNeg = 16 ∨ ((m 101) l4.toNatClampNeg < 16 ∧ (((m 98) ((m 101) l4.toNatClampNeg).toNatClampNeg >>> (l2 &&& 31)) &&& 1) = 1)) → (-1 ≤ l6.toInt) → (l6.toInt ≤ 3099) → (l6.toInt < 0 ∨ (m 99) l6.toNatClampNeg ≠ 0) → (zW (m 94 7) (m 98) (m 101) (m 102) (m 108)) → (zGW T (m 94 55) (m 109)) → (zGU T (m 94 46) (m 99)) → (zOw (m 99) (m 103) (m 111)) → (zDX (m 94 10) (m 99) (m 112) (m 113) (m 114) (m 94 55) (m 98) (m 101) (m 102) (m 108)) → (zGG (m 94 58) (m 94 56) (m 94 57) (m 106)) → (zHA (m 94 10) (m 94 11) (m 94 13) (m 94 14) (m 94 16) (m 94 61) (m 94 59) (m 94 60) (m 99) (m 102) (m 103) (m 111) (m 117) (m 98) (m 101) (m 108)) → (zRG (m 94 10) (m 94 18) (m 94 64) (m 94 63) (m 99) (m 103) (m 102) (m 116)) → ((m 94 58).toInt = 0 ∨ (m 94 10).toInt = 5) → zm X 5 109 247 121 [(0, .inr (.inr (some 94))), (2, .inl l2), (4, .inl l4), (6, .inl l6)] m P := by
  intro n
  induction n using Nat.strongRecOn with
  | _ n IH =>
    intro m l2 l4 l6 hmu hF hV hi0 hi1 hi2 hi3 r_ISR hi5 hi6 r_PU r_W r_GW r_GU r_OW r_DX r_GG r_HA r_RGc hi16
    refine g_247_121 l2 l4 l6 ?_
    have b1 := i_bd l4
    first | have f2 : 0 ≤ (m 102 l4.toNatClampNeg).toInt ∧ (m 102 l4.toNatClampNeg).toInt ≤ 60 := ra_102 (m := m) hV (k := l4.toNatClampNeg) (i_ix (n := 3100) (by omega) (by omega)).2 | have b3 := i_bd (m 102 l4.toNatClampNeg)
    have f4 : 0 ≤ (m 94 58).toInt ∧ (m 94 58).toInt ≤ 1 := rs_94_58 (m := m) hV
    have f5 : 0 ≤ (m 94 10).toInt ∧ (m 94 10).toInt ≤ 6 := rs_94_10 (m := m) hV
    have li6 : (60 : Int32).toInt = 60 := rfl
    first | have e7 : (l4 * (60 : Int32)).toInt = l4.toInt * 60 := i_mulk rfl (by omega) (by omega) | have b8 := i_bd (l4 * (60 : Int32))
    have b9 := i_bd l2
    first | have e10 : ((l4 * (60 : Int32)) + l2).toInt = (l4 * (60 : Int32)).toInt + l2.toInt := i_add (by omega) (by omega) | have b11 := i_bd ((l4 * (60 : Int32)) + l2)
    have hg12 : (0 ≤ ((l4 * (60 : Int32)) + l2) ∧ ((l4 * (60 : Int32)) + l2).toNatClampNeg < 186000) := i_ix (by omega) (by omega)
    refine ⟨hg12, ?_⟩
    have li13 : (0 : Int32).toInt = 0 := rfl
    have b14 := i_bd (m 108 ((l4 * (60 : Int32)) + l2).toNatClampNeg)
    refine zd (fun (h15 : (0 : Int32) ≤ (m 108 ((l4 * (60 : Int32)) + l2).toNatClampNeg)) => ?_) (fun (h15 : ¬ (0 : Int32) ≤ (m 108 ((l4 * (60 : Int32)) + l2).toNatClampNeg)) => ?_)
    · skip
      have g16 := i_le h15
      try have w60 := (ra_102 hV (k := l4.toNatClampNeg) (by omega)).2
      try have ww := W_isr r_W (s := l4) (i := l2) (by omega) (by omega) (by omega) (by omega) (by omega) r_ISR
      have hg17 : (0 ≤ (m 108 ((l4 * (60 : Int32)) + l2).toNatClampNeg) ∧ (m 108 ((l4 * (60 : Int32)) + l2).toNatClampNeg).toNatClampNeg < 3100) := i_ix (by omega) (by omega)
      refine ⟨hg17, ?_⟩
      have b18 := i_bd l6
      refine zd (fun (h19 : l6 < (0 : Int32)) => ?_) (fun (h19 : ¬ l6 < (0 : Int32)) => ?_)
      · skip
        have g20 := i_lt h19
        try have w60 := (ra_102 hV (k := l4.toNatClampNeg) (by omega)).2
        try have ww := W_isr r_W (s := l4) (i := l2) (by omega) (by omega) (by omega) (by omega) (by omega) r_ISR
        first | have f21 : 0 ≤ (m 100 (m 108 ((l4 * (60 : Int32)) + l2).toNatClampNeg).toNatClampNeg).toInt ∧ (m 100 (m 108 ((l4 * (60 : Int32)) + l2).toNatClampNeg).toNatClampNeg).toInt ≤ 100000 := ra_100 (m := m) hV (k := (m 108 ((l4 * (60 : Int32)) + l2).toNatClampNeg).toNatClampNeg) (i_ix (n := 3100) (by omega) (by omega)).2 | have b22 := i_bd (m 100 (m 108 ((l4 * (60 : Int32)) + l2).toNatClampNeg).toNatClampNeg)
        exact lp_247_149 (ob := ob) (ix := ix) (oo := oo) h0 K _ _ (l2) (l4) (l6) ((m 108 ((l4 * (60 : Int32)) + l2).toNatClampNeg)) ((m 100 (m 108 ((l4 * (60 : Int32)) + l2).toNatClampNeg).toNatClampNeg)) rfl hF hV (by omega) (by omega) (by omega) (show l2.toInt < (m 102 l4.toNatClampNeg).toInt from by omega) r_ISR (by omega) (by omega) (by omega) (by omega) r_PU r_W r_GW r_GU r_OW r_DX r_GG r_HA r_RGc (show (m 94 58).toInt = 0 ∨ (m 94 10).toInt = 5 from by omega)
      · skip
        have g23 := i_nlt h19
        have li24 : (4 : Int32).toInt = 4 := rfl
        refine zd (fun (h25 : (m 94 10) = (4 : Int32)) => ?_) (fun (h25 : ¬ (m 94 10) = (4 : Int32)) => ?_)
        · skip
          have g26 := i_eq h25
          have hg27 : (0 ≤ l6 ∧ l6.toNatClampNeg < 3100) := i_ix (by omega) (by omega)
          refine ⟨hg27, ?_⟩
          have hg28 : (0 ≤ l6 ∧ l6.toNatClampNeg < 3100) := i_ix (by omega) (by omega)
          refine ⟨hg28, ?_⟩
          try have w60 := (ra_102 hV (k := l4.toNatClampNeg) (by omega)).2
          try have ww := W_isr r_W (s := l4) (i := l2) (by omega) (by omega) (by omega) (by omega) (by omega) r_ISR
          have hV29 : zV (ma_u m 105 l6.toNatClampNeg ((m 105 l6.toNatClampNeg) + (1 : Int32))) := ua_105 hV
          first | have f30 : 0 ≤ (m 100 (m 108 ((l4 * (60 : Int32)) + l2).toNatClampNeg).toNatClampNeg).toInt ∧ (m 100 (m 108 ((l4 * (60 : Int32)) + l2).toNatClampNeg).toNatClampNeg).toInt ≤ 100000 := ra_100 (m := m) hV (k := (m 108 ((l4 * (60 : Int32)) + l2).toNatClampNeg).toNatClampNeg) (i_ix (n := 3100) (by omega) (by omega)).2 | have b31 := i_bd (m 100 (m 108 ((l4 * (60 : Int32)) + l2).toNatClampNeg).toNatClampNeg)
          exact lp_247_149 (ob := ob) (ix := ix) (oo := oo) h0 K _ _ (l2) (l4) (l6) ((m 108 ((l4 * (60 : Int32)) + l2).toNatClampNeg)) ((m 100 (m 108 ((l4 * (60 : Int32)) + l2).toNatClampNeg).toNatClampNeg)) rfl (zF_u hF rfl) hV29 (by omega) (by omega) (by omega) (show l2.toInt < (m 102 l4.toNatClampNeg).toInt from by omega) r_ISR (by omega) (by omega) (by omega) (by omega) r_PU r_W r_GW r_GU r_OW r_DX r_GG r_HA r_RGc (show (m 94 58).toInt = 0 ∨ (m 94 10).toInt = 5 from by omega)
        · skip
          have g32 := i_ne h25
          try have w60 := (ra_102 hV (k := l4.toNatClampNeg) (by omega)).2
          try have ww := W_isr r_W (s := l4) (i := l2) (by omega) (by omega) (by omega) (by omega) (by omega) r_ISR
          first | have f33 : 0 ≤ (m 100 (m 108 ((l4 * (60 : Int32)) + l2).toNatClampNeg).toNatClampNeg).toInt ∧ (m 100 (m 108 ((l4 * (60 : Int32)) + l2).toNatClampNeg).toNatClampNeg).toInt ≤ 100000 := ra_100 (m := m) hV (k := (m 108 ((l4 * (60 : Int32)) + l2).toNatClampNeg).toNatClampNeg) (i_ix (n := 3100) (by omega) (by omega)).2 | have b34 := i_bd (m 100 (m 108 ((l4 * (60 : Int32)) + l2).toNatClampNeg).toNatClampNeg)
          exact lp_247_149 (ob := ob) (ix := ix) (oo := oo) h0 K _ _ (l2) (l4) (l6) ((m 108 ((l4 * (60 : Int32)) + l2).toNatClampNeg)) ((m 100 (m 108 ((l4 * (60 : Int32)) + l2).toNatClampNeg).toNatClampNeg)) rfl hF hV (by omega) (by omega) (by omega) (show l2.toInt < (m 102 l4.toNatClampNeg).toInt from by omega) r_ISR (by omega) (by omega) (by omega) (by omega) r_PU r_W r_GW r_GU r_OW r_DX r_GG r_HA r_RGc (show (m 94 58).toInt = 0 ∨ (m 94 10).toInt = 5 from by omega)
    · skip
      have g35 := i_nle h15
      have b36 := i_bd l6
      refine zd (fun (h37 : l6 < (0 : Int32)) => ?_) (fun (h37 : ¬ l6 < (0 : Int32)) => ?_)
      · skip
        have g38 := i_lt h37
        try have w60 := (ra_102 hV (k := l4.toNatClampNeg) (by omega)).2
        try have ww := W_isr r_W (s := l4) (i := l2) (by omega) (by omega) (by omega) (by omega) (by omega) r_ISR
        have li39 : (-1 : Int32).toInt = -1 := rfl
        exact lp_247_149 (ob := ob) (ix := ix) (oo := oo) h0 K _ _ (l2) (l4) (l6) ((m 108 ((l4 * (60 : Int32)) + l2).toNatClampNeg)) ((-1 : Int32)) rfl hF hV (by omega) (by omega) (by omega) (show l2.toInt < (m 102 l4.toNatClampNeg).toInt from by omega) r_ISR (by omega) (by omega) (by omega) (by omega) r_PU r_W r_GW r_GU r_OW r_DX r_GG r_HA r_RGc (show (m 94 58).toInt = 0 ∨ (m 94 10).toInt = 5 from by omega)
      · skip
        have g40 := i_nlt h37
        have li41 : (4 : Int32).toInt = 4 := rfl
        refine zd (fun (h42 : (m 94 10) = (4 : Int32)) => ?_) (fun (h42 : ¬ (m 94 10) = (4 : Int32)) => ?_)
        · skip
          have g43 := i_eq h42
          have hg44 : (0 ≤ l6 ∧ l6.toNatClampNeg < 3100) := i_ix (by omega) (by omega)
          refine ⟨hg44, ?_⟩
          have hg45 : (0 ≤ l6 ∧ l6.toNatClampNeg < 3100) := i_ix (by omega) (by omega)
          refine ⟨hg45, ?_⟩
          try have w60 := (ra_102 hV (k := l4.toNatClampNeg) (by omega)).2
          try have ww := W_isr r_W (s := l4) (i := l2) (by omega) (by omega) (by omega) (by omega) (by omega) r_ISR
          have hV46 : zV (ma_u m 105 l6.toNatClampNeg ((m 105 l6.toNatClampNeg) + (1 : Int32))) := ua_105 hV
          have li47 : (-1 : Int32).toInt = -1 := rfl
          exact lp_247_149 (ob := ob) (ix := ix) (oo := oo) h0 K _ _ (l2) (l4) (l6) ((m 108 ((l4 * (60 : Int32)) + l2).toNatClampNeg)) ((-1 : Int32)) rfl (zF_u hF rfl) hV46 (by omega) (by omega) (by omega) (show l2.toInt < (m 102 l4.toNatClampNeg).toInt from by omega) r_ISR (by omega) (by omega) (by omega) (by omega) r_PU r_W r_GW r_GU r_OW r_DX r_GG r_HA r_RGc (show (m 94 58).toInt = 0 ∨ (m 94 10).toInt = 5 from by omega)
        · skip
          have g48 := i_ne h42
          try have w60 := (ra_102 hV (k := l4.toNatClampNeg) (by omega)).2
          try have ww := W_isr r_W (s := l4) (i := l2) (by omega) (by omega) (by omega) (by omega) (by omega) r_ISR
          have li49 : (-1 : Int32).toInt = -1 := rfl
          exact lp_247_149 (ob := ob) (ix := ix) (oo := oo) h0 K _ _ (l2) (l4) (l6) ((m 108 ((l4 * (60 : Int32)) + l2).toNatClampNeg)) ((-1 : Int32)) rfl hF hV (by omega) (by omega) (by omega) (show l2.toInt < (m 102 l4.toNatClampNeg).toInt from by omega) r_ISR (by omega) (by omega) (by omega) (by omega) r_PU r_W r_GW r_GU r_OW r_DX r_GG r_HA r_RGc (show (m 94 58).toInt = 0 ∨ (m 94 10).toInt = 5 from by omega)
theorem lp_247_105 {X : Nat × (Nat → Int32)} {P : Option ma_V → (Nat → Nat → Int32) → Prop} {T : Nat} {ob : Int32} {ix : Int32} {oo : Int32} {m0 : Nat → Nat → Int32} (h0 : zV m0) (K : ∀ v m₉, zF wr_247 m0 m₉ → zV m₉ → (zW (m₉ 94 7) (m₉ 98) (m₉ 101) (m₉ 102) (m₉ 108)) → (zGW T (m₉ 94 55) (m₉ 109)) → (zGU T (m₉ 94 46) (m₉ 99)) → (zOw (m₉ 99) (m₉ 103) (m₉ 111)) → (zDX (m₉ 94 10) (m₉ 99) (m₉ 112) (m₉ 113) (m₉ 114) (m₉ 94 55) (m₉ 98) (m₉ 101) (m₉ 102) (m₉ 108)) → (zGG (m₉ 94 58) (m₉ 94 56) (m₉ 94 57) (m₉ 106)) → (zHA (m₉ 94 10) (m₉ 94 11) (m₉ 94 13) (m₉ 94 14) (m₉ 94 16) (m₉ 94 61) (m₉ 94 59) (m₉ 94 60) (m₉ 99) (m₉ 102) (m₉ 103) (m₉ 111) (m₉ 117) (m₉ 98) (m₉ 101) (m₉ 108)) → (zRG (m₉ 94 10) (m₉ 94 18) (m₉ 94 64) (m₉ 94 63) (m₉ 99) (m₉ 103) (m₉ 102) (m₉ 116)) → ((m₉ 94 58).toInt = 0 ∨ (m₉ 94 10).toInt = 5) → P (some (.inl v)) m₉) : ∀ (n : Nat) (m : Nat → Nat → Int32) (l2 : Int32) (l3 : Int32) (l4 : Int32), ((0 : Int)).toNat = n → zF wr_247 m0 m → zV m → (0 ≤ l4.toInt) → (l4.toInt ≤ 3099) → (0 ≤ l2.toInt) → (l2.toInt < (m 102 l4.toNatClampNeg).toInt) → ((m 101) l4.toNatClampNeg = 16 ∨ ((m 101) l4.toNatClampNeg < 16 ∧ (((m 98) ((m 101) l4.toNatClampNeg).toNatClampNeg >>> (l2 &&& 31)) &&& 1) = 1)) → (zW (m 94 7) (m 98) (m 101) (m 102) (m 108)) → (zGW T (m 94 55) (m 109)) → (zGU T (m 94 46) (m 99)) → (zOw (m 99) (m 103) (m 111)) → (zDX (m 94 10) (m 99) (m 112) (m 113) (m 114) (m 94 55) (m 98) (m 101) (m 102) (m 108)) → (zGG (m 94 58) (m 94 56) (m 94 57) (m 106)) → (zHA (m 94 10) (m 94 11) (m 94 13) (m 94 14) (m 94 16) (m 94 61) (m 94 59) (m 94 60) (m 99) (m 102) (m 103) (m 111) (m 117) (m 98) (m 101) (m 108)) → (zRG (m 94 10) (m 94 18) (m 94 64) (m 94 63) (m 99) (m 103) (m 102) (m 116)) → ((m 94 58).toInt = 0 ∨ (m 94 10).toInt = 5) → zm X 5 109 247 105 [(0, .inr (.inr (some 94))), (2, .inl l2), (3, .inl l3), (4, .inl l4)] m P := by
  intro n
  induction n using Nat.strongRecOn with
  | _ n IH =>
    intro m l2 l3 l4 hmu hF hV hi0 hi1 hi2 hi3 r_ISR r_W r_GW r_GU r_OW r_DX r_GG r_HA r_RGc hi13
    refine g_247_105 l2 l3 l4 ?_
    have b1 := i_bd l4
    first | have f2 : 0 ≤ (m 102 l4.toNatClampNeg).toInt ∧ (m 102 l4.toNatClampNeg).toInt ≤ 60 := ra_102 (m := m) hV (k := l4.toNatClampNeg) (i_ix (n := 3100) (by omega) (by omega)).2 | have b3 := i_bd (m 102 l4.toNatClampNeg)
    have f4 : 0 ≤ (m 94 58).toInt ∧ (m 94 58).toInt ≤ 1 := rs_94_58 (m := m) hV
    have f5 : 0 ≤ (m 94 10).toInt ∧ (m 94 10).toInt ≤ 6 := rs_94_10 (m := m) hV
    have b6 := i_bd l3
    have li7 : (-1 : Int32).toInt = -1 := rfl
    refine zd (fun (h8 : l3 = (-1 : Int32)) => ?_) (fun (h8 : ¬ l3 = (-1 : Int32)) => ?_)
    · skip
      have g9 := i_eq h8
      try have w60 := (ra_102 hV (k := l4.toNatClampNeg) (by omega)).2
      try have ww := W_isr r_W (s := l4) (i := l2) (by omega) (by omega) (by omega) (by omega) (by omega) r_ISR
      have b10 := i_bd l2
      exact lp_247_121 (ob := ob) (ix := ix) (oo := oo) h0 K _ _ (l2) (l4) ((-1 : Int32)) rfl hF hV (by omega) (by omega) (by omega) (show l2.toInt < (m 102 l4.toNatClampNeg).toInt from by omega) r_ISR (by omega) (by omega) (show (-1 : Int32).toInt < 0 ∨ (m 99) (-1 : Int32).toNatClampNeg ≠ 0 from by first | (exact Or.inl (by decide)) | (exact Or.inr (by assumption)) | (exact Or.inl (by omega)) | (exfalso; omega; done) | (exfalso; contradiction; done)) r_W r_GW r_GU r_OW r_DX r_GG r_HA r_RGc (show (m 94 58).toInt = 0 ∨ (m 94 10).toInt = 5 from by omega)
    · skip
      have g11 := i_ne h8
      refine sp_246b (l3) hV  (fun v2 m1 hV_m1 p0_m1 p1_m1 => zmi_n ?_)
      have p0_m1 : -1 ≤ v2.toInt ∧ v2.toInt ≤ 3099 := p0_m1
      have p1_m1 : v2.toInt < 0 ∨ (m 99) v2.toNatClampNeg ≠ 0 := p1_m1
      try have w60 := (ra_102 hV (k := l4.toNatClampNeg) (by omega)).2
      try have ww := W_isr r_W (s := l4) (i := l2) (by omega) (by omega) (by omega) (by omega) (by omega) r_ISR
      have b12 := i_bd l2
      have b13 := i_bd v2
      exact lp_247_121 (ob := ob) (ix := ix) (oo := oo) h0 K _ _ (l2) (l4) (v2) rfl (zF_zov hF ws_246_247) hV_m1 (by omega) (by omega) (by omega) (show l2.toInt < (m 102 l4.toNatClampNeg).toInt from by omega) r_ISR (by omega) (by omega) p1_m1 r_W r_GW r_GU r_OW r_DX r_GG r_HA r_RGc (show (m 94 58).toInt = 0 ∨ (m 94 10).toInt = 5 from by omega)
theorem lp_247_53 {X : Nat × (Nat → Int32)} {P : Option ma_V → (Nat → Nat → Int32) → Prop} {T : Nat} {ob : Int32} {ix : Int32} {oo : Int32} {m0 : Nat → Nat → Int32} (h0 : zV m0) (K : ∀ v m₉, zF wr_247 m0 m₉ → zV m₉ → (zW (m₉ 94 7) (m₉ 98) (m₉ 101) (m₉ 102) (m₉ 108)) → (zGW T (m₉ 94 55) (m₉ 109)) → (zGU T (m₉ 94 46) (m₉ 99)) → (zOw (m₉ 99) (m₉ 103) (m₉ 111)) → (zDX (m₉ 94 10) (m₉ 99) (m₉ 112) (m₉ 113) (m₉ 114) (m₉ 94 55) (m₉ 98) (m₉ 101) (m₉ 102) (m₉ 108)) → (zGG (m₉ 94 58) (m₉ 94 56) (m₉ 94 57) (m₉ 106)) → (zHA (m₉ 94 10) (m₉ 94 11) (m₉ 94 13) (m₉ 94 14) (m₉ 94 16) (m₉ 94 61) (m₉ 94 59) (m₉ 94 60) (m₉ 99) (m₉ 102) (m₉ 103) (m₉ 111) (m₉ 117) (m₉ 98) (m₉ 101) (m₉ 108)) → (zRG (m₉ 94 10) (m₉ 94 18) (m₉ 94 64) (m₉ 94 63) (m₉ 99) (m₉ 103) (m₉ 102) (m₉ 116)) → ((m₉ 94 58).toInt = 0 ∨ (m₉ 94 10).toInt = 5) → P (some (.inl v)) m₉) : ∀ (n : Nat) (m : Nat → Nat → Int32) (l2 : Int32) (l3 : Int32) (l4 : Int32) (l5 : Int32), ((0 : Int)).toNat = n → zF wr_247 m0 m → zV m → (-1 ≤ l4.toInt) → (l4.toInt ≤ 3099) → (0 ≤ l5.toInt) → (l5.toInt ≤ 1) → (l5.toInt = 0 ∨ 0 ≤ l4.toInt) → (zW (m 94 7) (m 98) (m 101) (m 102) (m 108)) → (zGW T (m 94 55) (m 109)) → (zGU T (m 94 46) (m 99)) → (zOw (m 99) (m 103) (m 111)) → (zDX (m 94 10) (m 99) (m 112) (m 113) (m 114) (m 94 55) (m 98) (m 101) (m 102) (m 108)) → (zGG (m 94 58) (m 94 56) (m 94 57) (m 106)) → (zHA (m 94 10) (m 94 11) (m 94 13) (m 94 14) (m 94 16) (m 94 61) (m 94 59) (m 94 60) (m 99) (m 102) (m 103) (m 111) (m 117) (m 98) (m 101) (m 108)) → (zRG (m 94 10) (m 94 18) (m 94 64) (m 94 63) (m 99) (m 103) (m 102) (m 116)) → ((m 94 58).toInt = 0 ∨ (m 94 10).toInt = 5) → zm X 5 109 247 53 [(0, .inr (.inr (some 94))), (2, .inl l2), (3, .inl l3), (4, .inl l4), (5, .inl l5)] m P := by
  intro n
  induction n using Nat.strongRecOn with
  | _ n IH =>
    intro m l2 l3 l4 l5 hmu hF hV hi0 hi1 hi2 hi3 hi4 r_W r_GW r_GU r_OW r_DX r_GG r_HA r_RGc hi13
    refine g_247_53 l2 l3 l4 l5 ?_
    have f1 : 0 ≤ (m 94 58).toInt ∧ (m 94 58).toInt ≤ 1 := rs_94_58 (m := m) hV
    have f2 : 0 ≤ (m 94 10).toInt ∧ (m 94 10).toInt ≤ 6 := rs_94_10 (m := m) hV
    have b3 := i_bd l5
    have li4 : (0 : Int32).toInt = 0 := rfl
    refine zd (fun (h5 : l5 = (0 : Int32)) => ?_) (fun (h5 : ¬ l5 = (0 : Int32)) => ?_)
    · skip
      have g6 := i_eq h5
      try have w60 := (ra_102 hV (k := l4.toNatClampNeg) (by omega)).2
      have hV7 : zV (ma_u m 94 0 (2 : Int32)) := uf_94_0 hV
      exact K ((0 : Int32)) _ (zF_u hF rfl) hV7 r_W r_GW r_GU r_OW r_DX r_GG r_HA r_RGc (show (m 94 58).toInt = 0 ∨ (m 94 10).toInt = 5 from by omega)
    · skip
      have g8 := i_ne h5
      have b9 := i_bd l2
      refine zd (fun (h10 : l2 < (0 : Int32)) => ?_) (fun (h10 : ¬ l2 < (0 : Int32)) => ?_)
      · skip
        have g11 := i_lt h10
        try have w60 := (ra_102 hV (k := l4.toNatClampNeg) (by omega)).2
        have hV12 : zV (ma_u m 94 0 (3 : Int32)) := uf_94_0 hV
        exact K ((0 : Int32)) _ (zF_u hF rfl) hV12 r_W r_GW r_GU r_OW r_DX r_GG r_HA r_RGc (show (m 94 58).toInt = 0 ∨ (m 94 10).toInt = 5 from by omega)
      · skip
        have g13 := i_nlt h10
        have b14 := i_bd l4
        have hg15 : (0 ≤ l4 ∧ l4.toNatClampNeg < 3100) := i_ix (by omega) (by omega)
        refine ⟨hg15, ?_⟩
        first | have f16 : 0 ≤ (m 102 l4.toNatClampNeg).toInt ∧ (m 102 l4.toNatClampNeg).toInt ≤ 60 := ra_102 (m := m) hV (k := l4.toNatClampNeg) (i_ix (n := 3100) (by omega) (by omega)).2 | have b17 := i_bd (m 102 l4.toNatClampNeg)
        refine zd (fun (h18 : l2 < (m 102 l4.toNatClampNeg)) => ?_) (fun (h18 : ¬ l2 < (m 102 l4.toNatClampNeg)) => ?_)
        · skip
          have g19 := i_lt h18
          have hg20 : (0 ≤ l4 ∧ l4.toNatClampNeg < 3100) := i_ix (by omega) (by omega)
          refine ⟨hg20, ?_⟩
          first | have f21 : 0 ≤ (m 101 l4.toNatClampNeg).toInt ∧ (m 101 l4.toNatClampNeg).toInt ≤ 17 := ra_101 (m := m) hV (k := l4.toNatClampNeg) (i_ix (n := 3100) (by omega) (by omega)).2 | have b22 := i_bd (m 101 l4.toNatClampNeg)
          have li23 : (16 : Int32).toInt = 16 := rfl
          refine zd (fun (h24 : (m 101 l4.toNatClampNeg) = (16 : Int32)) => ?_) (fun (h24 : ¬ (m 101 l4.toNatClampNeg) = (16 : Int32)) => ?_)
          · skip
            have g25 := i_eq h24
            try have w60 := (ra_102 hV (k := l4.toNatClampNeg) (by omega)).2
            have hV26 : zV (ma_u m 94 0 (0 : Int32)) := uf_94_0 hV
            have b27 := i_bd l3
            exact lp_247_105 (ob := ob) (ix := ix) (oo := oo) h0 K _ _ (l2) (l3) (l4) rfl (zF_u hF rfl) hV26 (by omega) (by omega) (by omega) (show l2.toInt < (m 102 l4.toNatClampNeg).toInt from by omega) (show (m 101) l4.toNatClampNeg = 16 ∨ ((m 101) l4.toNatClampNeg < 16 ∧ (((m 98) ((m 101) l4.toNatClampNeg).toNatClampNeg >>> (l2 &&& 31)) &&& 1) = 1) from by first | (exact Or.inl (by assumption)) | (exact Or.inr ⟨Int32.not_le.mp (by assumption), by assumption⟩) | (exfalso; omega; done) | (exfalso; contradiction; done)) r_W r_GW r_GU r_OW r_DX r_GG r_HA r_RGc (show (m 94 58).toInt = 0 ∨ (m 94 10).toInt = 5 from by omega)
          · skip
            have g28 := i_ne h24
            have hg29 : (0 ≤ l4 ∧ l4.toNatClampNeg < 3100) := i_ix (by omega) (by omega)
            refine ⟨hg29, ?_⟩
            refine zd (fun (h30 : (16 : Int32) ≤ (m 101 l4.toNatClampNeg)) => ?_) (fun (h30 : ¬ (16 : Int32) ≤ (m 101 l4.toNatClampNeg)) => ?_)
            · skip
              have g31 := i_le h30
              try have w60 := (ra_102 hV (k := l4.toNatClampNeg) (by omega)).2
              have hV32 : zV (ma_u m 94 0 (4 : Int32)) := uf_94_0 hV
              exact K ((0 : Int32)) _ (zF_u hF rfl) hV32 r_W r_GW r_GU r_OW r_DX r_GG r_HA r_RGc (show (m 94 58).toInt = 0 ∨ (m 94 10).toInt = 5 from by omega)
            · skip
              have g33 := i_nle h30
              have hg34 : (0 ≤ l4 ∧ l4.toNatClampNeg < 3100) := i_ix (by omega) (by omega)
              refine ⟨hg34, ?_⟩
              have hg35 : (0 ≤ (m 101 l4.toNatClampNeg) ∧ (m 101 l4.toNatClampNeg).toNatClampNeg < 16) := i_ix (by omega) (by omega)
              refine ⟨hg35, ?_⟩
              have b36 := i_bd (((m 98 (m 101 l4.toNatClampNeg).toNatClampNeg) >>> (l2 &&& 31)) &&& (1 : Int32))
              have li37 : (1 : Int32).toInt = 1 := rfl
              refine zd (fun (h38 : (((m 98 (m 101 l4.toNatClampNeg).toNatClampNeg) >>> (l2 &&& 31)) &&& (1 : Int32)) = (1 : Int32)) => ?_) (fun (h38 : ¬ (((m 98 (m 101 l4.toNatClampNeg).toNatClampNeg) >>> (l2 &&& 31)) &&& (1 : Int32)) = (1 : Int32)) => ?_)
              · skip
                have g39 := i_eq h38
                try have w60 := (ra_102 hV (k := l4.toNatClampNeg) (by omega)).2
                have hV40 : zV (ma_u m 94 0 (0 : Int32)) := uf_94_0 hV
                have b41 := i_bd l3
                exact lp_247_105 (ob := ob) (ix := ix) (oo := oo) h0 K _ _ (l2) (l3) (l4) rfl (zF_u hF rfl) hV40 (by omega) (by omega) (by omega) (show l2.toInt < (m 102 l4.toNatClampNeg).toInt from by omega) (show (m 101) l4.toNatClampNeg = 16 ∨ ((m 101) l4.toNatClampNeg < 16 ∧ (((m 98) ((m 101) l4.toNatClampNeg).toNatClampNeg >>> (l2 &&& 31)) &&& 1) = 1) from by first | (exact Or.inl (by assumption)) | (exact Or.inr ⟨Int32.not_le.mp (by assumption), by assumption⟩) | (exfalso; omega; done) | (exfalso; contradiction; done)) r_W r_GW r_GU r_OW r_DX r_GG r_HA r_RGc (show (m 94 58).toInt = 0 ∨ (m 94 10).toInt = 5 from by omega)
              · skip
                have g42 := i_ne h38
                try have w60 := (ra_102 hV (k := l4.toNatClampNeg) (by omega)).2
                have hV43 : zV (ma_u m 94 0 (4 : Int32)) := uf_94_0 hV
                exact K ((0 : Int32)) _ (zF_u hF rfl) hV43 r_W r_GW r_GU r_OW r_DX r_GG r_HA r_RGc (show (m 94 58).toInt = 0 ∨ (m 94 10).toInt = 5 from by omega)
        · skip
          have g44 := i_nlt h18
          try have w60 := (ra_102 hV (k := l4.toNatClampNeg) (by omega)).2
          have hV45 : zV (ma_u m 94 0 (3 : Int32)) := uf_94_0 hV
          exact K ((0 : Int32)) _ (zF_u hF rfl) hV45 r_W r_GW r_GU r_OW r_DX r_GG r_HA r_RGc (show (m 94 58).toInt = 0 ∨ (m 94 10).toInt = 5 from by omega)
theorem sp_247 {X : Nat × (Nat → Int32)} {P : Option ma_V → (Nat → Nat → Int32) → Prop} {T : Nat} {m : Nat → Nat → Int32} (ob : Int32) (ix : Int32) (oo : Int32) (hV : zV m) (r_W : zW (m 94 7) (m 98) (m 101) (m 102) (m 108)) (r_GW : zGW T (m 94 55) (m 109)) (r_GU : zGU T (m 94 46) (m 99)) (r_OW : zOw (m 99) (m 103) (m 111)) (r_DX : zDX (m 94 10) (m 99) (m 112) (m 113) (m 114) (m 94 55) (m 98) (m 101) (m 102) (m 108)) (r_GG : zGG (m 94 58) (m 94 56) (m 94 57) (m 106)) (r_HA : zHA (m 94 10) (m 94 11) (m 94 13) (m 94 14) (m 94 16) (m 94 61) (m 94 59) (m 94 60) (m 99) (m 102) (m 103) (m 111) (m 117) (m 98) (m 101) (m 108)) (r_RGc : zRG (m 94 10) (m 94 18) (m 94 64) (m 94 63) (m 99) (m 103) (m 102) (m 116)) (hpre8 : (m 94 58).toInt = 0 ∨ (m 94 10).toInt = 5) (KZ : ∀ v m₉, zV (zov wr_247 m m₉) → (zW (m 94 7) (m 98) (m 101) (m 102) (m₉ 108)) → (zGW T (m₉ 94 55) (m₉ 109)) → (zGU T (m 94 46) (m₉ 99)) → (zOw (m₉ 99) (m 103) (m₉ 111)) → (zDX (m 94 10) (m₉ 99) (m 112) (m₉ 113) (m₉ 114) (m₉ 94 55) (m 98) (m 101) (m 102) (m₉ 108)) → (zGG (m 94 58) (m₉ 94 56) (m 94 57) (m₉ 106)) → (zHA (m 94 10) (m 94 11) (m 94 13) (m 94 14) (m 94 16) (m 94 61) (m 94 59) (m 94 60) (m₉ 99) (m 102) (m 103) (m₉ 111) (m₉ 117) (m 98) (m 101) (m₉ 108)) → (zRG (m 94 10) (m 94 18) (m 94 64) (m 94 63) (m₉ 99) (m 103) (m 102) (m 116)) → ((m 94 58).toInt = 0 ∨ (m 94 10).toInt = 5) → P (some (.inl v)) (zov wr_247 m m₉)) : zm X 5 109 247 0 [(0, .inr (.inr (some 94))), (1, .inl ob), (2, .inl ix), (3, .inl oo)] m P := by
  have K : ∀ v m₉, zF wr_247 m m₉ → zV m₉ → (zW (m₉ 94 7) (m₉ 98) (m₉ 101) (m₉ 102) (m₉ 108)) → (zGW T (m₉ 94 55) (m₉ 109)) → (zGU T (m₉ 94 46) (m₉ 99)) → (zOw (m₉ 99) (m₉ 103) (m₉ 111)) → (zDX (m₉ 94 10) (m₉ 99) (m₉ 112) (m₉ 113) (m₉ 114) (m₉ 94 55) (m₉ 98) (m₉ 101) (m₉ 102) (m₉ 108)) → (zGG (m₉ 94 58) (m₉ 94 56) (m₉ 94 57) (m₉ 106)) → (zHA (m₉ 94 10) (m₉ 94 11) (m₉ 94 13) (m₉ 94 14) (m₉ 94 16) (m₉ 94 61) (m₉ 94 59) (m₉ 94 60) (m₉ 99) (m₉ 102) (m₉ 103) (m₉ 111) (m₉ 117) (m₉ 98) (m₉ 101) (m₉ 108)) → (zRG (m₉ 94 10) (m₉ 94 18) (m₉ 94 64) (m₉ 94 63) (m₉ 99) (m₉ 103) (m₉ 102) (m₉ 116)) → ((m₉ 94 58).toInt = 0 ∨ (m₉ 94 10).toInt = 5) → P (some (.inl v)) m₉ := by
    intro v m₉ hf z q0 q1 q2 q3 q4 q5 q6 q7 q8
    have e := zov_eq hf
    rw [e] at z ⊢
    try rw [e] at q0
    try rw [e] at q1
    try rw [e] at q2
    try rw [e] at q3
    try rw [e] at q4
    try rw [e] at q5
    try rw [e] at q6
    try rw [e] at q7
    try rw [e] at q8
    exact KZ v m₉ z q0 q1 q2 q3 q4 q5 q6 q7 q8
  refine g_247_0 ob ix oo ?_
  have f1 : 0 ≤ (m 94 58).toInt ∧ (m 94 58).toInt ≤ 1 := rs_94_58 (m := m) hV
  have f2 : 0 ≤ (m 94 10).toInt ∧ (m 94 10).toInt ≤ 6 := rs_94_10 (m := m) hV
  have f3 : 0 ≤ (m 94 8).toInt ∧ (m 94 8).toInt ≤ 1 := rs_94_8 (m := m) hV
  have li4 : (0 : Int32).toInt = 0 := rfl
  refine zd (fun (h5 : (m 94 8) = (0 : Int32)) => ?_) (fun (h5 : ¬ (m 94 8) = (0 : Int32)) => ?_)
  · skip
    have g6 := i_eq h5
    try have w60 := (ra_102 hV (k := l4.toNatClampNeg) (by omega)).2
    have hV7 : zV (ma_u m 94 0 (1 : Int32)) := uf_94_0 hV
    exact K ((0 : Int32)) _ (zF_u zF_rfl rfl) hV7 r_W r_GW r_GU r_OW r_DX r_GG r_HA r_RGc (show (m 94 58).toInt = 0 ∨ (m 94 10).toInt = 5 from by omega)
  · skip
    have g8 := i_ne h5
    have b9 := i_bd ob
    have hV10 : zV (ma_u m 94 0 (0 : Int32)) := uf_94_0 hV
    refine sp_245 (ob) hV10 r_W r_DX (fun v2 m1 hV_m1 p0_m1 p1_m1 => zmi_n ?_)
    have p0_m1 : -1 ≤ v2.toInt ∧ v2.toInt ≤ 3099 := p0_m1
    have p1_m1 : v2.toInt < 0 ∨ (m 99) v2.toNatClampNeg ≠ 0 := p1_m1
    have b11 := i_bd v2
    refine zd (fun (h12 : v2 < (0 : Int32)) => ?_) (fun (h12 : ¬ v2 < (0 : Int32)) => ?_)
    · skip
      have g13 := i_lt h12
      try have w60 := (ra_102 hV (k := l4.toNatClampNeg) (by omega)).2
      have b14 := i_bd ix
      have b15 := i_bd oo
      exact lp_247_53 (ob := ob) (ix := ix) (oo := oo) hV K _ _ (ix) (oo) (v2) ((0 : Int32)) rfl (zF_zov (zF_u zF_rfl rfl) ws_245_247) hV_m1 (by omega) (by omega) (by omega) (by omega) (by omega) r_W r_GW r_GU r_OW r_DX r_GG r_HA r_RGc (show (m 94 58).toInt = 0 ∨ (m 94 10).toInt = 5 from by omega)
    · skip
      have g16 := i_nlt h12
      have b17 := i_bd oo
      have li18 : (-1 : Int32).toInt = -1 := rfl
      refine zd (fun (h19 : oo = (-1 : Int32)) => ?_) (fun (h19 : ¬ oo = (-1 : Int32)) => ?_)
      · skip
        have g20 := i_eq h19
        try have w60 := (ra_102 hV (k := l4.toNatClampNeg) (by omega)).2
        have b21 := i_bd ix
        have li22 : (1 : Int32).toInt = 1 := rfl
        exact lp_247_53 (ob := ob) (ix := ix) (oo := oo) hV K _ _ (ix) (oo) (v2) ((1 : Int32)) rfl (zF_zov (zF_u zF_rfl rfl) ws_245_247) hV_m1 (by omega) (by omega) (by omega) (by omega) (by omega) r_W r_GW r_GU r_OW r_DX r_GG r_HA r_RGc (show (m 94 58).toInt = 0 ∨ (m 94 10).toInt = 5 from by omega)
      · skip
        have g23 := i_ne h19
        refine sp_245 (oo) hV_m1 r_W r_DX (fun v4 m3 hV_m3 p0_m3 p1_m3 => zmi_n ?_)
        have p0_m3 : -1 ≤ v4.toInt ∧ v4.toInt ≤ 3099 := p0_m3
        have p1_m3 : v4.toInt < 0 ∨ (m 99) v4.toNatClampNeg ≠ 0 := p1_m3
        have b24 := i_bd v4
        refine zd (fun (h25 : v4 < (0 : Int32)) => ?_) (fun (h25 : ¬ v4 < (0 : Int32)) => ?_)
        · skip
          have g26 := i_lt h25
          try have w60 := (ra_102 hV (k := l4.toNatClampNeg) (by omega)).2
          have b27 := i_bd ix
          exact lp_247_53 (ob := ob) (ix := ix) (oo := oo) hV K _ _ (ix) (oo) (v2) ((0 : Int32)) rfl (zF_zov (zF_zov (zF_u zF_rfl rfl) ws_245_247) ws_245_247) hV_m3 (by omega) (by omega) (by omega) (by omega) (by omega) r_W r_GW r_GU r_OW r_DX r_GG r_HA r_RGc (show (m 94 58).toInt = 0 ∨ (m 94 10).toInt = 5 from by omega)
        · skip
          have g28 := i_nlt h25
          try have w60 := (ra_102 hV (k := l4.toNatClampNeg) (by omega)).2
          have b29 := i_bd ix
          have li30 : (1 : Int32).toInt = 1 := rfl
          exact lp_247_53 (ob := ob) (ix := ix) (oo := oo) hV K _ _ (ix) (oo) (v2) ((1 : Int32)) rfl (zF_zov (zF_zov (zF_u zF_rfl rfl) ws_245_247) ws_245_247) hV_m3 (by omega) (by omega) (by omega) (by omega) (by omega) r_W r_GW r_GU r_OW r_DX r_GG r_HA r_RGc (show (m 94 58).toInt = 0 ∨ (m 94 10).toInt = 5 from by omega)

