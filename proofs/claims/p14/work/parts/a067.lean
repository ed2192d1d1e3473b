/-! from 94.492 -/
/-! the reference (written by wip/tools/gen94m.py) -/
set_option maxRecDepth 100000 in
theorem hm_183 : ma_md 183 = some (12, yX12_fresh, cX12_fresh, 7, (some (FieldType.int))) := rfl
theorem v_12_478_12 : ma_vl 12 478 12 = some (1, 184, 1) := by decide +kernel
theorem dX12_fresh_0 : decode cX12_fresh 0 = .ok (.aload_n 0, 1) := by decide +kernel
theorem dX12_fresh_1 : decode cX12_fresh 1 = .ok (.iload_n 2, 1) := by decide +kernel
theorem dX12_fresh_2 : decode cX12_fresh 2 = .ok (.iconst 1, 1) := by decide +kernel
theorem dX12_fresh_3 : decode cX12_fresh 3 = .ok (.iadd, 1) := by decide +kernel
theorem dX12_fresh_4 : decode cX12_fresh 4 = .ok (.invokevirtual 478, 3) := by decide +kernel
theorem dX12_fresh_7 : decode cX12_fresh 7 = .ok (.istore 4, 2) := by decide +kernel
theorem dX12_fresh_9 : decode cX12_fresh 9 = .ok (.iload 4, 2) := by decide +kernel
theorem dX12_fresh_16 : decode cX12_fresh 16 = .ok (.iconst 0, 1) := by decide +kernel
theorem dX12_fresh_17 : decode cX12_fresh 17 = .ok (.istore 5, 2) := by decide +kernel
theorem dX12_fresh_14 : decode cX12_fresh 14 = .ok (.iconst (-1), 1) := by decide +kernel
theorem dX12_fresh_15 : decode cX12_fresh 15 = .ok (.ireturn, 1) := by decide +kernel
theorem dX12_fresh_11 : decode cX12_fresh 11 = .ok (.ifCond .ge 5, 3) := by decide +kernel
theorem dX12_fresh_19 : decode cX12_fresh 19 = .ok (.aload_n 0, 1) := by decide +kernel
theorem dX12_fresh_23 : decode cX12_fresh 23 = .ok (.iload 5, 2) := by decide +kernel
theorem dX12_fresh_35 : decode cX12_fresh 35 = .ok (.aload_n 0, 1) := by decide +kernel
theorem dX12_fresh_39 : decode cX12_fresh 39 = .ok (.iload 5, 2) := by decide +kernel
theorem dX12_fresh_41 : decode cX12_fresh 41 = .ok (.iconst 1, 1) := by decide +kernel
theorem dX12_fresh_43 : decode cX12_fresh 43 = .ok (.aload_n 0, 1) := by decide +kernel
theorem dX12_fresh_47 : decode cX12_fresh 47 = .ok (.iload 5, 2) := by decide +kernel
theorem dX12_fresh_49 : decode cX12_fresh 49 = .ok (.aload_n 0, 1) := by decide +kernel
theorem dX12_fresh_54 : decode cX12_fresh 54 = .ok (.aload_n 0, 1) := by decide +kernel
theorem dX12_fresh_58 : decode cX12_fresh 58 = .ok (.iload 5, 2) := by decide +kernel
theorem dX12_fresh_60 : decode cX12_fresh 60 = .ok (.iload_n 1, 1) := by decide +kernel
theorem dX12_fresh_62 : decode cX12_fresh 62 = .ok (.aload_n 0, 1) := by decide +kernel
theorem dX12_fresh_66 : decode cX12_fresh 66 = .ok (.iload 5, 2) := by decide +kernel
theorem dX12_fresh_68 : decode cX12_fresh 68 = .ok (.iload_n 2, 1) := by decide +kernel
theorem dX12_fresh_70 : decode cX12_fresh 70 = .ok (.aload_n 0, 1) := by decide +kernel
theorem dX12_fresh_74 : decode cX12_fresh 74 = .ok (.iload 5, 2) := by decide +kernel
theorem dX12_fresh_76 : decode cX12_fresh 76 = .ok (.iload 4, 2) := by decide +kernel
theorem dX12_fresh_79 : decode cX12_fresh 79 = .ok (.aload_n 0, 1) := by decide +kernel
theorem dX12_fresh_83 : decode cX12_fresh 83 = .ok (.iload 4, 2) := by decide +kernel
theorem dX12_fresh_85 : decode cX12_fresh 85 = .ok (.iload 5, 2) := by decide +kernel
theorem dX12_fresh_87 : decode cX12_fresh 87 = .ok (.iastore, 1) := by decide +kernel
theorem dX12_fresh_80 : decode cX12_fresh 80 = .ok (.getfield 65, 3) := by decide +kernel
theorem dX12_fresh_78 : decode cX12_fresh 78 = .ok (.iastore, 1) := by decide +kernel
theorem dX12_fresh_71 : decode cX12_fresh 71 = .ok (.getfield 40, 3) := by decide +kernel
theorem dX12_fresh_69 : decode cX12_fresh 69 = .ok (.iastore, 1) := by decide +kernel
theorem dX12_fresh_63 : decode cX12_fresh 63 = .ok (.getfield 37, 3) := by decide +kernel
theorem dX12_fresh_61 : decode cX12_fresh 61 = .ok (.iastore, 1) := by decide +kernel
theorem dX12_fresh_55 : decode cX12_fresh 55 = .ok (.getfield 34, 3) := by decide +kernel
theorem dX12_fresh_53 : decode cX12_fresh 53 = .ok (.iastore, 1) := by decide +kernel
theorem dX12_fresh_50 : decode cX12_fresh 50 = .ok (.getfield 246, 3) := by decide +kernel
theorem dX12_fresh_44 : decode cX12_fresh 44 = .ok (.getfield 31, 3) := by decide +kernel
theorem dX12_fresh_42 : decode cX12_fresh 42 = .ok (.bastore, 1) := by decide +kernel
theorem dX12_fresh_36 : decode cX12_fresh 36 = .ok (.getfield 27, 3) := by decide +kernel
theorem dX12_fresh_29 : decode cX12_fresh 29 = .ok (.iinc 5 1, 3) := by decide +kernel
theorem dX12_fresh_32 : decode cX12_fresh 32 = .ok (.goto (-13), 3) := by decide +kernel
theorem dX12_fresh_26 : decode cX12_fresh 26 = .ok (.ifCond .eq 9, 3) := by decide +kernel
theorem dX12_fresh_25 : decode cX12_fresh 25 = .ok (.baload, 1) := by decide +kernel
theorem dX12_fresh_20 : decode cX12_fresh 20 = .ok (.getfield 27, 3) := by decide +kernel
theorem dX12_fresh_88 : decode cX12_fresh 88 = .ok (.aload_n 0, 1) := by decide +kernel
theorem dX12_fresh_92 : decode cX12_fresh 92 = .ok (.iload 5, 2) := by decide +kernel
theorem dX12_fresh_94 : decode cX12_fresh 94 = .ok (.iconst 0, 1) := by decide +kernel
theorem dX12_fresh_96 : decode cX12_fresh 96 = .ok (.aload_n 0, 1) := by decide +kernel
theorem dX12_fresh_100 : decode cX12_fresh 100 = .ok (.iload 5, 2) := by decide +kernel
theorem dX12_fresh_102 : decode cX12_fresh 102 = .ok (.iconst 0, 1) := by decide +kernel
theorem dX12_fresh_104 : decode cX12_fresh 104 = .ok (.aload_n 0, 1) := by decide +kernel
theorem dX12_fresh_108 : decode cX12_fresh 108 = .ok (.iload 5, 2) := by decide +kernel
theorem dX12_fresh_110 : decode cX12_fresh 110 = .ok (.aload_n 0, 1) := by decide +kernel
theorem dX12_fresh_121 : decode cX12_fresh 121 = .ok (.iconst 0, 1) := by decide +kernel
theorem dX12_fresh_122 : decode cX12_fresh 122 = .ok (.iastore, 1) := by decide +kernel
theorem dX12_fresh_117 : decode cX12_fresh 117 = .ok (.iconst 2, 1) := by decide +kernel
theorem dX12_fresh_118 : decode cX12_fresh 118 = .ok (.goto 4, 3) := by decide +kernel
theorem dX12_fresh_114 : decode cX12_fresh 114 = .ok (.ifCond .eq 7, 3) := by decide +kernel
theorem dX12_fresh_111 : decode cX12_fresh 111 = .ok (.getfield 270, 3) := by decide +kernel
theorem dX12_fresh_105 : decode cX12_fresh 105 = .ok (.getfield 49, 3) := by decide +kernel
theorem dX12_fresh_103 : decode cX12_fresh 103 = .ok (.iastore, 1) := by decide +kernel
theorem dX12_fresh_97 : decode cX12_fresh 97 = .ok (.getfield 46, 3) := by decide +kernel
theorem dX12_fresh_95 : decode cX12_fresh 95 = .ok (.iastore, 1) := by decide +kernel
theorem dX12_fresh_89 : decode cX12_fresh 89 = .ok (.getfield 43, 3) := by decide +kernel
theorem dX12_fresh_123 : decode cX12_fresh 123 = .ok (.aload_n 0, 1) := by decide +kernel
theorem dX12_fresh_127 : decode cX12_fresh 127 = .ok (.iload 5, 2) := by decide +kernel
theorem dX12_fresh_129 : decode cX12_fresh 129 = .ok (.iconst 0, 1) := by decide +kernel
theorem dX12_fresh_131 : decode cX12_fresh 131 = .ok (.aload_n 0, 1) := by decide +kernel
theorem dX12_fresh_135 : decode cX12_fresh 135 = .ok (.iload 5, 2) := by decide +kernel
theorem dX12_fresh_137 : decode cX12_fresh 137 = .ok (.iconst 0, 1) := by decide +kernel
theorem dX12_fresh_139 : decode cX12_fresh 139 = .ok (.iconst 0, 1) := by decide +kernel
theorem dX12_fresh_140 : decode cX12_fresh 140 = .ok (.istore 6, 2) := by decide +kernel
theorem dX12_fresh_138 : decode cX12_fresh 138 = .ok (.bastore, 1) := by decide +kernel
theorem dX12_fresh_132 : decode cX12_fresh 132 = .ok (.getfield 59, 3) := by decide +kernel
theorem dX12_fresh_130 : decode cX12_fresh 130 = .ok (.iastore, 1) := by decide +kernel
theorem dX12_fresh_124 : decode cX12_fresh 124 = .ok (.getfield 52, 3) := by decide +kernel
theorem dX12_fresh_142 : decode cX12_fresh 142 = .ok (.iload 6, 2) := by decide +kernel
theorem dX12_fresh_144 : decode cX12_fresh 144 = .ok (.iload_n 2, 1) := by decide +kernel
theorem dX12_fresh_183 : decode cX12_fresh 183 = .ok (.aload_n 0, 1) := by decide +kernel
theorem dX12_fresh_184 : decode cX12_fresh 184 = .ok (.dup, 1) := by decide +kernel
theorem dX12_fresh_188 : decode cX12_fresh 188 = .ok (.iconst 1, 1) := by decide +kernel
theorem dX12_fresh_189 : decode cX12_fresh 189 = .ok (.iadd, 1) := by decide +kernel
theorem dX12_fresh_193 : decode cX12_fresh 193 = .ok (.aload_n 0, 1) := by decide +kernel
theorem dX12_fresh_194 : decode cX12_fresh 194 = .ok (.dup, 1) := by decide +kernel
theorem dX12_fresh_198 : decode cX12_fresh 198 = .ok (.iconst 1, 1) := by decide +kernel
theorem dX12_fresh_199 : decode cX12_fresh 199 = .ok (.iadd, 1) := by decide +kernel
theorem dX12_fresh_203 : decode cX12_fresh 203 = .ok (.aload_n 0, 1) := by decide +kernel
theorem dX12_fresh_204 : decode cX12_fresh 204 = .ok (.dup, 1) := by decide +kernel
theorem dX12_fresh_208 : decode cX12_fresh 208 = .ok (.iload_n 2, 1) := by decide +kernel
theorem dX12_fresh_209 : decode cX12_fresh 209 = .ok (.iconst 1, 1) := by decide +kernel
theorem dX12_fresh_210 : decode cX12_fresh 210 = .ok (.iadd, 1) := by decide +kernel
theorem dX12_fresh_211 : decode cX12_fresh 211 = .ok (.iadd, 1) := by decide +kernel
theorem dX12_fresh_215 : decode cX12_fresh 215 = .ok (.aload_n 0, 1) := by decide +kernel
theorem dX12_fresh_216 : decode cX12_fresh 216 = .ok (.iload 4, 2) := by decide +kernel
theorem dX12_fresh_218 : decode cX12_fresh 218 = .ok (.iload_n 2, 1) := by decide +kernel
theorem dX12_fresh_219 : decode cX12_fresh 219 = .ok (.iadd, 1) := by decide +kernel
theorem dX12_fresh_220 : decode cX12_fresh 220 = .ok (.iconst 1, 1) := by decide +kernel
theorem dX12_fresh_221 : decode cX12_fresh 221 = .ok (.iadd, 1) := by decide +kernel
theorem dX12_fresh_225 : decode cX12_fresh 225 = .ok (.aload_n 0, 1) := by decide +kernel
theorem dX12_fresh_226 : decode cX12_fresh 226 = .ok (.iload_n 3, 1) := by decide +kernel
theorem dX12_fresh_227 : decode cX12_fresh 227 = .ok (.iload 5, 2) := by decide +kernel
theorem dX12_fresh_229 : decode cX12_fresh 229 = .ok (.invokevirtual 481, 3) := by decide +kernel
theorem dX12_fresh_232 : decode cX12_fresh 232 = .ok (.aload_n 0, 1) := by decide +kernel
theorem dX12_fresh_236 : decode cX12_fresh 236 = .ok (.iload 5, 2) := by decide +kernel
theorem dX12_fresh_239 : decode cX12_fresh 239 = .ok (.ireturn, 1) := by decide +kernel
theorem dX12_fresh_238 : decode cX12_fresh 238 = .ok (.iaload, 1) := by decide +kernel
theorem dX12_fresh_233 : decode cX12_fresh 233 = .ok (.getfield 31, 3) := by decide +kernel
theorem dX12_fresh_222 : decode cX12_fresh 222 = .ok (.putfield 282, 3) := by decide +kernel
theorem dX12_fresh_212 : decode cX12_fresh 212 = .ok (.putfield 243, 3) := by decide +kernel
theorem dX12_fresh_205 : decode cX12_fresh 205 = .ok (.getfield 243, 3) := by decide +kernel
theorem dX12_fresh_200 : decode cX12_fresh 200 = .ok (.putfield 240, 3) := by decide +kernel
theorem dX12_fresh_195 : decode cX12_fresh 195 = .ok (.getfield 240, 3) := by decide +kernel
theorem dX12_fresh_190 : decode cX12_fresh 190 = .ok (.putfield 246, 3) := by decide +kernel
theorem dX12_fresh_185 : decode cX12_fresh 185 = .ok (.getfield 246, 3) := by decide +kernel
theorem dX12_fresh_148 : decode cX12_fresh 148 = .ok (.aload_n 0, 1) := by decide +kernel
theorem dX12_fresh_152 : decode cX12_fresh 152 = .ok (.iload 5, 2) := by decide +kernel
theorem dX12_fresh_154 : decode cX12_fresh 154 = .ok (.bipush 60, 2) := by decide +kernel
theorem dX12_fresh_156 : decode cX12_fresh 156 = .ok (.imul, 1) := by decide +kernel
theorem dX12_fresh_157 : decode cX12_fresh 157 = .ok (.iload 6, 2) := by decide +kernel
theorem dX12_fresh_159 : decode cX12_fresh 159 = .ok (.iadd, 1) := by decide +kernel
theorem dX12_fresh_160 : decode cX12_fresh 160 = .ok (.aload_n 0, 1) := by decide +kernel
theorem dX12_fresh_161 : decode cX12_fresh 161 = .ok (.iload 5, 2) := by decide +kernel
theorem dX12_fresh_163 : decode cX12_fresh 163 = .ok (.iload 6, 2) := by decide +kernel
theorem dX12_fresh_165 : decode cX12_fresh 165 = .ok (.invokevirtual 288, 3) := by decide +kernel
theorem dX12_fresh_168 : decode cX12_fresh 168 = .ok (.ifCond .eq 7, 3) := by decide +kernel
theorem dX12_fresh_171 : decode cX12_fresh 171 = .ok (.iconst (-1), 1) := by decide +kernel
theorem dX12_fresh_172 : decode cX12_fresh 172 = .ok (.goto 4, 3) := by decide +kernel
theorem dX12_fresh_177 : decode cX12_fresh 177 = .ok (.iinc 6 1, 3) := by decide +kernel
theorem dX12_fresh_180 : decode cX12_fresh 180 = .ok (.goto (-38), 3) := by decide +kernel
theorem dX12_fresh_176 : decode cX12_fresh 176 = .ok (.iastore, 1) := by decide +kernel
theorem dX12_fresh_175 : decode cX12_fresh 175 = .ok (.iconst 0, 1) := by decide +kernel
theorem dX12_fresh_149 : decode cX12_fresh 149 = .ok (.getfield 56, 3) := by decide +kernel
theorem dX12_fresh_145 : decode cX12_fresh 145 = .ok (.if_icmp .ge 38, 3) := by decide +kernel
def wr_183 (c k : Nat) : Bool := Nat.beq c 99 || Nat.beq c 100 || Nat.beq c 101 || Nat.beq c 102 || Nat.beq c 103 || Nat.beq c 104 || Nat.beq c 105 || Nat.beq c 106 || Nat.beq c 107 || Nat.beq c 108 || Nat.beq c 109 || Nat.beq c 110 || Nat.beq c 111 || Nat.beq c 112 || Nat.beq c 113 || Nat.beq c 114 || Nat.beq c 115 || Nat.beq c 116 || Nat.beq c 117 || Nat.beq c 118 || Nat.beq c 119 || Nat.beq c 120 || Nat.beq c 121 || Nat.beq c 122 || Nat.beq c 123 || Nat.beq c 124 || (Nat.beq c 94 && (Nat.beq k 44 || Nat.beq k 45 || Nat.beq k 46 || Nat.beq k 47 || Nat.beq k 48 || Nat.beq k 49 || Nat.beq k 50 || Nat.beq k 55 || Nat.beq k 56 || Nat.beq k 57 || Nat.beq k 58 || Nat.beq k 59 || Nat.beq k 60 || Nat.beq k 61 || Nat.beq k 62 || Nat.beq k 63 || Nat.beq k 73 || Nat.beq k 75 || Nat.beq k 76 || Nat.beq k 77 || Nat.beq k 80 || Nat.beq k 84))
theorem ws_184_183 : ∀ c k, wr_184 c k = true → wr_183 c k = true := by
  intro c k h
  simp only [wr_184, wr_183, Bool.or_eq_true, Bool.and_eq_true, Nat.beq_eq] at h ⊢
  omega
theorem ws_238_183 : ∀ c k, wr_238 c k = true → wr_183 c k = true := by
  intro c k h
  simp only [wr_238, wr_183, Bool.or_eq_true, Bool.and_eq_true, Nat.beq_eq] at h ⊢
  omega
theorem g_183_0 {X : Nat × (Nat → Int32)} {m : Nat → Nat → Int32} {P : Option ma_V → (Nat → Nat → Int32) → Prop} (kk : Int32) (nn : Int32) (r1 : Int32) (h : zm X 8 175 184 0 [(0, .inr (.inr (some 94))), (1, .inl (nn + (1 : Int32)))] m (zmi (fun v2 m1 => if 0 ≤ v2 then (zm X 9 198 183 19 [(0, .inr (.inr (some 94))), (1, .inl kk), (2, .inl nn), (3, .inl r1), (4, .inl v2), (5, .inl (0 : Int32))] m1 P) else (P (some (.inl (-1 : Int32))) m1)))) : zm X 9 198 183 0 [(0, .inr (.inr (some 94))), (1, .inl kk), (2, .inl nn), (3, .inl r1)] m P := by
  intro d w S Q hd hw hS hm HQ
  subst hm
  refine zw_push hm_183 dX12_fresh_0 (v := .inr (.inr (some 94))) rfl ?_
  refine zw_push hm_183 dX12_fresh_1 (v := .inl nn) rfl ?_
  refine zw_push hm_183 dX12_fresh_2 (v := .inl (1 : Int32)) rfl ?_
  refine zw_stk hm_183 dX12_fresh_3 (st₉ := [.inl (nn + (1 : Int32)), .inr (.inr (some 94))]) rfl rfl ?_
  refine zw_cv hm_183 dX12_fresh_4 v_12_478_12 hm_184 [.inl (nn + (1 : Int32))] [] rfl (zT_rt hS s_94 rfl) ⟨by omega, by omega⟩ rfl (h _ _ S _ (by omega) (by omega) hS rfl (fun o9 m1 hv => ?_))
  obtain ⟨v2, rfl, h⟩ := zmi_of hv
  show ma_wp X d w 183 7 [(0, .inr (.inr (some 94))), (1, .inl kk), (2, .inl nn), (3, .inl r1)] [.inl v2] (zst S m1) _
  refine zw_sto hm_183 dX12_fresh_7 [(4, .inl v2), (0, .inr (.inr (some 94))), (1, .inl kk), (2, .inl nn), (3, .inl r1)] rfl rfl rfl ?_
  refine zw_push hm_183 dX12_fresh_9 (v := .inl v2) rfl ?_
  refine zw_if0 hm_183 dX12_fresh_11 (t := 16) rfl zc0_ge ?_ ?_
  · intro hc
    rw [if_pos hc] at h
    refine zw_push hm_183 dX12_fresh_16 (v := .inl (0 : Int32)) rfl ?_
    refine zw_sto hm_183 dX12_fresh_17 [(5, .inl (0 : Int32)), (4, .inl v2), (0, .inr (.inr (some 94))), (1, .inl kk), (2, .inl nn), (3, .inl r1)] rfl rfl rfl ?_
    exact zw_sub (ma_nd_of (ks := [0, 1, 2, 3, 4, 5]) rfl (by decide)) (ma_nd_of (ks := [5, 4, 0, 1, 2, 3]) rfl (by decide)) (ma_le_cons rfl (ma_le_cons rfl (ma_le_cons rfl (ma_le_cons rfl (ma_le_cons rfl (ma_le_cons rfl (ma_le_nil _))))))) (h d w _ Q (by omega) (by omega) (zT_zst hS m1) rfl HQ)
  · intro hc
    rw [if_neg hc] at h
    refine zw_push hm_183 dX12_fresh_14 (v := .inl (-1 : Int32)) rfl ?_
    exact zw_iret hm_183 dX12_fresh_15 (HQ _ _ h)
theorem g_183_19 {X : Nat × (Nat → Int32)} {m : Nat → Nat → Int32} {P : Option ma_V → (Nat → Nat → Int32) → Prop} (l1 : Int32) (l2 : Int32) (l3 : Int32) (l4 : Int32) (l5 : Int32) (h : (0 ≤ l5 ∧ l5.toNatClampNeg < 3100) ∧ (if (m 99 l5.toNatClampNeg) = 0 then ((0 ≤ l5 ∧ l5.toNatClampNeg < 3100) ∧ ((0 ≤ l5 ∧ l5.toNatClampNeg < 3100) ∧ ((0 ≤ l5 ∧ l5.toNatClampNeg < 3100) ∧ ((0 ≤ l5 ∧ l5.toNatClampNeg < 3100) ∧ ((0 ≤ l5 ∧ l5.toNatClampNeg < 3100) ∧ ((0 ≤ l4 ∧ l4.toNatClampNeg < 4600) ∧ (zm X 9 198 183 88 [(0, .inr (.inr (some 94))), (2, .inl l2), (3, .inl l3), (4, .inl l4), (5, .inl l5)] (ma_u (ma_u (ma_u (ma_u (ma_u (ma_u m 99 l5.toNatClampNeg (1 : Int32)) 100 l5.toNatClampNeg (m 94 46)) 101 l5.toNatClampNeg l1) 102 l5.toNatClampNeg l2) 103 l5.toNatClampNeg l4) 111 l4.toNatClampNeg l5) P))))))) else (zm X 9 198 183 19 [(0, .inr (.inr (some 94))), (1, .inl l1), (2, .inl l2), (3, .inl l3), (4, .inl l4), (5, .inl (l5 + (1 : Int32)))] m P))) : zm X 9 198 183 19 [(0, .inr (.inr (some 94))), (1, .inl l1), (2, .inl l2), (3, .inl l3), (4, .inl l4), (5, .inl l5)] m P := by
  intro d w S Q hd hw hS hm HQ
  subst hm
  refine zw_push hm_183 dX12_fresh_19 (v := .inr (.inr (some 94))) rfl ?_
  refine zw_gf hm_183 dX12_fresh_20 (v := .inr (.inr (some 99))) (zT_is hS s_94) (zT_t hS s_94) rfl f_12_27_12 (zT_f hS r_94_31) ?_
  refine zw_push hm_183 dX12_fresh_23 (v := .inl l5) rfl ?_
  obtain ⟨hg, h⟩ := h
  refine zw_ba hm_183 dX12_fresh_25 (zT_is hS s_99) (zT_h hS s_99) rfl rfl hg ?_
  show ma_wp X d w 183 26 [(0, .inr (.inr (some 94))), (1, .inl l1), (2, .inl l2), (3, .inl l3), (4, .inl l4), (5, .inl l5)] [.inl ((mI S) 99 l5.toNatClampNeg)] S _
  refine zw_if0 hm_183 dX12_fresh_26 (t := 35) rfl zc0_eq ?_ ?_
  · intro hc
    rw [if_pos hc] at h
    refine zw_push hm_183 dX12_fresh_35 (v := .inr (.inr (some 94))) rfl ?_
    refine zw_gf hm_183 dX12_fresh_36 (v := .inr (.inr (some 99))) (zT_is hS s_94) (zT_t hS s_94) rfl f_12_27_12 (zT_f hS r_94_31) ?_
    refine zw_push hm_183 dX12_fresh_39 (v := .inl l5) rfl ?_
    refine zw_push hm_183 dX12_fresh_41 (v := .inl (1 : Int32)) rfl ?_
    obtain ⟨hg, h⟩ := h
    refine zw_bas22l hm_183 dX12_fresh_42 (hx := by decide) (yv := (1 : Int32)) (zT_is hS s_99) (zT_h hS s_99) rfl hg ?_
    refine zw_push hm_183 dX12_fresh_43 (v := .inr (.inr (some 94))) rfl ?_
    refine zw_gf hm_183 dX12_fresh_44 (v := .inr (.inr (some 100))) (zT_is (zT_pi hS) s_94) (zT_t (zT_pi hS) s_94) rfl f_12_31_12 (zT_f (zT_pi hS) r_94_32) ?_
    refine zw_push hm_183 dX12_fresh_47 (v := .inl l5) rfl ?_
    refine zw_push hm_183 dX12_fresh_49 (v := .inr (.inr (some 94))) rfl ?_
    refine zw_gf hm_183 dX12_fresh_50 (v := .inl ((mI S) 94 46)) (zT_is (zT_pi hS) s_94) (zT_t (zT_pi hS) s_94) rfl f_12_246_12 rfl ?_
    obtain ⟨hg, h⟩ := h
    refine zw_ias hm_183 dX12_fresh_53 (zT_is (zT_pi hS) s_100) (zT_h (zT_pi hS) s_100) rfl hg ?_
    refine zw_push hm_183 dX12_fresh_54 (v := .inr (.inr (some 94))) rfl ?_
    refine zw_gf hm_183 dX12_fresh_55 (v := .inr (.inr (some 101))) (zT_is (zT_pi (zT_pi hS)) s_94) (zT_t (zT_pi (zT_pi hS)) s_94) rfl f_12_34_12 (zT_f (zT_pi (zT_pi hS)) r_94_33) ?_
    refine zw_push hm_183 dX12_fresh_58 (v := .inl l5) rfl ?_
    refine zw_push hm_183 dX12_fresh_60 (v := .inl l1) rfl ?_
    obtain ⟨hg, h⟩ := h
    refine zw_ias hm_183 dX12_fresh_61 (zT_is (zT_pi (zT_pi hS)) s_101) (zT_h (zT_pi (zT_pi hS)) s_101) rfl hg ?_
    refine zw_push hm_183 dX12_fresh_62 (v := .inr (.inr (some 94))) rfl ?_
    refine zw_gf hm_183 dX12_fresh_63 (v := .inr (.inr (some 102))) (zT_is (zT_pi (zT_pi (zT_pi hS))) s_94) (zT_t (zT_pi (zT_pi (zT_pi hS))) s_94) rfl f_12_37_12 (zT_f (zT_pi (zT_pi (zT_pi hS))) r_94_34) ?_
    refine zw_push hm_183 dX12_fresh_66 (v := .inl l5) rfl ?_
    refine zw_push hm_183 dX12_fresh_68 (v := .inl l2) rfl ?_
    obtain ⟨hg, h⟩ := h
    refine zw_ias hm_183 dX12_fresh_69 (zT_is (zT_pi (zT_pi (zT_pi hS))) s_102) (zT_h (zT_pi (zT_pi (zT_pi hS))) s_102) rfl hg ?_
    refine zw_push hm_183 dX12_fresh_70 (v := .inr (.inr (some 94))) rfl ?_
    refine zw_gf hm_183 dX12_fresh_71 (v := .inr (.inr (some 103))) (zT_is (zT_pi (zT_pi (zT_pi (zT_pi hS)))) s_94) (zT_t (zT_pi (zT_pi (zT_pi (zT_pi hS)))) s_94) rfl f_12_40_12 (zT_f (zT_pi (zT_pi (zT_pi (zT_pi hS)))) r_94_35) ?_
    refine zw_push hm_183 dX12_fresh_74 (v := .inl l5) rfl ?_
    refine zw_push hm_183 dX12_fresh_76 (v := .inl l4) rfl ?_
    obtain ⟨hg, h⟩ := h
    refine zw_ias hm_183 dX12_fresh_78 (zT_is (zT_pi (zT_pi (zT_pi (zT_pi hS)))) s_103) (zT_h (zT_pi (zT_pi (zT_pi (zT_pi hS)))) s_103) rfl hg ?_
    refine zw_push hm_183 dX12_fresh_79 (v := .inr (.inr (some 94))) rfl ?_
    refine zw_gf hm_183 dX12_fresh_80 (v := .inr (.inr (some 111))) (zT_is (zT_pi (zT_pi (zT_pi (zT_pi (zT_pi hS))))) s_94) (zT_t (zT_pi (zT_pi (zT_pi (zT_pi (zT_pi hS))))) s_94) rfl f_12_65_12 (zT_f (zT_pi (zT_pi (zT_pi (zT_pi (zT_pi hS))))) r_94_43) ?_
    refine zw_push hm_183 dX12_fresh_83 (v := .inl l4) rfl ?_
    refine zw_push hm_183 dX12_fresh_85 (v := .inl l5) rfl ?_
    obtain ⟨hg, h⟩ := h
    refine zw_ias hm_183 dX12_fresh_87 (zT_is (zT_pi (zT_pi (zT_pi (zT_pi (zT_pi hS))))) s_111) (zT_h (zT_pi (zT_pi (zT_pi (zT_pi (zT_pi hS))))) s_111) rfl hg ?_
    exact zw_sub (ma_nd_of (ks := [0, 2, 3, 4, 5]) rfl (by decide)) (ma_nd_of (ks := [0, 1, 2, 3, 4, 5]) rfl (by decide)) (ma_le_cons rfl (ma_le_cons rfl (ma_le_cons rfl (ma_le_cons rfl (ma_le_cons rfl (ma_le_nil _)))))) (h d w _ Q (by omega) (by omega) (zT_pi (zT_pi (zT_pi (zT_pi (zT_pi (zT_pi hS)))))) rfl HQ)
  · intro hc
    rw [if_neg hc] at h
    refine zw_sto hm_183 dX12_fresh_29 [(5, .inl (l5 + (1 : Int32))), (0, .inr (.inr (some 94))), (1, .inl l1), (2, .inl l2), (3, .inl l3), (4, .inl l4)] rfl rfl rfl ?_
    refine zw_goto hm_183 dX12_fresh_32 (t := 19) rfl ?_
    exact zw_sub (ma_nd_of (ks := [0, 1, 2, 3, 4, 5]) rfl (by decide)) (ma_nd_of (ks := [5, 0, 1, 2, 3, 4]) rfl (by decide)) (ma_le_cons rfl (ma_le_cons rfl (ma_le_cons rfl (ma_le_cons rfl (ma_le_cons rfl (ma_le_cons rfl (ma_le_nil _))))))) (h d w _ Q (by omega) (by omega) hS rfl HQ)
theorem g_183_88 {X : Nat × (Nat → Int32)} {m : Nat → Nat → Int32} {P : Option ma_V → (Nat → Nat → Int32) → Prop} (l2 : Int32) (l3 : Int32) (l4 : Int32) (l5 : Int32) (h : (0 ≤ l5 ∧ l5.toNatClampNeg < 3100) ∧ ((0 ≤ l5 ∧ l5.toNatClampNeg < 3100) ∧ (if (m 94 58) = 0 then ((0 ≤ l5 ∧ l5.toNatClampNeg < 3100) ∧ (zm X 9 198 183 123 [(0, .inr (.inr (some 94))), (2, .inl l2), (3, .inl l3), (4, .inl l4), (5, .inl l5)] (ma_u (ma_u (ma_u m 104 l5.toNatClampNeg (0 : Int32)) 105 l5.toNatClampNeg (0 : Int32)) 106 l5.toNatClampNeg (0 : Int32)) P)) else ((0 ≤ l5 ∧ l5.toNatClampNeg < 3100) ∧ (zm X 9 198 183 123 [(0, .inr (.inr (some 94))), (2, .inl l2), (3, .inl l3), (4, .inl l4), (5, .inl l5)] (ma_u (ma_u (ma_u m 104 l5.toNatClampNeg (0 : Int32)) 105 l5.toNatClampNeg (0 : Int32)) 106 l5.toNatClampNeg (2 : Int32)) P))))) : zm X 9 198 183 88 [(0, .inr (.inr (some 94))), (2, .inl l2), (3, .inl l3), (4, .inl l4), (5, .inl l5)] m P := by
  intro d w S Q hd hw hS hm HQ
  subst hm
  refine zw_push hm_183 dX12_fresh_88 (v := .inr (.inr (some 94))) rfl ?_
  refine zw_gf hm_183 dX12_fresh_89 (v := .inr (.inr (some 104))) (zT_is hS s_94) (zT_t hS s_94) rfl f_12_43_12 (zT_f hS r_94_36) ?_
  refine zw_push hm_183 dX12_fresh_92 (v := .inl l5) rfl ?_
  refine zw_push hm_183 dX12_fresh_94 (v := .inl (0 : Int32)) rfl ?_
  obtain ⟨hg, h⟩ := h
  refine zw_ias hm_183 dX12_fresh_95 (zT_is hS s_104) (zT_h hS s_104) rfl hg ?_
  refine zw_push hm_183 dX12_fresh_96 (v := .inr (.inr (some 94))) rfl ?_
  refine zw_gf hm_183 dX12_fresh_97 (v := .inr (.inr (some 105))) (zT_is (zT_pi hS) s_94) (zT_t (zT_pi hS) s_94) rfl f_12_46_12 (zT_f (zT_pi hS) r_94_37) ?_
  refine zw_push hm_183 dX12_fresh_100 (v := .inl l5) rfl ?_
  refine zw_push hm_183 dX12_fresh_102 (v := .inl (0 : Int32)) rfl ?_
  obtain ⟨hg, h⟩ := h
  refine zw_ias hm_183 dX12_fresh_103 (zT_is (zT_pi hS) s_105) (zT_h (zT_pi hS) s_105) rfl hg ?_
  refine zw_push hm_183 dX12_fresh_104 (v := .inr (.inr (some 94))) rfl ?_
  refine zw_gf hm_183 dX12_fresh_105 (v := .inr (.inr (some 106))) (zT_is (zT_pi (zT_pi hS)) s_94) (zT_t (zT_pi (zT_pi hS)) s_94) rfl f_12_49_12 (zT_f (zT_pi (zT_pi hS)) r_94_38) ?_
  refine zw_push hm_183 dX12_fresh_108 (v := .inl l5) rfl ?_
  refine zw_push hm_183 dX12_fresh_110 (v := .inr (.inr (some 94))) rfl ?_
  refine zw_gf hm_183 dX12_fresh_111 (v := .inl ((mI S) 94 58)) (zT_is (zT_pi (zT_pi hS)) s_94) (zT_t (zT_pi (zT_pi hS)) s_94) rfl f_12_270_12 rfl ?_
  refine zw_if0 hm_183 dX12_fresh_114 (t := 121) rfl zc0_eq ?_ ?_
  · intro hc
    rw [if_pos hc] at h
    refine zw_push hm_183 dX12_fresh_121 (v := .inl (0 : Int32)) rfl ?_
    obtain ⟨hg, h⟩ := h
    refine zw_ias hm_183 dX12_fresh_122 (zT_is (zT_pi (zT_pi hS)) s_106) (zT_h (zT_pi (zT_pi hS)) s_106) rfl hg ?_
    exact (h d w _ Q (by omega) (by omega) (zT_pi (zT_pi (zT_pi hS))) rfl HQ)
  · intro hc
    rw [if_neg hc] at h
    refine zw_push hm_183 dX12_fresh_117 (v := .inl (2 : Int32)) rfl ?_
    refine zw_goto hm_183 dX12_fresh_118 (t := 122) rfl ?_
    obtain ⟨hg, h⟩ := h
    refine zw_ias hm_183 dX12_fresh_122 (zT_is (zT_pi (zT_pi hS)) s_106) (zT_h (zT_pi (zT_pi hS)) s_106) rfl hg ?_
    exact (h d w _ Q (by omega) (by omega) (zT_pi (zT_pi (zT_pi hS))) rfl HQ)
theorem g_183_123 {X : Nat × (Nat → Int32)} {m : Nat → Nat → Int32} {P : Option ma_V → (Nat → Nat → Int32) → Prop} (l2 : Int32) (l3 : Int32) (l4 : Int32) (l5 : Int32) (h : (0 ≤ l5 ∧ l5.toNatClampNeg < 3100) ∧ ((0 ≤ l5 ∧ l5.toNatClampNeg < 3100) ∧ (zm X 9 198 183 142 [(0, .inr (.inr (some 94))), (2, .inl l2), (3, .inl l3), (4, .inl l4), (5, .inl l5), (6, .inl (0 : Int32))] (ma_u (ma_u m 107 l5.toNatClampNeg (0 : Int32)) 109 l5.toNatClampNeg (0 : Int32)) P))) : zm X 9 198 183 123 [(0, .inr (.inr (some 94))), (2, .inl l2), (3, .inl l3), (4, .inl l4), (5, .inl l5)] m P := by
  intro d w S Q hd hw hS hm HQ
  subst hm
  refine zw_push hm_183 dX12_fresh_123 (v := .inr (.inr (some 94))) rfl ?_
  refine zw_gf hm_183 dX12_fresh_124 (v := .inr (.inr (some 107))) (zT_is hS s_94) (zT_t hS s_94) rfl f_12_52_12 (zT_f hS r_94_39) ?_
  refine zw_push hm_183 dX12_fresh_127 (v := .inl l5) rfl ?_
  refine zw_push hm_183 dX12_fresh_129 (v := .inl (0 : Int32)) rfl ?_
  obtain ⟨hg, h⟩ := h
  refine zw_ias hm_183 dX12_fresh_130 (zT_is hS s_107) (zT_h hS s_107) rfl hg ?_
  refine zw_push hm_183 dX12_fresh_131 (v := .inr (.inr (some 94))) rfl ?_
  refine zw_gf hm_183 dX12_fresh_132 (v := .inr (.inr (some 109))) (zT_is (zT_pi hS) s_94) (zT_t (zT_pi hS) s_94) rfl f_12_59_12 (zT_f (zT_pi hS) r_94_41) ?_
  refine zw_push hm_183 dX12_fresh_135 (v := .inl l5) rfl ?_
  refine zw_push hm_183 dX12_fresh_137 (v := .inl (0 : Int32)) rfl ?_
  obtain ⟨hg, h⟩ := h
  refine zw_bas22l hm_183 dX12_fresh_138 (hx := by decide) (yv := (0 : Int32)) (zT_is (zT_pi hS) s_109) (zT_h (zT_pi hS) s_109) rfl hg ?_
  refine zw_push hm_183 dX12_fresh_139 (v := .inl (0 : Int32)) rfl ?_
  refine zw_sto hm_183 dX12_fresh_140 [(6, .inl (0 : Int32)), (0, .inr (.inr (some 94))), (2, .inl l2), (3, .inl l3), (4, .inl l4), (5, .inl l5)] rfl rfl rfl ?_
  exact zw_sub (ma_nd_of (ks := [0, 2, 3, 4, 5, 6]) rfl (by decide)) (ma_nd_of (ks := [6, 0, 2, 3, 4, 5]) rfl (by decide)) (ma_le_cons rfl (ma_le_cons rfl (ma_le_cons rfl (ma_le_cons rfl (ma_le_cons rfl (ma_le_cons rfl (ma_le_nil _))))))) (h d w _ Q (by omega) (by omega) (zT_pi (zT_pi hS)) rfl HQ)
theorem g_183_142 {X : Nat × (Nat → Int32)} {m : Nat → Nat → Int32} {P : Option ma_V → (Nat → Nat → Int32) → Prop} (l2 : Int32) (l3 : Int32) (l4 : Int32) (l5 : Int32) (l6 : Int32) (h : if l2 ≤ l6 then (zm X 4 88 238 0 [(0, .inr (.inr (some 94))), (1, .inl l3), (2, .inl l5)] (ma_u (ma_u (ma_u (ma_u m 94 46 ((m 94 46) + (1 : Int32))) 94 44 ((m 94 44) + (1 : Int32))) 94 45 ((m 94 45) + (l2 + (1 : Int32)))) 94 62 ((l4 + l2) + (1 : Int32))) (zmv (fun m1 => (0 ≤ l5 ∧ l5.toNatClampNeg < 3100) ∧ (P (some (.inl (m1 100 l5.toNatClampNeg))) m1)))) else ((0 ≤ l5 ∧ l5.toNatClampNeg < 3100) ∧ (if (m 101 l5.toNatClampNeg) = (16 : Int32) then ((0 ≤ ((l5 * (60 : Int32)) + l6) ∧ ((l5 * (60 : Int32)) + l6).toNatClampNeg < 186000) ∧ (zm X 9 198 183 142 [(0, .inr (.inr (some 94))), (2, .inl l2), (3, .inl l3), (4, .inl l4), (5, .inl l5), (6, .inl (l6 + (1 : Int32)))] (ma_u m 108 ((l5 * (60 : Int32)) + l6).toNatClampNeg (-1 : Int32)) P)) else ((0 ≤ l5 ∧ l5.toNatClampNeg < 3100) ∧ (if (16 : Int32) ≤ (m 101 l5.toNatClampNeg) then ((0 ≤ ((l5 * (60 : Int32)) + l6) ∧ ((l5 * (60 : Int32)) + l6).toNatClampNeg < 186000) ∧ (zm X 9 198 183 142 [(0, .inr (.inr (some 94))), (2, .inl l2), (3, .inl l3), (4, .inl l4), (5, .inl l5), (6, .inl (l6 + (1 : Int32)))] (ma_u m 108 ((l5 * (60 : Int32)) + l6).toNatClampNeg (0 : Int32)) P)) else ((0 ≤ l5 ∧ l5.toNatClampNeg < 3100) ∧ ((0 ≤ (m 101 l5.toNatClampNeg) ∧ (m 101 l5.toNatClampNeg).toNatClampNeg < 16) ∧ (if (((m 98 (m 101 l5.toNatClampNeg).toNatClampNeg) >>> (l6 &&& 31)) &&& (1 : Int32)) = (1 : Int32) then ((0 ≤ ((l5 * (60 : Int32)) + l6) ∧ ((l5 * (60 : Int32)) + l6).toNatClampNeg < 186000) ∧ (zm X 9 198 183 142 [(0, .inr (.inr (some 94))), (2, .inl l2), (3, .inl l3), (4, .inl l4), (5, .inl l5), (6, .inl (l6 + (1 : Int32)))] (ma_u m 108 ((l5 * (60 : Int32)) + l6).toNatClampNeg (-1 : Int32)) P)) else ((0 ≤ ((l5 * (60 : Int32)) + l6) ∧ ((l5 * (60 : Int32)) + l6).toNatClampNeg < 186000) ∧ (zm X 9 198 183 142 [(0, .inr (.inr (some 94))), (2, .inl l2), (3, .inl l3), (4, .inl l4), (5, .inl l5), (6, .inl (l6 + (1 : Int32)))] (ma_u m 108 ((l5 * (60 : Int32)) + l6).toNatClampNeg (0 : Int32)) P)))))))))) : zm X 9 198 183 142 [(0, .inr (.inr (some 94))), (2, .inl l2), (3, .inl l3), (4, .inl l4), (5, .inl l5), (6, .inl l6)] m P := by
  intro d w S Q hd hw hS hm HQ
  subst hm
  refine zw_push hm_183 dX12_fresh_142 (v := .inl l6) rfl ?_
  refine zw_push hm_183 dX12_fresh_144 (v := .inl l2) rfl ?_
  refine zw_if2 hm_183 dX12_fresh_145 (t := 183) rfl zc2_ge ?_ ?_
  · intro hc
    rw [if_pos hc] at h
    refine zw_push hm_183 dX12_fresh_183 (v := .inr (.inr (some 94))) rfl ?_
    refine zw_stk hm_183 dX12_fresh_184 (st₉ := [.inr (.inr (some 94)), .inr (.inr (some 94))]) rfl rfl ?_
    refine zw_gf hm_183 dX12_fresh_185 (v := .inl ((mI S) 94 46)) (zT_is hS s_94) (zT_t hS s_94) rfl f_12_246_12 rfl ?_
    refine zw_push hm_183 dX12_fresh_188 (v := .inl (1 : Int32)) rfl ?_
    refine zw_stk hm_183 dX12_fresh_189 (st₉ := [.inl (((mI S) 94 46) + (1 : Int32)), .inr (.inr (some 94))]) rfl rfl ?_
    refine zw_pf hm_183 dX12_fresh_190 (zT_is hS s_94) (zT_t hS s_94) p_12_246_12 zk_int ?_
    refine zw_push hm_183 dX12_fresh_193 (v := .inr (.inr (some 94))) rfl ?_
    refine zw_stk hm_183 dX12_fresh_194 (st₉ := [.inr (.inr (some 94)), .inr (.inr (some 94))]) rfl rfl ?_
    refine zw_gf hm_183 dX12_fresh_195 (v := .inl ((mI S) 94 44)) (zT_is (zT_pi hS) s_94) (zT_t (zT_pi hS) s_94) rfl f_12_240_12 rfl ?_
    refine zw_push hm_183 dX12_fresh_198 (v := .inl (1 : Int32)) rfl ?_
    refine zw_stk hm_183 dX12_fresh_199 (st₉ := [.inl (((mI S) 94 44) + (1 : Int32)), .inr (.inr (some 94))]) rfl rfl ?_
    refine zw_pf hm_183 dX12_fresh_200 (zT_is (zT_pi hS) s_94) (zT_t (zT_pi hS) s_94) p_12_240_12 zk_int ?_
    refine zw_push hm_183 dX12_fresh_203 (v := .inr (.inr (some 94))) rfl ?_
    refine zw_stk hm_183 dX12_fresh_204 (st₉ := [.inr (.inr (some 94)), .inr (.inr (some 94))]) rfl rfl ?_
    refine zw_gf hm_183 dX12_fresh_205 (v := .inl ((mI S) 94 45)) (zT_is (zT_pi (zT_pi hS)) s_94) (zT_t (zT_pi (zT_pi hS)) s_94) rfl f_12_243_12 rfl ?_
    refine zw_push hm_183 dX12_fresh_208 (v := .inl l2) rfl ?_
    refine zw_push hm_183 dX12_fresh_209 (v := .inl (1 : Int32)) rfl ?_
    refine zw_stk hm_183 dX12_fresh_210 (st₉ := [.inl (l2 + (1 : Int32)), .inl ((mI S) 94 45), .inr (.inr (some 94))]) rfl rfl ?_
    refine zw_stk hm_183 dX12_fresh_211 (st₉ := [.inl (((mI S) 94 45) + (l2 + (1 : Int32))), .inr (.inr (some 94))]) rfl rfl ?_
    refine zw_pf hm_183 dX12_fresh_212 (zT_is (zT_pi (zT_pi hS)) s_94) (zT_t (zT_pi (zT_pi hS)) s_94) p_12_243_12 zk_int ?_
    refine zw_push hm_183 dX12_fresh_215 (v := .inr (.inr (some 94))) rfl ?_
    refine zw_push hm_183 dX12_fresh_216 (v := .inl l4) rfl ?_
    refine zw_push hm_183 dX12_fresh_218 (v := .inl l2) rfl ?_
    refine zw_stk hm_183 dX12_fresh_219 (st₉ := [.inl (l4 + l2), .inr (.inr (some 94))]) rfl rfl ?_
    refine zw_push hm_183 dX12_fresh_220 (v := .inl (1 : Int32)) rfl ?_
    refine zw_stk hm_183 dX12_fresh_221 (st₉ := [.inl ((l4 + l2) + (1 : Int32)), .inr (.inr (some 94))]) rfl rfl ?_
    refine zw_pf hm_183 dX12_fresh_222 (zT_is (zT_pi (zT_pi (zT_pi hS))) s_94) (zT_t (zT_pi (zT_pi (zT_pi hS))) s_94) p_12_282_12 zk_int ?_
    refine zw_push hm_183 dX12_fresh_225 (v := .inr (.inr (some 94))) rfl ?_
    refine zw_push hm_183 dX12_fresh_226 (v := .inl l3) rfl ?_
    refine zw_push hm_183 dX12_fresh_227 (v := .inl l5) rfl ?_
    refine zw_cv hm_183 dX12_fresh_229 v_12_481_12 hm_238 [.inl l5, .inl l3] [] rfl (zT_rt (zT_pi (zT_pi (zT_pi (zT_pi hS)))) s_94 rfl) ⟨by omega, by omega⟩ rfl (h _ _ (ma_put (ma_put (ma_put (ma_put S 94 46 (.inl (((mI S) 94 46) + (1 : Int32)))) 94 44 (.inl (((mI S) 94 44) + (1 : Int32)))) 94 45 (.inl (((mI S) 94 45) + (l2 + (1 : Int32))))) 94 62 (.inl ((l4 + l2) + (1 : Int32)))) _ (by omega) (by omega) (zT_pi (zT_pi (zT_pi (zT_pi hS)))) rfl (fun o9 m1 hv => ?_))
    obtain ⟨rfl, h⟩ := zmv_of hv
    show ma_wp X d w 183 232 [(0, .inr (.inr (some 94))), (2, .inl l2), (3, .inl l3), (4, .inl l4), (5, .inl l5), (6, .inl l6)] [] (zst S m1) _
    refine zw_push hm_183 dX12_fresh_232 (v := .inr (.inr (some 94))) rfl ?_
    refine zw_gf hm_183 dX12_fresh_233 (v := .inr (.inr (some 100))) (zT_is (zT_zst hS m1) s_94) (zT_t (zT_zst hS m1) s_94) rfl f_12_31_12 (zT_f (zT_zst hS m1) r_94_32) ?_
    refine zw_push hm_183 dX12_fresh_236 (v := .inl l5) rfl ?_
    obtain ⟨hg, h⟩ := h
    refine zw_ia hm_183 dX12_fresh_238 (zT_is (zT_zst hS m1) s_100) (zT_h (zT_zst hS m1) s_100) rfl hg ?_
    show ma_wp X d w 183 239 [(0, .inr (.inr (some 94))), (2, .inl l2), (3, .inl l3), (4, .inl l4), (5, .inl l5), (6, .inl l6)] [.inl (m1 100 l5.toNatClampNeg)] (zst S m1) _
    exact zw_iret hm_183 dX12_fresh_239 (HQ _ _ h)
  · intro hc
    rw [if_neg hc] at h
    refine zw_push hm_183 dX12_fresh_148 (v := .inr (.inr (some 94))) rfl ?_
    refine zw_gf hm_183 dX12_fresh_149 (v := .inr (.inr (some 108))) (zT_is hS s_94) (zT_t hS s_94) rfl f_12_56_12 (zT_f hS r_94_40) ?_
    refine zw_push hm_183 dX12_fresh_152 (v := .inl l5) rfl ?_
    refine zw_push hm_183 dX12_fresh_154 (v := .inl (60 : Int32)) rfl ?_
    refine zw_stk hm_183 dX12_fresh_156 (st₉ := [.inl (l5 * (60 : Int32)), .inr (.inr (some 108))]) rfl rfl ?_
    refine zw_push hm_183 dX12_fresh_157 (v := .inl l6) rfl ?_
    refine zw_stk hm_183 dX12_fresh_159 (st₉ := [.inl ((l5 * (60 : Int32)) + l6), .inr (.inr (some 108))]) rfl rfl ?_
    refine zw_push hm_183 dX12_fresh_160 (v := .inr (.inr (some 94))) rfl ?_
    refine zw_push hm_183 dX12_fresh_161 (v := .inl l5) rfl ?_
    refine zw_push hm_183 dX12_fresh_163 (v := .inl l6) rfl ?_
    refine zw_cv hm_183 dX12_fresh_165 v_12_288_12 hm_193 [.inl l6, .inl l5] [.inl ((l5 * (60 : Int32)) + l6), .inr (.inr (some 108))] rfl (zT_rt hS s_94 rfl) ⟨by omega, by omega⟩ rfl ?_
    show ma_wp X (d - 1) (w - 22) 193 0 [(0, .inr (.inr (some 94))), (1, .inl l5), (2, .inl l6)] [] S _
    refine zw_push hm_193 dX12_isReference_0 (v := .inr (.inr (some 94))) rfl ?_
    refine zw_gf hm_193 dX12_isReference_1 (v := .inr (.inr (some 101))) (zT_is hS s_94) (zT_t hS s_94) rfl f_12_34_12 (zT_f hS r_94_33) ?_
    refine zw_push hm_193 dX12_isReference_4 (v := .inl l5) rfl ?_
    obtain ⟨hg, h⟩ := h
    refine zw_ia hm_193 dX12_isReference_5 (zT_is hS s_101) (zT_h hS s_101) rfl hg ?_
    show ma_wp X (d - 1) (w - 22) 193 6 [(0, .inr (.inr (some 94))), (1, .inl l5), (2, .inl l6)] [.inl ((mI S) 101 l5.toNatClampNeg)] S _
    refine zw_push hm_193 dX12_isReference_6 (v := .inl (16 : Int32)) rfl ?_
    refine zw_if2 hm_193 dX12_isReference_8 (t := 41) rfl zc2_eq ?_ ?_
    · intro hc
      rw [if_pos hc] at h
      refine zw_push hm_193 dX12_isReference_41 (v := .inl (1 : Int32)) rfl ?_
      refine zw_goto hm_193 dX12_isReference_42 (t := 46) rfl ?_
      refine zw_bret hm_193 dX12_isReference_46 (by decide) ?_
      show ma_wp X d w 183 168 [(0, .inr (.inr (some 94))), (2, .inl l2), (3, .inl l3), (4, .inl l4), (5, .inl l5), (6, .inl l6)] [.inl (1 : Int32), .inl ((l5 * (60 : Int32)) + l6), .inr (.inr (some 108))] S _
      refine zw_if0 hm_183 dX12_fresh_168 (t := 175) rfl zc0_eq (fun hc => absurd hc (by decide)) (fun _ => ?_)
      refine zw_push hm_183 dX12_fresh_171 (v := .inl (-1 : Int32)) rfl ?_
      refine zw_goto hm_183 dX12_fresh_172 (t := 176) rfl ?_
      obtain ⟨hg, h⟩ := h
      refine zw_ias hm_183 dX12_fresh_176 (zT_is hS s_108) (zT_h hS s_108) rfl hg ?_
      refine zw_sto hm_183 dX12_fresh_177 [(6, .inl (l6 + (1 : Int32))), (0, .inr (.inr (some 94))), (2, .inl l2), (3, .inl l3), (4, .inl l4), (5, .inl l5)] rfl rfl rfl ?_
      refine zw_goto hm_183 dX12_fresh_180 (t := 142) rfl ?_
      exact zw_sub (ma_nd_of (ks := [0, 2, 3, 4, 5, 6]) rfl (by decide)) (ma_nd_of (ks := [6, 0, 2, 3, 4, 5]) rfl (by decide)) (ma_le_cons rfl (ma_le_cons rfl (ma_le_cons rfl (ma_le_cons rfl (ma_le_cons rfl (ma_le_cons rfl (ma_le_nil _))))))) (h d w _ Q (by omega) (by omega) (zT_pi hS) rfl HQ)
    · intro hc
      rw [if_neg hc] at h
      refine zw_push hm_193 dX12_isReference_11 (v := .inr (.inr (some 94))) rfl ?_
      refine zw_gf hm_193 dX12_isReference_12 (v := .inr (.inr (some 101))) (zT_is hS s_94) (zT_t hS s_94) rfl f_12_34_12 (zT_f hS r_94_33) ?_
      refine zw_push hm_193 dX12_isReference_15 (v := .inl l5) rfl ?_
      obtain ⟨hg, h⟩ := h
      refine zw_ia hm_193 dX12_isReference_16 (zT_is hS s_101) (zT_h hS s_101) rfl hg ?_
      show ma_wp X (d - 1) (w - 22) 193 17 [(0, .inr (.inr (some 94))), (1, .inl l5), (2, .inl l6)] [.inl ((mI S) 101 l5.toNatClampNeg)] S _
      refine zw_push hm_193 dX12_isReference_17 (v := .inl (16 : Int32)) rfl ?_
      refine zw_if2 hm_193 dX12_isReference_19 (t := 45) rfl zc2_ge ?_ ?_
      · intro hc
        rw [if_pos hc] at h
        refine zw_push hm_193 dX12_isReference_45 (v := .inl (0 : Int32)) rfl ?_
        refine zw_bret hm_193 dX12_isReference_46 (by decide) ?_
        show ma_wp X d w 183 168 [(0, .inr (.inr (some 94))), (2, .inl l2), (3, .inl l3), (4, .inl l4), (5, .inl l5), (6, .inl l6)] [.inl (0 : Int32), .inl ((l5 * (60 : Int32)) + l6), .inr (.inr (some 108))] S _
        refine zw_if0 hm_183 dX12_fresh_168 (t := 175) rfl zc0_eq (fun _ => ?_) (fun hc => absurd (by decide) hc)
        refine zw_push hm_183 dX12_fresh_175 (v := .inl (0 : Int32)) rfl ?_
        obtain ⟨hg, h⟩ := h
        refine zw_ias hm_183 dX12_fresh_176 (zT_is hS s_108) (zT_h hS s_108) rfl hg ?_
        refine zw_sto hm_183 dX12_fresh_177 [(6, .inl (l6 + (1 : Int32))), (0, .inr (.inr (some 94))), (2, .inl l2), (3, .inl l3), (4, .inl l4), (5, .inl l5)] rfl rfl rfl ?_
        refine zw_goto hm_183 dX12_fresh_180 (t := 142) rfl ?_
        exact zw_sub (ma_nd_of (ks := [0, 2, 3, 4, 5, 6]) rfl (by decide)) (ma_nd_of (ks := [6, 0, 2, 3, 4, 5]) rfl (by decide)) (ma_le_cons rfl (ma_le_cons rfl (ma_le_cons rfl (ma_le_cons rfl (ma_le_cons rfl (ma_le_cons rfl (ma_le_nil _))))))) (h d w _ Q (by omega) (by omega) (zT_pi hS) rfl HQ)
      · intro hc
        rw [if_neg hc] at h
        refine zw_push hm_193 dX12_isReference_22 (v := .inr (.inr (some 94))) rfl ?_
        refine zw_gf hm_193 dX12_isReference_23 (v := .inr (.inr (some 98))) (zT_is hS s_94) (zT_t hS s_94) rfl f_12_24_12 (zT_f hS r_94_6) ?_
        refine zw_push hm_193 dX12_isReference_26 (v := .inr (.inr (some 94))) rfl ?_
        refine zw_gf hm_193 dX12_isReference_27 (v := .inr (.inr (some 101))) (zT_is hS s_94) (zT_t hS s_94) rfl f_12_34_12 (zT_f hS r_94_33) ?_
        refine zw_push hm_193 dX12_isReference_30 (v := .inl l5) rfl ?_
        obtain ⟨hg, h⟩ := h
        refine zw_ia hm_193 dX12_isReference_31 (zT_is hS s_101) (zT_h hS s_101) rfl hg ?_
        show ma_wp X (d - 1) (w - 22) 193 32 [(0, .inr (.inr (some 94))), (1, .inl l5), (2, .inl l6)] [.inl ((mI S) 101 l5.toNatClampNeg), .inr (.inr (some 98))] S _
        obtain ⟨hg, h⟩ := h
        refine zw_ia hm_193 dX12_isReference_32 (zT_is hS s_98) (zT_h hS s_98) rfl hg ?_
        show ma_wp X (d - 1) (w - 22) 193 33 [(0, .inr (.inr (some 94))), (1, .inl l5), (2, .inl l6)] [.inl ((mI S) 98 ((mI S) 101 l5.toNatClampNeg).toNatClampNeg)] S _
        refine zw_push hm_193 dX12_isReference_33 (v := .inl l6) rfl ?_
        refine zw_stk hm_193 dX12_isReference_34 (st₉ := [.inl (((mI S) 98 ((mI S) 101 l5.toNatClampNeg).toNatClampNeg) >>> (l6 &&& 31))]) rfl rfl ?_
        refine zw_push hm_193 dX12_isReference_35 (v := .inl (1 : Int32)) rfl ?_
        refine zw_stk hm_193 dX12_isReference_36 (st₉ := [.inl ((((mI S) 98 ((mI S) 101 l5.toNatClampNeg).toNatClampNeg) >>> (l6 &&& 31)) &&& (1 : Int32))]) rfl rfl ?_
        refine zw_push hm_193 dX12_isReference_37 (v := .inl (1 : Int32)) rfl ?_
        refine zw_if2 hm_193 dX12_isReference_38 (t := 45) rfl zc2_ne ?_ ?_
        · intro hc
          rw [if_neg hc] at h
          refine zw_push hm_193 dX12_isReference_45 (v := .inl (0 : Int32)) rfl ?_
          refine zw_bret hm_193 dX12_isReference_46 (by decide) ?_
          show ma_wp X d w 183 168 [(0, .inr (.inr (some 94))), (2, .inl l2), (3, .inl l3), (4, .inl l4), (5, .inl l5), (6, .inl l6)] [.inl (0 : Int32), .inl ((l5 * (60 : Int32)) + l6), .inr (.inr (some 108))] S _
          refine zw_if0 hm_183 dX12_fresh_168 (t := 175) rfl zc0_eq (fun _ => ?_) (fun hc => absurd (by decide) hc)
          refine zw_push hm_183 dX12_fresh_175 (v := .inl (0 : Int32)) rfl ?_
          obtain ⟨hg, h⟩ := h
          refine zw_ias hm_183 dX12_fresh_176 (zT_is hS s_108) (zT_h hS s_108) rfl hg ?_
          refine zw_sto hm_183 dX12_fresh_177 [(6, .inl (l6 + (1 : Int32))), (0, .inr (.inr (some 94))), (2, .inl l2), (3, .inl l3), (4, .inl l4), (5, .inl l5)] rfl rfl rfl ?_
          refine zw_goto hm_183 dX12_fresh_180 (t := 142) rfl ?_
          exact zw_sub (ma_nd_of (ks := [0, 2, 3, 4, 5, 6]) rfl (by decide)) (ma_nd_of (ks := [6, 0, 2, 3, 4, 5]) rfl (by decide)) (ma_le_cons rfl (ma_le_cons rfl (ma_le_cons rfl (ma_le_cons rfl (ma_le_cons rfl (ma_le_cons rfl (ma_le_nil _))))))) (h d w _ Q (by omega) (by omega) (zT_pi hS) rfl HQ)
        · intro hc
          rw [if_pos (Classical.not_not.mp hc)] at h
          refine zw_push hm_193 dX12_isReference_41 (v := .inl (1 : Int32)) rfl ?_
          refine zw_goto hm_193 dX12_isReference_42 (t := 46) rfl ?_
          refine zw_bret hm_193 dX12_isReference_46 (by decide) ?_
          show ma_wp X d w 183 168 [(0, .inr (.inr (some 94))), (2, .inl l2), (3, .inl l3), (4, .inl l4), (5, .inl l5), (6, .inl l6)] [.inl (1 : Int32), .inl ((l5 * (60 : Int32)) + l6), .inr (.inr (some 108))] S _
          refine zw_if0 hm_183 dX12_fresh_168 (t := 175) rfl zc0_eq (fun hc => absurd hc (by decide)) (fun _ => ?_)
          refine zw_push hm_183 dX12_fresh_171 (v := .inl (-1 : Int32)) rfl ?_
          refine zw_goto hm_183 dX12_fresh_172 (t := 176) rfl ?_
          obtain ⟨hg, h⟩ := h
          refine zw_ias hm_183 dX12_fresh_176 (zT_is hS s_108) (zT_h hS s_108) rfl hg ?_
          refine zw_sto hm_183 dX12_fresh_177 [(6, .inl (l6 + (1 : Int32))), (0, .inr (.inr (some 94))), (2, .inl l2), (3, .inl l3), (4, .inl l4), (5, .inl l5)] rfl rfl rfl ?_
          refine zw_goto hm_183 dX12_fresh_180 (t := 142) rfl ?_
          exact zw_sub (ma_nd_of (ks := [0, 2, 3, 4, 5, 6]) rfl (by decide)) (ma_nd_of (ks := [6, 0, 2, 3, 4, 5]) rfl (by decide)) (ma_le_cons rfl (ma_le_cons rfl (ma_le_cons rfl (ma_le_cons rfl (ma_le_cons rfl (ma_le_cons rfl (ma_le_nil _))))))) (h d w _ Q (by omega) (by omega) (zT_pi hS) rfl HQ)
set_option maxHeartbeats 8000000 in
theorem lp_183_142 {X : Nat × (Nat → Int32)} {P : Option ma_V → (Nat → Nat → Int32) → Prop} {T : Nat} {kk : Int32} {nn : Int32} {r1 : Int32} {m0 : Nat → Nat → Int32} (h0 : zV m0) (K : ∀ v m₉, zF wr_183 m0 m₉ → zV m₉ → (zW (m₉ 94 7) (m₉ 98) (m₉ 101) (m₉ 102) (m₉ 108)) → (zGW (T + 1) (m₉ 94 55) (m₉ 109)) → (zGU (T + 1) (m₉ 94 46) (m₉ 99)) → (zOw (m₉ 99) (m₉ 103) (m₉ 111)) → (zDX (m₉ 94 10) (m₉ 99) (m₉ 112) (m₉ 113) (m₉ 114) (m₉ 94 55) (m₉ 98) (m₉ 101) (m₉ 102) (m₉ 108)) → (zGG (m₉ 94 58) (m₉ 94 56) (m₉ 94 57) (m₉ 106)) → (zHA (m₉ 94 10) (m₉ 94 11) (m₉ 94 13) (m₉ 94 14) (m₉ 94 16) (m₉ 94 61) (m₉ 94 59) (m₉ 94 60) (m₉ 99) (m₉ 102) (m₉ 103) (m₉ 111) (m₉ 117) (m₉ 98) (m₉ 101) (m₉ 108)) → (zRG (m₉ 94 10) (m₉ 94 18) (m₉ 94 64) (m₉ 94 63) (m₉ 99) (m₉ 103) (m₉ 102) (m₉ 116)) → ((m₉ 94 58).toInt = 0 ∨ (m₉ 94 10).toInt = 5) → P (some (.inl v)) m₉) : ∀ (n : Nat) (m : Nat → Nat → Int32) (l2 : Int32) (l3 : Int32) (l4 : Int32) (l5 : Int32) (l6 : Int32), (61 - l6.toInt).toNat = n → zF wr_183 m0 m → zV m → (0 ≤ l2.toInt) → (l2.toInt ≤ 60) → (0 ≤ l3.toInt) → (l3.toInt ≤ 15) → (0 ≤ l4.toInt) → (l4.toInt + l2.toInt ≤ 4599) → (0 ≤ l5.toInt) → (l5.toInt ≤ 3099) → (0 ≤ l6.toInt) → ((m 94 46).toInt ≤ 2999) → ((m 102 l5.toNatClampNeg).toInt = l2.toInt) → ((m 99) l5.toNatClampNeg ≠ 0) → (zWn (m 94 7) (m 98) (m 101) (m 102) (m 108) l5.toNatClampNeg l6.toNatClampNeg) → (zGW (T + 1) (m 94 55) (m 109)) → (zGUp T (m 94 46) (m 99)) → (zOw (m 99) (m 103) (m 111)) → (zDX (m 94 10) (zmk (m 99) l5.toNatClampNeg) (m 112) (m 113) (m 114) (m 94 55) (m 98) (m 101) (m 102) (m 108)) → (zGG (m 94 58) (m 94 56) (m 94 57) (m 106)) → ((m 94 58).toInt = 0 ∨ (m 94 10).toInt = 5) → (zHAs (m 94 10) (m 94 11) (m 94 13) (m 94 14) (m 94 16) (m 94 61) (m 94 59) (m 94 60) (m 99) (m 102) (m 103) (m 111)) → ((m 94 10).toInt = 3 → zDC (m 94 14).toInt (m 94 16).toInt (zmk (m 99) l5.toNatClampNeg) (m 103) (m 102) (m 98) (m 101) (m 108) (m 117)) → (zRG (m 94 10) (m 94 18) (m 94 64) (m 94 63) (m 99) (m 103) (m 102) (m 116)) → zm X 9 198 183 142 [(0, .inr (.inr (some 94))), (2, .inl l2), (3, .inl l3), (4, .inl l4), (5, .inl l5), (6, .inl l6)] m P := by
  intro n
  induction n using Nat.strongRecOn with
  | _ n IH =>
    intro m l2 l3 l4 l5 l6 hmu hF hV hi0 hi1 hi2 hi3 hi4 hi5 hi6 hi7 hi8 hi9 hi10 r_USn r_WN r_GW r_GUp r_OW r_DXn r_GG hi18 r_HAs r_DCn r_RGc
    refine g_183_142 l2 l3 l4 l5 l6 ?_
    have f1 : 0 ≤ (m 94 46).toInt ∧ (m 94 46).toInt ≤ 100000 := rs_94_46 (m := m) hV
    have b2 := i_bd l5
    first | have f3 : 0 ≤ (m 102 l5.toNatClampNeg).toInt ∧ (m 102 l5.toNatClampNeg).toInt ≤ 60 := ra_102 (m := m) hV (k := l5.toNatClampNeg) (i_ix (n := 3100) (by omega) (by omega)).2 | have b4 := i_bd (m 102 l5.toNatClampNeg)
    have f5 : 0 ≤ (m 94 58).toInt ∧ (m 94 58).toInt ≤ 1 := rs_94_58 (m := m) hV
    have f6 : 0 ≤ (m 94 10).toInt ∧ (m 94 10).toInt ≤ 6 := rs_94_10 (m := m) hV
    have b7 := i_bd l2
    have b8 := i_bd l6
    refine zd (fun (h9 : l2 ≤ l6) => ?_) (fun (h9 : ¬ l2 ≤ l6) => ?_)
    · skip
      have g10 := i_le h9
      have b11 := i_bd l3
      first | have e13 : ((m 94 46) + (1 : Int32)).toInt = (m 94 46).toInt + (1) := i_addk rfl (by omega) (by omega) | have b14 := i_bd ((m 94 46) + (1 : Int32))
      have hV12 : zV (ma_u m 94 46 ((m 94 46) + (1 : Int32))) := us_94_46 hV (by omega) (by omega)
      have hV15 : zV (ma_u (ma_u m 94 46 ((m 94 46) + (1 : Int32))) 94 44 ((m 94 44) + (1 : Int32))) := uf_94_44 hV12
      have hV16 : zV (ma_u (ma_u (ma_u m 94 46 ((m 94 46) + (1 : Int32))) 94 44 ((m 94 44) + (1 : Int32))) 94 45 ((m 94 45) + (l2 + (1 : Int32)))) := uf_94_45 hV15
      have b18 := i_bd l4
      first | have e19 : (l4 + l2).toInt = l4.toInt + l2.toInt := i_add (by omega) (by omega) | have b20 := i_bd (l4 + l2)
      first | have e21 : ((l4 + l2) + (1 : Int32)).toInt = (l4 + l2).toInt + (1) := i_addk rfl (by omega) (by omega) | have b22 := i_bd ((l4 + l2) + (1 : Int32))
      have hV17 : zV (ma_u (ma_u (ma_u (ma_u m 94 46 ((m 94 46) + (1 : Int32))) 94 44 ((m 94 44) + (1 : Int32))) 94 45 ((m 94 45) + (l2 + (1 : Int32)))) 94 62 ((l4 + l2) + (1 : Int32))) := us_94_62 hV16 (by omega) (by omega)
      refine sp_238 (T := (T + 1)) (l3) (l5) hV17 (by omega) (by omega) (by omega) (by omega) (show ((m 94 10).toInt = 2 ∨ (m 94 10).toInt = 3) → l5.toInt < 0 ∨ (m 99) l5.toNatClampNeg ≠ 0 from by first | (exact fun _ => Or.inr r_USn) | (exfalso; omega; done) | (exfalso; contradiction; done)) (show zW (m 94 7) (m 98) (m 101) (m 102) (m 108) from by first | (exact Wn_end r_WN (by rw [tn_cast (x := l6) (by omega)]; omega)) | (exfalso; omega; done) | (exfalso; contradiction; done)) r_GW (show zGU (T + 1) ((m 94 46) + (1 : Int32)) (m 99) from by first | (exact GUp_end r_GUp (by omega)) | (exfalso; omega; done) | (exfalso; contradiction; done)) r_OW (show zDX (m 94 10) (m 99) (m 112) (m 113) (m 114) (m 94 55) (m 98) (m 101) (m 102) (m 108) from by first | (exact DXn_end r_DXn r_WN (by rw [tn_cast (x := l6) (by omega)]; omega)) | (exfalso; omega; done) | (exfalso; contradiction; done)) r_GG (show zHA (m 94 10) (m 94 11) (m 94 13) (m 94 14) (m 94 16) (m 94 61) (m 94 59) (m 94 60) (m 99) (m 102) (m 103) (m 111) (m 117) (m 98) (m 101) (m 108) from by first | (exact HA_end r_HAs r_DCn r_WN (by rw [tn_cast (x := l6) (by omega)]; omega)) | (exfalso; omega; done) | (exfalso; contradiction; done)) r_RGc (show (m 94 58).toInt = 0 ∨ (m 94 10).toInt = 5 from by omega) (fun m1 hV_m1 p0_m1 p1_m1 p2_m1 p3_m1 p4_m1 p5_m1 p6_m1 p7_m1 => zmv_n ?_)
      have p0_m1 : zGW (T + 1) (m1 94 55) (m1 109) := p0_m1
      have p1_m1 : zGU (T + 1) ((m 94 46) + (1 : Int32)) (m1 99) := p1_m1
      have p2_m1 : zOw (m1 99) (m 103) (m1 111) := p2_m1
      have p3_m1 : zDX (m 94 10) (m1 99) (m1 112) (m1 113) (m1 114) (m1 94 55) (m 98) (m 101) (m 102) (m 108) := p3_m1
      have p4_m1 : zGG (m 94 58) (m1 94 56) (m 94 57) (m1 106) := p4_m1
      have p5_m1 : zHA (m 94 10) (m 94 11) (m 94 13) (m 94 14) (m 94 16) (m 94 61) (m 94 59) (m 94 60) (m1 99) (m 102) (m 103) (m1 111) (m 117) (m 98) (m 101) (m 108) := p5_m1
      have p6_m1 : zRG (m 94 10) (m 94 18) (m 94 64) (m 94 63) (m1 99) (m 103) (m 102) (m 116) := p6_m1
      have p7_m1 : (m 94 58).toInt = 0 ∨ (m 94 10).toInt = 5 := p7_m1
      have hg23 : (0 ≤ l5 ∧ l5.toNatClampNeg < 3100) := i_ix (by omega) (by omega)
      refine ⟨hg23, ?_⟩
      try have e21 : (l2 + (1 : Int32)).toInt = l2.toInt + 1 := i_addk rfl (by omega) (by omega)
      try have gun := GU_nu p1_m1
      first | have f24 : 0 ≤ (m 100 l5.toNatClampNeg).toInt ∧ (m 100 l5.toNatClampNeg).toInt ≤ 100000 := ra_100 (m := m) hV (k := l5.toNatClampNeg) (i_ix (n := 3100) (by omega) (by omega)).2 | have b25 := i_bd (m 100 l5.toNatClampNeg)
      exact K ((m 100 l5.toNatClampNeg)) _ (zF_zov (zF_u (zF_u (zF_u (zF_u hF rfl) rfl) rfl) rfl) ws_238_183) hV_m1 (show zW (m 94 7) (m 98) (m 101) (m 102) (m 108) from by first | (exact Wn_end r_WN (by rw [tn_cast (x := l6) (by omega)]; omega)) | (exfalso; omega; done) | (exfalso; contradiction; done)) p0_m1 p1_m1 p2_m1 p3_m1 p4_m1 p5_m1 p6_m1 (show (m 94 58).toInt = 0 ∨ (m 94 10).toInt = 5 from by omega)
    · skip
      have g26 := i_nle h9
      have hg27 : (0 ≤ l5 ∧ l5.toNatClampNeg < 3100) := i_ix (by omega) (by omega)
      refine ⟨hg27, ?_⟩
      first | have f28 : 0 ≤ (m 101 l5.toNatClampNeg).toInt ∧ (m 101 l5.toNatClampNeg).toInt ≤ 17 := ra_101 (m := m) hV (k := l5.toNatClampNeg) (i_ix (n := 3100) (by omega) (by omega)).2 | have b29 := i_bd (m 101 l5.toNatClampNeg)
      have li30 : (16 : Int32).toInt = 16 := rfl
      refine zd (fun (h31 : (m 101 l5.toNatClampNeg) = (16 : Int32)) => ?_) (fun (h31 : ¬ (m 101 l5.toNatClampNeg) = (16 : Int32)) => ?_)
      · skip
        have g32 := i_eq h31
        have li33 : (60 : Int32).toInt = 60 := rfl
        first | have e34 : (l5 * (60 : Int32)).toInt = l5.toInt * 60 := i_mulk rfl (by omega) (by omega) | have b35 := i_bd (l5 * (60 : Int32))
        first | have e36 : ((l5 * (60 : Int32)) + l6).toInt = (l5 * (60 : Int32)).toInt + l6.toInt := i_add (by omega) (by omega) | have b37 := i_bd ((l5 * (60 : Int32)) + l6)
        have hg38 : (0 ≤ ((l5 * (60 : Int32)) + l6) ∧ ((l5 * (60 : Int32)) + l6).toNatClampNeg < 186000) := i_ix (by omega) (by omega)
        refine ⟨hg38, ?_⟩
        try have e21 : (l2 + (1 : Int32)).toInt = l2.toInt + 1 := i_addk rfl (by omega) (by omega)
        have hV39 : zV (ma_u m 108 ((l5 * (60 : Int32)) + l6).toNatClampNeg (-1 : Int32)) := ua_108 hV
        have b40 := i_bd l3
        have b41 := i_bd l4
        first | have e42 : (l6 + (1 : Int32)).toInt = l6.toInt + (1) := i_addk rfl (by omega) (by omega) | have b43 := i_bd (l6 + (1 : Int32))
        exact IH (61 - (l6 + (1 : Int32)).toInt).toNat (by omega) _ (l2) (l3) (l4) (l5) ((l6 + (1 : Int32))) rfl (zF_u hF rfl) hV39 (by omega) (by omega) (by omega) (by omega) (by omega) (by omega) (by omega) (by omega) (by omega) (show (m 94 46).toInt ≤ 2999 from by omega) (show (m 102 l5.toNatClampNeg).toInt = l2.toInt from by omega) r_USn (show zWn (m 94 7) (m 98) (m 101) (m 102) ((ma_u m 108 ((l5 * (60 : Int32)) + l6).toNatClampNeg (-1 : Int32)) 108) l5.toNatClampNeg (l6 + (1 : Int32)).toNatClampNeg from by first | (exact Wn_put r_WN (zrf_oth (ix_word (by omega) (by omega) (by omega) (by omega)) (by rw [tn_eq]; omega) (fun t ht => (ra_102 hV ht).2)) (zrf_bef (ix_word (by omega) (by omega) (by omega) (by omega))) (zrf_m1 (ix_word (by omega) (by omega) (by omega) (by omega)) rfl) (tn_succ (by omega) (by omega))) | (exact Wn_put r_WN (zrf_oth (ix_word (by omega) (by omega) (by omega) (by omega)) (by rw [tn_eq]; omega) (fun t ht => (ra_102 hV ht).2)) (zrf_bef (ix_word (by omega) (by omega) (by omega) (by omega))) (zrf_nr rfl (by omega) (by assumption) (fun z => by first | exact absurd (Int32.lt_iff_toInt_lt.mp z.1) (by omega) | exact absurd z.2 (by assumption))) (tn_succ (by omega) (by omega))) | (exfalso; omega; done) | (exfalso; contradiction; done)) r_GW r_GUp r_OW (show zDX (m 94 10) (zmk (m 99) l5.toNatClampNeg) (m 112) (m 113) (m 114) (m 94 55) (m 98) (m 101) (m 102) ((ma_u m 108 ((l5 * (60 : Int32)) + l6).toNatClampNeg (-1 : Int32)) 108) from by first | (exact DXn_put r_DXn (zrf_oth (ix_word (by omega) (by omega) (by omega) (by omega)) (by rw [tn_eq]; omega) (fun t ht => (ra_102 hV ht).2))) | (exfalso; omega; done) | (exfalso; contradiction; done)) r_GG (show (m 94 58).toInt = 0 ∨ (m 94 10).toInt = 5 from by omega) r_HAs (show (m 94 10).toInt = 3 → zDC (m 94 14).toInt (m 94 16).toInt (zmk (m 99) l5.toNatClampNeg) (m 103) (m 102) (m 98) (m 101) ((ma_u m 108 ((l5 * (60 : Int32)) + l6).toNatClampNeg (-1 : Int32)) 108) (m 117) from by first | (exact DCn_put r_DCn (zrf_oth (ix_word (by omega) (by omega) (by omega) (by omega)) (by rw [tn_eq]; omega) (fun t ht => (ra_102 hV ht).2))) | (exfalso; omega; done) | (exfalso; contradiction; done)) r_RGc
      · skip
        have g44 := i_ne h31
        have hg45 : (0 ≤ l5 ∧ l5.toNatClampNeg < 3100) := i_ix (by omega) (by omega)
        refine ⟨hg45, ?_⟩
        refine zd (fun (h46 : (16 : Int32) ≤ (m 101 l5.toNatClampNeg)) => ?_) (fun (h46 : ¬ (16 : Int32) ≤ (m 101 l5.toNatClampNeg)) => ?_)
        · skip
          have g47 := i_le h46
          have li48 : (60 : Int32).toInt = 60 := rfl
          first | have e49 : (l5 * (60 : Int32)).toInt = l5.toInt * 60 := i_mulk rfl (by omega) (by omega) | have b50 := i_bd (l5 * (60 : Int32))
          first | have e51 : ((l5 * (60 : Int32)) + l6).toInt = (l5 * (60 : Int32)).toInt + l6.toInt := i_add (by omega) (by omega) | have b52 := i_bd ((l5 * (60 : Int32)) + l6)
          have hg53 : (0 ≤ ((l5 * (60 : Int32)) + l6) ∧ ((l5 * (60 : Int32)) + l6).toNatClampNeg < 186000) := i_ix (by omega) (by omega)
          refine ⟨hg53, ?_⟩
          try have e21 : (l2 + (1 : Int32)).toInt = l2.toInt + 1 := i_addk rfl (by omega) (by omega)
          have hV54 : zV (ma_u m 108 ((l5 * (60 : Int32)) + l6).toNatClampNeg (0 : Int32)) := ua_108 hV
          have b55 := i_bd l3
          have b56 := i_bd l4
          first | have e57 : (l6 + (1 : Int32)).toInt = l6.toInt + (1) := i_addk rfl (by omega) (by omega) | have b58 := i_bd (l6 + (1 : Int32))
          exact IH (61 - (l6 + (1 : Int32)).toInt).toNat (by omega) _ (l2) (l3) (l4) (l5) ((l6 + (1 : Int32))) rfl (zF_u hF rfl) hV54 (by omega) (by omega) (by omega) (by omega) (by omega) (by omega) (by omega) (by omega) (by omega) (show (m 94 46).toInt ≤ 2999 from by omega) (show (m 102 l5.toNatClampNeg).toInt = l2.toInt from by omega) r_USn (show zWn (m 94 7) (m 98) (m 101) (m 102) ((ma_u m 108 ((l5 * (60 : Int32)) + l6).toNatClampNeg (0 : Int32)) 108) l5.toNatClampNeg (l6 + (1 : Int32)).toNatClampNeg from by first | (exact Wn_put r_WN (zrf_oth (ix_word (by omega) (by omega) (by omega) (by omega)) (by rw [tn_eq]; omega) (fun t ht => (ra_102 hV ht).2)) (zrf_bef (ix_word (by omega) (by omega) (by omega) (by omega))) (zrf_m1 (ix_word (by omega) (by omega) (by omega) (by omega)) rfl) (tn_succ (by omega) (by omega))) | (exact Wn_put r_WN (zrf_oth (ix_word (by omega) (by omega) (by omega) (by omega)) (by rw [tn_eq]; omega) (fun t ht => (ra_102 hV ht).2)) (zrf_bef (ix_word (by omega) (by omega) (by omega) (by omega))) (zrf_nr rfl (by omega) (by assumption) (fun z => by first | exact absurd (Int32.lt_iff_toInt_lt.mp z.1) (by omega) | exact absurd z.2 (by assumption))) (tn_succ (by omega) (by omega))) | (exfalso; omega; done) | (exfalso; contradiction; done)) r_GW r_GUp r_OW (show zDX (m 94 10) (zmk (m 99) l5.toNatClampNeg) (m 112) (m 113) (m 114) (m 94 55) (m 98) (m 101) (m 102) ((ma_u m 108 ((l5 * (60 : Int32)) + l6).toNatClampNeg (0 : Int32)) 108) from by first | (exact DXn_put r_DXn (zrf_oth (ix_word (by omega) (by omega) (by omega) (by omega)) (by rw [tn_eq]; omega) (fun t ht => (ra_102 hV ht).2))) | (exfalso; omega; done) | (exfalso; contradiction; done)) r_GG (show (m 94 58).toInt = 0 ∨ (m 94 10).toInt = 5 from by omega) r_HAs (show (m 94 10).toInt = 3 → zDC (m 94 14).toInt (m 94 16).toInt (zmk (m 99) l5.toNatClampNeg) (m 103) (m 102) (m 98) (m 101) ((ma_u m 108 ((l5 * (60 : Int32)) + l6).toNatClampNeg (0 : Int32)) 108) (m 117) from by first | (exact DCn_put r_DCn (zrf_oth (ix_word (by omega) (by omega) (by omega) (by omega)) (by rw [tn_eq]; omega) (fun t ht => (ra_102 hV ht).2))) | (exfalso; omega; done) | (exfalso; contradiction; done)) r_RGc
        · skip
          have g59 := i_nle h46
          have hg60 : (0 ≤ l5 ∧ l5.toNatClampNeg < 3100) := i_ix (by omega) (by omega)
          refine ⟨hg60, ?_⟩
          have hg61 : (0 ≤ (m 101 l5.toNatClampNeg) ∧ (m 101 l5.toNatClampNeg).toNatClampNeg < 16) := i_ix (by omega) (by omega)
          refine ⟨hg61, ?_⟩
          have b62 := i_bd (((m 98 (m 101 l5.toNatClampNeg).toNatClampNeg) >>> (l6 &&& 31)) &&& (1 : Int32))
          have li63 : (1 : Int32).toInt = 1 := rfl
          refine zd (fun (h64 : (((m 98 (m 101 l5.toNatClampNeg).toNatClampNeg) >>> (l6 &&& 31)) &&& (1 : Int32)) = (1 : Int32)) => ?_) (fun (h64 : ¬ (((m 98 (m 101 l5.toNatClampNeg).toNatClampNeg) >>> (l6 &&& 31)) &&& (1 : Int32)) = (1 : Int32)) => ?_)
          · skip
            have g65 := i_eq h64
            have li66 : (60 : Int32).toInt = 60 := rfl
            first | have e67 : (l5 * (60 : Int32)).toInt = l5.toInt * 60 := i_mulk rfl (by omega) (by omega) | have b68 := i_bd (l5 * (60 : Int32))
            first | have e69 : ((l5 * (60 : Int32)) + l6).toInt = (l5 * (60 : Int32)).toInt + l6.toInt := i_add (by omega) (by omega) | have b70 := i_bd ((l5 * (60 : Int32)) + l6)
            have hg71 : (0 ≤ ((l5 * (60 : Int32)) + l6) ∧ ((l5 * (60 : Int32)) + l6).toNatClampNeg < 186000) := i_ix (by omega) (by omega)
            refine ⟨hg71, ?_⟩
            try have e21 : (l2 + (1 : Int32)).toInt = l2.toInt + 1 := i_addk rfl (by omega) (by omega)
            have hV72 : zV (ma_u m 108 ((l5 * (60 : Int32)) + l6).toNatClampNeg (-1 : Int32)) := ua_108 hV
            have b73 := i_bd l3
            have b74 := i_bd l4
            first | have e75 : (l6 + (1 : Int32)).toInt = l6.toInt + (1) := i_addk rfl (by omega) (by omega) | have b76 := i_bd (l6 + (1 : Int32))
            exact IH (61 - (l6 + (1 : Int32)).toInt).toNat (by omega) _ (l2) (l3) (l4) (l5) ((l6 + (1 : Int32))) rfl (zF_u hF rfl) hV72 (by omega) (by omega) (by omega) (by omega) (by omega) (by omega) (by omega) (by omega) (by omega) (show (m 94 46).toInt ≤ 2999 from by omega) (show (m 102 l5.toNatClampNeg).toInt = l2.toInt from by omega) r_USn (show zWn (m 94 7) (m 98) (m 101) (m 102) ((ma_u m 108 ((l5 * (60 : Int32)) + l6).toNatClampNeg (-1 : Int32)) 108) l5.toNatClampNeg (l6 + (1 : Int32)).toNatClampNeg from by first | (exact Wn_put r_WN (zrf_oth (ix_word (by omega) (by omega) (by omega) (by omega)) (by rw [tn_eq]; omega) (fun t ht => (ra_102 hV ht).2)) (zrf_bef (ix_word (by omega) (by omega) (by omega) (by omega))) (zrf_m1 (ix_word (by omega) (by omega) (by omega) (by omega)) rfl) (tn_succ (by omega) (by omega))) | (exact Wn_put r_WN (zrf_oth (ix_word (by omega) (by omega) (by omega) (by omega)) (by rw [tn_eq]; omega) (fun t ht => (ra_102 hV ht).2)) (zrf_bef (ix_word (by omega) (by omega) (by omega) (by omega))) (zrf_nr rfl (by omega) (by assumption) (fun z => by first | exact absurd (Int32.lt_iff_toInt_lt.mp z.1) (by omega) | exact absurd z.2 (by assumption))) (tn_succ (by omega) (by omega))) | (exfalso; omega; done) | (exfalso; contradiction; done)) r_GW r_GUp r_OW (show zDX (m 94 10) (zmk (m 99) l5.toNatClampNeg) (m 112) (m 113) (m 114) (m 94 55) (m 98) (m 101) (m 102) ((ma_u m 108 ((l5 * (60 : Int32)) + l6).toNatClampNeg (-1 : Int32)) 108) from by first | (exact DXn_put r_DXn (zrf_oth (ix_word (by omega) (by omega) (by omega) (by omega)) (by rw [tn_eq]; omega) (fun t ht => (ra_102 hV ht).2))) | (exfalso; omega; done) | (exfalso; contradiction; done)) r_GG (show (m 94 58).toInt = 0 ∨ (m 94 10).toInt = 5 from by omega) r_HAs (show (m 94 10).toInt = 3 → zDC (m 94 14).toInt (m 94 16).toInt (zmk (m 99) l5.toNatClampNeg) (m 103) (m 102) (m 98) (m 101) ((ma_u m 108 ((l5 * (60 : Int32)) + l6).toNatClampNeg (-1 : Int32)) 108) (m 117) from by first | (exact DCn_put r_DCn (zrf_oth (ix_word (by omega) (by omega) (by omega) (by omega)) (by rw [tn_eq]; omega) (fun t ht => (ra_102 hV ht).2))) | (exfalso; omega; done) | (exfalso; contradiction; done)) r_RGc
          · skip
            have g77 := i_ne h64
            have li78 : (60 : Int32).toInt = 60 := rfl
            first | have e79 : (l5 * (60 : Int32)).toInt = l5.toInt * 60 := i_mulk rfl (by omega) (by omega) | have b80 := i_bd (l5 * (60 : Int32))
            first | have e81 : ((l5 * (60 : Int32)) + l6).toInt = (l5 * (60 : Int32)).toInt + l6.toInt := i_add (by omega) (by omega) | have b82 := i_bd ((l5 * (60 : Int32)) + l6)
            have hg83 : (0 ≤ ((l5 * (60 : Int32)) + l6) ∧ ((l5 * (60 : Int32)) + l6).toNatClampNeg < 186000) := i_ix (by omega) (by omega)
            refine ⟨hg83, ?_⟩
            try have e21 : (l2 + (1 : Int32)).toInt = l2.toInt + 1 := i_addk rfl (by omega) (by omega)
            have hV84 : zV (ma_u m 108 ((l5 * (60 : Int32)) + l6).toNatClampNeg (0 : Int32)) := ua_108 hV
            have b85 := i_bd l3
            have b86 := i_bd l4
            first | have e87 : (l6 + (1 : Int32)).toInt = l6.toInt + (1) := i_addk rfl (by omega) (by omega) | have b88 := i_bd (l6 + (1 : Int32))
            exact IH (61 - (l6 + (1 : Int32)).toInt).toNat (by omega) _ (l2) (l3) (l4) (l5) ((l6 + (1 : Int32))) rfl (zF_u hF rfl) hV84 (by omega) (by omega) (by omega) (by omega) (by omega) (by omega) (by omega) (by omega) (by omega) (show (m 94 46).toInt ≤ 2999 from by omega) (show (m 102 l5.toNatClampNeg).toInt = l2.toInt from by omega) r_USn (show zWn (m 94 7) (m 98) (m 101) (m 102) ((ma_u m 108 ((l5 * (60 : Int32)) + l6).toNatClampNeg (0 : Int32)) 108) l5.toNatClampNeg (l6 + (1 : Int32)).toNatClampNeg from by first | (exact Wn_put r_WN (zrf_oth (ix_word (by omega) (by omega) (by omega) (by omega)) (by rw [tn_eq]; omega) (fun t ht => (ra_102 hV ht).2)) (zrf_bef (ix_word (by omega) (by omega) (by omega) (by omega))) (zrf_m1 (ix_word (by omega) (by omega) (by omega) (by omega)) rfl) (tn_succ (by omega) (by omega))) | (exact Wn_put r_WN (zrf_oth (ix_word (by omega) (by omega) (by omega) (by omega)) (by rw [tn_eq]; omega) (fun t ht => (ra_102 hV ht).2)) (zrf_bef (ix_word (by omega) (by omega) (by omega) (by omega))) (zrf_nr rfl (by omega) (by assumption) (fun z => by first | exact absurd (Int32.lt_iff_toInt_lt.mp z.1) (by omega) | exact absurd z.2 (by assumption))) (tn_succ (by omega) (by omega))) | (exfalso; omega; done) | (exfalso; contradiction; done)) r_GW r_GUp r_OW (show zDX (m 94 10) (zmk (m 99) l5.toNatClampNeg) (m 112) (m 113) (m 114) (m 94 55) (m 98) (m 101) (m 102) ((ma_u m 108 ((l5 * (60 : Int32)) + l6).toNatClampNeg (0 : Int32)) 108) from by first | (exact DXn_put r_DXn (zrf_oth (ix_word (by omega) (by omega) (by omega) (by omega)) (by rw [tn_eq]; omega) (fun t ht => (ra_102 hV ht).2))) | (exfalso; omega; done) | (exfalso; contradiction; done)) r_GG (show (m 94 58).toInt = 0 ∨ (m 94 10).toInt = 5 from by omega) r_HAs (show (m 94 10).toInt = 3 → zDC (m 94 14).toInt (m 94 16).toInt (zmk (m 99) l5.toNatClampNeg) (m 103) (m 102) (m 98) (m 101) ((ma_u m 108 ((l5 * (60 : Int32)) + l6).toNatClampNeg (0 : Int32)) 108) (m 117) from by first | (exact DCn_put r_DCn (zrf_oth (ix_word (by omega) (by omega) (by omega) (by omega)) (by rw [tn_eq]; omega) (fun t ht => (ra_102 hV ht).2))) | (exfalso; omega; done) | (exfalso; contradiction; done)) r_RGc
set_option maxHeartbeats 8000000 in
theorem lp_183_123 {X : Nat × (Nat → Int32)} {P : Option ma_V → (Nat → Nat → Int32) → Prop} {T : Nat} {kk : Int32} {nn : Int32} {r1 : Int32} {m0 : Nat → Nat → Int32} (h0 : zV m0) (K : ∀ v m₉, zF wr_183 m0 m₉ → zV m₉ → (zW (m₉ 94 7) (m₉ 98) (m₉ 101) (m₉ 102) (m₉ 108)) → (zGW (T + 1) (m₉ 94 55) (m₉ 109)) → (zGU (T + 1) (m₉ 94 46) (m₉ 99)) → (zOw (m₉ 99) (m₉ 103) (m₉ 111)) → (zDX (m₉ 94 10) (m₉ 99) (m₉ 112) (m₉ 113) (m₉ 114) (m₉ 94 55) (m₉ 98) (m₉ 101) (m₉ 102) (m₉ 108)) → (zGG (m₉ 94 58) (m₉ 94 56) (m₉ 94 57) (m₉ 106)) → (zHA (m₉ 94 10) (m₉ 94 11) (m₉ 94 13) (m₉ 94 14) (m₉ 94 16) (m₉ 94 61) (m₉ 94 59) (m₉ 94 60) (m₉ 99) (m₉ 102) (m₉ 103) (m₉ 111) (m₉ 117) (m₉ 98) (m₉ 101) (m₉ 108)) → (zRG (m₉ 94 10) (m₉ 94 18) (m₉ 94 64) (m₉ 94 63) (m₉ 99) (m₉ 103) (m₉ 102) (m₉ 116)) → ((m₉ 94 58).toInt = 0 ∨ (m₉ 94 10).toInt = 5) → P (some (.inl v)) m₉) : ∀ (n : Nat) (m : Nat → Nat → Int32) (l2 : Int32) (l3 : Int32) (l4 : Int32) (l5 : Int32), ((0 : Int)).toNat = n → zF wr_183 m0 m → zV m → (0 ≤ l2.toInt) → (l2.toInt ≤ 60) → (0 ≤ l3.toInt) → (l3.toInt ≤ 15) → (0 ≤ l4.toInt) → (l4.toInt + l2.toInt ≤ 4599) → (0 ≤ l5.toInt) → (l5.toInt ≤ 3099) → ((m 94 46).toInt ≤ 2999) → ((m 102 l5.toNatClampNeg).toInt = l2.toInt) → ((m 99) l5.toNatClampNeg ≠ 0) → (zWn (m 94 7) (m 98) (m 101) (m 102) (m 108) l5.toNatClampNeg (0 : Int32).toNatClampNeg) → (zGW T (m 94 55) (m 109)) → (T + 1 ≤ 3000) → (zGUp T (m 94 46) (m 99)) → (zOw (m 99) (m 103) (m 111)) → (zDX (m 94 10) (zmk (m 99) l5.toNatClampNeg) (m 112) (m 113) (m 114) (m 94 55) (m 98) (m 101) (m 102) (m 108)) → (zGG (m 94 58) (m 94 56) (m 94 57) (m 106)) → ((m 94 58).toInt = 0 ∨ (m 94 10).toInt = 5) → (zHAs (m 94 10) (m 94 11) (m 94 13) (m 94 14) (m 94 16) (m 94 61) (m 94 59) (m 94 60) (m 99) (m 102) (m 103) (m 111)) → ((m 94 10).toInt = 3 → zDC (m 94 14).toInt (m 94 16).toInt (zmk (m 99) l5.toNatClampNeg) (m 103) (m 102) (m 98) (m 101) (m 108) (m 117)) → (zRG (m 94 10) (m 94 18) (m 94 64) (m 94 63) (m 99) (m 103) (m 102) (m 116)) → zm X 9 198 183 123 [(0, .inr (.inr (some 94))), (2, .inl l2), (3, .inl l3), (4, .inl l4), (5, .inl l5)] m P := by
  intro n
  induction n using Nat.strongRecOn with
  | _ n IH =>
    intro m l2 l3 l4 l5 hmu hF hV hi0 hi1 hi2 hi3 hi4 hi5 hi6 hi7 hi8 hi9 r_USn r_WN r_GW hi13 r_GUp r_OW r_DXn r_GG hi18 r_HAs r_DCn r_RGc
    refine g_183_123 l2 l3 l4 l5 ?_
    have f1 : 0 ≤ (m 94 46).toInt ∧ (m 94 46).toInt ≤ 100000 := rs_94_46 (m := m) hV
    have b2 := i_bd l5
    first | have f3 : 0 ≤ (m 102 l5.toNatClampNeg).toInt ∧ (m 102 l5.toNatClampNeg).toInt ≤ 60 := ra_102 (m := m) hV (k := l5.toNatClampNeg) (i_ix (n := 3100) (by omega) (by omega)).2 | have b4 := i_bd (m 102 l5.toNatClampNeg)
    have f5 : 0 ≤ (m 94 58).toInt ∧ (m 94 58).toInt ≤ 1 := rs_94_58 (m := m) hV
    have f6 : 0 ≤ (m 94 10).toInt ∧ (m 94 10).toInt ≤ 6 := rs_94_10 (m := m) hV
    have hg7 : (0 ≤ l5 ∧ l5.toNatClampNeg < 3100) := i_ix (by omega) (by omega)
    refine ⟨hg7, ?_⟩
    have hg8 : (0 ≤ l5 ∧ l5.toNatClampNeg < 3100) := i_ix (by omega) (by omega)
    refine ⟨hg8, ?_⟩
    try have e21 : (l2 + (1 : Int32)).toInt = l2.toInt + 1 := i_addk rfl (by omega) (by omega)
    have hV9 : zV (ma_u m 107 l5.toNatClampNeg (0 : Int32)) := ua_107 hV
    have li11 : (0 : Int32).toInt = 0 := rfl
    have hV10 : zV (ma_u (ma_u m 107 l5.toNatClampNeg (0 : Int32)) 109 l5.toNatClampNeg (0 : Int32)) := ua_109 hV9 (by omega) (by omega)
    have b12 := i_bd l2
    have b13 := i_bd l3
    have b14 := i_bd l4
    exact lp_183_142 (kk := kk) (nn := nn) (r1 := r1) h0 K _ _ (l2) (l3) (l4) (l5) ((0 : Int32)) rfl (zF_u (zF_u hF rfl) rfl) hV10 (by omega) (by omega) (by omega) (by omega) (by omega) (by omega) (by omega) (by omega) (by omega) (show (m 94 46).toInt ≤ 2999 from by omega) (show (m 102 l5.toNatClampNeg).toInt = l2.toInt from by omega) r_USn r_WN (show zGW (T + 1) (m 94 55) ((ma_u m 109 l5.toNatClampNeg (0 : Int32)) 109) from by first | (exact GW_up (GW_0 r_GW) (by omega)) | (exfalso; omega; done) | (exfalso; contradiction; done)) r_GUp r_OW r_DXn r_GG (show (m 94 58).toInt = 0 ∨ (m 94 10).toInt = 5 from by omega) r_HAs r_DCn r_RGc
set_option maxHeartbeats 8000000 in
theorem lp_183_88 {X : Nat × (Nat → Int32)} {P : Option ma_V → (Nat → Nat → Int32) → Prop} {T : Nat} {kk : Int32} {nn : Int32} {r1 : Int32} {m0 : Nat → Nat → Int32} (h0 : zV m0) (K : ∀ v m₉, zF wr_183 m0 m₉ → zV m₉ → (zW (m₉ 94 7) (m₉ 98) (m₉ 101) (m₉ 102) (m₉ 108)) → (zGW (T + 1) (m₉ 94 55) (m₉ 109)) → (zGU (T + 1) (m₉ 94 46) (m₉ 99)) → (zOw (m₉ 99) (m₉ 103) (m₉ 111)) → (zDX (m₉ 94 10) (m₉ 99) (m₉ 112) (m₉ 113) (m₉ 114) (m₉ 94 55) (m₉ 98) (m₉ 101) (m₉ 102) (m₉ 108)) → (zGG (m₉ 94 58) (m₉ 94 56) (m₉ 94 57) (m₉ 106)) → (zHA (m₉ 94 10) (m₉ 94 11) (m₉ 94 13) (m₉ 94 14) (m₉ 94 16) (m₉ 94 61) (m₉ 94 59) (m₉ 94 60) (m₉ 99) (m₉ 102) (m₉ 103) (m₉ 111) (m₉ 117) (m₉ 98) (m₉ 101) (m₉ 108)) → (zRG (m₉ 94 10) (m₉ 94 18) (m₉ 94 64) (m₉ 94 63) (m₉ 99) (m₉ 103) (m₉ 102) (m₉ 116)) → ((m₉ 94 58).toInt = 0 ∨ (m₉ 94 10).toInt = 5) → P (some (.inl v)) m₉) : ∀ (n : Nat) (m : Nat → Nat → Int32) (l2 : Int32) (l3 : Int32) (l4 : Int32) (l5 : Int32), ((0 : Int)).toNat = n → zF wr_183 m0 m → zV m → (0 ≤ l2.toInt) → (l2.toInt ≤ 60) → (0 ≤ l3.toInt) → (l3.toInt ≤ 15) → (0 ≤ l4.toInt) → (l4.toInt + l2.toInt ≤ 4599) → (0 ≤ l5.toInt) → (l5.toInt ≤ 3099) → (T + 1 ≤ 3000) → ((m 94 46).toInt ≤ 2999) → ((m 102 l5.toNatClampNeg).toInt = l2.toInt) → ((m 99) l5.toNatClampNeg ≠ 0) → (zWn (m 94 7) (m 98) (m 101) (m 102) (m 108) l5.toNatClampNeg (0 : Int32).toNatClampNeg) → (zGW T (m 94 55) (m 109)) → (zGUp T (m 94 46) (m 99)) → (zOw (m 99) (m 103) (m 111)) → (zDX (m 94 10) (zmk (m 99) l5.toNatClampNeg) (m 112) (m 113) (m 114) (m 94 55) (m 98) (m 101) (m 102) (m 108)) → (zGG (m 94 58) (m 94 56) (m 94 57) (m 106)) → ((m 94 58).toInt = 0 ∨ (m 94 10).toInt = 5) → (zHAs (m 94 10) (m 94 11) (m 94 13) (m 94 14) (m 94 16) (m 94 61) (m 94 59) (m 94 60) (m 99) (m 102) (m 103) (m 111)) → ((m 94 10).toInt = 3 → zDC (m 94 14).toInt (m 94 16).toInt (zmk (m 99) l5.toNatClampNeg) (m 103) (m 102) (m 98) (m 101) (m 108) (m 117)) → (zRG (m 94 10) (m 94 18) (m 94 64) (m 94 63) (m 99) (m 103) (m 102) (m 116)) → zm X 9 198 183 88 [(0, .inr (.inr (some 94))), (2, .inl l2), (3, .inl l3), (4, .inl l4), (5, .inl l5)] m P := by
  intro n
  induction n using Nat.strongRecOn with
  | _ n IH =>
    intro m l2 l3 l4 l5 hmu hF hV hi0 hi1 hi2 hi3 hi4 hi5 hi6 hi7 hi8 hi9 hi10 r_USn r_WN r_GW r_GUp r_OW r_DXn r_GG hi18 r_HAs r_DCn r_RGc
    refine g_183_88 l2 l3 l4 l5 ?_
    have f1 : 0 ≤ (m 94 46).toInt ∧ (m 94 46).toInt ≤ 100000 := rs_94_46 (m := m) hV
    have b2 := i_bd l5
    first | have f3 : 0 ≤ (m 102 l5.toNatClampNeg).toInt ∧ (m 102 l5.toNatClampNeg).toInt ≤ 60 := ra_102 (m := m) hV (k := l5.toNatClampNeg) (i_ix (n := 3100) (by omega) (by omega)).2 | have b4 := i_bd (m 102 l5.toNatClampNeg)
    have f5 : 0 ≤ (m 94 58).toInt ∧ (m 94 58).toInt ≤ 1 := rs_94_58 (m := m) hV
    have f6 : 0 ≤ (m 94 10).toInt ∧ (m 94 10).toInt ≤ 6 := rs_94_10 (m := m) hV
    have hg7 : (0 ≤ l5 ∧ l5.toNatClampNeg < 3100) := i_ix (by omega) (by omega)
    refine ⟨hg7, ?_⟩
    have hg8 : (0 ≤ l5 ∧ l5.toNatClampNeg < 3100) := i_ix (by omega) (by omega)
    refine ⟨hg8, ?_⟩
    have li9 : (0 : Int32).toInt = 0 := rfl
    refine zd (fun (h10 : (m 94 58) = (0 : Int32)) => ?_) (fun (h10 : ¬ (m 94 58) = (0 : Int32)) => ?_)
    · skip
      have g11 := i_eq h10
      have hg12 : (0 ≤ l5 ∧ l5.toNatClampNeg < 3100) := i_ix (by omega) (by omega)
      refine ⟨hg12, ?_⟩
      try have e21 : (l2 + (1 : Int32)).toInt = l2.toInt + 1 := i_addk rfl (by omega) (by omega)
      have hV13 : zV (ma_u m 104 l5.toNatClampNeg (0 : Int32)) := ua_104 hV
      have hV14 : zV (ma_u (ma_u m 104 l5.toNatClampNeg (0 : Int32)) 105 l5.toNatClampNeg (0 : Int32)) := ua_105 hV13
      have hV15 : zV (ma_u (ma_u (ma_u m 104 l5.toNatClampNeg (0 : Int32)) 105 l5.toNatClampNeg (0 : Int32)) 106 l5.toNatClampNeg (0 : Int32)) := ua_106 hV14
      have b16 := i_bd l2
      have b17 := i_bd l3
      have b18 := i_bd l4
      exact lp_183_123 (kk := kk) (nn := nn) (r1 := r1) h0 K _ _ (l2) (l3) (l4) (l5) rfl (zF_u (zF_u (zF_u hF rfl) rfl) rfl) hV15 (by omega) (by omega) (by omega) (by omega) (by omega) (by omega) (by omega) (by omega) (show (m 94 46).toInt ≤ 2999 from by omega) (show (m 102 l5.toNatClampNeg).toInt = l2.toInt from by omega) r_USn r_WN r_GW (by omega) r_GUp r_OW r_DXn (show zGG (m 94 58) (m 94 56) (m 94 57) ((ma_u m 106 l5.toNatClampNeg (0 : Int32)) 106) from by first | (exact fun z => G1_dark0 (r_GG z) (by decide)) | (exact fun z => absurd z (by omega)) | (exact fun z => absurd z (by decide)) | (exact fun z => absurd z (by omega)) | (exfalso; omega; done) | (exfalso; contradiction; done)) (show (m 94 58).toInt = 0 ∨ (m 94 10).toInt = 5 from by omega) r_HAs r_DCn r_RGc
    · skip
      have g19 := i_ne h10
      have hg20 : (0 ≤ l5 ∧ l5.toNatClampNeg < 3100) := i_ix (by omega) (by omega)
      refine ⟨hg20, ?_⟩
      try have e21 : (l2 + (1 : Int32)).toInt = l2.toInt + 1 := i_addk rfl (by omega) (by omega)
      have hV21 : zV (ma_u m 104 l5.toNatClampNeg (0 : Int32)) := ua_104 hV
      have hV22 : zV (ma_u (ma_u m 104 l5.toNatClampNeg (0 : Int32)) 105 l5.toNatClampNeg (0 : Int32)) := ua_105 hV21
      have hV23 : zV (ma_u (ma_u (ma_u m 104 l5.toNatClampNeg (0 : Int32)) 105 l5.toNatClampNeg (0 : Int32)) 106 l5.toNatClampNeg (2 : Int32)) := ua_106 hV22
      have b24 := i_bd l2
      have b25 := i_bd l3
      have b26 := i_bd l4
      exact lp_183_123 (kk := kk) (nn := nn) (r1 := r1) h0 K _ _ (l2) (l3) (l4) (l5) rfl (zF_u (zF_u (zF_u hF rfl) rfl) rfl) hV23 (by omega) (by omega) (by omega) (by omega) (by omega) (by omega) (by omega) (by omega) (show (m 94 46).toInt ≤ 2999 from by omega) (show (m 102 l5.toNatClampNeg).toInt = l2.toInt from by omega) r_USn r_WN r_GW (by omega) r_GUp r_OW r_DXn (show zGG (m 94 58) (m 94 56) (m 94 57) ((ma_u m 106 l5.toNatClampNeg (2 : Int32)) 106) from by first | (exact fun z => G1_dark0 (r_GG z) (by decide)) | (exact fun z => absurd z (by omega)) | (exact fun z => absurd z (by decide)) | (exact fun z => absurd z (by omega)) | (exfalso; omega; done) | (exfalso; contradiction; done)) (show (m 94 58).toInt = 0 ∨ (m 94 10).toInt = 5 from by omega) r_HAs r_DCn r_RGc
set_option maxHeartbeats 8000000 in
theorem lp_183_19 {X : Nat × (Nat → Int32)} {P : Option ma_V → (Nat → Nat → Int32) → Prop} {T : Nat} {kk : Int32} {nn : Int32} {r1 : Int32} {m0 : Nat → Nat → Int32} (h0 : zV m0) (K : ∀ v m₉, zF wr_183 m0 m₉ → zV m₉ → (zW (m₉ 94 7) (m₉ 98) (m₉ 101) (m₉ 102) (m₉ 108)) → (zGW (T + 1) (m₉ 94 55) (m₉ 109)) → (zGU (T + 1) (m₉ 94 46) (m₉ 99)) → (zOw (m₉ 99) (m₉ 103) (m₉ 111)) → (zDX (m₉ 94 10) (m₉ 99) (m₉ 112) (m₉ 113) (m₉ 114) (m₉ 94 55) (m₉ 98) (m₉ 101) (m₉ 102) (m₉ 108)) → (zGG (m₉ 94 58) (m₉ 94 56) (m₉ 94 57) (m₉ 106)) → (zHA (m₉ 94 10) (m₉ 94 11) (m₉ 94 13) (m₉ 94 14) (m₉ 94 16) (m₉ 94 61) (m₉ 94 59) (m₉ 94 60) (m₉ 99) (m₉ 102) (m₉ 103) (m₉ 111) (m₉ 117) (m₉ 98) (m₉ 101) (m₉ 108)) → (zRG (m₉ 94 10) (m₉ 94 18) (m₉ 94 64) (m₉ 94 63) (m₉ 99) (m₉ 103) (m₉ 102) (m₉ 116)) → ((m₉ 94 58).toInt = 0 ∨ (m₉ 94 10).toInt = 5) → P (some (.inl v)) m₉) : ∀ (n : Nat) (m : Nat → Nat → Int32) (l1 : Int32) (l2 : Int32) (l3 : Int32) (l4 : Int32) (l5 : Int32), (3100 - l5.toInt).toNat = n → zF wr_183 m0 m → zV m → (0 ≤ l5.toInt) → (l5.toInt ≤ 3100) → (0 ≤ l4.toInt) → (l4.toInt + l2.toInt ≤ 4599) → (0 ≤ l2.toInt) → (l2.toInt ≤ 60) → (0 ≤ l3.toInt) → (l3.toInt ≤ 15) → (0 ≤ l1.toInt) → (l1.toInt ≤ 17) → (T + 1 ≤ 3000) → (16 ≤ l1.toInt ∨ l1.toInt < (m 94 7).toInt) → (zW (m 94 7) (m 98) (m 101) (m 102) (m 108)) → (zGW T (m 94 55) (m 109)) → (zGU T (m 94 46) (m 99)) → (zOw (m 99) (m 103) (m 111)) → (zDX (m 94 10) (m 99) (m 112) (m 113) (m 114) (m 94 55) (m 98) (m 101) (m 102) (m 108)) → (zGG (m 94 58) (m 94 56) (m 94 57) (m 106)) → (zHA (m 94 10) (m 94 11) (m 94 13) (m 94 14) (m 94 16) (m 94 61) (m 94 59) (m 94 60) (m 99) (m 102) (m 103) (m 111) (m 117) (m 98) (m 101) (m 108)) → (zRG (m 94 10) (m 94 18) (m 94 64) (m 94 63) (m 99) (m 103) (m 102) (m 116)) → ((m 94 58).toInt = 0 ∨ (m 94 10).toInt = 5) → (zPL (m 94 10) (m 94 11) (m 94 13) (m 94 14) (m 94 61) (m 94 59) (m 94 60) (m 94 18) (m 94 64) (m 99) (m 102) (m 103) (m 111) l4 (l2 + (1 : Int32))) → (∀ j : Nat, (j : Int) < l5.toInt → (m 99) j ≠ 0) → zm X 9 198 183 19 [(0, .inr (.inr (some 94))), (1, .inl l1), (2, .inl l2), (3, .inl l3), (4, .inl l4), (5, .inl l5)] m P := by
  intro n
  induction n using Nat.strongRecOn with
  | _ n IH =>
    intro m l1 l2 l3 l4 l5 hmu hF hV hi0 hi1 hi2 hi3 hi4 hi5 hi6 hi7 hi8 hi9 hi10 hi11 r_W r_GW r_GU r_OW r_DX r_GG r_HA r_RGc hi20 r_PL r_AU
    refine g_183_19 l1 l2 l3 l4 l5 ?_
    have f1 : 0 ≤ (m 94 7).toInt ∧ (m 94 7).toInt ≤ 16 := rs_94_7 (m := m) hV
    have f2 : 0 ≤ (m 94 58).toInt ∧ (m 94 58).toInt ≤ 1 := rs_94_58 (m := m) hV
    have f3 : 0 ≤ (m 94 10).toInt ∧ (m 94 10).toInt ≤ 6 := rs_94_10 (m := m) hV
    have b4 := i_bd l5
    try have gk := AU_room r_AU r_GU (by omega)
    have hg5 : (0 ≤ l5 ∧ l5.toNatClampNeg < 3100) := i_ix (by omega) (by omega)
    refine ⟨hg5, ?_⟩
    first | have f6 : 0 ≤ (m 99 l5.toNatClampNeg).toInt ∧ (m 99 l5.toNatClampNeg).toInt ≤ 1 := ra_99 (m := m) hV (k := l5.toNatClampNeg) (i_ix (n := 3100) (by omega) (by omega)).2 | have b7 := i_bd (m 99 l5.toNatClampNeg)
    have li8 : (0 : Int32).toInt = 0 := rfl
    refine zd (fun (h9 : (m 99 l5.toNatClampNeg) = (0 : Int32)) => ?_) (fun (h9 : ¬ (m 99 l5.toNatClampNeg) = (0 : Int32)) => ?_)
    · skip
      have g10 := i_eq h9
      try have gk := AU_room r_AU r_GU (by omega)
      have hg11 : (0 ≤ l5 ∧ l5.toNatClampNeg < 3100) := i_ix (by omega) (by omega)
      refine ⟨hg11, ?_⟩
      have hg12 : (0 ≤ l5 ∧ l5.toNatClampNeg < 3100) := i_ix (by omega) (by omega)
      refine ⟨hg12, ?_⟩
      have hg13 : (0 ≤ l5 ∧ l5.toNatClampNeg < 3100) := i_ix (by omega) (by omega)
      refine ⟨hg13, ?_⟩
      have hg14 : (0 ≤ l5 ∧ l5.toNatClampNeg < 3100) := i_ix (by omega) (by omega)
      refine ⟨hg14, ?_⟩
      have hg15 : (0 ≤ l5 ∧ l5.toNatClampNeg < 3100) := i_ix (by omega) (by omega)
      refine ⟨hg15, ?_⟩
      have b16 := i_bd l4
      have hg17 : (0 ≤ l4 ∧ l4.toNatClampNeg < 4600) := i_ix (by omega) (by omega)
      refine ⟨hg17, ?_⟩
      try have gk := AU_room r_AU r_GU (by omega)
      try have e21 : (l2 + (1 : Int32)).toInt = l2.toInt + 1 := i_addk rfl (by omega) (by omega)
      try have gun := GU_nu r_GU
      have li19 : (1 : Int32).toInt = 1 := rfl
      have hV18 : zV (ma_u m 99 l5.toNatClampNeg (1 : Int32)) := ua_99 hV (by omega) (by omega)
      have f21 : 0 ≤ (m 94 46).toInt ∧ (m 94 46).toInt ≤ 100000 := rs_94_46 (m := m) hV
      have hV20 : zV (ma_u (ma_u m 99 l5.toNatClampNeg (1 : Int32)) 100 l5.toNatClampNeg (m 94 46)) := ua_100 hV18 (by omega) (by omega)
      have b23 := i_bd l1
      have hV22 : zV (ma_u (ma_u (ma_u m 99 l5.toNatClampNeg (1 : Int32)) 100 l5.toNatClampNeg (m 94 46)) 101 l5.toNatClampNeg l1) := ua_101 hV20 (by omega) (by omega)
      have b25 := i_bd l2
      have hV24 : zV (ma_u (ma_u (ma_u (ma_u m 99 l5.toNatClampNeg (1 : Int32)) 100 l5.toNatClampNeg (m 94 46)) 101 l5.toNatClampNeg l1) 102 l5.toNatClampNeg l2) := ua_102 hV22 (by omega) (by omega)
      have hV26 : zV (ma_u (ma_u (ma_u (ma_u (ma_u m 99 l5.toNatClampNeg (1 : Int32)) 100 l5.toNatClampNeg (m 94 46)) 101 l5.toNatClampNeg l1) 102 l5.toNatClampNeg l2) 103 l5.toNatClampNeg l4) := ua_103 hV24 (by omega) (by omega)
      have hV27 : zV (ma_u (ma_u (ma_u (ma_u (ma_u (ma_u m 99 l5.toNatClampNeg (1 : Int32)) 100 l5.toNatClampNeg (m 94 46)) 101 l5.toNatClampNeg l1) 102 l5.toNatClampNeg l2) 103 l5.toNatClampNeg l4) 111 l4.toNatClampNeg l5) := ua_111 hV26 (by omega) (by omega)
      have b28 := i_bd l3
      have q29 : ((ma_u m 102 l5.toNatClampNeg l2) 102 l5.toNatClampNeg).toInt = l2.toInt := congrArg Int32.toInt mu_self
      first | have f30 : 0 ≤ ((ma_u m 102 l5.toNatClampNeg l2) 102 l5.toNatClampNeg).toInt ∧ ((ma_u m 102 l5.toNatClampNeg l2) 102 l5.toNatClampNeg).toInt ≤ 60 := ra_102 (m := (ma_u (ma_u (ma_u (ma_u m 99 l5.toNatClampNeg (1 : Int32)) 100 l5.toNatClampNeg (m 94 46)) 101 l5.toNatClampNeg l1) 102 l5.toNatClampNeg l2)) hV24 (k := l5.toNatClampNeg) (i_ix (n := 3100) (by omega) (by omega)).2 | have b31 := i_bd ((ma_u m 102 l5.toNatClampNeg l2) 102 l5.toNatClampNeg)
      exact lp_183_88 (kk := kk) (nn := nn) (r1 := r1) h0 K _ _ (l2) (l3) (l4) (l5) rfl (zF_u (zF_u (zF_u (zF_u (zF_u (zF_u hF rfl) rfl) rfl) rfl) rfl) rfl) hV27 (by omega) (by omega) (by omega) (by omega) (by omega) (by omega) (by omega) (by omega) (by omega) (show (m 94 46).toInt ≤ 2999 from by omega) (show ((ma_u m 102 l5.toNatClampNeg l2) 102 l5.toNatClampNeg).toInt = l2.toInt from by omega) (show ((ma_u m 99 l5.toNatClampNeg (1 : Int32)) 99) l5.toNatClampNeg ≠ 0 from by first | (rw [mu_self]; decide; done) | (exfalso; omega; done) | (exfalso; contradiction; done)) (show zWn (m 94 7) (m 98) ((ma_u m 101 l5.toNatClampNeg l1) 101) ((ma_u m 102 l5.toNatClampNeg l2) 102) (m 108) l5.toNatClampNeg (0 : Int32).toNatClampNeg from by first | (exact Wn_0 r_W (fun t ht => mu_ne ht) (fun t ht => mu_ne ht) (by rw [mu_self]; assumption) rfl) | (exfalso; omega; done) | (exfalso; contradiction; done)) r_GW (show zGUp T (m 94 46) ((ma_u m 99 l5.toNatClampNeg (1 : Int32)) 99) from by first | (exact GUp_0 r_GU (by omega)) | (exfalso; omega; done) | (exfalso; contradiction; done)) (show zOw ((ma_u m 99 l5.toNatClampNeg (1 : Int32)) 99) ((ma_u m 103 l5.toNatClampNeg l4) 103) ((ma_u m 111 l4.toNatClampNeg l5) 111) from by first | (exact Ow_new r_OW (by assumption) (fun t ht => mu_ne ht) (by rw [mu_self]; decide) (fun t ht => mu_ne ht) mu_self (by omega) (fun t ht => mu_ne ht) (by rw [mu_self])) | (exact Ow_rm r_OW (by decide) (tn_cast (by omega)).symm) | (exfalso; omega; done) | (exfalso; contradiction; done)) (show zDX (m 94 10) (zmk ((ma_u m 99 l5.toNatClampNeg (1 : Int32)) 99) l5.toNatClampNeg) (m 112) (m 113) (m 114) (m 94 55) (m 98) ((ma_u m 101 l5.toNatClampNeg l1) 101) ((ma_u m 102 l5.toNatClampNeg l2) 102) (m 108) from by first | (exact DXn_0 r_DX (by assumption) (fun t ht => mu_ne ht) (fun t ht => mu_ne ht) (fun t ht => mu_ne ht)) | (exfalso; omega; done) | (exfalso; contradiction; done)) r_GG (show (m 94 58).toInt = 0 ∨ (m 94 10).toInt = 5 from by omega) (show zHAs (m 94 10) (m 94 11) (m 94 13) (m 94 14) (m 94 16) (m 94 61) (m 94 59) (m 94 60) ((ma_u m 99 l5.toNatClampNeg (1 : Int32)) 99) ((ma_u m 102 l5.toNatClampNeg l2) 102) ((ma_u m 103 l5.toNatClampNeg l4) 103) ((ma_u m 111 l4.toNatClampNeg l5) 111) from by first | (exact HAs_new r_HA r_PL (by omega) (by assumption) (by omega) (fun t ht => mu_ne ht) (by rw [mu_self]; decide) (fun t ht => mu_ne ht) (by rw [mu_self]; omega) (by rw [mu_self]; omega) (fun t ht => mu_ne ht) mu_self (fun t ht => mu_ne ht) (by rw [mu_self]) (by rw [mu_self]; omega) (fun t ht => (ra_103 hV ht).1) (fun t ht => (ra_102 hV ht).1)) | (exfalso; omega; done) | (exfalso; contradiction; done)) (show (m 94 10).toInt = 3 → zDC (m 94 14).toInt (m 94 16).toInt (zmk ((ma_u m 99 l5.toNatClampNeg (1 : Int32)) 99) l5.toNatClampNeg) ((ma_u m 103 l5.toNatClampNeg l4) 103) ((ma_u m 102 l5.toNatClampNeg l2) 102) (m 98) ((ma_u m 101 l5.toNatClampNeg l1) 101) (m 108) (m 117) from by first | (exact DCn_0 r_HA r_DX (by assumption) (fun t ht => mu_ne ht) (fun t ht => mu_ne ht) (fun t ht => mu_ne ht) (fun t ht => mu_ne ht)) | (exfalso; omega; done) | (exfalso; contradiction; done)) (show zRG (m 94 10) (m 94 18) (m 94 64) (m 94 63) ((ma_u m 99 l5.toNatClampNeg (1 : Int32)) 99) ((ma_u m 103 l5.toNatClampNeg l4) 103) ((ma_u m 102 l5.toNatClampNeg l2) 102) (m 116) from by first | (exact RG_new r_RGc r_PL (by omega) (fun t ht => mu_ne ht) (fun t ht => mu_ne ht) (by rw [mu_self]; omega) (fun t ht => mu_ne ht) mu_self) | (exfalso; omega; done) | (exfalso; contradiction; done))
    · skip
      have g32 := i_ne h9
      try have gk := AU_room r_AU r_GU (by omega)
      try have e21 : (l2 + (1 : Int32)).toInt = l2.toInt + 1 := i_addk rfl (by omega) (by omega)
      try have gun := GU_nu r_GU
      have b33 := i_bd l1
      have b34 := i_bd l2
      have b35 := i_bd l3
      have b36 := i_bd l4
      first | have e37 : (l5 + (1 : Int32)).toInt = l5.toInt + (1) := i_addk rfl (by omega) (by omega) | have b38 := i_bd (l5 + (1 : Int32))
      exact IH (3100 - (l5 + (1 : Int32)).toInt).toNat (by omega) _ (l1) (l2) (l3) (l4) ((l5 + (1 : Int32))) rfl hF hV (by omega) (by omega) (by omega) (by omega) (by omega) (by omega) (by omega) (by omega) (by omega) (by omega) (by omega) (show 16 ≤ l1.toInt ∨ l1.toInt < (m 94 7).toInt from by omega) r_W r_GW r_GU r_OW r_DX r_GG r_HA r_RGc (show (m 94 58).toInt = 0 ∨ (m 94 10).toInt = 5 from by omega) r_PL (show ∀ j : Nat, (j : Int) < (l5 + (1 : Int32)).toInt → (m 99) j ≠ 0 from by first | (exact AU_step r_AU (by omega) (by assumption) (by omega)) | (exfalso; omega; done) | (exfalso; contradiction; done))
set_option maxHeartbeats 8000000 in
theorem sp_183 {X : Nat × (Nat → Int32)} {P : Option ma_V → (Nat → Nat → Int32) → Prop} {T : Nat} {m : Nat → Nat → Int32} (kk : Int32) (nn : Int32) (r1 : Int32) (hV : zV m) (hpre0 : 0 ≤ nn.toInt) (hpre1 : nn.toInt ≤ 60) (hpre2 : 0 ≤ r1.toInt) (hpre3 : r1.toInt ≤ 15) (hpre4 : 0 ≤ kk.toInt) (hpre5 : kk.toInt ≤ 17) (hpre6 : T + 1 ≤ 3000) (hpre7 : 16 ≤ kk.toInt ∨ kk.toInt < (m 94 7).toInt) (r_W : zW (m 94 7) (m 98) (m 101) (m 102) (m 108)) (r_GW : zGW T (m 94 55) (m 109)) (r_GU : zGU T (m 94 46) (m 99)) (r_OW : zOw (m 99) (m 103) (m 111)) (r_DX : zDX (m 94 10) (m 99) (m 112) (m 113) (m 114) (m 94 55) (m 98) (m 101) (m 102) (m 108)) (r_GG : zGG (m 94 58) (m 94 56) (m 94 57) (m 106)) (r_HA : zHA (m 94 10) (m 94 11) (m 94 13) (m 94 14) (m 94 16) (m 94 61) (m 94 59) (m 94 60) (m 99) (m 102) (m 103) (m 111) (m 117) (m 98) (m 101) (m 108)) (r_RGc : zRG (m 94 10) (m 94 18) (m 94 64) (m 94 63) (m 99) (m 103) (m 102) (m 116)) (hpre16 : (m 94 58).toInt = 0 ∨ (m 94 10).toInt = 5) (KZ : ∀ v m₉, zV (zov wr_183 m m₉) → (zW (m 94 7) (m 98) (m₉ 101) (m₉ 102) (m₉ 108)) → (zGW (T + 1) (m₉ 94 55) (m₉ 109)) → (zGU (T + 1) (m₉ 94 46) (m₉ 99)) → (zOw (m₉ 99) (m₉ 103) (m₉ 111)) → (zDX (m 94 10) (m₉ 99) (m₉ 112) (m₉ 113) (m₉ 114) (m₉ 94 55) (m 98) (m₉ 101) (m₉ 102) (m₉ 108)) → (zGG (m₉ 94 58) (m₉ 94 56) (m₉ 94 57) (m₉ 106)) → (zHA (m 94 10) (m 94 11) (m 94 13) (m 94 14) (m 94 16) (m₉ 94 61) (m₉ 94 59) (m₉ 94 60) (m₉ 99) (m₉ 102) (m₉ 103) (m₉ 111) (m₉ 117) (m 98) (m₉ 101) (m₉ 108)) → (zRG (m 94 10) (m 94 18) (m 94 64) (m₉ 94 63) (m₉ 99) (m₉ 103) (m₉ 102) (m₉ 116)) → ((m₉ 94 58).toInt = 0 ∨ (m 94 10).toInt = 5) → P (some (.inl v)) (zov wr_183 m m₉)) : zm X 9 198 183 0 [(0, .inr (.inr (some 94))), (1, .inl kk), (2, .inl nn), (3, .inl r1)] m P := by
  have K : ∀ v m₉, zF wr_183 m m₉ → zV m₉ → (zW (m₉ 94 7) (m₉ 98) (m₉ 101) (m₉ 102) (m₉ 108)) → (zGW (T + 1) (m₉ 94 55) (m₉ 109)) → (zGU (T + 1) (m₉ 94 46) (m₉ 99)) → (zOw (m₉ 99) (m₉ 103) (m₉ 111)) → (zDX (m₉ 94 10) (m₉ 99) (m₉ 112) (m₉ 113) (m₉ 114) (m₉ 94 55) (m₉ 98) (m₉ 101) (m₉ 102) (m₉ 108)) → (zGG (m₉ 94 58) (m₉ 94 56) (m₉ 94 57) (m₉ 106)) → (zHA (m₉ 94 10) (m₉ 94 11) (m₉ 94 13) (m₉ 94 14) (m₉ 94 16) (m₉ 94 61) (m₉ 94 59) (m₉ 94 60) (m₉ 99) (m₉ 102) (m₉ 103) (m₉ 111) (m₉ 117) (m₉ 98) (m₉ 101) (m₉ 108)) → (zRG (m₉ 94 10) (m₉ 94 18) (m₉ 94 64) (m₉ 94 63) (m₉ 99) (m₉ 103) (m₉ 102) (m₉ 116)) → ((m₉ 94 58).toInt = 0 ∨ (m₉ 94 10).toInt = 5) → P (some (.inl v)) m₉ := by
    intro v m₉ hf z q0 q1 q2 q3 q4 q5 q6 q7 q8
    have e := zov_eq hf
    rw [e] at z ⊢
    try rw [e] at q0
    try rw [e] at q1
    try rw [e] at q2
    try rw [e] at q3
    try rw [e] at q4
    try rw [e] at q5
    try rw [e] at q6
    try rw [e] at q7
    try rw [e] at q8
    exact KZ v m₉ z q0 q1 q2 q3 q4 q5 q6 q7 q8
  refine g_183_0 kk nn r1 ?_
  have f1 : 0 ≤ (m 94 7).toInt ∧ (m 94 7).toInt ≤ 16 := rs_94_7 (m := m) hV
  have f2 : 0 ≤ (m 94 58).toInt ∧ (m 94 58).toInt ≤ 1 := rs_94_58 (m := m) hV
  have f3 : 0 ≤ (m 94 10).toInt ∧ (m 94 10).toInt ≤ 6 := rs_94_10 (m := m) hV
  have b4 := i_bd nn
  first | have e5 : (nn + (1 : Int32)).toInt = nn.toInt + (1) := i_addk rfl (by omega) (by omega) | have b6 := i_bd (nn + (1 : Int32))
  refine sp_184 ((nn + (1 : Int32))) hV (by omega) (by omega) r_W r_GW r_GU r_OW r_DX r_GG r_HA r_RGc (show (m 94 58).toInt = 0 ∨ (m 94 10).toInt = 5 from by omega) (fun v2 m1 hV_m1 p0_m1 p1_m1 p2_m1 p3_m1 p4_m1 p5_m1 p6_m1 p7_m1 p8_m1 => zmi_n ?_)
  have p0_m1 : zGW T (m1 94 55) (m1 109) := p0_m1
  have p1_m1 : zGU T (m 94 46) (m1 99) := p1_m1
  have p2_m1 : zOw (m1 99) (m1 103) (m1 111) := p2_m1
  have p3_m1 : zDX (m 94 10) (m1 99) (m 112) (m1 113) (m1 114) (m1 94 55) (m 98) (m 101) (m 102) (m 108) := p3_m1
  have p4_m1 : zGG (m1 94 58) (m1 94 56) (m1 94 57) (m1 106) := p4_m1
  have p5_m1 : zHA (m 94 10) (m 94 11) (m 94 13) (m 94 14) (m 94 16) (m1 94 61) (m1 94 59) (m1 94 60) (m1 99) (m 102) (m1 103) (m1 111) (m1 117) (m 98) (m 101) (m 108) := p5_m1
  have p6_m1 : zRG (m 94 10) (m 94 18) (m 94 64) (m1 94 63) (m1 99) (m1 103) (m 102) (m1 116) := p6_m1
  have p7_m1 : (m1 94 58).toInt = 0 ∨ (m 94 10).toInt = 5 := p7_m1
  have p8_m1 : zPL (m 94 10) (m 94 11) (m 94 13) (m 94 14) (m1 94 61) (m1 94 59) (m1 94 60) (m 94 18) (m 94 64) (m1 99) (m 102) (m1 103) (m1 111) v2 (nn + (1 : Int32)) := p8_m1
  have f7 : 0 ≤ (m1 94 58).toInt ∧ (m1 94 58).toInt ≤ 1 := rs_94_58 (m := (zov wr_184 m m1)) hV_m1
  try have plx := PL_lo p8_m1
  have li8 : (0 : Int32).toInt = 0 := rfl
  have b9 := i_bd v2
  refine zd (fun (h10 : (0 : Int32) ≤ v2) => ?_) (fun (h10 : ¬ (0 : Int32) ≤ v2) => ?_)
  · skip
    have g11 := i_le h10
    try have e21 : (l2 + (1 : Int32)).toInt = l2.toInt + 1 := i_addk rfl (by omega) (by omega)
    try have gun := GU_nu p1_m1
    have b12 := i_bd kk
    have b13 := i_bd r1
    exact lp_183_19 (kk := kk) (nn := nn) (r1 := r1) hV K _ _ (kk) (nn) (r1) (v2) ((0 : Int32)) rfl (zF_zov zF_rfl ws_184_183) hV_m1 (by omega) (by omega) (by omega) (by omega) (by omega) (by omega) (by omega) (by omega) (by omega) (by omega) (by omega) (show 16 ≤ kk.toInt ∨ kk.toInt < (m 94 7).toInt from by omega) r_W p0_m1 p1_m1 p2_m1 p3_m1 p4_m1 p5_m1 p6_m1 (show (m1 94 58).toInt = 0 ∨ (m 94 10).toInt = 5 from by omega) p8_m1 (show ∀ j : Nat, (j : Int) < (0 : Int32).toInt → (m1 99) j ≠ 0 from by first | (intro j hj; omega; done) | (exfalso; omega; done) | (exfalso; contradiction; done))
  · skip
    have g14 := i_nle h10
    try have e21 : (l2 + (1 : Int32)).toInt = l2.toInt + 1 := i_addk rfl (by omega) (by omega)
    try have gun := GU_nu p1_m1
    have li15 : (-1 : Int32).toInt = -1 := rfl
    exact K ((-1 : Int32)) _ (zF_zov zF_rfl ws_184_183) hV_m1 r_W (show zGW (T + 1) (m1 94 55) (m1 109) from by first | (exact GW_up p0_m1 (by omega)) | (exfalso; omega; done) | (exfalso; contradiction; done)) (show zGU (T + 1) (m 94 46) (m1 99) from by first | (exact GU_up p1_m1 (by omega)) | (exact GU_0 p1_m1) | (exfalso; omega; done) | (exfalso; contradiction; done)) p2_m1 p3_m1 p4_m1 p5_m1 p6_m1 (show (m1 94 58).toInt = 0 ∨ (m 94 10).toInt = 5 from by omega)

