/-! from 94.492 -/
/-! the reference (written by wip/tools/gen94m.py) -/
set_option maxRecDepth 100000 in
theorem hm_183 : ma_md 183 = some (12, yX12_fresh, cX12_fresh, 7, (some (FieldType.int))) := rfl
theorem v_12_478_12 : ma_vl 12 478 12 = some (1, 184, 1) := by decide +kernel
theorem dX12_fresh_0 : decode cX12_fresh 0 = .ok (.aload_n 0, 1) := by decide +kernel
theorem dX12_fresh_1 : decode cX12_fresh 1 = .ok (.iload_n 2, 1) := by decide +kernel
theorem dX12_fresh_2 : decode cX12_fresh 2 = .ok (.iconst 1, 1) := by decide +kernel
theorem dX12_fresh_3 : decode cX12_fresh 3 = .ok (.iadd, 1) := by decide +kernel
theorem dX12_fresh_4 : decode cX12_fresh 4 = .ok (.invokevirtual 478, 3) := by decide +kernel
theorem dX12_fresh_7 : decode cX12_fresh 7 = .ok (.istore 4, 2) := by decide +kernel
theorem dX12_fresh_9 : decode cX12_fresh 9 = .ok (.iload 4, 2) := by decide +kernel
theorem dX12_fresh_16 : decode cX12_fresh 16 = .ok (.iconst 0, 1) := by decide +kernel
theorem dX12_fresh_17 : decode cX12_fresh 17 = .ok (.istore 5, 2) := by decide +kernel
theorem dX12_fresh_14 : decode cX12_fresh 14 = .ok (.iconst (-1), 1) := by decide +kernel
theorem dX12_fresh_15 : decode cX12_fresh 15 = .ok (.ireturn, 1) := by decide +kernel
theorem dX12_fresh_11 : decode cX12_fresh 11 = .ok (.ifCond .ge 5, 3) := by decide +kernel
theorem dX12_fresh_19 : decode cX12_fresh 19 = .ok (.aload_n 0, 1) := by decide +kernel
theorem dX12_fresh_23 : decode cX12_fresh 23 = .ok (.iload 5, 2) := by decide +kernel
theorem dX12_fresh_35 : decode cX12_fresh 35 = .ok (.aload_n 0, 1) := by decide +kernel
theorem dX12_fresh_39 : decode cX12_fresh 39 = .ok (.iload 5, 2) := by decide +kernel
theorem dX12_fresh_41 : decode cX12_fresh 41 = .ok (.iconst 1, 1) := by decide +kernel
theorem dX12_fresh_43 : decode cX12_fresh 43 = .ok (.aload_n 0, 1) := by decide +kernel
theorem dX12_fresh_47 : decode cX12_fresh 47 = .ok (.iload 5, 2) := by decide +kernel
theorem dX12_fresh_49 : decode cX12_fresh 49 = .ok (.aload_n 0, 1) := by decide +kernel
theorem dX12_fresh_54 : decode cX12_fresh 54 = .ok (.aload_n 0, 1) := by decide +kernel
theorem dX12_fresh_58 : decode cX12_fresh 58 = .ok (.iload 5, 2) := by decide +kernel
theorem dX12_fresh_60 : decode cX12_fresh 60 = .ok (.iload_n 1, 1) := by decide +kernel
theorem dX12_fresh_62 : decode cX12_fresh 62 = .ok (.aload_n 0, 1) := by decide +kernel
theorem dX12_fresh_66 : decode cX12_fresh 66 = .ok (.iload 5, 2) := by decide +kernel
theorem dX12_fresh_68 : decode cX12_fresh 68 = .ok (.iload_n 2, 1) := by decide +kernel
theorem dX12_fresh_70 : decode cX12_fresh 70 = .ok (.aload_n 0, 1) := by decide +kernel
theorem dX12_fresh_74 : decode cX12_fresh 74 = .ok (.iload 5, 2) := by decide +kernel
theorem dX12_fresh_76 : decode cX12_fresh 76 = .ok (.iload 4, 2) := by decide +kernel
theorem dX12_fresh_79 : decode cX12_fresh 79 = .ok (.aload_n 0, 1) := by decide +kernel
theorem dX12_fresh_83 : decode cX12_fresh 83 = .ok (.iload 4, 2) := by decide +kernel
theorem dX12_fresh_85 : decode cX12_fresh 85 = .ok (.iload 5, 2) := by decide +kernel
theorem dX12_fresh_87 : decode cX12_fresh 87 = .ok (.iastore, 1) := by decide +kernel
theorem dX12_fresh_80 : decode cX12_fresh 80 = .ok (.getfield 65, 3) := by decide +kernel
theorem dX12_fresh_78 : decode cX12_fresh 78 = .ok (.iastore, 1) := by decide +kernel
theorem dX12_fresh_71 : decode cX12_fresh 71 = .ok (.getfield 40, 3) := by decide +kernel
theorem dX12_fresh_69 : decode cX12_fresh 69 = .ok (.iastore, 1) := by decide +kernel
theorem dX12_fresh_63 : decode cX12_fresh 63 = .ok (.getfield 37, 3) := by decide +kernel
theorem dX12_fresh_61 : decode cX12_fresh 61 = .ok (.iastore, 1) := by decide +kernel
theorem dX12_fresh_55 : decode cX12_fresh 55 = .ok (.getfield 34, 3) := by decide +kernel
theorem dX12_fresh_53 : decode cX12_fresh 53 = .ok (.iastore, 1) := by decide +kernel
theorem dX12_fresh_50 : decode cX12_fresh 50 = .ok (.getfield 246, 3) := by decide +kernel
theorem dX12_fresh_44 : decode cX12_fresh 44 = .ok (.getfield 31, 3) := by decide +kernel
theorem dX12_fresh_42 : decode cX12_fresh 42 = .ok (.bastore, 1) := by decide +kernel
theorem dX12_fresh_36 : decode cX12_fresh 36 = .ok (.getfield 27, 3) := by decide +kernel
theorem dX12_fresh_29 : decode cX12_fresh 29 = .ok (.iinc 5 1, 3) := by decide +kernel
theorem dX12_fresh_32 : decode cX12_fresh 32 = .ok (.goto (-13), 3) := by decide +kernel
theorem dX12_fresh_26 : decode cX12_fresh 26 = .ok (.ifCond .eq 9, 3) := by decide +kernel
theorem dX12_fresh_25 : decode cX12_fresh 25 = .ok (.baload, 1) := by decide +kernel
theorem dX12_fresh_20 : decode cX12_fresh 20 = .ok (.getfield 27, 3) := by decide +kernel
theorem dX12_fresh_88 : decode cX12_fresh 88 = .ok (.aload_n 0, 1) := by decide +kernel
theorem dX12_fresh_92 : decode cX12_fresh 92 = .ok (.iload 5, 2) := by decide +kernel
theorem dX12_fresh_94 : decode cX12_fresh 94 = .ok (.iconst 0, 1) := by decide +kernel
theorem dX12_fresh_96 : decode cX12_fresh 96 = .ok (.aload_n 0, 1) := by decide +kernel
theorem dX12_fresh_100 : decode cX12_fresh 100 = .ok (.iload 5, 2) := by decide +kernel
theorem dX12_fresh_102 : decode cX12_fresh 102 = .ok (.iconst 0, 1) := by decide +kernel
theorem dX12_fresh_104 : decode cX12_fresh 104 = .ok (.aload_n 0, 1) := by decide +kernel
theorem dX12_fresh_108 : decode cX12_fresh 108 = .ok (.iload 5, 2) := by decide +kernel
theorem dX12_fresh_110 : decode cX12_fresh 110 = .ok (.aload_n 0, 1) := by decide +kernel
theorem dX12_fresh_121 : decode cX12_fresh 121 = .ok (.iconst 0, 1) := by decide +kernel
theorem dX12_fresh_122 : decode cX12_fresh 122 = .ok (.iastore, 1) := by decide +kernel
theorem dX12_fresh_117 : decode cX12_fresh 117 = .ok (.iconst 2, 1) := by decide +kernel
theorem dX12_fresh_118 : decode cX12_fresh 118 = .ok (.goto 4, 3) := by decide +kernel
theorem dX12_fresh_114 : decode cX12_fresh 114 = .ok (.ifCond .eq 7, 3) := by decide +kernel
theorem dX12_fresh_111 : decode cX12_fresh 111 = .ok (.getfield 270, 3) := by decide +kernel
theorem dX12_fresh_105 : decode cX12_fresh 105 = .ok (.getfield 49, 3) := by decide +kernel
theorem dX12_fresh_103 : decode cX12_fresh 103 = .ok (.iastore, 1) := by decide +kernel
theorem dX12_fresh_97 : decode cX12_fresh 97 = .ok (.getfield 46, 3) := by decide +kernel
theorem dX12_fresh_95 : decode cX12_fresh 95 = .ok (.iastore, 1) := by decide +kernel
theorem dX12_fresh_89 : decode cX12_fresh 89 = .ok (.getfield 43, 3) := by decide +kernel
theorem dX12_fresh_123 : decode cX12_fresh 123 = .ok (.aload_n 0, 1) := by decide +kernel
theorem dX12_fresh_127 : decode cX12_fresh 127 = .ok (.iload 5, 2) := by decide +kernel
theorem dX12_fresh_129 : decode cX12_fresh 129 = .ok (.iconst 0, 1) := by decide +kernel
theorem dX12_fresh_131 : decode cX12_fresh 131 = .ok (.aload_n 0, 1) := by decide +kernel
theorem dX12_fresh_135 : decode cX12_fresh 135 = .ok (.iload 5, 2) := by decide +kernel
theorem dX12_fresh_137 : decode cX12_fresh 137 = .ok (.iconst 0, 1) := by decide +kernel
theorem dX12_fresh_139 : decode cX12_fresh 139 = .ok (.iconst 0, 1) := by decide +kernel
theorem dX12_fresh_140 : decode cX12_fresh 140 = .ok (.istore 6, 2) := by decide +kernel
theorem dX12_fresh_138 : decode cX12_fresh 138 = .ok (.bastore, 1) := by decide +kernel
theorem dX12_fresh_132 : decode cX12_fresh 132 = .ok (.getfield 59, 3) := by decide +kernel
theorem dX12_fresh_130 : decode cX12_fresh 130 = .ok (.iastore, 1) := by decide +kernel
theorem dX12_fresh_124 : decode cX12_fresh 124 = .ok (.getfield 52, 3) := by decide +kernel
theorem dX12_fresh_142 : decode cX12_fresh 142 = .ok (.iload 6, 2) := by decide +kernel
theorem dX12_fresh_144 : decode cX12_fresh 144 = .ok (.iload_n 2, 1) := by decide +kernel
theorem dX12_fresh_183 : decode cX12_fresh 183 = .ok (.aload_n 0, 1) := by decide +kernel
theorem dX12_fresh_184 : decode cX12_fresh 184 = .ok (.dup, 1) := by decide +kernel
theorem dX12_fresh_188 : decode cX12_fresh 188 = .ok (.iconst 1, 1) := by decide +kernel
theorem dX12_fresh_189 : decode cX12_fresh 189 = .ok (.iadd, 1) := by decide +kernel
theorem dX12_fresh_193 : decode cX12_fresh 193 = .ok (.aload_n 0, 1) := by decide +kernel
theorem dX12_fresh_194 : decode cX12_fresh 194 = .ok (.dup, 1) := by decide +kernel
theorem dX12_fresh_198 : decode cX12_fresh 198 = .ok (.iconst 1, 1) := by decide +kernel
theorem dX12_fresh_199 : decode cX12_fresh 199 = .ok (.iadd, 1) := by decide +kernel
theorem dX12_fresh_203 : decode cX12_fresh 203 = .ok (.aload_n 0, 1) := by decide +kernel
theorem dX12_fresh_204 : decode cX12_fresh 204 = .ok (.dup, 1) := by decide +kernel
theorem dX12_fresh_208 : decode cX12_fresh 208 = .ok (.iload_n 2, 1) := by decide +kernel
theorem dX12_fresh_209 : decode cX12_fresh 209 = .ok (.iconst 1, 1) := by decide +kernel
theorem dX12_fresh_210 : decode cX12_fresh 210 = .ok (.iadd, 1) := by decide +kernel
theorem dX12_fresh_211 : decode cX12_fresh 211 = .ok (.iadd, 1) := by decide +kernel
theorem dX12_fresh_215 : decode cX12_fresh 215 = .ok (.aload_n 0, 1) := by decide +kernel
theorem dX12_fresh_216 : decode cX12_fresh 216 = .ok (.iload 4, 2) := by decide +kernel
theorem dX12_fresh_218 : decode cX12_fresh 218 = .ok (.iload_n 2, 1) := by decide +kernel
theorem dX12_fresh_219 : decode cX12_fresh 219 = .ok (.iadd, 1) := by decide +kernel
theorem dX12_fresh_220 : decode cX12_fresh 220 = .ok (.iconst 1, 1) := by decide +kernel
theorem dX12_fresh_221 : decode cX12_fresh 221 = .ok (.iadd, 1) := by decide +kernel
theorem dX12_fresh_225 : decode cX12_fresh 225 = .ok (.aload_n 0, 1) := by decide +kernel
theorem dX12_fresh_226 : decode cX12_fresh 226 = .ok (.iload_n 3, 1) := by decide +kernel
theorem dX12_fresh_227 : decode cX12_fresh 227 = .ok (.iload 5, 2) := by decide +kernel
theorem dX12_fresh_229 : decode cX12_fresh 229 = .ok (.invokevirtual 481, 3) := by decide +kernel
theorem dX12_fresh_232 : decode cX12_fresh 232 = .ok (.aload_n 0, 1) := by decide +kernel
theorem dX12_fresh_236 : decode cX12_fresh 236 = .ok (.iload 5, 2) := by decide +kernel
theorem dX12_fresh_239 : decode cX12_fresh 239 = .ok (.ireturn, 1) := by decide +kernel
theorem dX12_fresh_238 : decode cX12_fresh 238 = .ok (.iaload, 1) := by decide +kernel
theorem dX12_fresh_233 : decode cX12_fresh 233 = .ok (.getfield 31, 3) := by decide +kernel
theorem dX12_fresh_222 : decode cX12_fresh 222 = .ok (.putfield 282, 3) := by decide +kernel
theorem dX12_fresh_212 : decode cX12_fresh 212 = .ok (.putfield 243, 3) := by decide +kernel
theorem dX12_fresh_205 : decode cX12_fresh 205 = .ok (.getfield 243, 3) := by decide +kernel
theorem dX12_fresh_200 : decode cX12_fresh 200 = .ok (.putfield 240, 3) := by decide +kernel
theorem dX12_fresh_195 : decode cX12_fresh 195 = .ok (.getfield 240, 3) := by decide +kernel
theorem dX12_fresh_190 : decode cX12_fresh 190 = .ok (.putfield 246, 3) := by decide +kernel
theorem dX12_fresh_185 : decode cX12_fresh 185 = .ok (.getfield 246, 3) := by decide +kernel
theorem dX12_fresh_148 : decode cX12_fresh 148 = .ok (.aload_n 0, 1) := by decide +kernel
theorem dX12_fresh_152 : decode cX12_fresh 152 = .ok (.iload 5, 2) := by decide +kernel
theorem dX12_fresh_154 : decode cX12_fresh 154 = .ok (.bipush 60, 2) := by decide +kernel
theorem dX12_fresh_156 : decode cX12_fresh 156 = .ok (.imul, 1) := by decide +kernel
theorem dX12_fresh_157 : decode cX12_fresh 157 = .ok (.iload 6, 2) := by decide +kernel
theorem dX12_fresh_159 : decode cX12_fresh 159 = .ok (.iadd, 1) := by decide +kernel
theorem dX12_fresh_160 : decode cX12_fresh 160 = .ok (.aload_n 0, 1) := by decide +kernel
theorem dX12_fresh_161 : decode cX12_fresh 161 = .ok (.iload 5, 2) := by decide +kernel
theorem dX12_fresh_163 : decode cX12_fresh 163 = .ok (.iload 6, 2) := by decide +kernel
theorem dX12_fresh_165 : decode cX12_fresh 165 = .ok (.invokevirtual 288, 3) := by decide +kernel
theorem dX12_fresh_168 : decode cX12_fresh 168 = .ok (.ifCond .eq 7, 3) := by decide +kernel
theorem dX12_fresh_171 : decode cX12_fresh 171 = .ok (.iconst (-1), 1) := by decide +kernel
theorem dX12_fresh_172 : decode cX12_fresh 172 = .ok (.goto 4, 3) := by decide +kernel
theorem dX12_fresh_177 : decode cX12_fresh 177 = .ok (.iinc 6 1, 3) := by decide +kernel
theorem dX12_fresh_180 : decode cX12_fresh 180 = .ok (.goto (-38), 3) := by decide +kernel
theorem dX12_fresh_176 : decode cX12_fresh 176 = .ok (.iastore, 1) := by decide +kernel
theorem dX12_fresh_175 : decode cX12_fresh 175 = .ok (.iconst 0, 1) := by decide +kernel
theorem dX12_fresh_149 : decode cX12_fresh 149 = .ok (.getfield 56, 3) := by decide +kernel
theorem dX12_fresh_145 : decode cX12_fresh 145 = .ok (.if_icmp .ge 38, 3) := by decide +kernel
def wr_183 (c k : Nat) : Bool := Nat.beq c 99 || Nat.beq c 100 || Nat.beq c 101 || Nat.beq c 102 || Nat.beq c 103 || Nat.beq c 104 || Nat.beq c 105 || Nat.beq c 106 || Nat.beq c 107 || Nat.beq c 108 || Nat.beq c 109 || Nat.beq c 110 || Nat.beq c 111 || Nat.beq c 112 || Nat.beq c 113 || Nat.beq c 114 || Nat.beq c 115 || Nat.beq c 116 || Nat.beq c 117 || Nat.beq c 118 || Nat.beq c 119 || Nat.beq c 120 || Nat.beq c 121 || Nat.beq c 122 || Nat.beq c 123 || Nat.beq c 124 || (Nat.beq c 94 && (Nat.beq k 44 || Nat.beq k 45 || Nat.beq k 46 || Nat.beq k 47 || Nat.beq k 48 || Nat.beq k 49 || Nat.beq k 50 || Nat.beq k 55 || Nat.beq k 56 || Nat.beq k 57 || Nat.beq k 58 || Nat.beq k 59 || Nat.beq k 60 || Nat.beq k 61 || Nat.beq k 62 || Nat.beq k 63 || Nat.beq k 73 || Nat.beq k 75 || Nat.beq k 76 || Nat.beq k 77 || Nat.beq k 80 || Nat.beq k 84))
theorem ws_184_183 : ∀ c k, wr_184 c k = true → wr_183 c k = true := by
  intro c k h
  simp only [wr_184, Bool.or_eq_true, Bool.and_eq_true, Nat.beq_eq] at h
  rcases h with (((((((((((((((((rfl | rfl) | rfl) | rfl) | rfl) | rfl) | rfl) | rfl) | rfl) | rfl) | rfl) | rfl) | rfl) | rfl) | rfl) | rfl) | rfl) | rfl) | ⟨rfl, ((((((((((((((((((rfl | rfl) | rfl) | rfl) | rfl) | rfl) | rfl) | rfl) | rfl) | rfl) | rfl) | rfl) | rfl) | rfl) | rfl) | rfl) | rfl) | rfl) | rfl)⟩ <;> rfl
theorem ws_238_183 : ∀ c k, wr_238 c k = true → wr_183 c k = true := by
  intro c k h
  simp only [wr_238, Bool.or_eq_true, Bool.and_eq_true, Nat.beq_eq] at h
  rcases h with ((((((((((rfl | rfl) | rfl) | rfl) | rfl) | rfl) | rfl) | rfl) | rfl) | rfl) | rfl) | ⟨rfl, (((((rfl | rfl) | rfl) | rfl) | rfl) | rfl)⟩ <;> rfl
theorem g_183_0 {X : Nat × (Nat → Int32)} {m : Nat → Nat → Int32} {P : Option ma_V → (Nat → Nat → Int32) → Prop} (kk : Int32) (nn : Int32) (r1 : Int32) (h : zm X 8 175 184 0 [(0, .inr (.inr (some 94))), (1, .inl (nn + (1 : Int32)))] m (zmi (fun v2 m1 => if 0 ≤ v2 then (zm X 9 198 183 19 [(0, .inr (.inr (some 94))), (1, .inl kk), (2, .inl nn), (3, .inl r1), (4, .inl v2), (5, .inl (0 : Int32))] m1 P) else (P (some (.inl (-1 : Int32))) m1)))) : zm X 9 198 183 0 [(0, .inr (.inr (some 94))), (1, .inl kk), (2, .inl nn), (3, .inl r1)] m P := by
  intro d w S Q hd hw hS hm HQ
  subst hm
  refine zw_push hm_183 dX12_fresh_0 (v := .inr (.inr (some 94))) rfl ?_
  refine zw_push hm_183 dX12_fresh_1 (v := .inl nn) rfl ?_
  refine zw_push hm_183 dX12_fresh_2 (v := .inl (1 : Int32)) rfl ?_
  refine zw_stk hm_183 dX12_fresh_3 (st₉ := [.inl (nn + (1 : Int32)), .inr (.inr (some 94))]) rfl rfl ?_
  refine zw_cv hm_183 dX12_fresh_4 v_12_478_12 hm_184 [.inl (nn + (1 : Int32))] [] rfl (zT_rt hS s_94 rfl) ⟨by omega, by omega⟩ rfl (h _ _ S _ (by omega) (by omega) hS rfl (fun o9 m1 hv => ?_))
  obtain ⟨v2, rfl, h⟩ := zmi_of hv
  show ma_wp X d w 183 7 [(0, .inr (.inr (some 94))), (1, .inl kk), (2, .inl nn), (3, .inl r1)] [.inl v2] (zst S m1) _
  refine zw_sto hm_183 dX12_fresh_7 [(4, .inl v2), (0, .inr (.inr (some 94))), (1, .inl kk), (2, .inl nn), (3, .inl r1)] rfl rfl rfl ?_
  refine zw_push hm_183 dX12_fresh_9 (v := .inl v2) rfl ?_
  refine zw_if0 hm_183 dX12_fresh_11 (t := 16) rfl zc0_ge ?_ ?_
  · intro hc
    rw [if_pos hc] at h
    refine zw_push hm_183 dX12_fresh_16 (v := .inl (0 : Int32)) rfl ?_
    refine zw_sto hm_183 dX12_fresh_17 [(5, .inl (0 : Int32)), (4, .inl v2), (0, .inr (.inr (some 94))), (1, .inl kk), (2, .inl nn), (3, .inl r1)] rfl rfl rfl ?_
    exact zw_sub (ma_nd_of (ks := [0, 1, 2, 3, 4, 5]) rfl (by decide)) (ma_nd_of (ks := [5, 4, 0, 1, 2, 3]) rfl (by decide)) (ma_le_cons rfl (ma_le_cons rfl (ma_le_cons rfl (ma_le_cons rfl (ma_le_cons rfl (ma_le_cons rfl (ma_le_nil _))))))) (h d w _ Q (by omega) (by omega) (zT_zst hS m1) rfl HQ)
  · intro hc
    rw [if_neg hc] at h
    refine zw_push hm_183 dX12_fresh_14 (v := .inl (-1 : Int32)) rfl ?_
    exact zw_iret hm_183 dX12_fresh_15 (HQ _ _ h)
theorem g_183_19 {X : Nat × (Nat → Int32)} {m : Nat → Nat → Int32} {P : Option ma_V → (Nat → Nat → Int32) → Prop} (l1 : Int32) (l2 : Int32) (l3 : Int32) (l4 : Int32) (l5 : Int32) (h : (0 ≤ l5 ∧ l5.toNatClampNeg < 3100) ∧ (if (m 99 l5.toNatClampNeg) = 0 then ((0 ≤ l5 ∧ l5.toNatClampNeg < 3100) ∧ ((0 ≤ l5 ∧ l5.toNatClampNeg < 3100) ∧ ((0 ≤ l5 ∧ l5.toNatClampNeg < 3100) ∧ ((0 ≤ l5 ∧ l5.toNatClampNeg < 3100) ∧ ((0 ≤ l5 ∧ l5.toNatClampNeg < 3100) ∧ ((0 ≤ l4 ∧ l4.toNatClampNeg < 4600) ∧ (zm X 9 198 183 88 [(0, .inr (.inr (some 94))), (2, .inl l2), (3, .inl l3), (4, .inl l4), (5, .inl l5)] (ma_u (ma_u (ma_u (ma_u (ma_u (ma_u m 99 l5.toNatClampNeg (1 : Int32)) 100 l5.toNatClampNeg (m 94 46)) 101 l5.toNatClampNeg l1) 102 l5.toNatClampNeg l2) 103 l5.toNatClampNeg l4) 111 l4.toNatClampNeg l5) P))))))) else (zm X 9 198 183 19 [(0, .inr (.inr (some 94))), (1, .inl l1), (2, .inl l2), (3, .inl l3), (4, .inl l4), (5, .inl (l5 + (1 : Int32)))] m P))) : zm X 9 198 183 19 [(0, .inr (.inr (some 94))), (1, .inl l1), (2, .inl l2), (3, .inl l3), (4, .inl l4), (5, .inl l5)] m P := by
  intro d w S Q hd hw hS hm HQ
  subst hm
  refine zw_push hm_183 dX12_fresh_19 (v := .inr (.inr (some 94))) rfl ?_
  refine zw_gf hm_183 dX12_fresh_20 (v := .inr (.inr (some 99))) (zT_is hS s_94) (zT_t hS s_94) rfl f_12_27_12 (zT_f hS r_94_31) ?_
  refine zw_push hm_183 dX12_fresh_23 (v := .inl l5) rfl ?_
  obtain ⟨hg, h⟩ := h
  refine zw_ba hm_183 dX12_fresh_25 (zT_is hS s_99) (zT_h hS s_99) rfl rfl hg ?_
  show ma_wp X d w 183 26 [(0, .inr (.inr (some 94))), (1, .inl l1), (2, .inl l2), (3, .inl l3), (4, .inl l4), (5, .inl l5)] [.inl ((mI S) 99 l5.toNatClampNeg)] S _
  refine zw_if0 hm_183 dX12_fresh_26 (t := 35) rfl zc0_eq ?_ ?_
  · intro hc
    rw [if_pos hc] at h
    refine zw_push hm_183 dX12_fresh_35 (v := .inr (.inr (some 94))) rfl ?_
    refine zw_gf hm_183 dX12_fresh_36 (v := .inr (.inr (some 99))) (zT_is hS s_94) (zT_t hS s_94) rfl f_12_27_12 (zT_f hS r_94_31) ?_
    refine zw_push hm_183 dX12_fresh_39 (v := .inl l5) rfl ?_
    refine zw_push hm_183 dX12_fresh_41 (v := .inl (1 : Int32)) rfl ?_
    obtain ⟨hg, h⟩ := h
    refine zw_bas22l hm_183 dX12_fresh_42 (hx := by decide) (yv := (1 : Int32)) (zT_is hS s_99) (zT_h hS s_99) rfl hg ?_
    refine zw_push hm_183 dX12_fresh_43 (v := .inr (.inr (some 94))) rfl ?_
    refine zw_gf hm_183 dX12_fresh_44 (v := .inr (.inr (some 100))) (zT_is (zT_pi hS) s_94) (zT_t (zT_pi hS) s_94) rfl f_12_31_12 (zT_f (zT_pi hS) r_94_32) ?_
    refine zw_push hm_183 dX12_fresh_47 (v := .inl l5) rfl ?_
    refine zw_push hm_183 dX12_fresh_49 (v := .inr (.inr (some 94))) rfl ?_
    refine zw_gf hm_183 dX12_fresh_50 (v := .inl ((mI S) 94 46)) (zT_is (zT_pi hS) s_94) (zT_t (zT_pi hS) s_94) rfl f_12_246_12 rfl ?_
    obtain ⟨hg, h⟩ := h
    refine zw_ias hm_183 dX12_fresh_53 (zT_is (zT_pi hS) s_100) (zT_h (zT_pi hS) s_100) rfl hg ?_
    refine zw_push hm_183 dX12_fresh_54 (v := .inr (.inr (some 94))) rfl ?_
    refine zw_gf hm_183 dX12_fresh_55 (v := .inr (.inr (some 101))) (zT_is (zT_pi (zT_pi hS)) s_94) (zT_t (zT_pi (zT_pi hS)) s_94) rfl f_12_34_12 (zT_f (zT_pi (zT_pi hS)) r_94_33) ?_
    refine zw_push hm_183 dX12_fresh_58 (v := .inl l5) rfl ?_
    refine zw_push hm_183 dX12_fresh_60 (v := .inl l1) rfl ?_
    obtain ⟨hg, h⟩ := h
    refine zw_ias hm_183 dX12_fresh_61 (zT_is (zT_pi (zT_pi hS)) s_101) (zT_h (zT_pi (zT_pi hS)) s_101) rfl hg ?_
    refine zw_push hm_183 dX12_fresh_62 (v := .inr (.inr (some 94))) rfl ?_
    refine zw_gf hm_183 dX12_fresh_63 (v := .inr (.inr (some 102))) (zT_is (zT_pi (zT_pi (zT_pi hS))) s_94) (zT_t (zT_pi (zT_pi (zT_pi hS))) s_94) rfl f_12_37_12 (zT_f (zT_pi (zT_pi (zT_pi hS))) r_94_34) ?_
    refine zw_push hm_183 dX12_fresh_66 (v := .inl l5) rfl ?_
    refine zw_push hm_183 dX12_fresh_68 (v := .inl l2) rfl ?_
    obtain ⟨hg, h⟩ := h
    refine zw_ias hm_183 dX12_fresh_69 (zT_is (zT_pi (zT_pi (zT_pi hS))) s_102) (zT_h (zT_pi (zT_pi (zT_pi hS))) s_102) rfl hg ?_
    refine zw_push hm_183 dX12_fresh_70 (v := .inr (.inr (some 94))) rfl ?_
    refine zw_gf hm_183 dX12_fresh_71 (v := .inr (.inr (some 103))) (zT_is (zT_pi (zT_pi (zT_pi (zT_pi hS)))) s_94) (zT_t (zT_pi (zT_pi (zT_pi (zT_pi hS)))) s_94) rfl f_12_40_12 (zT_f (zT_pi (zT_pi (zT_pi (zT_pi hS)))) r_94_35) ?_
    refine zw_push hm_183 dX12_fresh_74 (v := .inl l5) rfl ?_
    refine zw_push hm_183 dX12_fresh_76 (v := .inl l4) rfl ?_
    obtain ⟨hg, h⟩ := h
    refine zw_ias hm_183 dX12_fresh_78 (zT_is (zT_pi (zT_pi (zT_pi (zT_pi hS)))) s_103) (zT_h (zT_pi (zT_pi (zT_pi (zT_pi hS)))) s_103) rfl hg ?_
    refine zw_push hm_183 dX12_fresh_79 (v := .inr (.inr (some 94))) rfl ?_
    refine zw_gf hm_183 dX12_fresh_80 (v := .inr (.inr (some 111))) (zT_is (zT_pi (zT_pi (zT_pi (zT_pi (zT_pi hS))))) s_94) (zT_t (zT_pi (zT_pi (zT_pi (zT_pi (zT_pi hS))))) s_94) rfl f_12_65_12 (zT_f (zT_pi (zT_pi (zT_pi (zT_pi (zT_pi hS))))) r_94_43) ?_
    refine zw_push hm_183 dX12_fresh_83 (v := .inl l4) rfl ?_
    refine zw_push hm_183 dX12_fresh_85 (v := .inl l5) rfl ?_
    obtain ⟨hg, h⟩ := h
    refine zw_ias hm_183 dX12_fresh_87 (zT_is (zT_pi (zT_pi (zT_pi (zT_pi (zT_pi hS))))) s_111) (zT_h (zT_pi (zT_pi (zT_pi (zT_pi (zT_pi hS))))) s_111) rfl hg ?_
    exact zw_sub (ma_nd_of (ks := [0, 2, 3, 4, 5]) rfl (by decide)) (ma_nd_of (ks := [0, 1, 2, 3, 4, 5]) rfl (by decide)) (ma_le_cons rfl (ma_le_cons rfl (ma_le_cons rfl (ma_le_cons rfl (ma_le_cons rfl (ma_le_nil _)))))) (h d w _ Q (by omega) (by omega) (zT_pi (zT_pi (zT_pi (zT_pi (zT_pi (zT_pi hS)))))) rfl HQ)
  · intro hc
    rw [if_neg hc] at h
    refine zw_sto hm_183 dX12_fresh_29 [(5, .inl (l5 + (1 : Int32))), (0, .inr (.inr (some 94))), (1, .inl l1), (2, .inl l2), (3, .inl l3), (4, .inl l4)] rfl rfl rfl ?_
    refine zw_goto hm_183 dX12_fresh_32 (t := 19) rfl ?_
    exact zw_sub (ma_nd_of (ks := [0, 1, 2, 3, 4, 5]) rfl (by decide)) (ma_nd_of (ks := [5, 0, 1, 2, 3, 4]) rfl (by decide)) (ma_le_cons rfl (ma_le_cons rfl (ma_le_cons rfl (ma_le_cons rfl (ma_le_cons rfl (ma_le_cons rfl (ma_le_nil _))))))) (h d w _ Q (by omega) (by omega) hS rfl HQ)
theorem g_183_88 {X : Nat × (Nat → Int32)} {m : Nat → Nat → Int32} {P : Option ma_V → (Nat → Nat → Int32) → Prop} (l2 : Int32) (l3 : Int32) (l4 : Int32) (l5 : Int32) (h : (0 ≤ l5 ∧ l5.toNatClampNeg < 3100) ∧ ((0 ≤ l5 ∧ l5.toNatClampNeg < 3100) ∧ (if (m 94 58) = 0 then ((0 ≤ l5 ∧ l5.toNatClampNeg < 3100) ∧ (zm X 9 198 183 123 [(0, .inr (.inr (some 94))), (2, .inl l2), (3, .inl l3), (4, .inl l4), (5, .inl l5)] (ma_u (ma_u (ma_u m 104 l5.toNatClampNeg (0 : Int32)) 105 l5.toNatClampNeg (0 : Int32)) 106 l5.toNatClampNeg (0 : Int32)) P)) else ((0 ≤ l5 ∧ l5.toNatClampNeg < 3100) ∧ (zm X 9 198 183 123 [(0, .inr (.inr (some 94))), (2, .inl l2), (3, .inl l3), (4, .inl l4), (5, .inl l5)] (ma_u (ma_u (ma_u m 104 l5.toNatClampNeg (0 : Int32)) 105 l5.toNatClampNeg (0 : Int32)) 106 l5.toNatClampNeg (2 : Int32)) P))))) : zm X 9 198 183 88 [(0, .inr (.inr (some 94))), (2, .inl l2), (3, .inl l3), (4, .inl l4), (5, .inl l5)] m P := by
  intro d w S Q hd hw hS hm HQ
  subst hm
  refine zw_push hm_183 dX12_fresh_88 (v := .inr (.inr (some 94))) rfl ?_
  refine zw_gf hm_183 dX12_fresh_89 (v := .inr (.inr (some 104))) (zT_is hS s_94) (zT_t hS s_94) rfl f_12_43_12 (zT_f hS r_94_36) ?_
  refine zw_push hm_183 dX12_fresh_92 (v := .inl l5) rfl ?_
  refine zw_push hm_183 dX12_fresh_94 (v := .inl (0 : Int32)) rfl ?_
  obtain ⟨hg, h⟩ := h
  refine zw_ias hm_183 dX12_fresh_95 (zT_is hS s_104) (zT_h hS s_104) rfl hg ?_
  refine zw_push hm_183 dX12_fresh_96 (v := .inr (.inr (some 94))) rfl ?_
  refine zw_gf hm_183 dX12_fresh_97 (v := .inr (.inr (some 105))) (zT_is (zT_pi hS) s_94) (zT_t (zT_pi hS) s_94) rfl f_12_46_12 (zT_f (zT_pi hS) r_94_37) ?_
  refine zw_push hm_183 dX12_fresh_100 (v := .inl l5) rfl ?_
  refine zw_push hm_183 dX12_fresh_102 (v := .inl (0 : Int32)) rfl ?_
  obtain ⟨hg, h⟩ := h
  refine zw_ias hm_183 dX12_fresh_103 (zT_is (zT_pi hS) s_105) (zT_h (zT_pi hS) s_105) rfl hg ?_
  refine zw_push hm_183 dX12_fresh_104 (v := .inr (.inr (some 94))) rfl ?_
  refine zw_gf hm_183 dX12_fresh_105 (v := .inr (.inr (some 106))) (zT_is (zT_pi (zT_pi hS)) s_94) (zT_t (zT_pi (zT_pi hS)) s_94) rfl f_12_49_12 (zT_f (zT_pi (zT_pi hS)) r_94_38) ?_
  refine zw_push hm_183 dX12_fresh_108 (v := .inl l5) rfl ?_
  refine zw_push hm_183 dX12_fresh_110 (v := .inr (.inr (some 94))) rfl ?_
  refine zw_gf hm_183 dX12_fresh_111 (v := .inl ((mI S) 94 58)) (zT_is (zT_pi (zT_pi hS)) s_94) (zT_t (zT_pi (zT_pi hS)) s_94) rfl f_12_270_12 rfl ?_
  refine zw_if0 hm_183 dX12_fresh_114 (t := 121) rfl zc0_eq ?_ ?_
  · intro hc
    rw [if_pos hc] at h
    refine zw_push hm_183 dX12_fresh_121 (v := .inl (0 : Int32)) rfl ?_
    obtain ⟨hg, h⟩ := h
    refine zw_ias hm_183 dX12_fresh_122 (zT_is (zT_pi (zT_pi hS)) s_106) (zT_h (zT_pi (zT_pi hS)) s_106) rfl hg ?_
    exact (h d w _ Q (by omega) (by omega) (zT_pi (zT_pi (zT_pi hS))) rfl HQ)
  · intro hc
    rw [if_neg hc] at h
    refine zw_push hm_183 dX12_fresh_117 (v := .inl (2 : Int32)) rfl ?_
    refine zw_goto hm_183 dX12_fresh_118 (t := 122) rfl ?_
    obtain ⟨hg, h⟩ := h
    refine zw_ias hm_183 dX12_fresh_122 (zT_is (zT_pi (zT_pi hS)) s_106) (zT_h (zT_pi (zT_pi hS)) s_106) rfl hg ?_
    exact (h d w _ Q (by omega) (by omega) (zT_pi (zT_pi (zT_pi hS))) rfl HQ)
theorem g_183_123 {X : Nat × (Nat → Int32)} {m : Nat → Nat → Int32} {P : Option ma_V → (Nat → Nat → Int32) → Prop} (l2 : Int32) (l3 : Int32) (l4 : Int32) (l5 : Int32) (h : (0 ≤ l5 ∧ l5.toNatClampNeg < 3100) ∧ ((0 ≤ l5 ∧ l5.toNatClampNeg < 3100) ∧ (zm X 9 198 183 142 [(0, .inr (.inr (some 94))), (2, .inl l2), (3, .inl l3), (4, .inl l4), (5, .inl l5), (6, .inl (0 : Int32))] (ma_u (ma_u m 107 l5.toNatClampNeg (0 : Int32)) 109 l5.toNatClampNeg (0 : Int32)) P))) : zm X 9 198 183 123 [(0, .inr (.inr (some 94))), (2, .inl l2), (3, .inl l3), (4, .inl l4), (5, .inl l5)] m P := by
  intro d w S Q hd hw hS hm HQ
  subst hm
  refine zw_push hm_183 dX12_fresh_123 (v := .inr (.inr (some 94))) rfl ?_
  refine zw_gf hm_183 dX12_fresh_124 (v := .inr (.inr (some 107))) (zT_is hS s_94) (zT_t hS s_94) rfl f_12_52_12 (zT_f hS r_94_39) ?_
  refine zw_push hm_183 dX12_fresh_127 (v := .inl l5) rfl ?_
  refine zw_push hm_183 dX12_fresh_129 (v := .inl (0 : Int32)) rfl ?_
  obtain ⟨hg, h⟩ := h
  refine zw_ias hm_183 dX12_fresh_130 (zT_is hS s_107) (zT_h hS s_107) rfl hg ?_
  refine zw_push hm_183 dX12_fresh_131 (v := .inr (.inr (some 94))) rfl ?_
  refine zw_gf hm_183 dX12_fresh_132 (v := .inr (.inr (some 109))) (zT_is (zT_pi hS) s_94) (zT_t (zT_pi hS) s_94) rfl f_12_59_12 (zT_f (zT_pi hS) r_94_41) ?_
  refine zw_push hm_183 dX12_fresh_135 (v := .inl l5) rfl ?_
  refine zw_push hm_183 dX12_fresh_137 (v := .inl (0 : Int32)) rfl ?_
  obtain ⟨hg, h⟩ := h
  refine zw_bas22l hm_183 dX12_fresh_138 (hx := by decide) (yv := (0 : Int32)) (zT_is (zT_pi hS) s_109) (zT_h (zT_pi hS) s_109) rfl hg ?_
  refine zw_push hm_183 dX12_fresh_139 (v := .inl (0 : Int32)) rfl ?_
  refine zw_sto hm_183 dX12_fresh_140 [(6, .inl (0 : Int32)), (0, .inr (.inr (some 94))), (2, .inl l2), (3, .inl l3), (4, .inl l4), (5, .inl l5)] rfl rfl rfl ?_
  exact zw_sub (ma_nd_of (ks := [0, 2, 3, 4, 5, 6]) rfl (by decide)) (ma_nd_of (ks := [6, 0, 2, 3, 4, 5]) rfl (by decide)) (ma_le_cons rfl (ma_le_cons rfl (ma_le_cons rfl (ma_le_cons rfl (ma_le_cons rfl (ma_le_cons rfl (ma_le_nil _))))))) (h d w _ Q (by omega) (by omega) (zT_pi (zT_pi hS)) rfl HQ)
theorem g_183_142 {X : Nat × (Nat → Int32)} {m : Nat → Nat → Int32} {P : Option ma_V → (Nat → Nat → Int32) → Prop} (l2 : Int32) (l3 : Int32) (l4 : Int32) (l5 : Int32) (l6 : Int32) (h : if l2 ≤ l6 then (zm X 4 88 238 0 [(0, .inr (.inr (some 94))), (1, .inl l3), (2, .inl l5)] (ma_u (ma_u (ma_u (ma_u m 94 46 ((m 94 46) + (1 : Int32))) 94 44 ((m 94 44) + (1 : Int32))) 94 45 ((m 94 45) + (l2 + (1 : Int32)))) 94 62 ((l4 + l2) + (1 : Int32))) (zmv (fun m1 => (0 ≤ l5 ∧ l5.toNatClampNeg < 3100) ∧ (P (some (.inl (m1 100 l5.toNatClampNeg))) m1)))) else ((0 ≤ l5 ∧ l5.toNatClampNeg < 3100) ∧ (if (m 101 l5.toNatClampNeg) = (16 : Int32) then ((0 ≤ ((l5 * (60 : Int32)) + l6) ∧ ((l5 * (60 : Int32)) + l6).toNatClampNeg < 186000) ∧ (zm X 9 198 183 142 [(0, .inr (.inr (some 94))), (2, .inl l2), (3, .inl l3), (4, .inl l4), (5, .inl l5), (6, .inl (l6 + (1 : Int32)))] (ma_u m 108 ((l5 * (60 : Int32)) + l6).toNatClampNeg (-1 : Int32)) P)) else ((0 ≤ l5 ∧ l5.toNatClampNeg < 3100) ∧ (if (16 : Int32) ≤ (m 101 l5.toNatClampNeg) then ((0 ≤ ((l5 * (60 : Int32)) + l6) ∧ ((l5 * (60 : Int32)) + l6).toNatClampNeg < 186000) ∧ (zm X 9 198 183 142 [(0, .inr (.inr (some 94))), (2, .inl l2), (3, .inl l3), (4, .inl l4), (5, .inl l5), (6, .inl (l6 + (1 : Int32)))] (ma_u m 108 ((l5 * (60 : Int32)) + l6).toNatClampNeg (0 : Int32)) P)) else ((0 ≤ l5 ∧ l5.toNatClampNeg < 3100) ∧ ((0 ≤ (m 101 l5.toNatClampNeg) ∧ (m 101 l5.toNatClampNeg).toNatClampNeg < 16) ∧ (if (((m 98 (m 101 l5.toNatClampNeg).toNatClampNeg) >>> (l6 &&& 31)) &&& (1 : Int32)) = (1 : Int32) then ((0 ≤ ((l5 * (60 : Int32)) + l6) ∧ ((l5 * (60 : Int32)) + l6).toNatClampNeg < 186000) ∧ (zm X 9 198 183 142 [(0, .inr (.inr (some 94))), (2, .inl l2), (3, .inl l3), (4, .inl l4), (5, .inl l5), (6, .inl (l6 + (1 : Int32)))] (ma_u m 108 ((l5 * (60 : Int32)) + l6).toNatClampNeg (-1 : Int32)) P)) else ((0 ≤ ((l5 * (60 : Int32)) + l6) ∧ ((l5 * (60 : Int32)) + l6).toNatClampNeg < 186000) ∧ (zm X 9 198 183 142 [(0, .inr (.inr (some 94))), (2, .inl l2), (3, .inl l3), (4, .inl l4), (5, .inl l5), (6, .inl (l6 + (1 : Int32)))] (ma_u m 108 ((l5 * (60 : Int32)) + l6).toNatClampNeg (0 : Int32)) P)))))))))) : zm X 9 198 183 142 [(0, .inr (.inr (some 94))), (2, .inl l2), (3, .inl l3), (4, .inl l4), (5, .inl l5), (6, .inl l6)] m P := by
  intro d w S Q hd hw hS hm HQ
  subst hm
  refine zw_push hm_183 dX12_fresh_142 (v := .inl l6) rfl ?_
  refine zw_push hm_183 dX12_fresh_144 (v := .inl l2) rfl ?_
  refine zw_if2 hm_183 dX12_fresh_145 (t := 183) rfl zc2_ge ?_ ?_
  · intro hc
    rw [if_pos hc] at h
    refine zw_push hm_183 dX12_fresh_183 (v := .inr (.inr (some 94))) rfl ?_
    refine zw_stk hm_183 dX12_fresh_184 (st₉ := [.inr (.inr (some 94)), .inr (.inr (some 94))]) rfl rfl ?_
    refine zw_gf hm_183 dX12_fresh_185 (v := .inl ((mI S) 94 46)) (zT_is hS s_94) (zT_t hS s_94) rfl f_12_246_12 rfl ?_
    refine zw_push hm_183 dX12_fresh_188 (v := .inl (1 : Int32)) rfl ?_
    refine zw_stk hm_183 dX12_fresh_189 (st₉ := [.inl (((mI S) 94 46) + (1 : Int32)), .inr (.inr (some 94))]) rfl rfl ?_
    refine zw_pf hm_183 dX12_fresh_190 (zT_is hS s_94) (zT_t hS s_94) p_12_246_12 zk_int ?_
    refine zw_push hm_183 dX12_fresh_193 (v := .inr (.inr (some 94))) rfl ?_
    refine zw_stk hm_183 dX12_fresh_194 (st₉ := [.inr (.inr (some 94)), .inr (.inr (some 94))]) rfl rfl ?_
    refine zw_gf hm_183 dX12_fresh_195 (v := .inl ((mI S) 94 44)) (zT_is (zT_pi hS) s_94) (zT_t (zT_pi hS) s_94) rfl f_12_240_12 rfl ?_
    refine zw_push hm_183 dX12_fresh_198 (v := .inl (1 : Int32)) rfl ?_
    refine zw_stk hm_183 dX12_fresh_199 (st₉ := [.inl (((mI S) 94 44) + (1 : Int32)), .inr (.inr (some 94))]) rfl rfl ?_
    refine zw_pf hm_183 dX12_fresh_200 (zT_is (zT_pi hS) s_94) (zT_t (zT_pi hS) s_94) p_12_240_12 zk_int ?_
    refine zw_push hm_183 dX12_fresh_203 (v := .inr (.inr (some 94))) rfl ?_
    refine zw_stk hm_183 dX12_fresh_204 (st₉ := [.inr (.inr (some 94)), .inr (.inr (some 94))]) rfl rfl ?_
    refine zw_gf hm_183 dX12_fresh_205 (v := .inl ((mI S) 94 45)) (zT_is (zT_pi (zT_pi hS)) s_94) (zT_t (zT_pi (zT_pi hS)) s_94) rfl f_12_243_12 rfl ?_
    refine zw_push hm_183 dX12_fresh_208 (v := .inl l2) rfl ?_
    refine zw_push hm_183 dX12_fresh_209 (v := .inl (1 : Int32)) rfl ?_
    refine zw_stk hm_183 dX12_fresh_210 (st₉ := [.inl (l2 + (1 : Int32)), .inl ((mI S) 94 45), .inr (.inr (some 94))]) rfl rfl ?_
    refine zw_stk hm_183 dX12_fresh_211 (st₉ := [.inl (((mI S) 94 45) + (l2 + (1 : Int32))), .inr (.inr (some 94))]) rfl rfl ?_
    refine zw_pf hm_183 dX12_fresh_212 (zT_is (zT_pi (zT_pi hS)) s_94) (zT_t (zT_pi (zT_pi hS)) s_94) p_12_243_12 zk_int ?_
    refine zw_push hm_183 dX12_fresh_215 (v := .inr (.inr (some 94))) rfl ?_
    refine zw_push hm_183 dX12_fresh_216 (v := .inl l4) rfl ?_
    refine zw_push hm_183 dX12_fresh_218 (v := .inl l2) rfl ?_
    refine zw_stk hm_183 dX12_fresh_219 (st₉ := [.inl (l4 + l2), .inr (.inr (some 94))]) rfl rfl ?_
    refine zw_push hm_183 dX12_fresh_220 (v := .inl (1 : Int32)) rfl ?_
    refine zw_stk hm_183 dX12_fresh_221 (st₉ := [.inl ((l4 + l2) + (1 : Int32)), .inr (.inr (some 94))]) rfl rfl ?_
    refine zw_pf hm_183 dX12_fresh_222 (zT_is (zT_pi (zT_pi (zT_pi hS))) s_94) (zT_t (zT_pi (zT_pi (zT_pi hS))) s_94) p_12_282_12 zk_int ?_
    refine zw_push hm_183 dX12_fresh_225 (v := .inr (.inr (some 94))) rfl ?_
    refine zw_push hm_183 dX12_fresh_226 (v := .inl l3) rfl ?_
    refine zw_push hm_183 dX12_fresh_227 (v := .inl l5) rfl ?_
    refine zw_cv hm_183 dX12_fresh_229 v_12_481_12 hm_238 [.inl l5, .inl l3] [] rfl (zT_rt (zT_pi (zT_pi (zT_pi (zT_pi hS)))) s_94 rfl) ⟨by omega, by omega⟩ rfl (h _ _ (ma_put (ma_put (ma_put (ma_put S 94 46 (.inl (((mI S) 94 46) + (1 : Int32)))) 94 44 (.inl (((mI S) 94 44) + (1 : Int32)))) 94 45 (.inl (((mI S) 94 45) + (l2 + (1 : Int32))))) 94 62 (.inl ((l4 + l2) + (1 : Int32)))) _ (by omega) (by omega) (zT_pi (zT_pi (zT_pi (zT_pi hS)))) rfl (fun o9 m1 hv => ?_))
    obtain ⟨rfl, h⟩ := zmv_of hv
    show ma_wp X d w 183 232 [(0, .inr (.inr (some 94))), (2, .inl l2), (3, .inl l3), (4, .inl l4), (5, .inl l5), (6, .inl l6)] [] (zst S m1) _
    refine zw_push hm_183 dX12_fresh_232 (v := .inr (.inr (some 94))) rfl ?_
    refine zw_gf hm_183 dX12_fresh_233 (v := .inr (.inr (some 100))) (zT_is (zT_zst hS m1) s_94) (zT_t (zT_zst hS m1) s_94) rfl f_12_31_12 (zT_f (zT_zst hS m1) r_94_32) ?_
    refine zw_push hm_183 dX12_fresh_236 (v := .inl l5) rfl ?_
    obtain ⟨hg, h⟩ := h
    refine zw_ia hm_183 dX12_fresh_238 (zT_is (zT_zst hS m1) s_100) (zT_h (zT_zst hS m1) s_100) rfl hg ?_
    show ma_wp X d w 183 239 [(0, .inr (.inr (some 94))), (2, .inl l2), (3, .inl l3), (4, .inl l4), (5, .inl l5), (6, .inl l6)] [.inl (m1 100 l5.toNatClampNeg)] (zst S m1) _
    exact zw_iret hm_183 dX12_fresh_239 (HQ _ _ h)
  · intro hc
    rw [if_neg hc] at h
    refine zw_push hm_183 dX12_fresh_148 (v := .inr (.inr (some 94))) rfl ?_
    refine zw_gf hm_183 dX12_fresh_149 (v := .inr (.inr (some 108))) (zT_is hS s_94) (zT_t hS s_94) rfl f_12_56_12 (zT_f hS r_94_40) ?_
    refine zw_push hm_183 dX12_fresh_152 (v := .inl l5) rfl ?_
    refine zw_push hm_183 dX12_fresh_154 (v := .inl (60 : Int32)) rfl ?_
    refine zw_stk hm_183 dX12_fresh_156 (st₉ := [.inl (l5 * (60 : Int32)), .inr (.inr (some 108))]) rfl rfl ?_
    refine zw_push hm_183 dX12_fresh_157 (v := .inl l6) rfl ?_
    refine zw_stk hm_183 dX12_fresh_159 (st₉ := [.inl ((l5 * (60 : Int32)) + l6), .inr (.inr (some 108))]) rfl rfl ?_
    refine zw_push hm_183 dX12_fresh_160 (v := .inr (.inr (some 94))) rfl ?_
    refine zw_push hm_183 dX12_fresh_161 (v := .inl l5) rfl ?_
    refine zw_push hm_183 dX12_fresh_163 (v := .inl l6) rfl ?_
    refine zw_cv hm_183 dX12_fresh_165 v_12_288_12 hm_193 [.inl l6, .inl l5] [.inl ((l5 * (60 : Int32)) + l6), .inr (.inr (some 108))] rfl (zT_rt hS s_94 rfl) ⟨by omega, by omega⟩ rfl ?_
    show ma_wp X (d - 1) (w - 22) 193 0 [(0, .inr (.inr (some 94))), (1, .inl l5), (2, .inl l6)] [] S _
    refine zw_push hm_193 dX12_isReference_0 (v := .inr (.inr (some 94))) rfl ?_
    refine zw_gf hm_193 dX12_isReference_1 (v := .inr (.inr (some 101))) (zT_is hS s_94) (zT_t hS s_94) rfl f_12_34_12 (zT_f hS r_94_33) ?_
    refine zw_push hm_193 dX12_isReference_4 (v := .inl l5) rfl ?_
    obtain ⟨hg, h⟩ := h
    refine zw_ia hm_193 dX12_isReference_5 (zT_is hS s_101) (zT_h hS s_101) rfl hg ?_
    show ma_wp X (d - 1) (w - 22) 193 6 [(0, .inr (.inr (some 94))), (1, .inl l5), (2, .inl l6)] [.inl ((mI S) 101 l5.toNatClampNeg)] S _
    refine zw_push hm_193 dX12_isReference_6 (v := .inl (16 : Int32)) rfl ?_
    refine zw_if2 hm_193 dX12_isReference_8 (t := 41) rfl zc2_eq ?_ ?_
    · intro hc
      rw [if_pos hc] at h
      refine zw_push hm_193 dX12_isReference_41 (v := .inl (1 : Int32)) rfl ?_
      refine zw_goto hm_193 dX12_isReference_42 (t := 46) rfl ?_
      refine zw_bret hm_193 dX12_isReference_46 (by decide) ?_
      show ma_wp X d w 183 168 [(0, .inr (.inr (some 94))), (2, .inl l2), (3, .inl l3), (4, .inl l4), (5, .inl l5), (6, .inl l6)] [.inl (1 : Int32), .inl ((l5 * (60 : Int32)) + l6), .inr (.inr (some 108))] S _
      refine zw_if0 hm_183 dX12_fresh_168 (t := 175) rfl zc0_eq (fun hc => absurd hc (by decide)) (fun _ => ?_)
      refine zw_push hm_183 dX12_fresh_171 (v := .inl (-1 : Int32)) rfl ?_
      refine zw_goto hm_183 dX12_fresh_172 (t := 176) rfl ?_
      obtain ⟨hg, h⟩ := h
      refine zw_ias hm_183 dX12_fresh_176 (zT_is hS s_108) (zT_h hS s_108) rfl hg ?_
      refine zw_sto hm_183 dX12_fresh_177 [(6, .inl (l6 + (1 : Int32))), (0, .inr (.inr (some 94))), (2, .inl l2), (3, .inl l3), (4, .inl l4), (5, .inl l5)] rfl rfl rfl ?_
      refine zw_goto hm_183 dX12_fresh_180 (t := 142) rfl ?_
      exact zw_sub (ma_nd_of (ks := [0, 2, 3, 4, 5, 6]) rfl (by decide)) (ma_nd_of (ks := [6, 0, 2, 3, 4, 5]) rfl (by decide)) (ma_le_cons rfl (ma_le_cons rfl (ma_le_cons rfl (ma_le_cons rfl (ma_le_cons rfl (ma_le_cons rfl (ma_le_nil _))))))) (h d w _ Q (by omega) (by omega) (zT_pi hS) rfl HQ)
    · intro hc
      rw [if_neg hc] at h
      refine zw_push hm_193 dX12_isReference_11 (v := .inr (.inr (some 94))) rfl ?_
      refine zw_gf hm_193 dX12_isReference_12 (v := .inr (.inr (some 101))) (zT_is hS s_94) (zT_t hS s_94) rfl f_12_34_12 (zT_f hS r_94_33) ?_
      refine zw_push hm_193 dX12_isReference_15 (v := .inl l5) rfl ?_
      obtain ⟨hg, h⟩ := h
      refine zw_ia hm_193 dX12_isReference_16 (zT_is hS s_101) (zT_h hS s_101) rfl hg ?_
      show ma_wp X (d - 1) (w - 22) 193 17 [(0, .inr (.inr (some 94))), (1, .inl l5), (2, .inl l6)] [.inl ((mI S) 101 l5.toNatClampNeg)] S _
      refine zw_push hm_193 dX12_isReference_17 (v := .inl (16 : Int32)) rfl ?_
      refine zw_if2 hm_193 dX12_isReference_19 (t := 45) rfl zc2_ge ?_ ?_
      · intro hc
        rw [if_pos hc] at h
        refine zw_push hm_193 dX12_isReference_45 (v := .inl (0 : Int32)) rfl ?_
        refine zw_bret hm_193 dX12_isReference_46 (by decide) ?_
        show ma_wp X d w 183 168 [(0, .inr (.inr (some 94))), (2, .inl l2), (3, .inl l3), (4, .inl l4), (5, .inl l5), (6, .inl l6)] [.inl (0 : Int32), .inl ((l5 * (60 : Int32)) + l6), .inr (.inr (some 108))] S _
        refine zw_if0 hm_183 dX12_fresh_168 (t := 175) rfl zc0_eq (fun _ => ?_) (fun hc => absurd (by decide) hc)
        refine zw_push hm_183 dX12_fresh_175 (v := .inl (0 : Int32)) rfl ?_
        obtain ⟨hg, h⟩ := h
        refine zw_ias hm_183 dX12_fresh_176 (zT_is hS s_108) (zT_h hS s_108) rfl hg ?_
        refine zw_sto hm_183 dX12_fresh_177 [(6, .inl (l6 + (1 : Int32))), (0, .inr (.inr (some 94))), (2, .inl l2), (3, .inl l3), (4, .inl l4), (5, .inl l5)] rfl rfl rfl ?_
        refine zw_goto hm_183 dX12_fresh_180 (t := 142) rfl ?_
        exact zw_sub (ma_nd_of (ks := [0, 2, 3, 4, 5, 6]) rfl (by decide)) (ma_nd_of (ks := [6, 0, 2, 3, 4, 5]) rfl (by decide)) (ma_le_cons rfl (ma_le_cons rfl (ma_le_cons rfl (ma_le_cons rfl (ma_le_cons rfl (ma_le_cons rfl (ma_le_nil _))))))) (h d w _ Q (by omega) (by omega) (zT_pi hS) rfl HQ)
      · intro hc
        rw [if_neg hc] at h
        refine zw_push hm_193 dX12_isReference_22 (v := .inr (.inr (some 94))) rfl ?_
        refine zw_gf hm_193 dX12_isReference_23 (v := .inr (.inr (some 98))) (zT_is hS s_94) (zT_t hS s_94) rfl f_12_24_12 (zT_f hS r_94_6) ?_
        refine zw_push hm_193 dX12_isReference_26 (v := .inr (.inr (some 94))) rfl ?_
        refine zw_gf hm_193 dX12_isReference_27 (v := .inr (.inr (some 101))) (zT_is hS s_94) (zT_t hS s_94) rfl f_12_34_12 (zT_f hS r_94_33) ?_
        refine zw_push hm_193 dX12_isReference_30 (v := .inl l5) rfl ?_
        obtain ⟨hg, h⟩ := h
        refine zw_ia hm_193 dX12_isReference_31 (zT_is hS s_101) (zT_h hS s_101) rfl hg ?_
        show ma_wp X (d - 1) (w - 22) 193 32 [(0, .inr (.inr (some 94))), (1, .inl l5), (2, .inl l6)] [.inl ((mI S) 101 l5.toNatClampNeg), .inr (.inr (some 98))] S _
        obtain ⟨hg, h⟩ := h
        refine zw_ia hm_193 dX12_isReference_32 (zT_is hS s_98) (zT_h hS s_98) rfl hg ?_
        show ma_wp X (d - 1) (w - 22) 193 33 [(0, .inr (.inr (some 94))), (1, .inl l5), (2, .inl l6)] [.inl ((mI S) 98 ((mI S) 101 l5.toNatClampNeg).toNatClampNeg)] S _
        refine zw_push hm_193 dX12_isReference_33 (v := .inl l6) rfl ?_
        refine zw_stk hm_193 dX12_isReference_34 (st₉ := [.inl (((mI S) 98 ((mI S) 101 l5.toNatClampNeg).toNatClampNeg) >>> (l6 &&& 31))]) rfl rfl ?_
        refine zw_push hm_193 dX12_isReference_35 (v := .inl (1 : Int32)) rfl ?_
        refine zw_stk hm_193 dX12_isReference_36 (st₉ := [.inl ((((mI S) 98 ((mI S) 101 l5.toNatClampNeg).toNatClampNeg) >>> (l6 &&& 31)) &&& (1 : Int32))]) rfl rfl ?_
        refine zw_push hm_193 dX12_isReference_37 (v := .inl (1 : Int32)) rfl ?_
        refine zw_if2 hm_193 dX12_isReference_38 (t := 45) rfl zc2_ne ?_ ?_
        · intro hc
          rw [if_neg hc] at h
          refine zw_push hm_193 dX12_isReference_45 (v := .inl (0 : Int32)) rfl ?_
          refine zw_bret hm_193 dX12_isReference_46 (by decide) ?_
          show ma_wp X d w 183 168 [(0, .inr (.inr (some 94))), (2, .inl l2), (3, .inl l3), (4, .inl l4), (5, .inl l5), (6, .inl l6)] [.inl (0 : Int32), .inl ((l5 * (60 : Int32)) + l6), .inr (.inr (some 108))] S _
          refine zw_if0 hm_183 dX12_fresh_168 (t := 175) rfl zc0_eq (fun _ => ?_) (fun hc => absurd (by decide) hc)
          refine zw_push hm_183 dX12_fresh_175 (v := .inl (0 : Int32)) rfl ?_
          obtain ⟨hg, h⟩ := h
          refine zw_ias hm_183 dX12_fresh_176 (zT_is hS s_108) (zT_h hS s_108) rfl hg ?_
          refine zw_sto hm_183 dX12_fresh_177 [(6, .inl (l6 + (1 : Int32))), (0, .inr (.inr (some 94))), (2, .inl l2), (3, .inl l3), (4, .inl l4), (5, .inl l5)] rfl rfl rfl ?_
          refine zw_goto hm_183 dX12_fresh_180 (t := 142) rfl ?_
          exact zw_sub (ma_nd_of (ks := [0, 2, 3, 4, 5, 6]) rfl (by decide)) (ma_nd_of (ks := [6, 0, 2, 3, 4, 5]) rfl (by decide)) (ma_le_cons rfl (ma_le_cons rfl (ma_le_cons rfl (ma_le_cons rfl (ma_le_cons rfl (ma_le_cons rfl (ma_le_nil _))))))) (h d w _ Q (by omega) (by omega) (zT_pi hS) rfl HQ)
        · intro hc
          rw [if_pos (Classical.not_not.mp hc)] at h
          refine zw_push hm_193 dX12_isReference_41 (v := .inl (1 : Int32)) rfl ?_
          refine zw_goto hm_193 dX12_isReference_42 (t := 46) rfl ?_
          refine zw_bret hm_193 dX12_isReference_46 (by decide) ?_
          show ma_wp X d w 183 168 [(0, .inr (.inr (some 94))), (2, .inl l2), (3, .inl l3), (4, .inl l4), (5, .inl l5), (6, .inl l6)] [.inl (1 : Int32), .inl ((l5 * (60 : Int32)) + l6), .inr (.inr (some 108))] S _
          refine zw_if0 hm_183 dX12_fresh_168 (t := 175) rfl zc0_eq (fun hc => absurd hc (by decide)) (fun _ => ?_)
          refine zw_push hm_183 dX12_fresh_171 (v := .inl (-1 : Int32)) rfl ?_
          refine zw_goto hm_183 dX12_fresh_172 (t := 176) rfl ?_
          obtain ⟨hg, h⟩ := h
          refine zw_ias hm_183 dX12_fresh_176 (zT_is hS s_108) (zT_h hS s_108) rfl hg ?_
          refine zw_sto hm_183 dX12_fresh_177 [(6, .inl (l6 + (1 : Int32))), (0, .inr (.inr (some 94))), (2, .inl l2), (3, .inl l3), (4, .inl l4), (5, .inl l5)] rfl rfl rfl ?_
          refine zw_goto hm_183 dX12_fresh_180 (t := 142) rfl ?_
          exact zw_sub (ma_nd_of (ks := [0, 2, 3, 4, 5, 6]) rfl (by decide)) (ma_nd_of (ks := [6, 0, 2, 3, 4, 5]) rfl (by decide)) (ma_le_cons rfl (ma_le_cons rfl (ma_le_cons rfl (ma_le_cons rfl (ma_le_cons rfl (ma_le_cons rfl (ma_le_nil _))))))) (h d w _ Q (by omega) (by omega) (zT_pi hS) rfl HQ)
set_option maxHeartbeats 8000000 in
theorem lp_183_142 {X : Nat × (Nat → Int32)} {P : Option ma_V → (Nat → Nat → Int32) → Prop} {T : Nat} {kk : Int32} {nn : Int32} {r1 : Int32} {m0 : Nat → Nat → Int32} (h0 : zV m0) (K : ∀ v m₉, zF wr_183 m0 m₉ → zV m₉ → (zW (m₉ 94 7) (m₉ 98) (m₉ 101) (m₉ 102) (m₉ 108)) → (zGW (T + 1) (m₉ 94 55) (m₉ 109)) → (zGU (T + 1) (m₉ 94 46) (m₉ 99)) → (zOw (m₉ 99) (m₉ 103) (m₉ 111)) → (zDX (m₉ 94 10) (m₉ 99) (m₉ 112) (m₉ 113) (m₉ 114) (m₉ 94 55) (m₉ 98) (m₉ 101) (m₉ 102) (m₉ 108)) → (zGG (m₉ 94 58) (m₉ 94 56) (m₉ 94 57) (m₉ 106)) → (zHA (m₉ 94 10) (m₉ 94 11) (m₉ 94 13) (m₉ 94 14) (m₉ 94 16) (m₉ 94 61) (m₉ 94 59) (m₉ 94 60) (m₉ 99) (m₉ 102) (m₉ 103) (m₉ 111) (m₉ 117) (m₉ 98) (m₉ 101) (m₉ 108)) → (zRG (m₉ 94 10) (m₉ 94 18) (m₉ 94 64) (m₉ 94 63) (m₉ 99) (m₉ 103) (m₉ 102) (m₉ 116)) → ((m₉ 94 58).toInt = 0 ∨ (m₉ 94 10).toInt = 5) → P (some (.inl v)) m₉) : ∀ (n : Nat) (m : Nat → Nat → Int32) (l2 : Int32) (l3 : Int32) (l4 : Int32) (l5 : Int32) (l6 : Int32), (61 - l6.toInt).toNat = n → zF wr_183 m0 m → zV m → (0 ≤ l2.toInt) → (l2.toInt ≤ 60) → (0 ≤ l3.toInt) → (l3.toInt ≤ 15) → (0 ≤ l4.toInt) → (l4.toInt + l2.toInt ≤ 4599) → (0 ≤ l5.toInt) → (l5.toInt ≤ 3099) → (0 ≤ l6.toInt) → ((m 94 46).toInt ≤ 2999) → ((m 102 l5.toNatClampNeg).toInt = l2.toInt) → ((m 99) l5.toNatClampNeg ≠ 0) → (zWn (m 94 7) (m 98) (m 101) (m 102) (m 108) l5.toNatClampNeg l6.toNatClampNeg) → (zGW (T + 1) (m 94 55) (m 109)) → (zGUp T (m 94 46) (m 99)) → (zOw (m 99) (m 103) (m 111)) → (zDX (m 94 10) (zmk (m 99) l5.toNatClampNeg) (m 112) (m 113) (m 114) (m 94 55) (m 98) (m 101) (m 102) (m 108)) → (zGG (m 94 58) (m 94 56) (m 94 57) (m 106)) → ((m 94 58).toInt = 0 ∨ (m 94 10).toInt = 5) → (zHAs (m 94 10) (m 94 11) (m 94 13) (m 94 14) (m 94 16) (m 94 61) (m 94 59) (m 94 60) (m 99) (m 102) (m 103) (m 111)) → ((m 94 10).toInt = 3 → zDC (m 94 14).toInt (m 94 16).toInt (zmk (m 99) l5.toNatClampNeg) (m 103) (m 102) (m 98) (m 101) (m 108) (m 117)) → (zRG (m 94 10) (m 94 18) (m 94 64) (m 94 63) (m 99) (m 103) (m 102) (m 116)) → zm X 9 198 183 142 [(0, .inr (.inr (some 94))), (2, .inl l2), (3, .inl l3), (4, .inl l4), (5, .inl l5), (6, .inl l6)] m P := by
  intro n
  induction n using Nat.strongRecOn with
  | _ n IH =>
    intro m l2 l3 l4 l5 l6 hmu hF hV hi0 hi1 hi2 hi3 hi4 hi5 hi6 hi7 hi8 hi9 hi10 r_USn r_WN r_GW r_GUp r_OW r_DXn r_GG hi18 r_HAs r_DCn r_RGc
    refine g_183_142 l2 l3 l4 l5 l6 ?_
    have f1 : 0 ≤ (m 94 46).toInt ∧ (m 94 46).toInt ≤ 100000 := rs_94_46 (m := m) hV
    have b2 := i_bd l5
    first | have f3 : 0 ≤ (m 102 l5.toNatClampNeg).toInt ∧ (m 102 l5.toNatClampNeg).toInt ≤ 60 := ra_102 (m := m) hV (k := l5.toNatClampNeg) (i_ix (n := 3100) (by omega) (by omega)).2 | have b4 := i_bd (m 102 l5.toNatClampNeg)
    have f5 : 0 ≤ (m 94 58).toInt ∧ (m 94 58).toInt ≤ 1 := rs_94_58 (m := m) hV
    have f6 : 0 ≤ (m 94 10).toInt ∧ (m 94 10).toInt ≤ 6 := rs_94_10 (m := m) hV
    have b7 := i_bd l2
    have b8 := i_bd l6
    refine zd (fun (h9 : l2 ≤ l6) => ?_) (fun (h9 : ¬ l2 ≤ l6) => ?_)
    · skip
      have g10 := i_le h9
      have b11 := i_bd l3
      first | have e13 : ((m 94 46) + (1 : Int32)).toInt = (m 94 46).toInt + (1) := i_addk rfl (by omega) (by omega) | have b14 := i_bd ((m 94 46) + (1 : Int32))
      have hV12 : zV (ma_u m 94 46 ((m 94 46) + (1 : Int32))) := us_94_46 hV (by omega) (by omega)
      have hV15 : zV (ma_u (ma_u m 94 46 ((m 94 46) + (1 : Int32))) 94 44 ((m 94 44) + (1 : Int32))) := uf_94_44 hV12
      have hV16 : zV (ma_u (ma_u (ma_u m 94 46 ((m 94 46) + (1 : Int32))) 94 44 ((m 94 44) + (1 : Int32))) 94 45 ((m 94 45) + (l2 + (1 : Int32)))) := uf_94_45 hV15
      have b18 := i_bd l4
      first | have e19 : (l4 + l2).toInt = l4.toInt + l2.toInt := i_add (by omega) (by omega) | have b20 := i_bd (l4 + l2)
      first | have e21 : ((l4 + l2) + (1 : Int32)).toInt = (l4 + l2).toInt + (1) := i_addk rfl (by omega) (by omega) | have b22 := i_bd ((l4 + l2) + (1 : Int32))
      have hV17 : zV (ma_u (ma_u (ma_u (ma_u m 94 46 ((m 94 46) + (1 : Int32))) 94 44 ((m 94 44) + (1 : Int32))) 94 45 ((m 94 45) + (l2 + (1 : Int32)))) 94 62 ((l4 + l2) + (1 : Int32))) := us_94_62 hV16 (by omega) (by omega)
      refine sp_238 (T := (T + 1)) (l3) (l5) hV17 (by omega) (by omega) (by omega) (by omega) (show ((m 94 10).toInt = 2 ∨ (m 94 10).toInt = 3) → l5.toInt < 0 ∨ (m 99) l5.toNatClampNeg ≠ 0 from by first | (exact fun _ => Or.inr r_USn) | (exfalso; omega; done) | (exfalso; contradiction; done)) (show zW (m 94 7) (m 98) (m 101) (m 102) (m 108) from by first | (exact Wn_end r_WN (by rw [tn_cast (x := l6) (by omega)]; omega)) | (exfalso; omega; done) | (exfalso; contradiction; done)) r_GW (show zGU (T + 1) ((m 94 46) + (1 : Int32)) (m 99) from by first | (exact GUp_end r_GUp (by omega)) | (exfalso; omega; done) | (exfalso; contradiction; done)) r_OW (show zDX (m 94 10) (m 99) (m 112) (m 113) (m 114) (m 94 55) (m 98) (m 101) (m 102) (m 108) from by first | (exact DXn_end r_DXn r_WN (by rw [tn_cast (x := l6) (by omega)]; omega)) | (exfalso; omega; done) | (exfalso; contradiction; done)) r_GG (show zHA (m 94 10) (m 94 11) (m 94 13) (m 94 14) (m 94 16) (m 94 61) (m 94 59) (m 94 60) (m 99) (m 102) (m 103) (m 111) (m 117) (m 98) (m 101) (m 108) from by first | (exact HA_end r_HAs r_DCn r_WN (by rw [tn_cast (x := l6) (by omega)]; omega)) | (exfalso; omega; done) | (exfalso; contradiction; done)) r_RGc (show (m 94 58).toInt = 0 ∨ (m 94 10).toInt = 5 from by omega) (fun m1 hV_m1 p0_m1 p1_m1 p2_m1 p3_m1 p4_m1 p5_m1 p6_m1 p7_m1 => zmv_n ?_)
      have p0_m1 : zGW (T + 1) (m1 94 55) (m1 109) := p0_m1
      have p1_m1 : zGU (T + 1) ((m 94 46) + (1 : Int32)) (m1 99) := p1_m1
      have p2_m1 : zOw (m1 99) (m 103) (m1 111) := p2_m1
      have p3_m1 : zDX (m 94 10) (m1 99) (m1 112) (m1 113) (m1 114) (m1 94 55) (m 98) (m 101) (m 102) (m 108) := p3_m1
      have p4_m1 : zGG (m 94 58) (m1 94 56) (m 94 57) (m1 106) := p4_m1
      have p5_m1 : zHA (m 94 10) (m 94 11) (m 94 13) (m 94 14) (m 94 16) (m 94 61) (m 94 59) (m 94 60) (m1 99) (m 102) (m 103) (m1 111) (m 117) (m 98) (m 101) (m 108) := p5_m1
      have p6_m1 : zRG (m 94 10) (m 94 18) (m 94 64) (m 94 63) (m1 99) (m 103) (m 102) (m 116) := p6_m1
      have p7_m1 : (m 94 58).toInt = 0 ∨ (m 94 10).toInt = 5 := p7_m1
      have hg23 : (0 ≤ l5 ∧ l5.toNatClampNeg < 3100) := i_ix (by omega) (by omega)
      refine ⟨hg23, ?_⟩
      try have e21 : (l2 + (1 : Int32)).toInt = l2.toInt + 1 := i_addk rfl (by omega) (by omega)
      try have gun := GU_nu p1_m1
      first | have f24 : 0 ≤ (m 100 l5.toNatClampNeg).toInt ∧ (m 100 l5.toNatClampNeg).toInt ≤ 100000 := ra_100 (m := m) hV (k := l5.toNatClampNeg) (i_ix (n := 3100) (by omega) (by omega)).2 | have b25 := i_bd (m 100 l5.toNatClampNeg)
      exact K ((m 100 l5.toNatClampNeg)) _ (zF_zov (zF_u (zF_u (zF_u (zF_u hF rfl) rfl) rfl) rfl) ws_238_183) hV_m1 (show zW (m 94 7) (m 98) (m 101) (m 102) (m 108) from by first | (exact Wn_end r_WN (by rw [tn_cast (x := l6) (by omega)]; omega)) | (exfalso; omega; done) | (exfalso; contradiction; done)) p0_m1 p1_m1 p2_m1 p3_m1 p4_m1 p5_m1 p6_m1 (show (m 94 58).toInt = 0 ∨ (m 94 10).toInt = 5 from by omega)
    · skip
      have g26 := i_nle h9
      have hg27 : (0 ≤ l5 ∧ l5.toNatClampNeg < 3100) := i_ix (by omega) (by omega)
      refine ⟨hg27, ?_⟩
      first | have f28 : 0 ≤ (m 101 l5.toNatClampNeg).toInt ∧ (m 101 l5.toNatClampNeg).toInt ≤ 17 := ra_101 (m := m) hV (k := l5.toNatClampNeg) (i_ix (n := 3100) (by omega) (by omega)).2 | have b29 := i_bd (m 101 l5.toNatClampNeg)
      have li30 : (16 : Int32).toInt = 16 := rfl
      refine zd (fun (h31 : (m 101 l5.toNatClampNeg) = (16 : Int32)) => ?_) (fun (h31 : ¬ (m 101 l5.toNatClampNeg) = (16 : Int32)) => ?_)
      · skip
        have g32 := i_eq h31
        have li33 : (60 : Int32).toInt = 60 := rfl
        first | have e34 : (l5 * (60 : Int32)).toInt = l5.toInt * 60 := i_mulk rfl (by omega) (by omega) | have b35 := i_bd (l5 * (60 : Int32))
        first | have e36 : ((l5 * (60 : Int32)) + l6).toInt = (l5 * (60 : Int32)).toInt + l6.toInt := i_add (by omega) (by omega) | have b37 := i_bd ((l5 * (60 : Int32)) + l6)
        have hg38 : (0 ≤ ((l5 * (60 : Int32)) + l6) ∧ ((l5 * (60 : Int32)) + l6).toNatClampNeg < 186000) := i_ix (by omega) (by omega)
        refine ⟨hg38, ?_⟩
        try have e21 : (l2 + (1 : Int32)).toInt = l2.toInt + 1 := i_addk rfl (by omega) (by omega)
        have hV39 : zV (ma_u m 108 ((l5 * (60 : Int32)) + l6).toNatClampNeg (-1 : Int32)) := ua_108 hV
        have b40 := i_bd l3
        have b41 := i_bd l4
        first | have e42 : (l6 + (1 : Int32)).toInt = l6.toInt + (1) := i_addk rfl (by omega) (by omega) | have b43 := i_bd (l6 + (1 : Int32))
        exact IH (61 - (l6 + (1 : Int32)).toInt).toNat (by omega) _ (l2) (l3) (l4) (l5) ((l6 + (1 : Int32))) rfl (zF_u hF rfl) hV39 (by omega) (by omega) (by omega) (by omega) (by omega) (by omega) (by omega) (by omega) (by omega) (show (m 94 46).toInt ≤ 2999 from by omega) (show (m 102 l5.toNatClampNeg).toInt = l2.toInt from by omega) r_USn (show zWn (m 94 7) (m 98) (m 101) (m 102) ((ma_u m 108 ((l5 * (60 : Int32)) + l6).toNatClampNeg (-1 : Int32)) 108) l5.toNatClampNeg (l6 + (1 : Int32)).toNatClampNeg from by first | (exact Wn_put r_WN (zrf_oth (ix_word (by omega) (by omega) (by omega) (by omega)) (by rw [tn_eq]; omega) (fun t ht => (ra_102 hV ht).2)) (zrf_bef (ix_word (by omega) (by omega) (by omega) (by omega))) (zrf_m1 (ix_word (by omega) (by omega) (by omega) (by omega)) rfl) (tn_succ (by omega) (by omega))) | (exact Wn_put r_WN (zrf_oth (ix_word (by omega) (by omega) (by omega) (by omega)) (by rw [tn_eq]; omega) (fun t ht => (ra_102 hV ht).2)) (zrf_bef (ix_word (by omega) (by omega) (by omega) (by omega))) (zrf_nr rfl (by omega) (by assumption) (fun z => by first | exact absurd (Int32.lt_iff_toInt_lt.mp z.1) (by omega) | exact absurd z.2 (by assumption))) (tn_succ (by omega) (by omega))) | (exfalso; omega; done) | (exfalso; contradiction; done)) r_GW r_GUp r_OW (show zDX (m 94 10) (zmk (m 99) l5.toNatClampNeg) (m 112) (m 113) (m 114) (m 94 55) (m 98) (m 101) (m 102) ((ma_u m 108 ((l5 * (60 : Int32)) + l6).toNatClampNeg (-1 : Int32)) 108) from by first | (exact DXn_put r_DXn (zrf_oth (ix_word (by omega) (by omega) (by omega) (by omega)) (by rw [tn_eq]; omega) (fun t ht => (ra_102 hV ht).2))) | (exfalso; omega; done) | (exfalso; contradiction; done)) r_GG (show (m 94 58).toInt = 0 ∨ (m 94 10).toInt = 5 from by omega) r_HAs (show (m 94 10).toInt = 3 → zDC (m 94 14).toInt (m 94 16).toInt (zmk (m 99) l5.toNatClampNeg) (m 103) (m 102) (m 98) (m 101) ((ma_u m 108 ((l5 * (60 : Int32)) + l6).toNatClampNeg (-1 : Int32)) 108) (m 117) from by first | (exact DCn_put r_DCn (zrf_oth (ix_word (by omega) (by omega) (by omega) (by omega)) (by rw [tn_eq]; omega) (fun t ht => (ra_102 hV ht).2))) | (exfalso; omega; done) | (exfalso; contradiction; done)) r_RGc
      · skip
        have g44 := i_ne h31
        have hg45 : (0 ≤ l5 ∧ l5.toNatClampNeg < 3100) := i_ix (by omega) (by omega)
        refine ⟨hg45, ?_⟩
        refine zd (fun (h46 : (16 : Int32) ≤ (m 101 l5.toNatClampNeg)) => ?_) (fun (h46 : ¬ (16 : Int32) ≤ (m 101 l5.toNatClampNeg)) => ?_)
        · skip
          have g47 := i_le h46
          have li48 : (60 : Int32).toInt = 60 := rfl
          first | have e49 : (l5 * (60 : Int32)).toInt = l5.toInt * 60 := i_mulk rfl (by omega) (by omega) | have b50 := i_bd (l5 * (60 : Int32))
          first | have e51 : ((l5 * (60 : Int32)) + l6).toInt = (l5 * (60 : Int32)).toInt + l6.toInt := i_add (by omega) (by omega) | have b52 := i_bd ((l5 * (60 : Int32)) + l6)
          have hg53 : (0 ≤ ((l5 * (60 : Int32)) + l6) ∧ ((l5 * (60 : Int32)) + l6).toNatClampNeg < 186000) := i_ix (by omega) (by omega)
          refine ⟨hg53, ?_⟩
          try have e21 : (l2 + (1 : Int32)).toInt = l2.toInt + 1 := i_addk rfl (by omega) (by omega)
          have hV54 : zV (ma_u m 108 ((l5 * (60 : Int32)) + l6).toNatClampNeg (0 : Int32)) := ua_108 hV
          have b55 := i_bd l3
          have b56 := i_bd l4
          first | have e57 : (l6 + (1 : Int32)).toInt = l6.toInt + (1) := i_addk rfl (by omega) (by omega) | have b58 := i_bd (l6 + (1 : Int32))
          exact IH (61 - (l6 + (1 : Int32)).toInt).toNat (by omega) _ (l2) (l3) (l4) (l5) ((l6 + (1 : Int32))) rfl (zF_u hF rfl) hV54 (by omega) (by omega) (by omega) (by omega) (by omega) (by omega) (by omega) (by omega) (by omega) (show (m 94 46).toInt ≤ 2999 from by omega) (show (m 102 l5.toNatClampNeg).toInt = l2.toInt from by omega) r_USn (show zWn (m 94 7) (m 98) (m 101) (m 102) ((ma_u m 108 ((l5 * (60 : Int32)) + l6).toNatClampNeg (0 : Int32)) 108) l5.toNatClampNeg (l6 + (1 : Int32)).toNatClampNeg from by first | (exact Wn_put r_WN (zrf_oth (ix_word (by omega) (by omega) (by omega) (by omega)) (by rw [tn_eq]; omega) (fun t ht => (ra_102 hV ht).2)) (zrf_bef (ix_word (by omega) (by omega) (by omega) (by omega))) (zrf_nr rfl (by omega) (by assumption) (fun z => by first | exact absurd (Int32.lt_iff_toInt_lt.mp z.1) (by omega) | exact absurd z.2 (by assumption))) (tn_succ (by omega) (by omega))) | (exact Wn_put r_WN (zrf_oth (ix_word (by omega) (by omega) (by omega) (by omega)) (by rw [tn_eq]; omega) (fun t ht => (ra_102 hV ht).2)) (zrf_bef (ix_word (by omega) (by omega) (by omega) (by omega))) (zrf_m1 (ix_word (by omega) (by omega) (by omega) (by omega)) rfl) (tn_succ (by omega) (by omega))) | (exfalso; omega; done) | (exfalso; contradiction; done)) r_GW r_GUp r_OW (show zDX (m 94 10) (zmk (m 99) l5.toNatClampNeg) (m 112) (m 113) (m 114) (m 94 55) (m 98) (m 101) (m 102) ((ma_u m 108 ((l5 * (60 : Int32)) + l6).toNatClampNeg (0 : Int32)) 108) from by first | (exact DXn_put r_DXn (zrf_oth (ix_word (by omega) (by omega) (by omega) (by omega)) (by rw [tn_eq]; omega) (fun t ht => (ra_102 hV ht).2))) | (exfalso; omega; done) | (exfalso; contradiction; done)) r_GG (show (m 94 58).toInt = 0 ∨ (m 94 10).toInt = 5 from by omega) r_HAs (show (m 94 10).toInt = 3 → zDC (m 94 14).toInt (m 94 16).toInt (zmk (m 99) l5.toNatClampNeg) (m 103) (m 102) (m 98) (m 101) ((ma_u m 108 ((l5 * (60 : Int32)) + l6).toNatClampNeg (0 : Int32)) 108) (m 117) from by first | (exact DCn_put r_DCn (zrf_oth (ix_word (by omega) (by omega) (by omega) (by omega)) (by rw [tn_eq]; omega) (fun t ht => (ra_102 hV ht).2))) | (exfalso; omega; done) | (exfalso; contradiction; done)) r_RGc
        · skip
          have g59 := i_nle h46
          have hg60 : (0 ≤ l5 ∧ l5.toNatClampNeg < 3100) := i_ix (by omega) (by omega)
          refine ⟨hg60, ?_⟩
          have hg61 : (0 ≤ (m 101 l5.toNatClampNeg) ∧ (m 101 l5.toNatClampNeg).toNatClampNeg < 16) := i_ix (by omega) (by omega)
          refine ⟨hg61, ?_⟩
          have b62 := i_bd (((m 98 (m 101 l5.toNatClampNeg).toNatClampNeg) >>> (l6 &&& 31)) &&& (1 : Int32))
          have li63 : (1 : Int32).toInt = 1 := rfl
          refine zd (fun (h64 : (((m 98 (m 101 l5.toNatClampNeg).toNatClampNeg) >>> (l6 &&& 31)) &&& (1 : Int32)) = (1 : Int32)) => ?_) (fun (h64 : ¬ (((m 98 (m 101 l5.toNatClampNeg).toNatClampNeg) >>> (l6 &&& 31)) &&& (1 : Int32)) = (1 : Int32)) => ?_)
          · skip
            have g65 := i_eq h64
            have li66 : (60 : Int32).toInt = 60 := rfl
            first | have e67 : (l5 * (60 : Int32)).toInt = l5.toInt * 60 := i_mulk rfl (by omega) (by omega) | have b68 := i_bd (l5 * (60 : Int32))
            first | have e69 : ((l5 * (60 : Int32)) + l6).toInt = (l5 * (60 : Int32)).toInt + l6.toInt := i_add (by omega) (by omega) | have b70 := i_bd ((l5 * (60 : Int32)) + l6)
            have hg71 : (0 ≤ ((l5 * (60 : Int32)) + l6) ∧ ((l5 * (60 : Int32)) + l6).toNatClampNeg < 186000) := i_ix (by omega) (by omega)
            refine ⟨hg71, ?_⟩
            try have e21 : (l2 + (1 : Int32)).toInt = l2.toInt + 1 := i_addk rfl (by omega) (by omega)
            have hV72 : zV (ma_u m 108 ((l5 * (60 : Int32)) + l6).toNatClampNeg (-1 : Int32)) := ua_108 hV
            have b73 := i_bd l3
            have b74 := i_bd l4
            first | have e75 : (l6 + (1 : Int32)).toInt = l6.toInt + (1) := i_addk rfl (by omega) (by omega) | have b76 := i_bd (l6 + (1 : Int32))
            exact IH (61 - (l6 + (1 : Int32)).toInt).toNat (by omega) _ (l2) (l3) (l4) (l5) ((l6 + (1 : Int32))) rfl (zF_u hF rfl) hV72 (by omega) (by omega) (by omega) (by omega) (by omega) (by omega) (by omega) (by omega) (by omega) (show (m 94 46).toInt ≤ 2999 from by omega) (show (m 102 l5.toNatClampNeg).toInt = l2.toInt from by omega) r_USn (show zWn (m 94 7) (m 98) (m 101) (m 102) ((ma_u m 108 ((l5 * (60 : Int32)) + l6).toNatClampNeg (-1 : Int32)) 108) l5.toNatClampNeg (l6 + (1 : Int32)).toNatClampNeg from by first | (exact Wn_put r_WN (zrf_oth (ix_word (by omega) (by omega) (by omega) (by omega)) (by rw [tn_eq]; omega) (fun t ht => (ra_102 hV ht).2)) (zrf_bef (ix_word (by omega) (by omega) (by omega) (by omega))) (zrf_m1 (ix_word (by omega) (by omega) (by omega) (by omega)) rfl) (tn_succ (by omega) (by omega))) | (exact Wn_put r_WN (zrf_oth (ix_word (by omega) (by omega) (by omega) (by omega)) (by rw [tn_eq]; omega) (fun t ht => (ra_102 hV ht).2)) (zrf_bef (ix_word (by omega) (by omega) (by omega) (by omega))) (zrf_nr rfl (by omega) (by assumption) (fun z => by first | exact absurd (Int32.lt_iff_toInt_lt.mp z.1) (by omega) | exact absurd z.2 (by assumption))) (tn_succ (by omega) (by omega))) | (exfalso; omega; done) | (exfalso; contradiction; done)) r_GW r_GUp r_OW (show zDX (m 94 10) (zmk (m 99) l5.toNatClampNeg) (m 112) (m 113) (m 114) (m 94 55) (m 98) (m 101) (m 102) ((ma_u m 108 ((l5 * (60 : Int32)) + l6).toNatClampNeg (-1 : Int32)) 108) from by first | (exact DXn_put r_DXn (zrf_oth (ix_word (by omega) (by omega) (by omega) (by omega)) (by rw [tn_eq]; omega) (fun t ht => (ra_102 hV ht).2))) | (exfalso; omega; done) | (exfalso; contradiction; done)) r_GG (show (m 94 58).toInt = 0 ∨ (m 94 10).toInt = 5 from by omega) r_HAs (show (m 94 10).toInt = 3 → zDC (m 94 14).toInt (m 94 16).toInt (zmk (m 99) l5.toNatClampNeg) (m 103) (m 102) (m 98) (m 101) ((ma_u m 108 ((l5 * (60 : Int32)) + l6).toNatClampNeg (-1 : Int32)) 108) (m 117) from by first | (exact DCn_put r_DCn (zrf_oth (ix_word (by omega) (by omega) (by omega) (by omega)) (by rw [tn_eq]; omega) (fun t ht => (ra_102 hV ht).2))) | (exfalso; omega; done) | (exfalso; contradiction; done)) r_RGc
          · skip
            have g77 := i_ne h64
            have li78 : (60 : Int32).toInt = 60 := rfl
            first | have e79 : (l5 * (60 : Int32)).toInt = l5.toInt * 60 := i_mulk rfl (by omega) (by omega) | have b80 := i_bd (l5 * (60 : Int32))
            first | have e81 : ((l5 * (60 : Int32)) + l6).toInt = (l5 * (60 : Int32)).toInt + l6.toInt := i_add (by omega) (by omega) | have b82 := i_bd ((l5 * (60 : Int32)) + l6)
            have hg83 : (0 ≤ ((l5 * (60 : Int32)) + l6) ∧ ((l5 * (60 : Int32)) + l6).toNatClampNeg < 186000) := i_ix (by omega) (by omega)
            refine ⟨hg83, ?_⟩
            try have e21 : (l2 + (1 : Int32)).toInt = l2.toInt + 1 := i_addk rfl (by omega) (by omega)
            have hV84 : zV (ma_u m 108 ((l5 * (60 : Int32)) + l6).toNatClampNeg (0 : Int32)) := ua_108 hV
            have b85 := i_bd l3
            have b86 := i_bd l4
            first | have e87 : (l6 + (1 : Int32)).toInt = l6.toInt + (1) := i_addk rfl (by omega) (by omega) | have b88 := i_bd (l6 + (1 : Int32))
            exact IH (61 - (l6 + (1 : Int32)).toInt).toNat (by omega) _ (l2) (l3) (l4) (l5) ((l6 + (1 : Int32))) rfl (zF_u hF rfl) hV84 (by omega) (by omega) (by omega) (by omega) (by omega) (by omega) (by omega) (by omega) (by omega) (show (m 94 46).toInt ≤ 2999 from by omega) (show (m 102 l5.toNatClampNeg).toInt = l2.toInt from by omega) r_USn (show zWn (m 94 7) (m 98) (m 101) (m 102) ((ma_u m 108 ((l5 * (60 : Int32)) + l6).toNatClampNeg (0 : Int32)) 108) l5.toNatClampNeg (l6 + (1 : Int32)).toNatClampNeg from by first | (exact Wn_put r_WN (zrf_oth (ix_word (by omega) (by omega) (by omega) (by omega)) (by rw [tn_eq]; omega) (fun t ht => (ra_102 hV ht).2)) (zrf_bef (ix_word (by omega) (by omega) (by omega) (by omega))) (zrf_nr rfl (by omega) (by assumption) (fun z => by first | exact absurd z.2 (by assumption) | exact absurd (Int32.lt_iff_toInt_lt.mp z.1) (by omega))) (tn_succ (by omega) (by omega))) | (exact Wn_put r_WN (zrf_oth (ix_word (by omega) (by omega) (by omega) (by omega)) (by rw [tn_eq]; omega) (fun t ht => (ra_102 hV ht).2)) (zrf_bef (ix_word (by omega) (by omega) (by omega) (by omega))) (zrf_m1 (ix_word (by omega) (by omega) (by omega) (by omega)) rfl) (tn_succ (by omega) (by omega))) | (exfalso; omega; done) | (exfalso; contradiction; done)) r_GW r_GUp r_OW (show zDX (m 94 10) (zmk (m 99) l5.toNatClampNeg) (m 112) (m 113) (m 114) (m 94 55) (m 98) (m 101) (m 102) ((ma_u m 108 ((l5 * (60 : Int32)) + l6).toNatClampNeg (0 : Int32)) 108) from by first | (exact DXn_put r_DXn (zrf_oth (ix_word (by omega) (by omega) (by omega) (by omega)) (by rw [tn_eq]; omega) (fun t ht => (ra_102 hV ht).2))) | (exfalso; omega; done) | (exfalso; contradiction; done)) r_GG (show (m 94 58).toInt = 0 ∨ (m 94 10).toInt = 5 from by omega) r_HAs (show (m 94 10).toInt = 3 → zDC (m 94 14).toInt (m 94 16).toInt (zmk (m 99) l5.toNatClampNeg) (m 103) (m 102) (m 98) (m 101) ((ma_u m 108 ((l5 * (60 : Int32)) + l6).toNatClampNeg (0 : Int32)) 108) (m 117) from by first | (exact DCn_put r_DCn (zrf_oth (ix_word (by omega) (by omega) (by omega) (by omega)) (by rw [tn_eq]; omega) (fun t ht => (ra_102 hV ht).2))) | (exfalso; omega; done) | (exfalso; contradiction; done)) r_RGc
set_option maxHeartbeats 8000000 in
theorem lp_183_123 {X : Nat × (Nat → Int32)} {P : Option ma_V → (Nat → Nat → Int32) → Prop} {T : Nat} {kk : Int32} {nn : Int32} {r1 : Int32} {m0 : Nat → Nat → Int32} (h0 : zV m0) (K : ∀ v m₉, zF wr_183 m0 m₉ → zV m₉ → (zW (m₉ 94 7) (m₉ 98) (m₉ 101) (m₉ 102) (m₉ 108)) → (zGW (T + 1) (m₉ 94 55) (m₉ 109)) → (zGU (T + 1) (m₉ 94 46) (m₉ 99)) → (zOw (m₉ 99) (m₉ 103) (m₉ 111)) → (zDX (m₉ 94 10) (m₉ 99) (m₉ 112) (m₉ 113) (m₉ 114) (m₉ 94 55) (m₉ 98) (m₉ 101) (m₉ 102) (m₉ 108)) → (zGG (m₉ 94 58) (m₉ 94 56) (m₉ 94 57) (m₉ 106)) → (zHA (m₉ 94 10) (m₉ 94 11) (m₉ 94 13) (m₉ 94 14) (m₉ 94 16) (m₉ 94 61) (m₉ 94 59) (m₉ 94 60) (m₉ 99) (m₉ 102) (m₉ 103) (m₉ 111) (m₉ 117) (m₉ 98) (m₉ 101) (m₉ 108)) → (zRG (m₉ 94 10) (m₉ 94 18) (m₉ 94 64) (m₉ 94 63) (m₉ 99) (m₉ 103) (m₉ 102) (m₉ 116)) → ((m₉ 94 58).toInt = 0 ∨ (m₉ 94 10).toInt = 5) → P (some (.inl v)) m₉) : ∀ (n : Nat) (m : Nat → Nat → Int32) (l2 : Int32) (l3 : Int32) (l4 : Int32) (l5 : Int32), ((0 : Int)).toNat = n → zF wr_183 m0 m → zV m → (0 ≤ l2.toInt) → (l2.toInt ≤ 60) → (0 ≤ l3.toInt) → (l3.toInt ≤ 15) → (0 ≤ l4.toInt) → (l4.toInt + l2.toInt ≤ 4599) → (0 ≤ l5.toInt) → (l5.toInt ≤ 3099) → ((m 94 46).toInt ≤ 2999) → ((m 102 l5.toNatClampNeg).toInt = l2.toInt) → ((m 99) l5.toNatClampNeg ≠ 0) → (zWn (m 94 7) (m 98) (m 101) (m 102) (m 108) l5.toNatClampNeg (0 : Int32).toNatClampNeg) → (zGW T (m 94 55) (m 109)) → (T + 1 ≤ 3000) → (zGUp T (m 94 46) (m 99)) → (zOw (m 99) (m 103) (m 111)) → (zDX (m 94 10) (zmk (m 99) l5.toNatClampNeg) (m 112) (m 113) (m 114) (m 94 55) (m 98) (m 101) (m 102) (m 108)) → (zGG (m 94 58) (m 94 56) (m 94 57) (m 106)) → ((m 94 58).toInt = 0 ∨ (m 94 10).toInt = 5) → (zHAs (m 94 10) (m 94 11) (m 94 13) (m 94 14) (m 94 16) (m 94 61) (m 94 59) (m 94 60) (m 99) (m 102) (m 103) (m 111)) → ((m 94 10).toInt = 3 → zDC (m 94 14).toInt (m 94 16).toInt (zmk (m 99) l5.toNatClampNeg) (m 103) (m 102) (m 98) (m 101) (m 108) (m 117)) → (zRG (m 94 10) (m 94 18) (m 94 64) (m 94 63) (m 99) (m 103) (m 102) (m 116)) → zm X 9 198 183 123 [(0, .inr (.inr (some 94))), (2, .inl l2), (3, .inl l3), (4, .inl l4), (5, .inl l5)] m P := by
  intro n
  induction n using Nat.strongRecOn with
  | _ n IH =>
    intro m l2 l3 l4 l5 hmu hF hV hi0 hi1 hi2 hi3 hi4 hi5 hi6 hi7 hi8 hi9 r_USn r_WN r_GW hi13 r_GUp r_OW r_DXn r_GG hi18 r_HAs r_DCn r_RGc
    refine g_183_123 l2 l3 l4 l5 ?_
    have f1 : 0 ≤ (m 94 46).toInt ∧ (m 94 46).toInt ≤ 100000 := rs_94_46 (m := m) hV
    have b2 := i_bd l5
    first | have f3 : 0 ≤ (m 102 l5.toNatClampNeg).toInt ∧ (m 102 l5.toNatClampNeg).toInt ≤ 60 := ra_102 (m := m) hV (k := l5.toNatClampNeg) (i_ix (n := 3100) (by omega) (by omega)).2 | have b4 := i_bd (m 102 l5.toNatClampNeg)
    have f5 : 0 ≤ (m 94 58).toInt ∧ (m 94 58).toInt ≤ 1 := rs_94_58 (m := m) hV
    have f6 : 0 ≤ (m 94 10).toInt ∧ (m 94 10).toInt ≤ 6 := rs_94_10 (m := m) hV
    have hg7 : (0 ≤ l5 ∧ l5.toNatClampNeg < 3100) := i_ix (by omega) (by omega)
    refine ⟨hg7, ?_⟩
    have hg8 : (0 ≤ l5 ∧ l5.toNatClampNeg < 3100) := i_ix (by omega) (by omega)
    refine ⟨hg8, ?_⟩
    try have e21 : (l2 + (1 : Int32)).toInt = l2.toInt + 1 := i_addk rfl (by omega) (by omega)
    have hV9 : zV (ma_u m 107 l5.toNatClampNeg (0 : Int32)) := ua_107 hV
    have li11 : (0 : Int32).toInt = 0 := rfl
    have hV10 : zV (ma_u (ma_u m 107 l5.toNatClampNeg (0 : Int32)) 109 l5.toNatClampNeg (0 : Int32)) := ua_109 hV9 (by omega) (by omega)
    have b12 := i_bd l2
    have b13 := i_bd l3
    have b14 := i_bd l4
    exact lp_183_142 (kk := kk) (nn := nn) (r1 := r1) h0 K _ _ (l2) (l3) (l4) (l5) ((0 : Int32)) rfl (zF_u (zF_u hF rfl) rfl) hV10 (by omega) (by omega) (by omega) (by omega) (by omega) (by omega) (by omega) (by omega) (by omega) (show (m 94 46).toInt ≤ 2999 from by omega) (show (m 102 l5.toNatClampNeg).toInt = l2.toInt from by omega) r_USn r_WN (show zGW (T + 1) (m 94 55) ((ma_u m 109 l5.toNatClampNeg (0 : Int32)) 109) from by first | (exact GW_up (GW_0 r_GW) (by omega)) | (exfalso; omega; done) | (exfalso; contradiction; done)) r_GUp r_OW r_DXn r_GG (show (m 94 58).toInt = 0 ∨ (m 94 10).toInt = 5 from by omega) r_HAs r_DCn r_RGc
set_option maxHeartbeats 8000000 in
theorem lp_183_88 {X : Nat × (Nat → Int32)} {P : Option ma_V → (Nat → Nat → Int32) → Prop} {T : Nat} {kk : Int32} {nn : Int32} {r1 : Int32} {m0 : Nat → Nat → Int32} (h0 : zV m0) (K : ∀ v m₉, zF wr_183 m0 m₉ → zV m₉ → (zW (m₉ 94 7) (m₉ 98) (m₉ 101) (m₉ 102) (m₉ 108)) → (zGW (T + 1) (m₉ 94 55) (m₉ 109)) → (zGU (T + 1) (m₉ 94 46) (m₉ 99)) → (zOw (m₉ 99) (m₉ 103) (m₉ 111)) → (zDX (m₉ 94 10) (m₉ 99) (m₉ 112) (m₉ 113) (m₉ 114) (m₉ 94 55) (m₉ 98) (m₉ 101) (m₉ 102) (m₉ 108)) → (zGG (m₉ 94 58) (m₉ 94 56) (m₉ 94 57) (m₉ 106)) → (zHA (m₉ 94 10) (m₉ 94 11) (m₉ 94 13) (m₉ 94 14) (m₉ 94 16) (m₉ 94 61) (m₉ 94 59) (m₉ 94 60) (m₉ 99) (m₉ 102) (m₉ 103) (m₉ 111) (m₉ 117) (m₉ 98) (m₉ 101) (m₉ 108)) → (zRG (m₉ 94 10) (m₉ 94 18) (m₉ 94 64) (m₉ 94 63) (m₉ 99) (m₉ 103) (m₉ 102) (m₉ 116)) → ((m₉ 94 58).toInt = 0 ∨ (m₉ 94 10).toInt = 5) → P (some (.inl v)) m₉) : ∀ (n : Nat) (m : Nat → Nat → Int32) (l2 : Int32) (l3 : Int32) (l4 : Int32) (l5 : Int32), ((0 : Int)).toNat = n → zF wr_183 m0 m → zV m → (0 ≤ l2.toInt) → (l2.toInt ≤ 60) → (0 ≤ l3.toInt) → (l3.toInt ≤ 15) → (0 ≤ l4.toInt) → (l4.toInt + l2.toInt ≤ 4599) → (0 ≤ l5.toInt) → (l5.toInt ≤ 3099) → (T + 1 ≤ 3000) → ((m 94 46).toInt ≤ 2999) → ((m 102 l5.toNatClampNeg).toInt = l2.toInt) → ((m 99) l5.toNatClampNeg ≠ 0) → (zWn (m 94 7) (m 98) (m 101) (m 102) (m 108) l5.toNatClampNeg (0 : Int32).toNatClampNeg) → (zGW T (m 94 55) (m 109)) → (zGUp T (m 94 46) (m 99)) → (zOw (m 99) (m 103) (m 111)) → (zDX (m 94 10) (zmk (m 99) l5.toNatClampNeg) (m 112) (m 113) (m 114) (m 94 55) (m 98) (m 101) (m 102) (m 108)) → (zGG (m 94 58) (m 94 56) (m 94 57) (m 106)) → ((m 94 58).toInt = 0 ∨ (m 94 10).toInt = 5) → (zHAs (m 94 10) (m 94 11) (m 94 13) (m 94 14) (m 94 16) (m 94 61) (m 94 59) (m 94 60) (m 99) (m 102) (m 103) (m 111)) → ((m 94 10).toInt = 3 → zDC (m 94 14).toInt (m 94 16).toInt (zmk (m 99) l5.toNatClampNeg) (m 103) (m 102) (m 98) (m 101) (m 108) (m 117)) → (zRG (m 94 10) (m 94 18) (m 94 64) (m 94 63) (m 99) (m 103) (m 102) (m 116)) → zm X 9 198 183 88 [(0, .inr (.inr (some 94))), (2, .inl l2), (3, .inl l3), (4, .inl l4), (5, .inl l5)] m P := by
  intro n
  induction n using Nat.strongRecOn with
  | _ n IH =>
    intro m l2 l3 l4 l5 hmu hF hV hi0 hi1 hi2 hi3 hi4 hi5 hi6 hi7 hi8 hi9 hi10 r_USn r_WN r_GW r_GUp r_OW r_DXn r_GG hi18 r_HAs r_DCn r_RGc
    refine g_183_88 l2 l3 l4 l5 ?_
    have f1 : 0 ≤ (m 94 46).toInt ∧ (m 94 46).toInt ≤ 100000 := rs_94_46 (m := m) hV
    have b2 := i_bd l5
    first | have f3 : 0 ≤ (m 102 l5.toNatClampNeg).toInt ∧ (m 102 l5.toNatClampNeg).toInt ≤ 60 := ra_102 (m := m) hV (k := l5.toNatClampNeg) (i_ix (n := 3100) (by omega) (by omega)).2 | have b4 := i_bd (m 102 l5.toNatClampNeg)
    have f5 : 0 ≤ (m 94 58).toInt ∧ (m 94 58).toInt ≤ 1 := rs_94_58 (m := m) hV
    have f6 : 0 ≤ (m 94 10).toInt ∧ (m 94 10).toInt ≤ 6 := rs_94_10 (m := m) hV
    have hg7 : (0 ≤ l5 ∧ l5.toNatClampNeg < 3100) := i_ix (by omega) (by omega)
    refine ⟨hg7, ?_⟩
    have hg8 : (0 ≤ l5 ∧ l5.toNatClampNeg < 3100) := i_ix (by omega) (by omega)
    refine ⟨hg8, ?_⟩
    have li9 : (0 : Int32).toInt = 0 := rfl
    refine zd (fun (h10 : (m 94 58) = (0 : Int32)) => ?_) (fun (h10 : ¬ (m 94 58) = (0 : Int32)) => ?_)
    · skip
      have g11 := i_eq h10
      have hg12 : (0 ≤ l5 ∧ l5.toNatClampNeg < 3100) := i_ix (by omega) (by omega)
      refine ⟨hg12, ?_⟩
      try have e21 : (l2 + (1 : Int32)).toInt = l2.toInt + 1 := i_addk rfl (by omega) (by omega)
      have hV13 : zV (ma_u m 104 l5.toNatClampNeg (0 : Int32)) := ua_104 hV
      have hV14 : zV (ma_u (ma_u m 104 l5.toNatClampNeg (0 : Int32)) 105 l5.toNatClampNeg (0 : Int32)) := ua_105 hV13
      have hV15 : zV (ma_u (ma_u (ma_u m 104 l5.toNatClampNeg (0 : Int32)) 105 l5.toNatClampNeg (0 : Int32)) 106 l5.toNatClampNeg (0 : Int32)) := ua_106 hV14
      have b16 := i_bd l2
      have b17 := i_bd l3
      have b18 := i_bd l4
      exact lp_183_123 (kk := kk) (nn := nn) (r1 := r1) h0 K _ _ (l2) (l3) (l4) (l5) rfl (zF_u (zF_u (zF_u hF rfl) rfl) rfl) hV15 (by omega) (by omega) (by omega) (by omega) (by omega) (by omega) (by omega) (by omega) (show (m 94 46).toInt ≤ 2999 from by omega) (show (m 102 l5.toNatClampNeg).toInt = l2.toInt from by omega) r_USn r_WN r_GW (by omega) r_GUp r_OW r_DXn (show zGG (m 94 58) (m 94 56) (m 94 57) ((ma_u m 106 l5.toNatClampNeg (0 : Int32)) 106) from by first | (exact fun z => absurd z (by omega)) | (exact fun z => G1_dark0 (r_GG z) (by decide)) | (exact fun z => absurd z (by decide)) | (exact fun z => absurd z (by omega)) | (exfalso; omega; done) | (exfalso; contradiction; done)) (show (m 94 58).toInt = 0 ∨ (m 94 10).toInt = 5 from by omega) r_HAs r_DCn r_RGc
    · skip
      have g19 := i_ne h10
      have hg20 : (0 ≤ l5 ∧ l5.toNatClampNeg < 3100) := i_ix (by omega) (by omega)
      refine ⟨hg20, ?_⟩
      try have e21 : (l2 + (1 : Int32)).toInt = l2.toInt + 1 := i_addk rfl (by omega) (by omega)
      have hV21 : zV (ma_u m 104 l5.toNatClampNeg (0 : Int32)) := ua_104 hV
      have hV22 : zV (ma_u (ma_u m 104 l5.toNatClampNeg (0 : Int32)) 105 l5.toNatClampNeg (0 : Int32)) := ua_105 hV21
      have hV23 : zV (ma_u (ma_u (ma_u m 104 l5.toNatClampNeg (0 : Int32)) 105 l5.toNatClampNeg (0 : Int32)) 106 l5.toNatClampNeg (2 : Int32)) := ua_106 hV22
      have b24 := i_bd l2
      have b25 := i_bd l3
      have b26 := i_bd l4
      exact lp_183_123 (kk := kk) (nn := nn) (r1 := r1) h0 K _ _ (l2) (l3) (l4) (l5) rfl (zF_u (zF_u (zF_u hF rfl) rfl) rfl) hV23 (by omega) (by omega) (by omega) (by omega) (by omega) (by omega) (by omega) (by omega) (show (m 94 46).toInt ≤ 2999 from by omega) (show (m 102 l5.toNatClampNeg).toInt = l2.toInt from by omega) r_USn r_WN r_GW (by omega) r_GUp r_OW r_DXn (show zGG (m 94 58) (m 94 56) (m 94 57) ((ma_u m 106 l5.toNatClampNeg (2 : Int32)) 106) from by first | (exact fun z => G1_dark0 (r_GG z) (by decide)) | (exact fun z => absurd z (by omega)) | (exact fun z => absurd z (by decide)) | (exact fun z => absurd z (by omega)) | (exfalso; omega; done) | (exfalso; contradiction; done)) (show (m 94 58).toInt = 0 ∨ (m 94 10).toInt = 5 from by omega) r_HAs r_DCn r_RGc
set_option maxHeartbeats 8000000 in
theorem lp_183_19 {X : Nat × (Nat → Int32)} {P : Option ma_V → (Nat → Nat → Int32) → Prop} {T : Nat} {kk : Int32} {nn : Int32} {r1 : Int32} {m0 : Nat → Nat → Int32} (h0 : zV m0) (K : ∀ v m₉, zF wr_183 m0 m₉ → zV m₉ → (zW (m₉ 94 7) (m₉ 98) (m₉ 101) (m₉ 102) (m₉ 108)) → (zGW (T + 1) (m₉ 94 55) (m₉ 109)) → (zGU (T + 1) (m₉ 94 46) (m₉ 99)) → (zOw (m₉ 99) (m₉ 103) (m₉ 111)) → (zDX (m₉ 94 10) (m₉ 99) (m₉ 112) (m₉ 113) (m₉ 114) (m₉ 94 55) (m₉ 98) (m₉ 101) (m₉ 102) (m₉ 108)) → (zGG (m₉ 94 58) (m₉ 94 56) (m₉ 94 57) (m₉ 106)) → (zHA (m₉ 94 10) (m₉ 94 11) (m₉ 94 13) (m₉ 94 14) (m₉ 94 16) (m₉ 94 61) (m₉ 94 59) (m₉ 94 60) (m₉ 99) (m₉ 102) (m₉ 103) (m₉ 111) (m₉ 117) (m₉ 98) (m₉ 101) (m₉ 108)) → (zRG (m₉ 94 10) (m₉ 94 18) (m₉ 94 64) (m₉ 94 63) (m₉ 99) (m₉ 103) (m₉ 102) (m₉ 116)) → ((m₉ 94 58).toInt = 0 ∨ (m₉ 94 10).toInt = 5) → P (some (.inl v)) m₉) : ∀ (n : Nat) (m : Nat → Nat → Int32) (l1 : Int32) (l2 : Int32) (l3 : Int32) (l4 : Int32) (l5 : Int32), (3100 - l5.toInt).toNat = n → zF wr_183 m0 m → zV m → (0 ≤ l5.toInt) → (l5.toInt ≤ 3100) → (0 ≤ l4.toInt) → (l4.toInt + l2.toInt ≤ 4599) → (0 ≤ l2.toInt) → (l2.toInt ≤ 60) → (0 ≤ l3.toInt) → (l3.toInt ≤ 15) → (0 ≤ l1.toInt) → (l1.toInt ≤ 17) → (T + 1 ≤ 3000) → (16 ≤ l1.toInt ∨ l1.toInt < (m 94 7).toInt) → (zW (m 94 7) (m 98) (m 101) (m 102) (m 108)) → (zGW T (m 94 55) (m 109)) → (zGU T (m 94 46) (m 99)) → (zOw (m 99) (m 103) (m 111)) → (zDX (m 94 10) (m 99) (m 112) (m 113) (m 114) (m 94 55) (m 98) (m 101) (m 102) (m 108)) → (zGG (m 94 58) (m 94 56) (m 94 57) (m 106)) → (zHA (m 94 10) (m 94 11) (m 94 13) (m 94 14) (m 94 16) (m 94 61) (m 94 59) (m 94 60) (m 99) (m 102) (m 103) (m 111) (m 117) (m 98) (m 101) (m 108)) → (zRG (m 94 10) (m 94 18) (m 94 64) (m 94 63) (m 99) (m 103) (m 102) (m 116)) → ((m 94 58).toInt = 0 ∨ (m 94 10).toInt = 5) → (zPL (m 94 10) (m 94 11) (m 94 13) (m 94 14) (m 94 61) (m 94 59) (m 94 60) (m 94 18) (m 94 64) (m 99) (m 102) (m 103) (m 111) l4 (l2 + (1 : Int32))) → (∀ j : Nat, (j : Int) < l5.toInt → (m 99) j ≠ 0) → zm X 9 198 183 19 [(0, .inr (.inr (some 94))), (1, .inl l1), (2, .inl l2), (3, .inl l3), (4, .inl l4), (5, .inl l5)] m P := by
  intro n
  induction n using Nat.strongRecOn with
  | _ n IH =>
    intro m l1 l2 l3 l4 l5 hmu hF hV hi0 hi1 hi2 hi3 hi4 hi5 hi6 hi7 hi8 hi9 hi10 hi11 r_W r_GW r_GU r_OW r_DX r_GG r_HA r_RGc hi20 r_PL r_AU
    refine g_183_19 l1 l2 l3 l4 l5 ?_
    have f1 : 0 ≤ (m 94 7).toInt ∧ (m 94 7).toInt ≤ 16 := rs_94_7 (m := m) hV
    have f2 : 0 ≤ (m 94 58).toInt ∧ (m 94 58).toInt ≤ 1 := rs_94_58 (m := m) hV
    have f3 : 0 ≤ (m 94 10).toInt ∧ (m 94 10).toInt ≤ 6 := rs_94_10 (m := m) hV
    have b4 := i_bd l5
    try have gk := AU_room r_AU r_GU (by omega)
    have hg5 : (0 ≤ l5 ∧ l5.toNatClampNeg < 3100) := i_ix (by omega) (by omega)
    refine ⟨hg5, ?_⟩
    first | have f6 : 0 ≤ (m 99 l5.toNatClampNeg).toInt ∧ (m 99 l5.toNatClampNeg).toInt ≤ 1 := ra_99 (m := m) hV (k := l5.toNatClampNeg) (i_ix (n := 3100) (by omega) (by omega)).2 | have b7 := i_bd (m 99 l5.toNatClampNeg)
    have li8 : (0 : Int32).toInt = 0 := rfl
    refine zd (fun (h9 : (m 99 l5.toNatClampNeg) = (0 : Int32)) => ?_) (fun (h9 : ¬ (m 99 l5.toNatClampNeg) = (0 : Int32)) => ?_)
    · skip
      have g10 := i_eq h9
      try have gk := AU_room r_AU r_GU (by omega)
      have hg11 : (0 ≤ l5 ∧ l5.toNatClampNeg < 3100) := i_ix (by omega) (by omega)
      refine ⟨hg11, ?_⟩
      have hg12 : (0 ≤ l5 ∧ l5.toNatClampNeg < 3100) := i_ix (by omega) (by omega)
      refine ⟨hg12, ?_⟩
      have hg13 : (0 ≤ l5 ∧ l5.toNatClampNeg < 3100) := i_ix (by omega) (by omega)
      refine ⟨hg13, ?_⟩
      have hg14 : (0 ≤ l5 ∧ l5.toNatClampNeg < 3100) := i_ix (by omega) (by omega)
      refine ⟨hg14, ?_⟩
      have hg15 : (0 ≤ l5 ∧ l5.toNatClampNeg < 3100) := i_ix (by omega) (by omega)
      refine ⟨hg15, ?_⟩
      have b16 := i_bd l4
      have hg17 : (0 ≤ l4 ∧ l4.toNatClampNeg < 4600) := i_ix (by omega) (by omega)
      refine ⟨hg17, ?_⟩
      try have gk := AU_room r_AU r_GU (by omega)
      try have e21 : (l2 + (1 : Int32)).toInt = l2.toInt + 1 := i_addk rfl (by omega) (by omega)
      try have gun := GU_nu r_GU
      have li19 : (1 : Int32).toInt = 1 := rfl
      have hV18 : zV (ma_u m 99 l5.toNatClampNeg (1 : Int32)) := ua_99 hV (by omega) (by omega)
      have f21 : 0 ≤ (m 94 46).toInt ∧ (m 94 46).toInt ≤ 100000 := rs_94_46 (m := m) hV
      have hV20 : zV (ma_u (ma_u m 99 l5.toNatClampNeg (1 : Int32)) 100 l5.toNatClampNeg (m 94 46)) := ua_100 hV18 (by omega) (by omega)
      have b23 := i_bd l1
      have hV22 : zV (ma_u (ma_u (ma_u m 99 l5.toNatClampNeg (1 : Int32)) 100 l5.toNatClampNeg (m 94 46)) 101 l5.toNatClampNeg l1) := ua_101 hV20 (by omega) (by omega)
      have b25 := i_bd l2
      have hV24 : zV (ma_u (ma_u (ma_u (ma_u m 99 l5.toNatClampNeg (1 : Int32)) 100 l5.toNatClampNeg (m 94 46)) 101 l5.toNatClampNeg l1) 102 l5.toNatClampNeg l2) := ua_102 hV22 (by omega) (by omega)
      have hV26 : zV (ma_u (ma_u (ma_u (ma_u (ma_u m 99 l5.toNatClampNeg (1 : Int32)) 100 l5.toNatClampNeg (m 94 46)) 101 l5.toNatClampNeg l1) 102 l5.toNatClampNeg l2) 103 l5.toNatClampNeg l4) := ua_103 hV24 (by omega) (by omega)
      have hV27 : zV (ma_u (ma_u (ma_u (ma_u (ma_u (ma_u m 99 l5.toNatClampNeg (1 : Int32)) 100 l5.toNatClampNeg (m 94 46)) 101 l5.toNatClampNeg l1) 102 l5.toNatClampNeg l2) 103 l5.toNatClampNeg l4) 111 l4.toNatClampNeg l5) := ua_111 hV26 (by omega) (by omega)
      have b28 := i_bd l3
      have q29 : ((ma_u m 102 l5.toNatClampNeg l2) 102 l5.toNatClampNeg).toInt = l2.toInt := congrArg Int32.toInt mu_self
      first | have f30 : 0 ≤ ((ma_u m 102 l5.toNatClampNeg l2) 102 l5.toNatClampNeg).toInt ∧ ((ma_u m 102 l5.toNatClampNeg l2) 102 l5.toNatClampNeg).toInt ≤ 60 := ra_102 (m := (ma_u (ma_u (ma_u (ma_u m 99 l5.toNatClampNeg (1 : Int32)) 100 l5.toNatClampNeg (m 94 46)) 101 l5.toNatClampNeg l1) 102 l5.toNatClampNeg l2)) hV24 (k := l5.toNatClampNeg) (i_ix (n := 3100) (by omega) (by omega)).2 | have b31 := i_bd ((ma_u m 102 l5.toNatClampNeg l2) 102 l5.toNatClampNeg)
      exact lp_183_88 (kk := kk) (nn := nn) (r1 := r1) h0 K _ _ (l2) (l3) (l4) (l5) rfl (zF_u (zF_u (zF_u (zF_u (zF_u (zF_u hF rfl) rfl) rfl) rfl) rfl) rfl) hV27 (by omega) (by omega) (by omega) (by omega) (by omega) (by omega) (by omega) (by omega) (by omega) (show (m 94 46).toInt ≤ 2999 from by omega) (show ((ma_u m 102 l5.toNatClampNeg l2) 102 l5.toNatClampNeg).toInt = l2.toInt from by omega) (show ((ma_u m 99 l5.toNatClampNeg (1 : Int32)) 99) l5.toNatClampNeg ≠ 0 from by first | (rw [mu_self]; decide; done) | (exfalso; omega; done) | (exfalso; contradiction; done)) (show zWn (m 94 7) (m 98) ((ma_u m 101 l5.toNatClampNeg l1) 101) ((ma_u m 102 l5.toNatClampNeg l2) 102) (m 108) l5.toNatClampNeg (0 : Int32).toNatClampNeg from by first | (exact Wn_0 r_W (fun t ht => mu_ne ht) (fun t ht => mu_ne ht) (by rw [mu_self]; assumption) rfl) | (exfalso; omega; done) | (exfalso; contradiction; done)) r_GW (show zGUp T (m 94 46) ((ma_u m 99 l5.toNatClampNeg (1 : Int32)) 99) from by first | (exact GUp_0 r_GU (by omega)) | (exfalso; omega; done) | (exfalso; contradiction; done)) (show zOw ((ma_u m 99 l5.toNatClampNeg (1 : Int32)) 99) ((ma_u m 103 l5.toNatClampNeg l4) 103) ((ma_u m 111 l4.toNatClampNeg l5) 111) from by first | (exact Ow_new r_OW (by assumption) (fun t ht => mu_ne ht) (by rw [mu_self]; decide) (fun t ht => mu_ne ht) mu_self (by omega) (fun t ht => mu_ne ht) (by rw [mu_self])) | (exact Ow_rm r_OW (by decide) (tn_cast (by omega)).symm) | (exfalso; omega; done) | (exfalso; contradiction; done)) (show zDX (m 94 10) (zmk ((ma_u m 99 l5.toNatClampNeg (1 : Int32)) 99) l5.toNatClampNeg) (m 112) (m 113) (m 114) (m 94 55) (m 98) ((ma_u m 101 l5.toNatClampNeg l1) 101) ((ma_u m 102 l5.toNatClampNeg l2) 102) (m 108) from by first | (exact DXn_0 r_DX (by assumption) (fun t ht => mu_ne ht) (fun t ht => mu_ne ht) (fun t ht => mu_ne ht)) | (exfalso; omega; done) | (exfalso; contradiction; done)) r_GG (show (m 94 58).toInt = 0 ∨ (m 94 10).toInt = 5 from by omega) (show zHAs (m 94 10) (m 94 11) (m 94 13) (m 94 14) (m 94 16) (m 94 61) (m 94 59) (m 94 60) ((ma_u m 99 l5.toNatClampNeg (1 : Int32)) 99) ((ma_u m 102 l5.toNatClampNeg l2) 102) ((ma_u m 103 l5.toNatClampNeg l4) 103) ((ma_u m 111 l4.toNatClampNeg l5) 111) from by first | (exact HAs_new r_HA r_PL (by omega) (by assumption) (by omega) (fun t ht => mu_ne ht) (by rw [mu_self]; decide) (fun t ht => mu_ne ht) (by rw [mu_self]; omega) (by rw [mu_self]; omega) (fun t ht => mu_ne ht) mu_self (fun t ht => mu_ne ht) (by rw [mu_self]) (by rw [mu_self]; omega) (fun t ht => (ra_103 hV ht).1) (fun t ht => (ra_102 hV ht).1)) | (exfalso; omega; done) | (exfalso; contradiction; done)) (show (m 94 10).toInt = 3 → zDC (m 94 14).toInt (m 94 16).toInt (zmk ((ma_u m 99 l5.toNatClampNeg (1 : Int32)) 99) l5.toNatClampNeg) ((ma_u m 103 l5.toNatClampNeg l4) 103) ((ma_u m 102 l5.toNatClampNeg l2) 102) (m 98) ((ma_u m 101 l5.toNatClampNeg l1) 101) (m 108) (m 117) from by first | (exact DCn_0 r_HA r_DX (by assumption) (fun t ht => mu_ne ht) (fun t ht => mu_ne ht) (fun t ht => mu_ne ht) (fun t ht => mu_ne ht)) | (exfalso; omega; done) | (exfalso; contradiction; done)) (show zRG (m 94 10) (m 94 18) (m 94 64) (m 94 63) ((ma_u m 99 l5.toNatClampNeg (1 : Int32)) 99) ((ma_u m 103 l5.toNatClampNeg l4) 103) ((ma_u m 102 l5.toNatClampNeg l2) 102) (m 116) from by first | (exact RG_new r_RGc r_PL (by omega) (fun t ht => mu_ne ht) (fun t ht => mu_ne ht) (by rw [mu_self]; omega) (fun t ht => mu_ne ht) mu_self) | (exfalso; omega; done) | (exfalso; contradiction; done))
    · skip
      have g32 := i_ne h9
      try have gk := AU_room r_AU r_GU (by omega)
      try have e21 : (l2 + (1 : Int32)).toInt = l2.toInt + 1 := i_addk rfl (by omega) (by omega)
      try have gun := GU_nu r_GU
      have b33 := i_bd l1
      have b34 := i_bd l2
      have b35 := i_bd l3
      have b36 := i_bd l4
      first | have e37 : (l5 + (1 : Int32)).toInt = l5.toInt + (1) := i_addk rfl (by omega) (by omega) | have b38 := i_bd (l5 + (1 : Int32))
      exact IH (3100 - (l5 + (1 : Int32)).toInt).toNat (by omega) _ (l1) (l2) (l3) (l4) ((l5 + (1 : Int32))) rfl hF hV (by omega) (by omega) (by omega) (by omega) (by omega) (by omega) (by omega) (by omega) (by omega) (by omega) (by omega) (show 16 ≤ l1.toInt ∨ l1.toInt < (m 94 7).toInt from by omega) r_W r_GW r_GU r_OW r_DX r_GG r_HA r_RGc (show (m 94 58).toInt = 0 ∨ (m 94 10).toInt = 5 from by omega) r_PL (show ∀ j : Nat, (j : Int) < (l5 + (1 : Int32)).toInt → (m 99) j ≠ 0 from by first | (exact AU_step r_AU (by omega) (by assumption) (by omega)) | (exfalso; omega; done) | (exfalso; contradiction; done))
set_option maxHeartbeats 8000000 in
theorem sp_183 {X : Nat × (Nat → Int32)} {P : Option ma_V → (Nat → Nat → Int32) → Prop} {T : Nat} {m : Nat → Nat → Int32} (kk : Int32) (nn : Int32) (r1 : Int32) (hV : zV m) (hpre0 : 0 ≤ nn.toInt) (hpre1 : nn.toInt ≤ 60) (hpre2 : 0 ≤ r1.toInt) (hpre3 : r1.toInt ≤ 15) (hpre4 : 0 ≤ kk.toInt) (hpre5 : kk.toInt ≤ 17) (hpre6 : T + 1 ≤ 3000) (hpre7 : 16 ≤ kk.toInt ∨ kk.toInt < (m 94 7).toInt) (r_W : zW (m 94 7) (m 98) (m 101) (m 102) (m 108)) (r_GW : zGW T (m 94 55) (m 109)) (r_GU : zGU T (m 94 46) (m 99)) (r_OW : zOw (m 99) (m 103) (m 111)) (r_DX : zDX (m 94 10) (m 99) (m 112) (m 113) (m 114) (m 94 55) (m 98) (m 101) (m 102) (m 108)) (r_GG : zGG (m 94 58) (m 94 56) (m 94 57) (m 106)) (r_HA : zHA (m 94 10) (m 94 11) (m 94 13) (m 94 14) (m 94 16) (m 94 61) (m 94 59) (m 94 60) (m 99) (m 102) (m 103) (m 111) (m 117) (m 98) (m 101) (m 108)) (r_RGc : zRG (m 94 10) (m 94 18) (m 94 64) (m 94 63) (m 99) (m 103) (m 102) (m 116)) (hpre16 : (m 94 58).toInt = 0 ∨ (m 94 10).toInt = 5) (KZ : ∀ v m₉, zV (zov wr_183 m m₉) → (zW (m 94 7) (m 98) (m₉ 101) (m₉ 102) (m₉ 108)) → (zGW (T + 1) (m₉ 94 55) (m₉ 109)) → (zGU (T + 1) (m₉ 94 46) (m₉ 99)) → (zOw (m₉ 99) (m₉ 103) (m₉ 111)) → (zDX (m 94 10) (m₉ 99) (m₉ 112) (m₉ 113) (m₉ 114) (m₉ 94 55) (m 98) (m₉ 101) (m₉ 102) (m₉ 108)) → (zGG (m₉ 94 58) (m₉ 94 56) (m₉ 94 57) (m₉ 106)) → (zHA (m 94 10) (m 94 11) (m 94 13) (m 94 14) (m 94 16) (m₉ 94 61) (m₉ 94 59) (m₉ 94 60) (m₉ 99) (m₉ 102) (m₉ 103) (m₉ 111) (m₉ 117) (m 98) (m₉ 101) (m₉ 108)) → (zRG (m 94 10) (m 94 18) (m 94 64) (m₉ 94 63) (m₉ 99) (m₉ 103) (m₉ 102) (m₉ 116)) → ((m₉ 94 58).toInt = 0 ∨ (m 94 10).toInt = 5) → P (some (.inl v)) (zov wr_183 m m₉)) : zm X 9 198 183 0 [(0, .inr (.inr (some 94))), (1, .inl kk), (2, .inl nn), (3, .inl r1)] m P := by
  have K : ∀ v m₉, zF wr_183 m m₉ → zV m₉ → (zW (m₉ 94 7) (m₉ 98) (m₉ 101) (m₉ 102) (m₉ 108)) → (zGW (T + 1) (m₉ 94 55) (m₉ 109)) → (zGU (T + 1) (m₉ 94 46) (m₉ 99)) → (zOw (m₉ 99) (m₉ 103) (m₉ 111)) → (zDX (m₉ 94 10) (m₉ 99) (m₉ 112) (m₉ 113) (m₉ 114) (m₉ 94 55) (m₉ 98) (m₉ 101) (m₉ 102) (m₉ 108)) → (zGG (m₉ 94 58) (m₉ 94 56) (m₉ 94 57) (m₉ 106)) → (zHA (m₉ 94 10) (m₉ 94 11) (m₉ 94 13) (m₉ 94 14) (m₉ 94 16) (m₉ 94 61) (m₉ 94 59) (m₉ 94 60) (m₉ 99) (m₉ 102) (m₉ 103) (m₉ 111) (m₉ 117) (m₉ 98) (m₉ 101) (m₉ 108)) → (zRG (m₉ 94 10) (m₉ 94 18) (m₉ 94 64) (m₉ 94 63) (m₉ 99) (m₉ 103) (m₉ 102) (m₉ 116)) → ((m₉ 94 58).toInt = 0 ∨ (m₉ 94 10).toInt = 5) → P (some (.inl v)) m₉ := by
    intro v m₉ hf z q0 q1 q2 q3 q4 q5 q6 q7 q8
    have e := zov_eq hf
    rw [e] at z ⊢
    try rw [e] at q0
    try rw [e] at q1
    try rw [e] at q2
    try rw [e] at q3
    try rw [e] at q4
    try rw [e] at q5
    try rw [e] at q6
    try rw [e] at q7
    try rw [e] at q8
    exact KZ v m₉ z q0 q1 q2 q3 q4 q5 q6 q7 q8
  refine g_183_0 kk nn r1 ?_
  have f1 : 0 ≤ (m 94 7).toInt ∧ (m 94 7).toInt ≤ 16 := rs_94_7 (m := m) hV
  have f2 : 0 ≤ (m 94 58).toInt ∧ (m 94 58).toInt ≤ 1 := rs_94_58 (m := m) hV
  have f3 : 0 ≤ (m 94 10).toInt ∧ (m 94 10).toInt ≤ 6 := rs_94_10 (m := m) hV
  have b4 := i_bd nn
  first | have e5 : (nn + (1 : Int32)).toInt = nn.toInt + (1) := i_addk rfl (by omega) (by omega) | have b6 := i_bd (nn + (1 : Int32))
  refine sp_184 ((nn + (1 : Int32))) hV (by omega) (by omega) r_W r_GW r_GU r_OW r_DX r_GG r_HA r_RGc (show (m 94 58).toInt = 0 ∨ (m 94 10).toInt = 5 from by omega) (fun v2 m1 hV_m1 p0_m1 p1_m1 p2_m1 p3_m1 p4_m1 p5_m1 p6_m1 p7_m1 p8_m1 => zmi_n ?_)
  have p0_m1 : zGW T (m1 94 55) (m1 109) := p0_m1
  have p1_m1 : zGU T (m 94 46) (m1 99) := p1_m1
  have p2_m1 : zOw (m1 99) (m1 103) (m1 111) := p2_m1
  have p3_m1 : zDX (m 94 10) (m1 99) (m 112) (m1 113) (m1 114) (m1 94 55) (m 98) (m 101) (m 102) (m 108) := p3_m1
  have p4_m1 : zGG (m1 94 58) (m1 94 56) (m1 94 57) (m1 106) := p4_m1
  have p5_m1 : zHA (m 94 10) (m 94 11) (m 94 13) (m 94 14) (m 94 16) (m1 94 61) (m1 94 59) (m1 94 60) (m1 99) (m 102) (m1 103) (m1 111) (m1 117) (m 98) (m 101) (m 108) := p5_m1
  have p6_m1 : zRG (m 94 10) (m 94 18) (m 94 64) (m1 94 63) (m1 99) (m1 103) (m 102) (m1 116) := p6_m1
  have p7_m1 : (m1 94 58).toInt = 0 ∨ (m 94 10).toInt = 5 := p7_m1
  have p8_m1 : zPL (m 94 10) (m 94 11) (m 94 13) (m 94 14) (m1 94 61) (m1 94 59) (m1 94 60) (m 94 18) (m 94 64) (m1 99) (m 102) (m1 103) (m1 111) v2 (nn + (1 : Int32)) := p8_m1
  have f7 : 0 ≤ (m1 94 58).toInt ∧ (m1 94 58).toInt ≤ 1 := rs_94_58 (m := (zov wr_184 m m1)) hV_m1
  try have plx := PL_lo p8_m1
  have li8 : (0 : Int32).toInt = 0 := rfl
  have b9 := i_bd v2
  refine zd (fun (h10 : (0 : Int32) ≤ v2) => ?_) (fun (h10 : ¬ (0 : Int32) ≤ v2) => ?_)
  · skip
    have g11 := i_le h10
    skip
    try have gun := GU_nu p1_m1
    have b12 := i_bd kk
    have b13 := i_bd r1
    exact lp_183_19 (kk := kk) (nn := nn) (r1 := r1) hV K _ _ (kk) (nn) (r1) (v2) ((0 : Int32)) rfl (zF_zov zF_rfl ws_184_183) hV_m1 (by omega) (by omega) (by omega) (by omega) (by omega) (by omega) (by omega) (by omega) (by omega) (by omega) (by omega) (show 16 ≤ kk.toInt ∨ kk.toInt < (m 94 7).toInt from by omega) r_W p0_m1 p1_m1 p2_m1 p3_m1 p4_m1 p5_m1 p6_m1 (show (m1 94 58).toInt = 0 ∨ (m 94 10).toInt = 5 from by omega) p8_m1 (show ∀ j : Nat, (j : Int) < (0 : Int32).toInt → (m1 99) j ≠ 0 from by first | (intro j hj; omega; done) | (exfalso; omega; done) | (exfalso; contradiction; done))
  · skip
    have g14 := i_nle h10
    skip
    try have gun := GU_nu p1_m1
    have li15 : (-1 : Int32).toInt = -1 := rfl
    exact K ((-1 : Int32)) _ (zF_zov zF_rfl ws_184_183) hV_m1 r_W (show zGW (T + 1) (m1 94 55) (m1 109) from by first | (exact GW_up p0_m1 (by omega)) | (exfalso; omega; done) | (exfalso; contradiction; done)) (show zGU (T + 1) (m 94 46) (m1 99) from by first | (exact GU_up p1_m1 (by omega)) | (exact GU_0 p1_m1) | (exfalso; omega; done) | (exfalso; contradiction; done)) p2_m1 p3_m1 p4_m1 p5_m1 p6_m1 (show (m1 94 58).toInt = 0 ∨ (m 94 10).toInt = 5 from by omega)

/-! from 94.493 -/
/-! the reference (written by wip/tools/gen94m.py) -/
set_option maxRecDepth 100000 in
theorem hm_181 : ma_md 181 = some (12, yX12_make, cX12_make, 3, (some (FieldType.int))) := rfl
theorem v_12_496_12 : ma_vl 12 496 12 = some (1, 183, 3) := by decide +kernel
theorem dX12_make_0 : decode cX12_make 0 = .ok (.aload_n 0, 1) := by decide +kernel
theorem dX12_make_1 : decode cX12_make 1 = .ok (.iload_n 1, 1) := by decide +kernel
theorem dX12_make_21 : decode cX12_make 21 = .ok (.iconst 1, 1) := by decide +kernel
theorem dX12_make_22 : decode cX12_make 22 = .ok (.goto 15, 3) := by decide +kernel
theorem dX12_make_37 : decode cX12_make 37 = .ok (.invokevirtual 110, 3) := by decide +kernel
theorem dX12_make_40 : decode cX12_make 40 = .ok (.ifCond .eq 5, 3) := by decide +kernel
theorem dX12_make_43 : decode cX12_make 43 = .ok (.iconst 0, 1) := by decide +kernel
theorem dX12_make_44 : decode cX12_make 44 = .ok (.ireturn, 1) := by decide +kernel
theorem dX12_make_5 : decode cX12_make 5 = .ok (.iload_n 1, 1) := by decide +kernel
theorem dX12_make_6 : decode cX12_make 6 = .ok (.aload_n 0, 1) := by decide +kernel
theorem dX12_make_13 : decode cX12_make 13 = .ok (.aload_n 0, 1) := by decide +kernel
theorem dX12_make_14 : decode cX12_make 14 = .ok (.iload_n 2, 1) := by decide +kernel
theorem dX12_make_15 : decode cX12_make 15 = .ok (.invokevirtual 493, 3) := by decide +kernel
theorem dX12_make_18 : decode cX12_make 18 = .ok (.ifCond .ne 7, 3) := by decide +kernel
theorem dX12_make_25 : decode cX12_make 25 = .ok (.aload_n 0, 1) := by decide +kernel
theorem dX12_make_36 : decode cX12_make 36 = .ok (.iconst 0, 1) := by decide +kernel
theorem dX12_make_45 : decode cX12_make 45 = .ok (.aload_n 0, 1) := by decide +kernel
theorem dX12_make_46 : decode cX12_make 46 = .ok (.iload_n 1, 1) := by decide +kernel
theorem dX12_make_47 : decode cX12_make 47 = .ok (.aload_n 0, 1) := by decide +kernel
theorem dX12_make_51 : decode cX12_make 51 = .ok (.iload_n 1, 1) := by decide +kernel
theorem dX12_make_53 : decode cX12_make 53 = .ok (.iload_n 2, 1) := by decide +kernel
theorem dX12_make_54 : decode cX12_make 54 = .ok (.invokevirtual 496, 3) := by decide +kernel
theorem dX12_make_57 : decode cX12_make 57 = .ok (.ireturn, 1) := by decide +kernel
theorem dX12_make_52 : decode cX12_make 52 = .ok (.iaload, 1) := by decide +kernel
theorem dX12_make_48 : decode cX12_make 48 = .ok (.getfield 20, 3) := by decide +kernel
theorem dX12_make_32 : decode cX12_make 32 = .ok (.iconst 2, 1) := by decide +kernel
theorem dX12_make_33 : decode cX12_make 33 = .ok (.goto 4, 3) := by decide +kernel
theorem dX12_make_29 : decode cX12_make 29 = .ok (.ifCond .ne 7, 3) := by decide +kernel
theorem dX12_make_26 : decode cX12_make 26 = .ok (.getfield 237, 3) := by decide +kernel
theorem dX12_make_10 : decode cX12_make 10 = .ok (.if_icmp .ge 11, 3) := by decide +kernel
theorem dX12_make_7 : decode cX12_make 7 = .ok (.getfield 118, 3) := by decide +kernel
theorem dX12_make_2 : decode cX12_make 2 = .ok (.ifCond .lt 19, 3) := by decide +kernel
def wr_181 (c k : Nat) : Bool := Nat.beq c 99 || Nat.beq c 100 || Nat.beq c 101 || Nat.beq c 102 || Nat.beq c 103 || Nat.beq c 104 || Nat.beq c 105 || Nat.beq c 106 || Nat.beq c 107 || Nat.beq c 108 || Nat.beq c 109 || Nat.beq c 110 || Nat.beq c 111 || Nat.beq c 112 || Nat.beq c 113 || Nat.beq c 114 || Nat.beq c 115 || Nat.beq c 116 || Nat.beq c 117 || Nat.beq c 118 || Nat.beq c 119 || Nat.beq c 120 || Nat.beq c 121 || Nat.beq c 122 || Nat.beq c 123 || Nat.beq c 124 || (Nat.beq c 94 && (Nat.beq k 0 || Nat.beq k 44 || Nat.beq k 45 || Nat.beq k 46 || Nat.beq k 47 || Nat.beq k 48 || Nat.beq k 49 || Nat.beq k 50 || Nat.beq k 55 || Nat.beq k 56 || Nat.beq k 57 || Nat.beq k 58 || Nat.beq k 59 || Nat.beq k 60 || Nat.beq k 61 || Nat.beq k 62 || Nat.beq k 63 || Nat.beq k 73 || Nat.beq k 75 || Nat.beq k 76 || Nat.beq k 77 || Nat.beq k 80 || Nat.beq k 84))
theorem ws_183_181 : ∀ c k, wr_183 c k = true → wr_181 c k = true := by
  intro c k h
  simp only [wr_183, Bool.or_eq_true, Bool.and_eq_true, Nat.beq_eq] at h
  rcases h with (((((((((((((((((((((((((rfl | rfl) | rfl) | rfl) | rfl) | rfl) | rfl) | rfl) | rfl) | rfl) | rfl) | rfl) | rfl) | rfl) | rfl) | rfl) | rfl) | rfl) | rfl) | rfl) | rfl) | rfl) | rfl) | rfl) | rfl) | rfl) | ⟨rfl, (((((((((((((((((((((rfl | rfl) | rfl) | rfl) | rfl) | rfl) | rfl) | rfl) | rfl) | rfl) | rfl) | rfl) | rfl) | rfl) | rfl) | rfl) | rfl) | rfl) | rfl) | rfl) | rfl) | rfl)⟩ <;> rfl
theorem g_181_0 {X : Nat × (Nat → Int32)} {m : Nat → Nat → Int32} {P : Option ma_V → (Nat → Nat → Int32) → Prop} (kk : Int32) (r1 : Int32) (h : if kk < 0 then (P (some (.inl (0 : Int32))) (ma_u m 94 0 (1 : Int32))) else (if (m 94 7) ≤ kk then (P (some (.inl (0 : Int32))) (ma_u m 94 0 (1 : Int32))) else (if r1 < 0 then (P (some (.inl (0 : Int32))) (ma_u m 94 0 (1 : Int32))) else (if (16 : Int32) ≤ r1 then (P (some (.inl (0 : Int32))) (ma_u m 94 0 (1 : Int32))) else (if (m 94 8) = 0 then (P (some (.inl (0 : Int32))) (ma_u m 94 0 (2 : Int32))) else ((0 ≤ kk ∧ kk.toNatClampNeg < 16) ∧ (zm X 9 198 183 0 [(0, .inr (.inr (some 94))), (1, .inl kk), (2, .inl (m 97 kk.toNatClampNeg)), (3, .inl r1)] (ma_u m 94 0 (0 : Int32)) (zmi (fun v2 m1 => P (some (.inl v2)) m1))))))))) : zm X 10 224 181 0 [(0, .inr (.inr (some 94))), (1, .inl kk), (2, .inl r1)] m P := by
  intro d w S Q hd hw hS hm HQ
  subst hm
  refine zw_push hm_181 dX12_make_0 (v := .inr (.inr (some 94))) rfl ?_
  refine zw_push hm_181 dX12_make_1 (v := .inl kk) rfl ?_
  refine zw_if0 hm_181 dX12_make_2 (t := 21) rfl zc0_lt ?_ ?_
  · intro hc
    rw [if_pos hc] at h
    refine zw_push hm_181 dX12_make_21 (v := .inl (1 : Int32)) rfl ?_
    refine zw_goto hm_181 dX12_make_22 (t := 37) rfl ?_
    refine zw_cv hm_181 dX12_make_37 v_12_110_12 hm_167 [.inl (1 : Int32)] [] rfl (zT_rt hS s_94 rfl) ⟨by omega, by omega⟩ rfl ?_
    show ma_wp X (d - 1) (w - 21) 167 0 [(0, .inr (.inr (some 94))), (1, .inl (1 : Int32))] [] S _
    refine zw_push hm_167 dX12_fails_0 (v := .inr (.inr (some 94))) rfl ?_
    refine zw_push hm_167 dX12_fails_1 (v := .inl (1 : Int32)) rfl ?_
    refine zw_pf hm_167 dX12_fails_2 (zT_is hS s_94) (zT_t hS s_94) p_12_1_12 zk_int ?_
    refine zw_push hm_167 dX12_fails_5 (v := .inl (1 : Int32)) rfl ?_
    refine zw_if0 hm_167 dX12_fails_6 (t := 13) rfl zc0_eq (fun hc => absurd hc (by decide)) (fun _ => ?_)
    refine zw_push hm_167 dX12_fails_9 (v := .inl (1 : Int32)) rfl ?_
    refine zw_goto hm_167 dX12_fails_10 (t := 14) rfl ?_
    refine zw_bret hm_167 dX12_fails_14 (by decide) ?_
    show ma_wp X d w 181 40 [(0, .inr (.inr (some 94))), (1, .inl kk), (2, .inl r1)] [.inl (1 : Int32)] (ma_put S 94 0 (.inl (1 : Int32))) _
    refine zw_if0 hm_181 dX12_make_40 (t := 45) rfl zc0_eq (fun hc => absurd hc (by decide)) (fun _ => ?_)
    refine zw_push hm_181 dX12_make_43 (v := .inl (0 : Int32)) rfl ?_
    exact zw_iret hm_181 dX12_make_44 (HQ _ _ h)
  · intro hc
    rw [if_neg hc] at h
    refine zw_push hm_181 dX12_make_5 (v := .inl kk) rfl ?_
    refine zw_push hm_181 dX12_make_6 (v := .inr (.inr (some 94))) rfl ?_
    refine zw_gf hm_181 dX12_make_7 (v := .inl ((mI S) 94 7)) (zT_is hS s_94) (zT_t hS s_94) rfl f_12_118_12 rfl ?_
    refine zw_if2 hm_181 dX12_make_10 (t := 21) rfl zc2_ge ?_ ?_
    · intro hc
      rw [if_pos hc] at h
      refine zw_push hm_181 dX12_make_21 (v := .inl (1 : Int32)) rfl ?_
      refine zw_goto hm_181 dX12_make_22 (t := 37) rfl ?_
      refine zw_cv hm_181 dX12_make_37 v_12_110_12 hm_167 [.inl (1 : Int32)] [] rfl (zT_rt hS s_94 rfl) ⟨by omega, by omega⟩ rfl ?_
      show ma_wp X (d - 1) (w - 21) 167 0 [(0, .inr (.inr (some 94))), (1, .inl (1 : Int32))] [] S _
      refine zw_push hm_167 dX12_fails_0 (v := .inr (.inr (some 94))) rfl ?_
      refine zw_push hm_167 dX12_fails_1 (v := .inl (1 : Int32)) rfl ?_
      refine zw_pf hm_167 dX12_fails_2 (zT_is hS s_94) (zT_t hS s_94) p_12_1_12 zk_int ?_
      refine zw_push hm_167 dX12_fails_5 (v := .inl (1 : Int32)) rfl ?_
      refine zw_if0 hm_167 dX12_fails_6 (t := 13) rfl zc0_eq (fun hc => absurd hc (by decide)) (fun _ => ?_)
      refine zw_push hm_167 dX12_fails_9 (v := .inl (1 : Int32)) rfl ?_
      refine zw_goto hm_167 dX12_fails_10 (t := 14) rfl ?_
      refine zw_bret hm_167 dX12_fails_14 (by decide) ?_
      show ma_wp X d w 181 40 [(0, .inr (.inr (some 94))), (1, .inl kk), (2, .inl r1)] [.inl (1 : Int32)] (ma_put S 94 0 (.inl (1 : Int32))) _
      refine zw_if0 hm_181 dX12_make_40 (t := 45) rfl zc0_eq (fun hc => absurd hc (by decide)) (fun _ => ?_)
      refine zw_push hm_181 dX12_make_43 (v := .inl (0 : Int32)) rfl ?_
      exact zw_iret hm_181 dX12_make_44 (HQ _ _ h)
    · intro hc
      rw [if_neg hc] at h
      refine zw_push hm_181 dX12_make_13 (v := .inr (.inr (some 94))) rfl ?_
      refine zw_push hm_181 dX12_make_14 (v := .inl r1) rfl ?_
      refine zw_cv hm_181 dX12_make_15 v_12_493_12 hm_182 [.inl r1] [.inr (.inr (some 94))] rfl (zT_rt hS s_94 rfl) ⟨by omega, by omega⟩ rfl ?_
      show ma_wp X (d - 1) (w - 21) 182 0 [(0, .inr (.inr (some 94))), (1, .inl r1)] [] S _
      refine zw_push hm_182 dX12_isNamed_0 (v := .inl r1) rfl ?_
      refine zw_if0 hm_182 dX12_isNamed_1 (t := 14) rfl zc0_lt ?_ ?_
      · intro hc
        rw [if_pos hc] at h
        refine zw_push hm_182 dX12_isNamed_14 (v := .inl (0 : Int32)) rfl ?_
        refine zw_bret hm_182 dX12_isNamed_15 (by decide) ?_
        show ma_wp X d w 181 18 [(0, .inr (.inr (some 94))), (1, .inl kk), (2, .inl r1)] [.inl (0 : Int32), .inr (.inr (some 94))] S _
        refine zw_if0 hm_181 dX12_make_18 (t := 25) rfl zc0_ne (fun hc => absurd hc (by decide)) (fun _ => ?_)
        refine zw_push hm_181 dX12_make_21 (v := .inl (1 : Int32)) rfl ?_
        refine zw_goto hm_181 dX12_make_22 (t := 37) rfl ?_
        refine zw_cv hm_181 dX12_make_37 v_12_110_12 hm_167 [.inl (1 : Int32)] [] rfl (zT_rt hS s_94 rfl) ⟨by omega, by omega⟩ rfl ?_
        show ma_wp X (d - 1) (w - 21) 167 0 [(0, .inr (.inr (some 94))), (1, .inl (1 : Int32))] [] S _
        refine zw_push hm_167 dX12_fails_0 (v := .inr (.inr (some 94))) rfl ?_
        refine zw_push hm_167 dX12_fails_1 (v := .inl (1 : Int32)) rfl ?_
        refine zw_pf hm_167 dX12_fails_2 (zT_is hS s_94) (zT_t hS s_94) p_12_1_12 zk_int ?_
        refine zw_push hm_167 dX12_fails_5 (v := .inl (1 : Int32)) rfl ?_
        refine zw_if0 hm_167 dX12_fails_6 (t := 13) rfl zc0_eq (fun hc => absurd hc (by decide)) (fun _ => ?_)
        refine zw_push hm_167 dX12_fails_9 (v := .inl (1 : Int32)) rfl ?_
        refine zw_goto hm_167 dX12_fails_10 (t := 14) rfl ?_
        refine zw_bret hm_167 dX12_fails_14 (by decide) ?_
        show ma_wp X d w 181 40 [(0, .inr (.inr (some 94))), (1, .inl kk), (2, .inl r1)] [.inl (1 : Int32)] (ma_put S 94 0 (.inl (1 : Int32))) _
        refine zw_if0 hm_181 dX12_make_40 (t := 45) rfl zc0_eq (fun hc => absurd hc (by decide)) (fun _ => ?_)
        refine zw_push hm_181 dX12_make_43 (v := .inl (0 : Int32)) rfl ?_
        exact zw_iret hm_181 dX12_make_44 (HQ _ _ h)
      · intro hc
        rw [if_neg hc] at h
        refine zw_push hm_182 dX12_isNamed_4 (v := .inl r1) rfl ?_
        refine zw_push hm_182 dX12_isNamed_5 (v := .inl (16 : Int32)) rfl ?_
        refine zw_if2 hm_182 dX12_isNamed_7 (t := 14) rfl zc2_ge ?_ ?_
        · intro hc
          rw [if_pos hc] at h
          refine zw_push hm_182 dX12_isNamed_14 (v := .inl (0 : Int32)) rfl ?_
          refine zw_bret hm_182 dX12_isNamed_15 (by decide) ?_
          show ma_wp X d w 181 18 [(0, .inr (.inr (some 94))), (1, .inl kk), (2, .inl r1)] [.inl (0 : Int32), .inr (.inr (some 94))] S _
          refine zw_if0 hm_181 dX12_make_18 (t := 25) rfl zc0_ne (fun hc => absurd hc (by decide)) (fun _ => ?_)
          refine zw_push hm_181 dX12_make_21 (v := .inl (1 : Int32)) rfl ?_
          refine zw_goto hm_181 dX12_make_22 (t := 37) rfl ?_
          refine zw_cv hm_181 dX12_make_37 v_12_110_12 hm_167 [.inl (1 : Int32)] [] rfl (zT_rt hS s_94 rfl) ⟨by omega, by omega⟩ rfl ?_
          show ma_wp X (d - 1) (w - 21) 167 0 [(0, .inr (.inr (some 94))), (1, .inl (1 : Int32))] [] S _
          refine zw_push hm_167 dX12_fails_0 (v := .inr (.inr (some 94))) rfl ?_
          refine zw_push hm_167 dX12_fails_1 (v := .inl (1 : Int32)) rfl ?_
          refine zw_pf hm_167 dX12_fails_2 (zT_is hS s_94) (zT_t hS s_94) p_12_1_12 zk_int ?_
          refine zw_push hm_167 dX12_fails_5 (v := .inl (1 : Int32)) rfl ?_
          refine zw_if0 hm_167 dX12_fails_6 (t := 13) rfl zc0_eq (fun hc => absurd hc (by decide)) (fun _ => ?_)
          refine zw_push hm_167 dX12_fails_9 (v := .inl (1 : Int32)) rfl ?_
          refine zw_goto hm_167 dX12_fails_10 (t := 14) rfl ?_
          refine zw_bret hm_167 dX12_fails_14 (by decide) ?_
          show ma_wp X d w 181 40 [(0, .inr (.inr (some 94))), (1, .inl kk), (2, .inl r1)] [.inl (1 : Int32)] (ma_put S 94 0 (.inl (1 : Int32))) _
          refine zw_if0 hm_181 dX12_make_40 (t := 45) rfl zc0_eq (fun hc => absurd hc (by decide)) (fun _ => ?_)
          refine zw_push hm_181 dX12_make_43 (v := .inl (0 : Int32)) rfl ?_
          exact zw_iret hm_181 dX12_make_44 (HQ _ _ h)
        · intro hc
          rw [if_neg hc] at h
          refine zw_push hm_182 dX12_isNamed_10 (v := .inl (1 : Int32)) rfl ?_
          refine zw_goto hm_182 dX12_isNamed_11 (t := 15) rfl ?_
          refine zw_bret hm_182 dX12_isNamed_15 (by decide) ?_
          show ma_wp X d w 181 18 [(0, .inr (.inr (some 94))), (1, .inl kk), (2, .inl r1)] [.inl (1 : Int32), .inr (.inr (some 94))] S _
          refine zw_if0 hm_181 dX12_make_18 (t := 25) rfl zc0_ne (fun _ => ?_) (fun hc => absurd (by decide) hc)
          refine zw_push hm_181 dX12_make_25 (v := .inr (.inr (some 94))) rfl ?_
          refine zw_gf hm_181 dX12_make_26 (v := .inl ((mI S) 94 8)) (zT_is hS s_94) (zT_t hS s_94) rfl f_12_237_12 rfl ?_
          refine zw_if0 hm_181 dX12_make_29 (t := 36) rfl zc0_ne ?_ ?_
          · intro hc
            rw [if_neg hc] at h
            refine zw_push hm_181 dX12_make_36 (v := .inl (0 : Int32)) rfl ?_
            refine zw_cv hm_181 dX12_make_37 v_12_110_12 hm_167 [.inl (0 : Int32)] [] rfl (zT_rt hS s_94 rfl) ⟨by omega, by omega⟩ rfl ?_
            show ma_wp X (d - 1) (w - 21) 167 0 [(0, .inr (.inr (some 94))), (1, .inl (0 : Int32))] [] S _
            refine zw_push hm_167 dX12_fails_0 (v := .inr (.inr (some 94))) rfl ?_
            refine zw_push hm_167 dX12_fails_1 (v := .inl (0 : Int32)) rfl ?_
            refine zw_pf hm_167 dX12_fails_2 (zT_is hS s_94) (zT_t hS s_94) p_12_1_12 zk_int ?_
            refine zw_push hm_167 dX12_fails_5 (v := .inl (0 : Int32)) rfl ?_
            refine zw_if0 hm_167 dX12_fails_6 (t := 13) rfl zc0_eq (fun _ => ?_) (fun hc => absurd (by decide) hc)
            refine zw_push hm_167 dX12_fails_13 (v := .inl (0 : Int32)) rfl ?_
            refine zw_bret hm_167 dX12_fails_14 (by decide) ?_
            show ma_wp X d w 181 40 [(0, .inr (.inr (some 94))), (1, .inl kk), (2, .inl r1)] [.inl (0 : Int32)] (ma_put S 94 0 (.inl (0 : Int32))) _
            refine zw_if0 hm_181 dX12_make_40 (t := 45) rfl zc0_eq (fun _ => ?_) (fun hc => absurd (by decide) hc)
            refine zw_push hm_181 dX12_make_45 (v := .inr (.inr (some 94))) rfl ?_
            refine zw_push hm_181 dX12_make_46 (v := .inl kk) rfl ?_
            refine zw_push hm_181 dX12_make_47 (v := .inr (.inr (some 94))) rfl ?_
            refine zw_gf hm_181 dX12_make_48 (v := .inr (.inr (some 97))) (zT_is (zT_pi hS) s_94) (zT_t (zT_pi hS) s_94) rfl f_12_20_12 (zT_f (zT_pi hS) r_94_5) ?_
            refine zw_push hm_181 dX12_make_51 (v := .inl kk) rfl ?_
            obtain ⟨hg, h⟩ := h
            refine zw_ia hm_181 dX12_make_52 (zT_is (zT_pi hS) s_97) (zT_h (zT_pi hS) s_97) rfl hg ?_
            show ma_wp X d w 181 53 [(0, .inr (.inr (some 94))), (1, .inl kk), (2, .inl r1)] [.inl ((mI S) 97 kk.toNatClampNeg), .inl kk, .inr (.inr (some 94))] (ma_put S 94 0 (.inl (0 : Int32))) _
            refine zw_push hm_181 dX12_make_53 (v := .inl r1) rfl ?_
            refine zw_cv hm_181 dX12_make_54 v_12_496_12 hm_183 [.inl r1, .inl ((mI S) 97 kk.toNatClampNeg), .inl kk] [] rfl (zT_rt (zT_pi hS) s_94 rfl) ⟨by omega, by omega⟩ rfl (h _ _ (ma_put S 94 0 (.inl (0 : Int32))) _ (by omega) (by omega) (zT_pi hS) rfl (fun o9 m1 hv => ?_))
            obtain ⟨v2, rfl, h⟩ := zmi_of hv
            show ma_wp X d w 181 57 [(0, .inr (.inr (some 94))), (1, .inl kk), (2, .inl r1)] [.inl v2] (zst S m1) _
            exact zw_iret hm_181 dX12_make_57 (HQ _ _ h)
          · intro hc
            rw [if_pos (Classical.not_not.mp hc)] at h
            refine zw_push hm_181 dX12_make_32 (v := .inl (2 : Int32)) rfl ?_
            refine zw_goto hm_181 dX12_make_33 (t := 37) rfl ?_
            refine zw_cv hm_181 dX12_make_37 v_12_110_12 hm_167 [.inl (2 : Int32)] [] rfl (zT_rt hS s_94 rfl) ⟨by omega, by omega⟩ rfl ?_
            show ma_wp X (d - 1) (w - 21) 167 0 [(0, .inr (.inr (some 94))), (1, .inl (2 : Int32))] [] S _
            refine zw_push hm_167 dX12_fails_0 (v := .inr (.inr (some 94))) rfl ?_
            refine zw_push hm_167 dX12_fails_1 (v := .inl (2 : Int32)) rfl ?_
            refine zw_pf hm_167 dX12_fails_2 (zT_is hS s_94) (zT_t hS s_94) p_12_1_12 zk_int ?_
            refine zw_push hm_167 dX12_fails_5 (v := .inl (2 : Int32)) rfl ?_
            refine zw_if0 hm_167 dX12_fails_6 (t := 13) rfl zc0_eq (fun hc => absurd hc (by decide)) (fun _ => ?_)
            refine zw_push hm_167 dX12_fails_9 (v := .inl (1 : Int32)) rfl ?_
            refine zw_goto hm_167 dX12_fails_10 (t := 14) rfl ?_
            refine zw_bret hm_167 dX12_fails_14 (by decide) ?_
            show ma_wp X d w 181 40 [(0, .inr (.inr (some 94))), (1, .inl kk), (2, .inl r1)] [.inl (1 : Int32)] (ma_put S 94 0 (.inl (2 : Int32))) _
            refine zw_if0 hm_181 dX12_make_40 (t := 45) rfl zc0_eq (fun hc => absurd hc (by decide)) (fun _ => ?_)
            refine zw_push hm_181 dX12_make_43 (v := .inl (0 : Int32)) rfl ?_
            exact zw_iret hm_181 dX12_make_44 (HQ _ _ h)
set_option maxHeartbeats 8000000 in
theorem sp_181 {X : Nat × (Nat → Int32)} {P : Option ma_V → (Nat → Nat → Int32) → Prop} {T : Nat} {m : Nat → Nat → Int32} (kk : Int32) (r1 : Int32) (hV : zV m) (hpre0 : T + 1 ≤ 3000) (r_W : zW (m 94 7) (m 98) (m 101) (m 102) (m 108)) (r_GW : zGW T (m 94 55) (m 109)) (r_GU : zGU T (m 94 46) (m 99)) (r_OW : zOw (m 99) (m 103) (m 111)) (r_DX : zDX (m 94 10) (m 99) (m 112) (m 113) (m 114) (m 94 55) (m 98) (m 101) (m 102) (m 108)) (r_GG : zGG (m 94 58) (m 94 56) (m 94 57) (m 106)) (r_HA : zHA (m 94 10) (m 94 11) (m 94 13) (m 94 14) (m 94 16) (m 94 61) (m 94 59) (m 94 60) (m 99) (m 102) (m 103) (m 111) (m 117) (m 98) (m 101) (m 108)) (r_RGc : zRG (m 94 10) (m 94 18) (m 94 64) (m 94 63) (m 99) (m 103) (m 102) (m 116)) (hpre9 : (m 94 58).toInt = 0 ∨ (m 94 10).toInt = 5) (KZ : ∀ v m₉, zV (zov wr_181 m m₉) → (zW (m 94 7) (m 98) (m₉ 101) (m₉ 102) (m₉ 108)) → (zGW (T + 1) (m₉ 94 55) (m₉ 109)) → (zGU (T + 1) (m₉ 94 46) (m₉ 99)) → (zOw (m₉ 99) (m₉ 103) (m₉ 111)) → (zDX (m 94 10) (m₉ 99) (m₉ 112) (m₉ 113) (m₉ 114) (m₉ 94 55) (m 98) (m₉ 101) (m₉ 102) (m₉ 108)) → (zGG (m₉ 94 58) (m₉ 94 56) (m₉ 94 57) (m₉ 106)) → (zHA (m 94 10) (m 94 11) (m 94 13) (m 94 14) (m 94 16) (m₉ 94 61) (m₉ 94 59) (m₉ 94 60) (m₉ 99) (m₉ 102) (m₉ 103) (m₉ 111) (m₉ 117) (m 98) (m₉ 101) (m₉ 108)) → (zRG (m 94 10) (m 94 18) (m 94 64) (m₉ 94 63) (m₉ 99) (m₉ 103) (m₉ 102) (m₉ 116)) → ((m₉ 94 58).toInt = 0 ∨ (m 94 10).toInt = 5) → P (some (.inl v)) (zov wr_181 m m₉)) : zm X 10 224 181 0 [(0, .inr (.inr (some 94))), (1, .inl kk), (2, .inl r1)] m P := by
  have K : ∀ v m₉, zF wr_181 m m₉ → zV m₉ → (zW (m₉ 94 7) (m₉ 98) (m₉ 101) (m₉ 102) (m₉ 108)) → (zGW (T + 1) (m₉ 94 55) (m₉ 109)) → (zGU (T + 1) (m₉ 94 46) (m₉ 99)) → (zOw (m₉ 99) (m₉ 103) (m₉ 111)) → (zDX (m₉ 94 10) (m₉ 99) (m₉ 112) (m₉ 113) (m₉ 114) (m₉ 94 55) (m₉ 98) (m₉ 101) (m₉ 102) (m₉ 108)) → (zGG (m₉ 94 58) (m₉ 94 56) (m₉ 94 57) (m₉ 106)) → (zHA (m₉ 94 10) (m₉ 94 11) (m₉ 94 13) (m₉ 94 14) (m₉ 94 16) (m₉ 94 61) (m₉ 94 59) (m₉ 94 60) (m₉ 99) (m₉ 102) (m₉ 103) (m₉ 111) (m₉ 117) (m₉ 98) (m₉ 101) (m₉ 108)) → (zRG (m₉ 94 10) (m₉ 94 18) (m₉ 94 64) (m₉ 94 63) (m₉ 99) (m₉ 103) (m₉ 102) (m₉ 116)) → ((m₉ 94 58).toInt = 0 ∨ (m₉ 94 10).toInt = 5) → P (some (.inl v)) m₉ := by
    intro v m₉ hf z q0 q1 q2 q3 q4 q5 q6 q7 q8
    have e := zov_eq hf
    rw [e] at z ⊢
    try rw [e] at q0
    try rw [e] at q1
    try rw [e] at q2
    try rw [e] at q3
    try rw [e] at q4
    try rw [e] at q5
    try rw [e] at q6
    try rw [e] at q7
    try rw [e] at q8
    exact KZ v m₉ z q0 q1 q2 q3 q4 q5 q6 q7 q8
  refine g_181_0 kk r1 ?_
  have f1 : 0 ≤ (m 94 58).toInt ∧ (m 94 58).toInt ≤ 1 := rs_94_58 (m := m) hV
  have f2 : 0 ≤ (m 94 10).toInt ∧ (m 94 10).toInt ≤ 6 := rs_94_10 (m := m) hV
  have b3 := i_bd kk
  have li4 : (0 : Int32).toInt = 0 := rfl
  refine zd (fun (h5 : kk < (0 : Int32)) => ?_) (fun (h5 : ¬ kk < (0 : Int32)) => ?_)
  · skip
    have g6 := i_lt h5
    have hV7 : zV (ma_u m 94 0 (1 : Int32)) := uf_94_0 hV
    exact K ((0 : Int32)) _ (zF_u zF_rfl rfl) hV7 r_W (show zGW (T + 1) (m 94 55) (m 109) from by first | (exact GW_up r_GW (by omega)) | (exfalso; omega; done) | (exfalso; contradiction; done)) (show zGU (T + 1) (m 94 46) (m 99) from by first | (exact GU_up r_GU (by omega)) | (exact GU_0 r_GU) | (exfalso; omega; done) | (exfalso; contradiction; done)) r_OW r_DX r_GG r_HA r_RGc (show (m 94 58).toInt = 0 ∨ (m 94 10).toInt = 5 from by omega)
  · skip
    have g8 := i_nlt h5
    have f9 : 0 ≤ (m 94 7).toInt ∧ (m 94 7).toInt ≤ 16 := rs_94_7 (m := m) hV
    refine zd (fun (h10 : (m 94 7) ≤ kk) => ?_) (fun (h10 : ¬ (m 94 7) ≤ kk) => ?_)
    · skip
      have g11 := i_le h10
      have hV12 : zV (ma_u m 94 0 (1 : Int32)) := uf_94_0 hV
      exact K ((0 : Int32)) _ (zF_u zF_rfl rfl) hV12 r_W (show zGW (T + 1) (m 94 55) (m 109) from by first | (exact GW_up r_GW (by omega)) | (exfalso; omega; done) | (exfalso; contradiction; done)) (show zGU (T + 1) (m 94 46) (m 99) from by first | (exact GU_up r_GU (by omega)) | (exact GU_0 r_GU) | (exfalso; omega; done) | (exfalso; contradiction; done)) r_OW r_DX r_GG r_HA r_RGc (show (m 94 58).toInt = 0 ∨ (m 94 10).toInt = 5 from by omega)
    · skip
      have g13 := i_nle h10
      have b14 := i_bd r1
      refine zd (fun (h15 : r1 < (0 : Int32)) => ?_) (fun (h15 : ¬ r1 < (0 : Int32)) => ?_)
      · skip
        have g16 := i_lt h15
        have hV17 : zV (ma_u m 94 0 (1 : Int32)) := uf_94_0 hV
        exact K ((0 : Int32)) _ (zF_u zF_rfl rfl) hV17 r_W (show zGW (T + 1) (m 94 55) (m 109) from by first | (exact GW_up r_GW (by omega)) | (exfalso; omega; done) | (exfalso; contradiction; done)) (show zGU (T + 1) (m 94 46) (m 99) from by first | (exact GU_up r_GU (by omega)) | (exact GU_0 r_GU) | (exfalso; omega; done) | (exfalso; contradiction; done)) r_OW r_DX r_GG r_HA r_RGc (show (m 94 58).toInt = 0 ∨ (m 94 10).toInt = 5 from by omega)
      · skip
        have g18 := i_nlt h15
        have li19 : (16 : Int32).toInt = 16 := rfl
        refine zd (fun (h20 : (16 : Int32) ≤ r1) => ?_) (fun (h20 : ¬ (16 : Int32) ≤ r1) => ?_)
        · skip
          have g21 := i_le h20
          have hV22 : zV (ma_u m 94 0 (1 : Int32)) := uf_94_0 hV
          exact K ((0 : Int32)) _ (zF_u zF_rfl rfl) hV22 r_W (show zGW (T + 1) (m 94 55) (m 109) from by first | (exact GW_up r_GW (by omega)) | (exfalso; omega; done) | (exfalso; contradiction; done)) (show zGU (T + 1) (m 94 46) (m 99) from by first | (exact GU_up r_GU (by omega)) | (exact GU_0 r_GU) | (exfalso; omega; done) | (exfalso; contradiction; done)) r_OW r_DX r_GG r_HA r_RGc (show (m 94 58).toInt = 0 ∨ (m 94 10).toInt = 5 from by omega)
        · skip
          have g23 := i_nle h20
          have f24 : 0 ≤ (m 94 8).toInt ∧ (m 94 8).toInt ≤ 1 := rs_94_8 (m := m) hV
          refine zd (fun (h25 : (m 94 8) = (0 : Int32)) => ?_) (fun (h25 : ¬ (m 94 8) = (0 : Int32)) => ?_)
          · skip
            have g26 := i_eq h25
            have hV27 : zV (ma_u m 94 0 (2 : Int32)) := uf_94_0 hV
            exact K ((0 : Int32)) _ (zF_u zF_rfl rfl) hV27 r_W (show zGW (T + 1) (m 94 55) (m 109) from by first | (exact GW_up r_GW (by omega)) | (exfalso; omega; done) | (exfalso; contradiction; done)) (show zGU (T + 1) (m 94 46) (m 99) from by first | (exact GU_up r_GU (by omega)) | (exact GU_0 r_GU) | (exfalso; omega; done) | (exfalso; contradiction; done)) r_OW r_DX r_GG r_HA r_RGc (show (m 94 58).toInt = 0 ∨ (m 94 10).toInt = 5 from by omega)
          · skip
            have g28 := i_ne h25
            have hg29 : (0 ≤ kk ∧ kk.toNatClampNeg < 16) := i_ix (by omega) (by omega)
            refine ⟨hg29, ?_⟩
            first | have f30 : 0 ≤ (m 97 kk.toNatClampNeg).toInt ∧ (m 97 kk.toNatClampNeg).toInt ≤ 8 := ra_97 (m := m) hV (k := kk.toNatClampNeg) (i_ix (n := 16) (by omega) (by omega)).2 | have b31 := i_bd (m 97 kk.toNatClampNeg)
            have hV32 : zV (ma_u m 94 0 (0 : Int32)) := uf_94_0 hV
            refine sp_183 (kk) ((m 97 kk.toNatClampNeg)) (r1) hV32 (by omega) (by omega) (by omega) (by omega) (by omega) (by omega) (by omega) (show 16 ≤ kk.toInt ∨ kk.toInt < (m 94 7).toInt from by omega) r_W r_GW r_GU r_OW r_DX r_GG r_HA r_RGc (show (m 94 58).toInt = 0 ∨ (m 94 10).toInt = 5 from by omega) (fun v2 m1 hV_m1 p0_m1 p1_m1 p2_m1 p3_m1 p4_m1 p5_m1 p6_m1 p7_m1 p8_m1 => zmi_n ?_)
            have p0_m1 : zW (m 94 7) (m 98) (m1 101) (m1 102) (m1 108) := p0_m1
            have p1_m1 : zGW (T + 1) (m1 94 55) (m1 109) := p1_m1
            have p2_m1 : zGU (T + 1) (m1 94 46) (m1 99) := p2_m1
            have p3_m1 : zOw (m1 99) (m1 103) (m1 111) := p3_m1
            have p4_m1 : zDX (m 94 10) (m1 99) (m1 112) (m1 113) (m1 114) (m1 94 55) (m 98) (m1 101) (m1 102) (m1 108) := p4_m1
            have p5_m1 : zGG (m1 94 58) (m1 94 56) (m1 94 57) (m1 106) := p5_m1
            have p6_m1 : zHA (m 94 10) (m 94 11) (m 94 13) (m 94 14) (m 94 16) (m1 94 61) (m1 94 59) (m1 94 60) (m1 99) (m1 102) (m1 103) (m1 111) (m1 117) (m 98) (m1 101) (m1 108) := p6_m1
            have p7_m1 : zRG (m 94 10) (m 94 18) (m 94 64) (m1 94 63) (m1 99) (m1 103) (m1 102) (m1 116) := p7_m1
            have p8_m1 : (m1 94 58).toInt = 0 ∨ (m 94 10).toInt = 5 := p8_m1
            have f33 : 0 ≤ (m1 94 58).toInt ∧ (m1 94 58).toInt ≤ 1 := rs_94_58 (m := (zov wr_183 (ma_u m 94 0 (0 : Int32)) m1)) hV_m1
            have b34 := i_bd v2
            exact K (v2) _ (zF_zov (zF_u zF_rfl rfl) ws_183_181) hV_m1 p0_m1 p1_m1 p2_m1 p3_m1 p4_m1 p5_m1 p6_m1 p7_m1 (show (m1 94 58).toInt = 0 ∨ (m 94 10).toInt = 5 from by omega)

/-! from 94.494 -/
/-! the reference (written by wip/tools/gen94m.py) -/
set_option maxRecDepth 100000 in
theorem hm_243 : ma_md 243 = some (12, yX12_row, cX12_row, 4, (some (FieldType.int))) := rfl
theorem dX12_row_0 : decode cX12_row 0 = .ok (.aload_n 0, 1) := by decide +kernel
theorem dX12_row_1 : decode cX12_row 1 = .ok (.iload_n 2, 1) := by decide +kernel
theorem dX12_row_19 : decode cX12_row 19 = .ok (.iconst 1, 1) := by decide +kernel
theorem dX12_row_20 : decode cX12_row 20 = .ok (.goto 15, 3) := by decide +kernel
theorem dX12_row_35 : decode cX12_row 35 = .ok (.invokevirtual 110, 3) := by decide +kernel
theorem dX12_row_38 : decode cX12_row 38 = .ok (.ifCond .eq 5, 3) := by decide +kernel
theorem dX12_row_41 : decode cX12_row 41 = .ok (.iconst 0, 1) := by decide +kernel
theorem dX12_row_42 : decode cX12_row 42 = .ok (.ireturn, 1) := by decide +kernel
theorem dX12_row_5 : decode cX12_row 5 = .ok (.iload_n 2, 1) := by decide +kernel
theorem dX12_row_6 : decode cX12_row 6 = .ok (.bipush 60, 2) := by decide +kernel
theorem dX12_row_11 : decode cX12_row 11 = .ok (.aload_n 0, 1) := by decide +kernel
theorem dX12_row_12 : decode cX12_row 12 = .ok (.iload_n 3, 1) := by decide +kernel
theorem dX12_row_13 : decode cX12_row 13 = .ok (.invokevirtual 493, 3) := by decide +kernel
theorem dX12_row_16 : decode cX12_row 16 = .ok (.ifCond .ne 7, 3) := by decide +kernel
theorem dX12_row_23 : decode cX12_row 23 = .ok (.aload_n 0, 1) := by decide +kernel
theorem dX12_row_34 : decode cX12_row 34 = .ok (.iconst 0, 1) := by decide +kernel
theorem dX12_row_43 : decode cX12_row 43 = .ok (.aload_n 0, 1) := by decide +kernel
theorem dX12_row_44 : decode cX12_row 44 = .ok (.iload_n 1, 1) := by decide +kernel
theorem dX12_row_53 : decode cX12_row 53 = .ok (.bipush 17, 2) := by decide +kernel
theorem dX12_row_55 : decode cX12_row 55 = .ok (.iload_n 2, 1) := by decide +kernel
theorem dX12_row_56 : decode cX12_row 56 = .ok (.iload_n 3, 1) := by decide +kernel
theorem dX12_row_57 : decode cX12_row 57 = .ok (.invokevirtual 496, 3) := by decide +kernel
theorem dX12_row_60 : decode cX12_row 60 = .ok (.ireturn, 1) := by decide +kernel
theorem dX12_row_48 : decode cX12_row 48 = .ok (.bipush 16, 2) := by decide +kernel
theorem dX12_row_50 : decode cX12_row 50 = .ok (.goto 5, 3) := by decide +kernel
theorem dX12_row_45 : decode cX12_row 45 = .ok (.ifCond .eq 8, 3) := by decide +kernel
theorem dX12_row_30 : decode cX12_row 30 = .ok (.iconst 2, 1) := by decide +kernel
theorem dX12_row_31 : decode cX12_row 31 = .ok (.goto 4, 3) := by decide +kernel
theorem dX12_row_27 : decode cX12_row 27 = .ok (.ifCond .ne 7, 3) := by decide +kernel
theorem dX12_row_24 : decode cX12_row 24 = .ok (.getfield 237, 3) := by decide +kernel
theorem dX12_row_8 : decode cX12_row 8 = .ok (.if_icmp .gt 11, 3) := by decide +kernel
theorem dX12_row_2 : decode cX12_row 2 = .ok (.ifCond .lt 17, 3) := by decide +kernel
def wr_243 (c k : Nat) : Bool := Nat.beq c 99 || Nat.beq c 100 || Nat.beq c 101 || Nat.beq c 102 || Nat.beq c 103 || Nat.beq c 104 || Nat.beq c 105 || Nat.beq c 106 || Nat.beq c 107 || Nat.beq c 108 || Nat.beq c 109 || Nat.beq c 110 || Nat.beq c 111 || Nat.beq c 112 || Nat.beq c 113 || Nat.beq c 114 || Nat.beq c 115 || Nat.beq c 116 || Nat.beq c 117 || Nat.beq c 118 || Nat.beq c 119 || Nat.beq c 120 || Nat.beq c 121 || Nat.beq c 122 || Nat.beq c 123 || Nat.beq c 124 || (Nat.beq c 94 && (Nat.beq k 0 || Nat.beq k 44 || Nat.beq k 45 || Nat.beq k 46 || Nat.beq k 47 || Nat.beq k 48 || Nat.beq k 49 || Nat.beq k 50 || Nat.beq k 55 || Nat.beq k 56 || Nat.beq k 57 || Nat.beq k 58 || Nat.beq k 59 || Nat.beq k 60 || Nat.beq k 61 || Nat.beq k 62 || Nat.beq k 63 || Nat.beq k 73 || Nat.beq k 75 || Nat.beq k 76 || Nat.beq k 77 || Nat.beq k 80 || Nat.beq k 84))
theorem ws_183_243 : ∀ c k, wr_183 c k = true → wr_243 c k = true := by
  intro c k h
  simp only [wr_183, Bool.or_eq_true, Bool.and_eq_true, Nat.beq_eq] at h
  rcases h with (((((((((((((((((((((((((rfl | rfl) | rfl) | rfl) | rfl) | rfl) | rfl) | rfl) | rfl) | rfl) | rfl) | rfl) | rfl) | rfl) | rfl) | rfl) | rfl) | rfl) | rfl) | rfl) | rfl) | rfl) | rfl) | rfl) | rfl) | rfl) | ⟨rfl, (((((((((((((((((((((rfl | rfl) | rfl) | rfl) | rfl) | rfl) | rfl) | rfl) | rfl) | rfl) | rfl) | rfl) | rfl) | rfl) | rfl) | rfl) | rfl) | rfl) | rfl) | rfl) | rfl) | rfl)⟩ <;> rfl
theorem g_243_0 {X : Nat × (Nat → Int32)} {m : Nat → Nat → Int32} {P : Option ma_V → (Nat → Nat → Int32) → Prop} (rf : Int32) (nn : Int32) (r1 : Int32) (h : if nn < 0 then (P (some (.inl (0 : Int32))) (ma_u m 94 0 (1 : Int32))) else (if (60 : Int32) < nn then (P (some (.inl (0 : Int32))) (ma_u m 94 0 (1 : Int32))) else (if r1 < 0 then (P (some (.inl (0 : Int32))) (ma_u m 94 0 (1 : Int32))) else (if (16 : Int32) ≤ r1 then (P (some (.inl (0 : Int32))) (ma_u m 94 0 (1 : Int32))) else (if (m 94 8) = 0 then (P (some (.inl (0 : Int32))) (ma_u m 94 0 (2 : Int32))) else (if rf = 0 then (zm X 9 198 183 0 [(0, .inr (.inr (some 94))), (1, .inl (17 : Int32)), (2, .inl nn), (3, .inl r1)] (ma_u m 94 0 (0 : Int32)) (zmi (fun v2 m1 => P (some (.inl v2)) m1))) else (zm X 9 198 183 0 [(0, .inr (.inr (some 94))), (1, .inl (16 : Int32)), (2, .inl nn), (3, .inl r1)] (ma_u m 94 0 (0 : Int32)) (zmi (fun v4 m3 => P (some (.inl v4)) m3))))))))) : zm X 10 224 243 0 [(0, .inr (.inr (some 94))), (1, .inl rf), (2, .inl nn), (3, .inl r1)] m P := by
  intro d w S Q hd hw hS hm HQ
  subst hm
  refine zw_push hm_243 dX12_row_0 (v := .inr (.inr (some 94))) rfl ?_
  refine zw_push hm_243 dX12_row_1 (v := .inl nn) rfl ?_
  refine zw_if0 hm_243 dX12_row_2 (t := 19) rfl zc0_lt ?_ ?_
  · intro hc
    rw [if_pos hc] at h
    refine zw_push hm_243 dX12_row_19 (v := .inl (1 : Int32)) rfl ?_
    refine zw_goto hm_243 dX12_row_20 (t := 35) rfl ?_
    refine zw_cv hm_243 dX12_row_35 v_12_110_12 hm_167 [.inl (1 : Int32)] [] rfl (zT_rt hS s_94 rfl) ⟨by omega, by omega⟩ rfl ?_
    show ma_wp X (d - 1) (w - 21) 167 0 [(0, .inr (.inr (some 94))), (1, .inl (1 : Int32))] [] S _
    refine zw_push hm_167 dX12_fails_0 (v := .inr (.inr (some 94))) rfl ?_
    refine zw_push hm_167 dX12_fails_1 (v := .inl (1 : Int32)) rfl ?_
    refine zw_pf hm_167 dX12_fails_2 (zT_is hS s_94) (zT_t hS s_94) p_12_1_12 zk_int ?_
    refine zw_push hm_167 dX12_fails_5 (v := .inl (1 : Int32)) rfl ?_
    refine zw_if0 hm_167 dX12_fails_6 (t := 13) rfl zc0_eq (fun hc => absurd hc (by decide)) (fun _ => ?_)
    refine zw_push hm_167 dX12_fails_9 (v := .inl (1 : Int32)) rfl ?_
    refine zw_goto hm_167 dX12_fails_10 (t := 14) rfl ?_
    refine zw_bret hm_167 dX12_fails_14 (by decide) ?_
    show ma_wp X d w 243 38 [(0, .inr (.inr (some 94))), (1, .inl rf), (2, .inl nn), (3, .inl r1)] [.inl (1 : Int32)] (ma_put S 94 0 (.inl (1 : Int32))) _
    refine zw_if0 hm_243 dX12_row_38 (t := 43) rfl zc0_eq (fun hc => absurd hc (by decide)) (fun _ => ?_)
    refine zw_push hm_243 dX12_row_41 (v := .inl (0 : Int32)) rfl ?_
    exact zw_iret hm_243 dX12_row_42 (HQ _ _ h)
  · intro hc
    rw [if_neg hc] at h
    refine zw_push hm_243 dX12_row_5 (v := .inl nn) rfl ?_
    refine zw_push hm_243 dX12_row_6 (v := .inl (60 : Int32)) rfl ?_
    refine zw_if2 hm_243 dX12_row_8 (t := 19) rfl zc2_gt ?_ ?_
    · intro hc
      rw [if_pos hc] at h
      refine zw_push hm_243 dX12_row_19 (v := .inl (1 : Int32)) rfl ?_
      refine zw_goto hm_243 dX12_row_20 (t := 35) rfl ?_
      refine zw_cv hm_243 dX12_row_35 v_12_110_12 hm_167 [.inl (1 : Int32)] [] rfl (zT_rt hS s_94 rfl) ⟨by omega, by omega⟩ rfl ?_
      show ma_wp X (d - 1) (w - 21) 167 0 [(0, .inr (.inr (some 94))), (1, .inl (1 : Int32))] [] S _
      refine zw_push hm_167 dX12_fails_0 (v := .inr (.inr (some 94))) rfl ?_
      refine zw_push hm_167 dX12_fails_1 (v := .inl (1 : Int32)) rfl ?_
      refine zw_pf hm_167 dX12_fails_2 (zT_is hS s_94) (zT_t hS s_94) p_12_1_12 zk_int ?_
      refine zw_push hm_167 dX12_fails_5 (v := .inl (1 : Int32)) rfl ?_
      refine zw_if0 hm_167 dX12_fails_6 (t := 13) rfl zc0_eq (fun hc => absurd hc (by decide)) (fun _ => ?_)
      refine zw_push hm_167 dX12_fails_9 (v := .inl (1 : Int32)) rfl ?_
      refine zw_goto hm_167 dX12_fails_10 (t := 14) rfl ?_
      refine zw_bret hm_167 dX12_fails_14 (by decide) ?_
      show ma_wp X d w 243 38 [(0, .inr (.inr (some 94))), (1, .inl rf), (2, .inl nn), (3, .inl r1)] [.inl (1 : Int32)] (ma_put S 94 0 (.inl (1 : Int32))) _
      refine zw_if0 hm_243 dX12_row_38 (t := 43) rfl zc0_eq (fun hc => absurd hc (by decide)) (fun _ => ?_)
      refine zw_push hm_243 dX12_row_41 (v := .inl (0 : Int32)) rfl ?_
      exact zw_iret hm_243 dX12_row_42 (HQ _ _ h)
    · intro hc
      rw [if_neg hc] at h
      refine zw_push hm_243 dX12_row_11 (v := .inr (.inr (some 94))) rfl ?_
      refine zw_push hm_243 dX12_row_12 (v := .inl r1) rfl ?_
      refine zw_cv hm_243 dX12_row_13 v_12_493_12 hm_182 [.inl r1] [.inr (.inr (some 94))] rfl (zT_rt hS s_94 rfl) ⟨by omega, by omega⟩ rfl ?_
      show ma_wp X (d - 1) (w - 21) 182 0 [(0, .inr (.inr (some 94))), (1, .inl r1)] [] S _
      refine zw_push hm_182 dX12_isNamed_0 (v := .inl r1) rfl ?_
      refine zw_if0 hm_182 dX12_isNamed_1 (t := 14) rfl zc0_lt ?_ ?_
      · intro hc
        rw [if_pos hc] at h
        refine zw_push hm_182 dX12_isNamed_14 (v := .inl (0 : Int32)) rfl ?_
        refine zw_bret hm_182 dX12_isNamed_15 (by decide) ?_
        show ma_wp X d w 243 16 [(0, .inr (.inr (some 94))), (1, .inl rf), (2, .inl nn), (3, .inl r1)] [.inl (0 : Int32), .inr (.inr (some 94))] S _
        refine zw_if0 hm_243 dX12_row_16 (t := 23) rfl zc0_ne (fun hc => absurd hc (by decide)) (fun _ => ?_)
        refine zw_push hm_243 dX12_row_19 (v := .inl (1 : Int32)) rfl ?_
        refine zw_goto hm_243 dX12_row_20 (t := 35) rfl ?_
        refine zw_cv hm_243 dX12_row_35 v_12_110_12 hm_167 [.inl (1 : Int32)] [] rfl (zT_rt hS s_94 rfl) ⟨by omega, by omega⟩ rfl ?_
        show ma_wp X (d - 1) (w - 21) 167 0 [(0, .inr (.inr (some 94))), (1, .inl (1 : Int32))] [] S _
        refine zw_push hm_167 dX12_fails_0 (v := .inr (.inr (some 94))) rfl ?_
        refine zw_push hm_167 dX12_fails_1 (v := .inl (1 : Int32)) rfl ?_
        refine zw_pf hm_167 dX12_fails_2 (zT_is hS s_94) (zT_t hS s_94) p_12_1_12 zk_int ?_
        refine zw_push hm_167 dX12_fails_5 (v := .inl (1 : Int32)) rfl ?_
        refine zw_if0 hm_167 dX12_fails_6 (t := 13) rfl zc0_eq (fun hc => absurd hc (by decide)) (fun _ => ?_)
        refine zw_push hm_167 dX12_fails_9 (v := .inl (1 : Int32)) rfl ?_
        refine zw_goto hm_167 dX12_fails_10 (t := 14) rfl ?_
        refine zw_bret hm_167 dX12_fails_14 (by decide) ?_
        show ma_wp X d w 243 38 [(0, .inr (.inr (some 94))), (1, .inl rf), (2, .inl nn), (3, .inl r1)] [.inl (1 : Int32)] (ma_put S 94 0 (.inl (1 : Int32))) _
        refine zw_if0 hm_243 dX12_row_38 (t := 43) rfl zc0_eq (fun hc => absurd hc (by decide)) (fun _ => ?_)
        refine zw_push hm_243 dX12_row_41 (v := .inl (0 : Int32)) rfl ?_
        exact zw_iret hm_243 dX12_row_42 (HQ _ _ h)
      · intro hc
        rw [if_neg hc] at h
        refine zw_push hm_182 dX12_isNamed_4 (v := .inl r1) rfl ?_
        refine zw_push hm_182 dX12_isNamed_5 (v := .inl (16 : Int32)) rfl ?_
        refine zw_if2 hm_182 dX12_isNamed_7 (t := 14) rfl zc2_ge ?_ ?_
        · intro hc
          rw [if_pos hc] at h
          refine zw_push hm_182 dX12_isNamed_14 (v := .inl (0 : Int32)) rfl ?_
          refine zw_bret hm_182 dX12_isNamed_15 (by decide) ?_
          show ma_wp X d w 243 16 [(0, .inr (.inr (some 94))), (1, .inl rf), (2, .inl nn), (3, .inl r1)] [.inl (0 : Int32), .inr (.inr (some 94))] S _
          refine zw_if0 hm_243 dX12_row_16 (t := 23) rfl zc0_ne (fun hc => absurd hc (by decide)) (fun _ => ?_)
          refine zw_push hm_243 dX12_row_19 (v := .inl (1 : Int32)) rfl ?_
          refine zw_goto hm_243 dX12_row_20 (t := 35) rfl ?_
          refine zw_cv hm_243 dX12_row_35 v_12_110_12 hm_167 [.inl (1 : Int32)] [] rfl (zT_rt hS s_94 rfl) ⟨by omega, by omega⟩ rfl ?_
          show ma_wp X (d - 1) (w - 21) 167 0 [(0, .inr (.inr (some 94))), (1, .inl (1 : Int32))] [] S _
          refine zw_push hm_167 dX12_fails_0 (v := .inr (.inr (some 94))) rfl ?_
          refine zw_push hm_167 dX12_fails_1 (v := .inl (1 : Int32)) rfl ?_
          refine zw_pf hm_167 dX12_fails_2 (zT_is hS s_94) (zT_t hS s_94) p_12_1_12 zk_int ?_
          refine zw_push hm_167 dX12_fails_5 (v := .inl (1 : Int32)) rfl ?_
          refine zw_if0 hm_167 dX12_fails_6 (t := 13) rfl zc0_eq (fun hc => absurd hc (by decide)) (fun _ => ?_)
          refine zw_push hm_167 dX12_fails_9 (v := .inl (1 : Int32)) rfl ?_
          refine zw_goto hm_167 dX12_fails_10 (t := 14) rfl ?_
          refine zw_bret hm_167 dX12_fails_14 (by decide) ?_
          show ma_wp X d w 243 38 [(0, .inr (.inr (some 94))), (1, .inl rf), (2, .inl nn), (3, .inl r1)] [.inl (1 : Int32)] (ma_put S 94 0 (.inl (1 : Int32))) _
          refine zw_if0 hm_243 dX12_row_38 (t := 43) rfl zc0_eq (fun hc => absurd hc (by decide)) (fun _ => ?_)
          refine zw_push hm_243 dX12_row_41 (v := .inl (0 : Int32)) rfl ?_
          exact zw_iret hm_243 dX12_row_42 (HQ _ _ h)
        · intro hc
          rw [if_neg hc] at h
          refine zw_push hm_182 dX12_isNamed_10 (v := .inl (1 : Int32)) rfl ?_
          refine zw_goto hm_182 dX12_isNamed_11 (t := 15) rfl ?_
          refine zw_bret hm_182 dX12_isNamed_15 (by decide) ?_
          show ma_wp X d w 243 16 [(0, .inr (.inr (some 94))), (1, .inl rf), (2, .inl nn), (3, .inl r1)] [.inl (1 : Int32), .inr (.inr (some 94))] S _
          refine zw_if0 hm_243 dX12_row_16 (t := 23) rfl zc0_ne (fun _ => ?_) (fun hc => absurd (by decide) hc)
          refine zw_push hm_243 dX12_row_23 (v := .inr (.inr (some 94))) rfl ?_
          refine zw_gf hm_243 dX12_row_24 (v := .inl ((mI S) 94 8)) (zT_is hS s_94) (zT_t hS s_94) rfl f_12_237_12 rfl ?_
          refine zw_if0 hm_243 dX12_row_27 (t := 34) rfl zc0_ne ?_ ?_
          · intro hc
            rw [if_neg hc] at h
            refine zw_push hm_243 dX12_row_34 (v := .inl (0 : Int32)) rfl ?_
            refine zw_cv hm_243 dX12_row_35 v_12_110_12 hm_167 [.inl (0 : Int32)] [] rfl (zT_rt hS s_94 rfl) ⟨by omega, by omega⟩ rfl ?_
            show ma_wp X (d - 1) (w - 21) 167 0 [(0, .inr (.inr (some 94))), (1, .inl (0 : Int32))] [] S _
            refine zw_push hm_167 dX12_fails_0 (v := .inr (.inr (some 94))) rfl ?_
            refine zw_push hm_167 dX12_fails_1 (v := .inl (0 : Int32)) rfl ?_
            refine zw_pf hm_167 dX12_fails_2 (zT_is hS s_94) (zT_t hS s_94) p_12_1_12 zk_int ?_
            refine zw_push hm_167 dX12_fails_5 (v := .inl (0 : Int32)) rfl ?_
            refine zw_if0 hm_167 dX12_fails_6 (t := 13) rfl zc0_eq (fun _ => ?_) (fun hc => absurd (by decide) hc)
            refine zw_push hm_167 dX12_fails_13 (v := .inl (0 : Int32)) rfl ?_
            refine zw_bret hm_167 dX12_fails_14 (by decide) ?_
            show ma_wp X d w 243 38 [(0, .inr (.inr (some 94))), (1, .inl rf), (2, .inl nn), (3, .inl r1)] [.inl (0 : Int32)] (ma_put S 94 0 (.inl (0 : Int32))) _
            refine zw_if0 hm_243 dX12_row_38 (t := 43) rfl zc0_eq (fun _ => ?_) (fun hc => absurd (by decide) hc)
            refine zw_push hm_243 dX12_row_43 (v := .inr (.inr (some 94))) rfl ?_
            refine zw_push hm_243 dX12_row_44 (v := .inl rf) rfl ?_
            refine zw_if0 hm_243 dX12_row_45 (t := 53) rfl zc0_eq ?_ ?_
            · intro hc
              rw [if_pos hc] at h
              refine zw_push hm_243 dX12_row_53 (v := .inl (17 : Int32)) rfl ?_
              refine zw_push hm_243 dX12_row_55 (v := .inl nn) rfl ?_
              refine zw_push hm_243 dX12_row_56 (v := .inl r1) rfl ?_
              refine zw_cv hm_243 dX12_row_57 v_12_496_12 hm_183 [.inl r1, .inl nn, .inl (17 : Int32)] [] rfl (zT_rt (zT_pi hS) s_94 rfl) ⟨by omega, by omega⟩ rfl (h _ _ (ma_put S 94 0 (.inl (0 : Int32))) _ (by omega) (by omega) (zT_pi hS) rfl (fun o9 m1 hv => ?_))
              obtain ⟨v2, rfl, h⟩ := zmi_of hv
              show ma_wp X d w 243 60 [(0, .inr (.inr (some 94))), (1, .inl rf), (2, .inl nn), (3, .inl r1)] [.inl v2] (zst S m1) _
              exact zw_iret hm_243 dX12_row_60 (HQ _ _ h)
            · intro hc
              rw [if_neg hc] at h
              refine zw_push hm_243 dX12_row_48 (v := .inl (16 : Int32)) rfl ?_
              refine zw_goto hm_243 dX12_row_50 (t := 55) rfl ?_
              refine zw_push hm_243 dX12_row_55 (v := .inl nn) rfl ?_
              refine zw_push hm_243 dX12_row_56 (v := .inl r1) rfl ?_
              refine zw_cv hm_243 dX12_row_57 v_12_496_12 hm_183 [.inl r1, .inl nn, .inl (16 : Int32)] [] rfl (zT_rt (zT_pi hS) s_94 rfl) ⟨by omega, by omega⟩ rfl (h _ _ (ma_put S 94 0 (.inl (0 : Int32))) _ (by omega) (by omega) (zT_pi hS) rfl (fun o9 m3 hv => ?_))
              obtain ⟨v4, rfl, h⟩ := zmi_of hv
              show ma_wp X d w 243 60 [(0, .inr (.inr (some 94))), (1, .inl rf), (2, .inl nn), (3, .inl r1)] [.inl v4] (zst S m3) _
              exact zw_iret hm_243 dX12_row_60 (HQ _ _ h)
          · intro hc
            rw [if_pos (Classical.not_not.mp hc)] at h
            refine zw_push hm_243 dX12_row_30 (v := .inl (2 : Int32)) rfl ?_
            refine zw_goto hm_243 dX12_row_31 (t := 35) rfl ?_
            refine zw_cv hm_243 dX12_row_35 v_12_110_12 hm_167 [.inl (2 : Int32)] [] rfl (zT_rt hS s_94 rfl) ⟨by omega, by omega⟩ rfl ?_
            show ma_wp X (d - 1) (w - 21) 167 0 [(0, .inr (.inr (some 94))), (1, .inl (2 : Int32))] [] S _
            refine zw_push hm_167 dX12_fails_0 (v := .inr (.inr (some 94))) rfl ?_
            refine zw_push hm_167 dX12_fails_1 (v := .inl (2 : Int32)) rfl ?_
            refine zw_pf hm_167 dX12_fails_2 (zT_is hS s_94) (zT_t hS s_94) p_12_1_12 zk_int ?_
            refine zw_push hm_167 dX12_fails_5 (v := .inl (2 : Int32)) rfl ?_
            refine zw_if0 hm_167 dX12_fails_6 (t := 13) rfl zc0_eq (fun hc => absurd hc (by decide)) (fun _ => ?_)
            refine zw_push hm_167 dX12_fails_9 (v := .inl (1 : Int32)) rfl ?_
            refine zw_goto hm_167 dX12_fails_10 (t := 14) rfl ?_
            refine zw_bret hm_167 dX12_fails_14 (by decide) ?_
            show ma_wp X d w 243 38 [(0, .inr (.inr (some 94))), (1, .inl rf), (2, .inl nn), (3, .inl r1)] [.inl (1 : Int32)] (ma_put S 94 0 (.inl (2 : Int32))) _
            refine zw_if0 hm_243 dX12_row_38 (t := 43) rfl zc0_eq (fun hc => absurd hc (by decide)) (fun _ => ?_)
            refine zw_push hm_243 dX12_row_41 (v := .inl (0 : Int32)) rfl ?_
            exact zw_iret hm_243 dX12_row_42 (HQ _ _ h)
set_option maxHeartbeats 8000000 in
theorem sp_243 {X : Nat × (Nat → Int32)} {P : Option ma_V → (Nat → Nat → Int32) → Prop} {T : Nat} {m : Nat → Nat → Int32} (rf : Int32) (nn : Int32) (r1 : Int32) (hV : zV m) (hpre0 : T + 1 ≤ 3000) (hpre1 : 0 ≤ rf.toInt) (hpre2 : rf.toInt ≤ 1) (r_W : zW (m 94 7) (m 98) (m 101) (m 102) (m 108)) (r_GW : zGW T (m 94 55) (m 109)) (r_GU : zGU T (m 94 46) (m 99)) (r_OW : zOw (m 99) (m 103) (m 111)) (r_DX : zDX (m 94 10) (m 99) (m 112) (m 113) (m 114) (m 94 55) (m 98) (m 101) (m 102) (m 108)) (r_GG : zGG (m 94 58) (m 94 56) (m 94 57) (m 106)) (r_HA : zHA (m 94 10) (m 94 11) (m 94 13) (m 94 14) (m 94 16) (m 94 61) (m 94 59) (m 94 60) (m 99) (m 102) (m 103) (m 111) (m 117) (m 98) (m 101) (m 108)) (r_RGc : zRG (m 94 10) (m 94 18) (m 94 64) (m 94 63) (m 99) (m 103) (m 102) (m 116)) (hpre11 : (m 94 58).toInt = 0 ∨ (m 94 10).toInt = 5) (KZ : ∀ v m₉, zV (zov wr_243 m m₉) → (zW (m 94 7) (m 98) (m₉ 101) (m₉ 102) (m₉ 108)) → (zGW (T + 1) (m₉ 94 55) (m₉ 109)) → (zGU (T + 1) (m₉ 94 46) (m₉ 99)) → (zOw (m₉ 99) (m₉ 103) (m₉ 111)) → (zDX (m 94 10) (m₉ 99) (m₉ 112) (m₉ 113) (m₉ 114) (m₉ 94 55) (m 98) (m₉ 101) (m₉ 102) (m₉ 108)) → (zGG (m₉ 94 58) (m₉ 94 56) (m₉ 94 57) (m₉ 106)) → (zHA (m 94 10) (m 94 11) (m 94 13) (m 94 14) (m 94 16) (m₉ 94 61) (m₉ 94 59) (m₉ 94 60) (m₉ 99) (m₉ 102) (m₉ 103) (m₉ 111) (m₉ 117) (m 98) (m₉ 101) (m₉ 108)) → (zRG (m 94 10) (m 94 18) (m 94 64) (m₉ 94 63) (m₉ 99) (m₉ 103) (m₉ 102) (m₉ 116)) → ((m₉ 94 58).toInt = 0 ∨ (m 94 10).toInt = 5) → P (some (.inl v)) (zov wr_243 m m₉)) : zm X 10 224 243 0 [(0, .inr (.inr (some 94))), (1, .inl rf), (2, .inl nn), (3, .inl r1)] m P := by
  have K : ∀ v m₉, zF wr_243 m m₉ → zV m₉ → (zW (m₉ 94 7) (m₉ 98) (m₉ 101) (m₉ 102) (m₉ 108)) → (zGW (T + 1) (m₉ 94 55) (m₉ 109)) → (zGU (T + 1) (m₉ 94 46) (m₉ 99)) → (zOw (m₉ 99) (m₉ 103) (m₉ 111)) → (zDX (m₉ 94 10) (m₉ 99) (m₉ 112) (m₉ 113) (m₉ 114) (m₉ 94 55) (m₉ 98) (m₉ 101) (m₉ 102) (m₉ 108)) → (zGG (m₉ 94 58) (m₉ 94 56) (m₉ 94 57) (m₉ 106)) → (zHA (m₉ 94 10) (m₉ 94 11) (m₉ 94 13) (m₉ 94 14) (m₉ 94 16) (m₉ 94 61) (m₉ 94 59) (m₉ 94 60) (m₉ 99) (m₉ 102) (m₉ 103) (m₉ 111) (m₉ 117) (m₉ 98) (m₉ 101) (m₉ 108)) → (zRG (m₉ 94 10) (m₉ 94 18) (m₉ 94 64) (m₉ 94 63) (m₉ 99) (m₉ 103) (m₉ 102) (m₉ 116)) → ((m₉ 94 58).toInt = 0 ∨ (m₉ 94 10).toInt = 5) → P (some (.inl v)) m₉ := by
    intro v m₉ hf z q0 q1 q2 q3 q4 q5 q6 q7 q8
    have e := zov_eq hf
    rw [e] at z ⊢
    try rw [e] at q0
    try rw [e] at q1
    try rw [e] at q2
    try rw [e] at q3
    try rw [e] at q4
    try rw [e] at q5
    try rw [e] at q6
    try rw [e] at q7
    try rw [e] at q8
    exact KZ v m₉ z q0 q1 q2 q3 q4 q5 q6 q7 q8
  refine g_243_0 rf nn r1 ?_
  have f1 : 0 ≤ (m 94 58).toInt ∧ (m 94 58).toInt ≤ 1 := rs_94_58 (m := m) hV
  have f2 : 0 ≤ (m 94 10).toInt ∧ (m 94 10).toInt ≤ 6 := rs_94_10 (m := m) hV
  have b3 := i_bd nn
  have li4 : (0 : Int32).toInt = 0 := rfl
  refine zd (fun (h5 : nn < (0 : Int32)) => ?_) (fun (h5 : ¬ nn < (0 : Int32)) => ?_)
  · skip
    have g6 := i_lt h5
    have hV7 : zV (ma_u m 94 0 (1 : Int32)) := uf_94_0 hV
    exact K ((0 : Int32)) _ (zF_u zF_rfl rfl) hV7 r_W (show zGW (T + 1) (m 94 55) (m 109) from by first | (exact GW_up r_GW (by omega)) | (exfalso; omega; done) | (exfalso; contradiction; done)) (show zGU (T + 1) (m 94 46) (m 99) from by first | (exact GU_up r_GU (by omega)) | (exact GU_0 r_GU) | (exfalso; omega; done) | (exfalso; contradiction; done)) r_OW r_DX r_GG r_HA r_RGc (show (m 94 58).toInt = 0 ∨ (m 94 10).toInt = 5 from by omega)
  · skip
    have g8 := i_nlt h5
    have li9 : (60 : Int32).toInt = 60 := rfl
    refine zd (fun (h10 : (60 : Int32) < nn) => ?_) (fun (h10 : ¬ (60 : Int32) < nn) => ?_)
    · skip
      have g11 := i_lt h10
      have hV12 : zV (ma_u m 94 0 (1 : Int32)) := uf_94_0 hV
      exact K ((0 : Int32)) _ (zF_u zF_rfl rfl) hV12 r_W (show zGW (T + 1) (m 94 55) (m 109) from by first | (exact GW_up r_GW (by omega)) | (exfalso; omega; done) | (exfalso; contradiction; done)) (show zGU (T + 1) (m 94 46) (m 99) from by first | (exact GU_up r_GU (by omega)) | (exact GU_0 r_GU) | (exfalso; omega; done) | (exfalso; contradiction; done)) r_OW r_DX r_GG r_HA r_RGc (show (m 94 58).toInt = 0 ∨ (m 94 10).toInt = 5 from by omega)
    · skip
      have g13 := i_nlt h10
      have b14 := i_bd r1
      refine zd (fun (h15 : r1 < (0 : Int32)) => ?_) (fun (h15 : ¬ r1 < (0 : Int32)) => ?_)
      · skip
        have g16 := i_lt h15
        have hV17 : zV (ma_u m 94 0 (1 : Int32)) := uf_94_0 hV
        exact K ((0 : Int32)) _ (zF_u zF_rfl rfl) hV17 r_W (show zGW (T + 1) (m 94 55) (m 109) from by first | (exact GW_up r_GW (by omega)) | (exfalso; omega; done) | (exfalso; contradiction; done)) (show zGU (T + 1) (m 94 46) (m 99) from by first | (exact GU_up r_GU (by omega)) | (exact GU_0 r_GU) | (exfalso; omega; done) | (exfalso; contradiction; done)) r_OW r_DX r_GG r_HA r_RGc (show (m 94 58).toInt = 0 ∨ (m 94 10).toInt = 5 from by omega)
      · skip
        have g18 := i_nlt h15
        have li19 : (16 : Int32).toInt = 16 := rfl
        refine zd (fun (h20 : (16 : Int32) ≤ r1) => ?_) (fun (h20 : ¬ (16 : Int32) ≤ r1) => ?_)
        · skip
          have g21 := i_le h20
          have hV22 : zV (ma_u m 94 0 (1 : Int32)) := uf_94_0 hV
          exact K ((0 : Int32)) _ (zF_u zF_rfl rfl) hV22 r_W (show zGW (T + 1) (m 94 55) (m 109) from by first | (exact GW_up r_GW (by omega)) | (exfalso; omega; done) | (exfalso; contradiction; done)) (show zGU (T + 1) (m 94 46) (m 99) from by first | (exact GU_up r_GU (by omega)) | (exact GU_0 r_GU) | (exfalso; omega; done) | (exfalso; contradiction; done)) r_OW r_DX r_GG r_HA r_RGc (show (m 94 58).toInt = 0 ∨ (m 94 10).toInt = 5 from by omega)
        · skip
          have g23 := i_nle h20
          have f24 : 0 ≤ (m 94 8).toInt ∧ (m 94 8).toInt ≤ 1 := rs_94_8 (m := m) hV
          refine zd (fun (h25 : (m 94 8) = (0 : Int32)) => ?_) (fun (h25 : ¬ (m 94 8) = (0 : Int32)) => ?_)
          · skip
            have g26 := i_eq h25
            have hV27 : zV (ma_u m 94 0 (2 : Int32)) := uf_94_0 hV
            exact K ((0 : Int32)) _ (zF_u zF_rfl rfl) hV27 r_W (show zGW (T + 1) (m 94 55) (m 109) from by first | (exact GW_up r_GW (by omega)) | (exfalso; omega; done) | (exfalso; contradiction; done)) (show zGU (T + 1) (m 94 46) (m 99) from by first | (exact GU_up r_GU (by omega)) | (exact GU_0 r_GU) | (exfalso; omega; done) | (exfalso; contradiction; done)) r_OW r_DX r_GG r_HA r_RGc (show (m 94 58).toInt = 0 ∨ (m 94 10).toInt = 5 from by omega)
          · skip
            have g28 := i_ne h25
            have b29 := i_bd rf
            refine zd (fun (h30 : rf = (0 : Int32)) => ?_) (fun (h30 : ¬ rf = (0 : Int32)) => ?_)
            · skip
              have g31 := i_eq h30
              have li32 : (17 : Int32).toInt = 17 := rfl
              have hV33 : zV (ma_u m 94 0 (0 : Int32)) := uf_94_0 hV
              have f34 : 0 ≤ (m 94 7).toInt ∧ (m 94 7).toInt ≤ 16 := rs_94_7 (m := m) hV
              refine sp_183 ((17 : Int32)) (nn) (r1) hV33 (by omega) (by omega) (by omega) (by omega) (by omega) (by omega) (by omega) (show 16 ≤ (17 : Int32).toInt ∨ (17 : Int32).toInt < (m 94 7).toInt from by omega) r_W r_GW r_GU r_OW r_DX r_GG r_HA r_RGc (show (m 94 58).toInt = 0 ∨ (m 94 10).toInt = 5 from by omega) (fun v2 m1 hV_m1 p0_m1 p1_m1 p2_m1 p3_m1 p4_m1 p5_m1 p6_m1 p7_m1 p8_m1 => zmi_n ?_)
              have p0_m1 : zW (m 94 7) (m 98) (m1 101) (m1 102) (m1 108) := p0_m1
              have p1_m1 : zGW (T + 1) (m1 94 55) (m1 109) := p1_m1
              have p2_m1 : zGU (T + 1) (m1 94 46) (m1 99) := p2_m1
              have p3_m1 : zOw (m1 99) (m1 103) (m1 111) := p3_m1
              have p4_m1 : zDX (m 94 10) (m1 99) (m1 112) (m1 113) (m1 114) (m1 94 55) (m 98) (m1 101) (m1 102) (m1 108) := p4_m1
              have p5_m1 : zGG (m1 94 58) (m1 94 56) (m1 94 57) (m1 106) := p5_m1
              have p6_m1 : zHA (m 94 10) (m 94 11) (m 94 13) (m 94 14) (m 94 16) (m1 94 61) (m1 94 59) (m1 94 60) (m1 99) (m1 102) (m1 103) (m1 111) (m1 117) (m 98) (m1 101) (m1 108) := p6_m1
              have p7_m1 : zRG (m 94 10) (m 94 18) (m 94 64) (m1 94 63) (m1 99) (m1 103) (m1 102) (m1 116) := p7_m1
              have p8_m1 : (m1 94 58).toInt = 0 ∨ (m 94 10).toInt = 5 := p8_m1
              have f35 : 0 ≤ (m1 94 58).toInt ∧ (m1 94 58).toInt ≤ 1 := rs_94_58 (m := (zov wr_183 (ma_u m 94 0 (0 : Int32)) m1)) hV_m1
              have b36 := i_bd v2
              exact K (v2) _ (zF_zov (zF_u zF_rfl rfl) ws_183_243) hV_m1 p0_m1 p1_m1 p2_m1 p3_m1 p4_m1 p5_m1 p6_m1 p7_m1 (show (m1 94 58).toInt = 0 ∨ (m 94 10).toInt = 5 from by omega)
            · skip
              have g37 := i_ne h30
              have hV38 : zV (ma_u m 94 0 (0 : Int32)) := uf_94_0 hV
              have f39 : 0 ≤ (m 94 7).toInt ∧ (m 94 7).toInt ≤ 16 := rs_94_7 (m := m) hV
              refine sp_183 ((16 : Int32)) (nn) (r1) hV38 (by omega) (by omega) (by omega) (by omega) (by omega) (by omega) (by omega) (show 16 ≤ (16 : Int32).toInt ∨ (16 : Int32).toInt < (m 94 7).toInt from by omega) r_W r_GW r_GU r_OW r_DX r_GG r_HA r_RGc (show (m 94 58).toInt = 0 ∨ (m 94 10).toInt = 5 from by omega) (fun v4 m3 hV_m3 p0_m3 p1_m3 p2_m3 p3_m3 p4_m3 p5_m3 p6_m3 p7_m3 p8_m3 => zmi_n ?_)
              have p0_m3 : zW (m 94 7) (m 98) (m3 101) (m3 102) (m3 108) := p0_m3
              have p1_m3 : zGW (T + 1) (m3 94 55) (m3 109) := p1_m3
              have p2_m3 : zGU (T + 1) (m3 94 46) (m3 99) := p2_m3
              have p3_m3 : zOw (m3 99) (m3 103) (m3 111) := p3_m3
              have p4_m3 : zDX (m 94 10) (m3 99) (m3 112) (m3 113) (m3 114) (m3 94 55) (m 98) (m3 101) (m3 102) (m3 108) := p4_m3
              have p5_m3 : zGG (m3 94 58) (m3 94 56) (m3 94 57) (m3 106) := p5_m3
              have p6_m3 : zHA (m 94 10) (m 94 11) (m 94 13) (m 94 14) (m 94 16) (m3 94 61) (m3 94 59) (m3 94 60) (m3 99) (m3 102) (m3 103) (m3 111) (m3 117) (m 98) (m3 101) (m3 108) := p6_m3
              have p7_m3 : zRG (m 94 10) (m 94 18) (m 94 64) (m3 94 63) (m3 99) (m3 103) (m3 102) (m3 116) := p7_m3
              have p8_m3 : (m3 94 58).toInt = 0 ∨ (m 94 10).toInt = 5 := p8_m3
              have f40 : 0 ≤ (m3 94 58).toInt ∧ (m3 94 58).toInt ≤ 1 := rs_94_58 (m := (zov wr_183 (ma_u m 94 0 (0 : Int32)) m3)) hV_m3
              have b41 := i_bd v4
              exact K (v4) _ (zF_zov (zF_u zF_rfl rfl) ws_183_243) hV_m3 p0_m3 p1_m3 p2_m3 p3_m3 p4_m3 p5_m3 p6_m3 p7_m3 (show (m3 94 58).toInt = 0 ∨ (m 94 10).toInt = 5 from by omega)

/-! from 94.495 -/
/-! the reference (written by wip/tools/gen94m.py) -/
set_option maxRecDepth 100000 in
theorem hm_256 : ma_md 256 = some (12, yX12_clean, cX12_clean, 2, (some (FieldType.int))) := rfl
theorem dX12_clean_0 : decode cX12_clean 0 = .ok (.aload_n 0, 1) := by decide +kernel
theorem dX12_clean_1 : decode cX12_clean 1 = .ok (.aload_n 0, 1) := by decide +kernel
theorem dX12_clean_12 : decode cX12_clean 12 = .ok (.iconst 0, 1) := by decide +kernel
theorem dX12_clean_13 : decode cX12_clean 13 = .ok (.invokevirtual 110, 3) := by decide +kernel
theorem dX12_clean_16 : decode cX12_clean 16 = .ok (.ifCond .eq 5, 3) := by decide +kernel
theorem dX12_clean_21 : decode cX12_clean 21 = .ok (.aload_n 0, 1) := by decide +kernel
theorem dX12_clean_64 : decode cX12_clean 64 = .ok (.aload_n 0, 1) := by decide +kernel
theorem dX12_clean_65 : decode cX12_clean 65 = .ok (.invokevirtual 460, 3) := by decide +kernel
theorem dX12_clean_68 : decode cX12_clean 68 = .ok (.ireturn, 1) := by decide +kernel
theorem dX12_clean_25 : decode cX12_clean 25 = .ok (.tableswitch 82 1 6 #[39, 44, 49, 82, 61, 77], 39) := by decide +kernel
theorem dX12_clean_69 : decode cX12_clean 69 = .ok (.aload_n 0, 1) := by decide +kernel
theorem dX12_clean_70 : decode cX12_clean 70 = .ok (.invokevirtual 463, 3) := by decide +kernel
theorem dX12_clean_73 : decode cX12_clean 73 = .ok (.ireturn, 1) := by decide +kernel
theorem dX12_clean_74 : decode cX12_clean 74 = .ok (.aload_n 0, 1) := by decide +kernel
theorem dX12_clean_75 : decode cX12_clean 75 = .ok (.invokevirtual 384, 3) := by decide +kernel
theorem dX12_clean_78 : decode cX12_clean 78 = .ok (.istore_n 1, 1) := by decide +kernel
theorem dX12_clean_79 : decode cX12_clean 79 = .ok (.iload_n 1, 1) := by decide +kernel
theorem dX12_clean_80 : decode cX12_clean 80 = .ok (.aload_n 0, 1) := by decide +kernel
theorem dX12_clean_81 : decode cX12_clean 81 = .ok (.invokevirtual 448, 3) := by decide +kernel
theorem dX12_clean_84 : decode cX12_clean 84 = .ok (.iadd, 1) := by decide +kernel
theorem dX12_clean_85 : decode cX12_clean 85 = .ok (.ireturn, 1) := by decide +kernel
theorem dX12_clean_107 : decode cX12_clean 107 = .ok (.aload_n 0, 1) := by decide +kernel
theorem dX12_clean_108 : decode cX12_clean 108 = .ok (.invokevirtual 346, 3) := by decide +kernel
theorem dX12_clean_111 : decode cX12_clean 111 = .ok (.ireturn, 1) := by decide +kernel
theorem dX12_clean_86 : decode cX12_clean 86 = .ok (.aload_n 0, 1) := by decide +kernel
theorem dX12_clean_97 : decode cX12_clean 97 = .ok (.aload_n 0, 1) := by decide +kernel
theorem dX12_clean_98 : decode cX12_clean 98 = .ok (.invokevirtual 411, 3) := by decide +kernel
theorem dX12_clean_101 : decode cX12_clean 101 = .ok (.ireturn, 1) := by decide +kernel
theorem dX12_clean_93 : decode cX12_clean 93 = .ok (.aload_n 0, 1) := by decide +kernel
theorem dX12_clean_94 : decode cX12_clean 94 = .ok (.invokevirtual 408, 3) := by decide +kernel
theorem dX12_clean_90 : decode cX12_clean 90 = .ok (.ifCond .ne 7, 3) := by decide +kernel
theorem dX12_clean_87 : decode cX12_clean 87 = .ok (.getfield 270, 3) := by decide +kernel
theorem dX12_clean_102 : decode cX12_clean 102 = .ok (.aload_n 0, 1) := by decide +kernel
theorem dX12_clean_103 : decode cX12_clean 103 = .ok (.invokevirtual 457, 3) := by decide +kernel
theorem dX12_clean_106 : decode cX12_clean 106 = .ok (.ireturn, 1) := by decide +kernel
theorem dX12_clean_22 : decode cX12_clean 22 = .ok (.getfield 199, 3) := by decide +kernel
theorem dX12_clean_8 : decode cX12_clean 8 = .ok (.iconst 1, 1) := by decide +kernel
theorem dX12_clean_9 : decode cX12_clean 9 = .ok (.goto 4, 3) := by decide +kernel
theorem dX12_clean_19 : decode cX12_clean 19 = .ok (.iconst 0, 1) := by decide +kernel
theorem dX12_clean_20 : decode cX12_clean 20 = .ok (.ireturn, 1) := by decide +kernel
theorem dX12_clean_5 : decode cX12_clean 5 = .ok (.ifCond .ne 7, 3) := by decide +kernel
theorem dX12_clean_2 : decode cX12_clean 2 = .ok (.getfield 237, 3) := by decide +kernel
def wr_256 (c k : Nat) : Bool := Nat.beq c 99 || Nat.beq c 103 || Nat.beq c 104 || Nat.beq c 105 || Nat.beq c 106 || Nat.beq c 109 || Nat.beq c 110 || Nat.beq c 111 || Nat.beq c 113 || Nat.beq c 114 || Nat.beq c 115 || Nat.beq c 116 || Nat.beq c 117 || Nat.beq c 118 || Nat.beq c 119 || Nat.beq c 122 || Nat.beq c 123 || Nat.beq c 124 || (Nat.beq c 94 && (Nat.beq k 0 || Nat.beq k 44 || Nat.beq k 45 || Nat.beq k 47 || Nat.beq k 48 || Nat.beq k 49 || Nat.beq k 55 || Nat.beq k 56 || Nat.beq k 57 || Nat.beq k 58 || Nat.beq k 59 || Nat.beq k 60 || Nat.beq k 61 || Nat.beq k 63 || Nat.beq k 73 || Nat.beq k 75 || Nat.beq k 76 || Nat.beq k 77))
theorem ws_186_256 : ∀ c k, wr_186 c k = true → wr_256 c k = true := by
  intro c k h
  simp only [wr_186, Bool.or_eq_true, Bool.and_eq_true, Nat.beq_eq] at h
  rcases h with ((((((((rfl | rfl) | rfl) | rfl) | rfl) | rfl) | rfl) | rfl) | rfl) | ⟨rfl, (((((((rfl | rfl) | rfl) | rfl) | rfl) | rfl) | rfl) | rfl)⟩ <;> rfl
theorem ws_187_256 : ∀ c k, wr_187 c k = true → wr_256 c k = true := by
  intro c k h
  simp only [wr_187, Bool.or_eq_true, Bool.and_eq_true, Nat.beq_eq] at h
  rcases h with (((((((rfl | rfl) | rfl) | rfl) | rfl) | rfl) | rfl) | rfl) | ⟨rfl, (((((rfl | rfl) | rfl) | rfl) | rfl) | rfl)⟩ <;> rfl
theorem ws_206_256 : ∀ c k, wr_206 c k = true → wr_256 c k = true := by
  intro c k h
  simp only [wr_206, Bool.or_eq_true, Bool.and_eq_true, Nat.beq_eq] at h
  rcases h with (((((((((rfl | rfl) | rfl) | rfl) | rfl) | rfl) | rfl) | rfl) | rfl) | rfl) | ⟨rfl, (((((((((((rfl | rfl) | rfl) | rfl) | rfl) | rfl) | rfl) | rfl) | rfl) | rfl) | rfl) | rfl)⟩ <;> rfl
theorem ws_211_256 : ∀ c k, wr_211 c k = true → wr_256 c k = true := by
  intro c k h
  simp only [wr_211, Bool.or_eq_true, Bool.and_eq_true, Nat.beq_eq] at h
  rcases h with (((((((((rfl | rfl) | rfl) | rfl) | rfl) | rfl) | rfl) | rfl) | rfl) | rfl) | ⟨rfl, (((((((rfl | rfl) | rfl) | rfl) | rfl) | rfl) | rfl) | rfl)⟩ <;> rfl
theorem ws_214_256 : ∀ c k, wr_214 c k = true → wr_256 c k = true := by
  intro c k h
  simp only [wr_214, Bool.or_eq_true, Bool.and_eq_true, Nat.beq_eq] at h
  rcases h with (((((((((((rfl | rfl) | rfl) | rfl) | rfl) | rfl) | rfl) | rfl) | rfl) | rfl) | rfl) | rfl) | ⟨rfl, ((((((((((((rfl | rfl) | rfl) | rfl) | rfl) | rfl) | rfl) | rfl) | rfl) | rfl) | rfl) | rfl) | rfl)⟩ <;> rfl
theorem ws_219_256 : ∀ c k, wr_219 c k = true → wr_256 c k = true := by
  intro c k h
  simp only [wr_219, Bool.or_eq_true, Bool.and_eq_true, Nat.beq_eq] at h
  rcases h with (rfl | rfl) | ⟨rfl, ((rfl | rfl) | rfl)⟩ <;> rfl
theorem ws_230_256 : ∀ c k, wr_230 c k = true → wr_256 c k = true := by
  intro c k h
  simp only [wr_230, Bool.or_eq_true, Bool.and_eq_true, Nat.beq_eq] at h
  rcases h with (((((((((rfl | rfl) | rfl) | rfl) | rfl) | rfl) | rfl) | rfl) | rfl) | rfl) | ⟨rfl, ((((((((rfl | rfl) | rfl) | rfl) | rfl) | rfl) | rfl) | rfl) | rfl)⟩ <;> rfl
theorem ws_235_256 : ∀ c k, wr_235 c k = true → wr_256 c k = true := by
  intro c k h
  simp only [wr_235, Bool.or_eq_true, Bool.and_eq_true, Nat.beq_eq] at h
  rcases h with ((((((((((((rfl | rfl) | rfl) | rfl) | rfl) | rfl) | rfl) | rfl) | rfl) | rfl) | rfl) | rfl) | rfl) | ⟨rfl, (((((((rfl | rfl) | rfl) | rfl) | rfl) | rfl) | rfl) | rfl)⟩ <;> rfl
theorem g_256_0 {X : Nat × (Nat → Int32)} {m : Nat → Nat → Int32} {P : Option ma_V → (Nat → Nat → Int32) → Prop}  (h : if (m 94 8) = 0 then (P (some (.inl (0 : Int32))) (ma_u m 94 0 (1 : Int32))) else (if (m 94 10) = (1 : Int32) then (zm X 5 108 186 0 [(0, .inr (.inr (some 94)))] (ma_u m 94 0 (0 : Int32)) (zmi (fun v2 m1 => P (some (.inl v2)) m1))) else (if (m 94 10) = (2 : Int32) then (zm X 5 109 206 0 [(0, .inr (.inr (some 94)))] (ma_u m 94 0 (0 : Int32)) (zmi (fun v4 m3 => P (some (.inl v4)) m3))) else (if (m 94 10) = (3 : Int32) then (zm X 5 108 211 0 [(0, .inr (.inr (some 94)))] (ma_u m 94 0 (0 : Int32)) (zmi (fun v6 m5 => zm X 6 129 214 0 [(0, .inr (.inr (some 94)))] m5 (zmi (fun v8 m7 => P (some (.inl (v6 + v8))) m7))))) else (if (m 94 10) = (4 : Int32) then (zm X 4 88 187 0 [(0, .inr (.inr (some 94)))] (ma_u m 94 0 (0 : Int32)) (zmi (fun v10 m9 => P (some (.inl v10)) m9))) else (if (m 94 10) = (5 : Int32) then (if (m 94 58) = 0 then (zm X 2 44 219 0 [(0, .inr (.inr (some 94)))] (ma_u m 94 0 (0 : Int32)) (zmv (fun m13 => zm X 5 109 230 0 [(0, .inr (.inr (some 94)))] m13 (zmi (fun v16 m15 => P (some (.inl v16)) m15))))) else (zm X 5 109 230 0 [(0, .inr (.inr (some 94)))] (ma_u m 94 0 (0 : Int32)) (zmi (fun v12 m11 => P (some (.inl v12)) m11)))) else (if (m 94 10) = (6 : Int32) then (zm X 5 108 235 0 [(0, .inr (.inr (some 94)))] (ma_u m 94 0 (0 : Int32)) (zmi (fun v18 m17 => P (some (.inl v18)) m17))) else (zm X 4 88 187 0 [(0, .inr (.inr (some 94)))] (ma_u m 94 0 (0 : Int32)) (zmi (fun v20 m19 => P (some (.inl v20)) m19)))))))))) : zm X 7 152 256 0 [(0, .inr (.inr (some 94)))] m P := by
  intro d w S Q hd hw hS hm HQ
  subst hm
  refine zw_push hm_256 dX12_clean_0 (v := .inr (.inr (some 94))) rfl ?_
  refine zw_push hm_256 dX12_clean_1 (v := .inr (.inr (some 94))) rfl ?_
  refine zw_gf hm_256 dX12_clean_2 (v := .inl ((mI S) 94 8)) (zT_is hS s_94) (zT_t hS s_94) rfl f_12_237_12 rfl ?_
  refine zw_if0 hm_256 dX12_clean_5 (t := 12) rfl zc0_ne ?_ ?_
  · intro hc
    rw [if_neg hc] at h
    refine zw_push hm_256 dX12_clean_12 (v := .inl (0 : Int32)) rfl ?_
    refine zw_cv hm_256 dX12_clean_13 v_12_110_12 hm_167 [.inl (0 : Int32)] [] rfl (zT_rt hS s_94 rfl) ⟨by omega, by omega⟩ rfl ?_
    show ma_wp X (d - 1) (w - 21) 167 0 [(0, .inr (.inr (some 94))), (1, .inl (0 : Int32))] [] S _
    refine zw_push hm_167 dX12_fails_0 (v := .inr (.inr (some 94))) rfl ?_
    refine zw_push hm_167 dX12_fails_1 (v := .inl (0 : Int32)) rfl ?_
    refine zw_pf hm_167 dX12_fails_2 (zT_is hS s_94) (zT_t hS s_94) p_12_1_12 zk_int ?_
    refine zw_push hm_167 dX12_fails_5 (v := .inl (0 : Int32)) rfl ?_
    refine zw_if0 hm_167 dX12_fails_6 (t := 13) rfl zc0_eq (fun _ => ?_) (fun hc => absurd (by decide) hc)
    refine zw_push hm_167 dX12_fails_13 (v := .inl (0 : Int32)) rfl ?_
    refine zw_bret hm_167 dX12_fails_14 (by decide) ?_
    show ma_wp X d w 256 16 [(0, .inr (.inr (some 94)))] [.inl (0 : Int32)] (ma_put S 94 0 (.inl (0 : Int32))) _
    refine zw_if0 hm_256 dX12_clean_16 (t := 21) rfl zc0_eq (fun _ => ?_) (fun hc => absurd (by decide) hc)
    refine zw_push hm_256 dX12_clean_21 (v := .inr (.inr (some 94))) rfl ?_
    refine zw_gf hm_256 dX12_clean_22 (v := .inl ((mI S) 94 10)) (zT_is (zT_pi hS) s_94) (zT_t (zT_pi hS) s_94) rfl f_12_199_12 rfl ?_
    by_cases hc0 : ((mI S) 94 10) = (1 : Int32)
    · rw [if_pos hc0] at h
      refine zw_jmp hm_256 dX12_clean_25 (t := 64) (st₉ := []) rfl rfl rfl (ma_jmp_tab (by rw [hc0]; decide +kernel)) ?_
      refine zw_push hm_256 dX12_clean_64 (v := .inr (.inr (some 94))) rfl ?_
      refine zw_cv hm_256 dX12_clean_65 v_12_460_12 hm_186 [] [] rfl (zT_rt (zT_pi hS) s_94 rfl) ⟨by omega, by omega⟩ rfl (h _ _ (ma_put S 94 0 (.inl (0 : Int32))) _ (by omega) (by omega) (zT_pi hS) rfl (fun o9 m1 hv => ?_))
      obtain ⟨v2, rfl, h⟩ := zmi_of hv
      show ma_wp X d w 256 68 [(0, .inr (.inr (some 94)))] [.inl v2] (zst S m1) _
      exact zw_iret hm_256 dX12_clean_68 (HQ _ _ h)
    rw [if_neg hc0] at h
    by_cases hc1 : ((mI S) 94 10) = (2 : Int32)
    · rw [if_pos hc1] at h
      refine zw_jmp hm_256 dX12_clean_25 (t := 69) (st₉ := []) rfl rfl rfl (ma_jmp_tab (by rw [hc1]; decide +kernel)) ?_
      refine zw_push hm_256 dX12_clean_69 (v := .inr (.inr (some 94))) rfl ?_
      refine zw_cv hm_256 dX12_clean_70 v_12_463_12 hm_206 [] [] rfl (zT_rt (zT_pi hS) s_94 rfl) ⟨by omega, by omega⟩ rfl (h _ _ (ma_put S 94 0 (.inl (0 : Int32))) _ (by omega) (by omega) (zT_pi hS) rfl (fun o9 m3 hv => ?_))
      obtain ⟨v4, rfl, h⟩ := zmi_of hv
      show ma_wp X d w 256 73 [(0, .inr (.inr (some 94)))] [.inl v4] (zst S m3) _
      exact zw_iret hm_256 dX12_clean_73 (HQ _ _ h)
    rw [if_neg hc1] at h
    by_cases hc2 : ((mI S) 94 10) = (3 : Int32)
    · rw [if_pos hc2] at h
      refine zw_jmp hm_256 dX12_clean_25 (t := 74) (st₉ := []) rfl rfl rfl (ma_jmp_tab (by rw [hc2]; decide +kernel)) ?_
      refine zw_push hm_256 dX12_clean_74 (v := .inr (.inr (some 94))) rfl ?_
      refine zw_cv hm_256 dX12_clean_75 v_12_384_12 hm_211 [] [] rfl (zT_rt (zT_pi hS) s_94 rfl) ⟨by omega, by omega⟩ rfl (h _ _ (ma_put S 94 0 (.inl (0 : Int32))) _ (by omega) (by omega) (zT_pi hS) rfl (fun o9 m5 hv => ?_))
      obtain ⟨v6, rfl, h⟩ := zmi_of hv
      show ma_wp X d w 256 78 [(0, .inr (.inr (some 94)))] [.inl v6] (zst S m5) _
      refine zw_sto hm_256 dX12_clean_78 [(1, .inl v6), (0, .inr (.inr (some 94)))] rfl rfl rfl ?_
      refine zw_push hm_256 dX12_clean_79 (v := .inl v6) rfl ?_
      refine zw_push hm_256 dX12_clean_80 (v := .inr (.inr (some 94))) rfl ?_
      refine zw_cv hm_256 dX12_clean_81 v_12_448_12 hm_214 [] [.inl v6] rfl (zT_rt (zT_zst hS m5) s_94 rfl) ⟨by omega, by omega⟩ rfl (h _ _ (zst S m5) _ (by omega) (by omega) (zT_zst hS m5) rfl (fun o9 m7 hv => ?_))
      obtain ⟨v8, rfl, h⟩ := zmi_of hv
      show ma_wp X d w 256 84 [(1, .inl v6), (0, .inr (.inr (some 94)))] [.inl v8, .inl v6] (zst S m7) _
      refine zw_stk hm_256 dX12_clean_84 (st₉ := [.inl (v6 + v8)]) rfl rfl ?_
      exact zw_iret hm_256 dX12_clean_85 (HQ _ _ h)
    rw [if_neg hc2] at h
    by_cases hc3 : ((mI S) 94 10) = (4 : Int32)
    · rw [if_pos hc3] at h
      refine zw_jmp hm_256 dX12_clean_25 (t := 107) (st₉ := []) rfl rfl rfl (ma_jmp_tab (by rw [hc3]; decide +kernel)) ?_
      refine zw_push hm_256 dX12_clean_107 (v := .inr (.inr (some 94))) rfl ?_
      refine zw_cv hm_256 dX12_clean_108 v_12_346_12 hm_187 [] [] rfl (zT_rt (zT_pi hS) s_94 rfl) ⟨by omega, by omega⟩ rfl (h _ _ (ma_put S 94 0 (.inl (0 : Int32))) _ (by omega) (by omega) (zT_pi hS) rfl (fun o9 m9 hv => ?_))
      obtain ⟨v10, rfl, h⟩ := zmi_of hv
      show ma_wp X d w 256 111 [(0, .inr (.inr (some 94)))] [.inl v10] (zst S m9) _
      exact zw_iret hm_256 dX12_clean_111 (HQ _ _ h)
    rw [if_neg hc3] at h
    by_cases hc4 : ((mI S) 94 10) = (5 : Int32)
    · rw [if_pos hc4] at h
      refine zw_jmp hm_256 dX12_clean_25 (t := 86) (st₉ := []) rfl rfl rfl (ma_jmp_tab (by rw [hc4]; decide +kernel)) ?_
      refine zw_push hm_256 dX12_clean_86 (v := .inr (.inr (some 94))) rfl ?_
      refine zw_gf hm_256 dX12_clean_87 (v := .inl ((mI S) 94 58)) (zT_is (zT_pi hS) s_94) (zT_t (zT_pi hS) s_94) rfl f_12_270_12 rfl ?_
      refine zw_if0 hm_256 dX12_clean_90 (t := 97) rfl zc0_ne ?_ ?_
      · intro hc
        rw [if_neg hc] at h
        refine zw_push hm_256 dX12_clean_97 (v := .inr (.inr (some 94))) rfl ?_
        refine zw_cv hm_256 dX12_clean_98 v_12_411_12 hm_230 [] [] rfl (zT_rt (zT_pi hS) s_94 rfl) ⟨by omega, by omega⟩ rfl (h _ _ (ma_put S 94 0 (.inl (0 : Int32))) _ (by omega) (by omega) (zT_pi hS) rfl (fun o9 m11 hv => ?_))
        obtain ⟨v12, rfl, h⟩ := zmi_of hv
        show ma_wp X d w 256 101 [(0, .inr (.inr (some 94)))] [.inl v12] (zst S m11) _
        exact zw_iret hm_256 dX12_clean_101 (HQ _ _ h)
      · intro hc
        rw [if_pos (Classical.not_not.mp hc)] at h
        refine zw_push hm_256 dX12_clean_93 (v := .inr (.inr (some 94))) rfl ?_
        refine zw_cv hm_256 dX12_clean_94 v_12_408_12 hm_219 [] [] rfl (zT_rt (zT_pi hS) s_94 rfl) ⟨by omega, by omega⟩ rfl (h _ _ (ma_put S 94 0 (.inl (0 : Int32))) _ (by omega) (by omega) (zT_pi hS) rfl (fun o9 m13 hv => ?_))
        obtain ⟨rfl, h⟩ := zmv_of hv
        show ma_wp X d w 256 97 [(0, .inr (.inr (some 94)))] [] (zst S m13) _
        refine zw_push hm_256 dX12_clean_97 (v := .inr (.inr (some 94))) rfl ?_
        refine zw_cv hm_256 dX12_clean_98 v_12_411_12 hm_230 [] [] rfl (zT_rt (zT_zst hS m13) s_94 rfl) ⟨by omega, by omega⟩ rfl (h _ _ (zst S m13) _ (by omega) (by omega) (zT_zst hS m13) rfl (fun o9 m15 hv => ?_))
        obtain ⟨v16, rfl, h⟩ := zmi_of hv
        show ma_wp X d w 256 101 [(0, .inr (.inr (some 94)))] [.inl v16] (zst S m15) _
        exact zw_iret hm_256 dX12_clean_101 (HQ _ _ h)
    rw [if_neg hc4] at h
    by_cases hc5 : ((mI S) 94 10) = (6 : Int32)
    · rw [if_pos hc5] at h
      refine zw_jmp hm_256 dX12_clean_25 (t := 102) (st₉ := []) rfl rfl rfl (ma_jmp_tab (by rw [hc5]; decide +kernel)) ?_
      refine zw_push hm_256 dX12_clean_102 (v := .inr (.inr (some 94))) rfl ?_
      refine zw_cv hm_256 dX12_clean_103 v_12_457_12 hm_235 [] [] rfl (zT_rt (zT_pi hS) s_94 rfl) ⟨by omega, by omega⟩ rfl (h _ _ (ma_put S 94 0 (.inl (0 : Int32))) _ (by omega) (by omega) (zT_pi hS) rfl (fun o9 m17 hv => ?_))
      obtain ⟨v18, rfl, h⟩ := zmi_of hv
      show ma_wp X d w 256 106 [(0, .inr (.inr (some 94)))] [.inl v18] (zst S m17) _
      exact zw_iret hm_256 dX12_clean_106 (HQ _ _ h)
    rw [if_neg hc5] at h
    refine zw_jmp hm_256 dX12_clean_25 (t := 107) (st₉ := []) rfl rfl rfl (ma_jmp_def (m := 6) (by decide) (fun j hj => by
        have hj2 : j = 0 ∨ j = 1 ∨ j = 2 ∨ j = 3 ∨ j = 4 ∨ j = 5 := by omega
        rcases hj2 with rfl | rfl | rfl | rfl | rfl | rfl
        · exact hc0
        · exact hc1
        · exact hc2
        · exact hc3
        · exact hc4
        · exact hc5
        ) rfl) ?_
    refine zw_push hm_256 dX12_clean_107 (v := .inr (.inr (some 94))) rfl ?_
    refine zw_cv hm_256 dX12_clean_108 v_12_346_12 hm_187 [] [] rfl (zT_rt (zT_pi hS) s_94 rfl) ⟨by omega, by omega⟩ rfl (h _ _ (ma_put S 94 0 (.inl (0 : Int32))) _ (by omega) (by omega) (zT_pi hS) rfl (fun o9 m19 hv => ?_))
    obtain ⟨v20, rfl, h⟩ := zmi_of hv
    show ma_wp X d w 256 111 [(0, .inr (.inr (some 94)))] [.inl v20] (zst S m19) _
    exact zw_iret hm_256 dX12_clean_111 (HQ _ _ h)
  · intro hc
    rw [if_pos (Classical.not_not.mp hc)] at h
    refine zw_push hm_256 dX12_clean_8 (v := .inl (1 : Int32)) rfl ?_
    refine zw_goto hm_256 dX12_clean_9 (t := 13) rfl ?_
    refine zw_cv hm_256 dX12_clean_13 v_12_110_12 hm_167 [.inl (1 : Int32)] [] rfl (zT_rt hS s_94 rfl) ⟨by omega, by omega⟩ rfl ?_
    show ma_wp X (d - 1) (w - 21) 167 0 [(0, .inr (.inr (some 94))), (1, .inl (1 : Int32))] [] S _
    refine zw_push hm_167 dX12_fails_0 (v := .inr (.inr (some 94))) rfl ?_
    refine zw_push hm_167 dX12_fails_1 (v := .inl (1 : Int32)) rfl ?_
    refine zw_pf hm_167 dX12_fails_2 (zT_is hS s_94) (zT_t hS s_94) p_12_1_12 zk_int ?_
    refine zw_push hm_167 dX12_fails_5 (v := .inl (1 : Int32)) rfl ?_
    refine zw_if0 hm_167 dX12_fails_6 (t := 13) rfl zc0_eq (fun hc => absurd hc (by decide)) (fun _ => ?_)
    refine zw_push hm_167 dX12_fails_9 (v := .inl (1 : Int32)) rfl ?_
    refine zw_goto hm_167 dX12_fails_10 (t := 14) rfl ?_
    refine zw_bret hm_167 dX12_fails_14 (by decide) ?_
    show ma_wp X d w 256 16 [(0, .inr (.inr (some 94)))] [.inl (1 : Int32)] (ma_put S 94 0 (.inl (1 : Int32))) _
    refine zw_if0 hm_256 dX12_clean_16 (t := 21) rfl zc0_eq (fun hc => absurd hc (by decide)) (fun _ => ?_)
    refine zw_push hm_256 dX12_clean_19 (v := .inl (0 : Int32)) rfl ?_
    exact zw_iret hm_256 dX12_clean_20 (HQ _ _ h)
set_option maxHeartbeats 8000000 in
theorem sp_256 {X : Nat × (Nat → Int32)} {P : Option ma_V → (Nat → Nat → Int32) → Prop} {T : Nat} {m : Nat → Nat → Int32}  (hV : zV m) (r_W : zW (m 94 7) (m 98) (m 101) (m 102) (m 108)) (r_GW : zGW T (m 94 55) (m 109)) (r_GU : zGU T (m 94 46) (m 99)) (r_OW : zOw (m 99) (m 103) (m 111)) (r_DX : zDX (m 94 10) (m 99) (m 112) (m 113) (m 114) (m 94 55) (m 98) (m 101) (m 102) (m 108)) (r_GG : zGG (m 94 58) (m 94 56) (m 94 57) (m 106)) (r_HA : zHA (m 94 10) (m 94 11) (m 94 13) (m 94 14) (m 94 16) (m 94 61) (m 94 59) (m 94 60) (m 99) (m 102) (m 103) (m 111) (m 117) (m 98) (m 101) (m 108)) (r_RGc : zRG (m 94 10) (m 94 18) (m 94 64) (m 94 63) (m 99) (m 103) (m 102) (m 116)) (hpre8 : (m 94 58).toInt = 0 ∨ (m 94 10).toInt = 5) (KZ : ∀ v m₉, zV (zov wr_256 m m₉) → (zW (m 94 7) (m 98) (m 101) (m 102) (m 108)) → (zGW T (m₉ 94 55) (m₉ 109)) → (zGU T (m 94 46) (m₉ 99)) → (zOw (m₉ 99) (m₉ 103) (m₉ 111)) → (zDX (m 94 10) (m₉ 99) (m 112) (m₉ 113) (m₉ 114) (m₉ 94 55) (m 98) (m 101) (m 102) (m 108)) → (zGG (m₉ 94 58) (m₉ 94 56) (m₉ 94 57) (m₉ 106)) → (zHA (m 94 10) (m 94 11) (m 94 13) (m 94 14) (m 94 16) (m₉ 94 61) (m₉ 94 59) (m₉ 94 60) (m₉ 99) (m 102) (m₉ 103) (m₉ 111) (m₉ 117) (m 98) (m 101) (m 108)) → (zRG (m 94 10) (m 94 18) (m 94 64) (m₉ 94 63) (m₉ 99) (m₉ 103) (m 102) (m₉ 116)) → ((m₉ 94 58).toInt = 0 ∨ (m 94 10).toInt = 5) → P (some (.inl v)) (zov wr_256 m m₉)) : zm X 7 152 256 0 [(0, .inr (.inr (some 94)))] m P := by
  have K : ∀ v m₉, zF wr_256 m m₉ → zV m₉ → (zW (m₉ 94 7) (m₉ 98) (m₉ 101) (m₉ 102) (m₉ 108)) → (zGW T (m₉ 94 55) (m₉ 109)) → (zGU T (m₉ 94 46) (m₉ 99)) → (zOw (m₉ 99) (m₉ 103) (m₉ 111)) → (zDX (m₉ 94 10) (m₉ 99) (m₉ 112) (m₉ 113) (m₉ 114) (m₉ 94 55) (m₉ 98) (m₉ 101) (m₉ 102) (m₉ 108)) → (zGG (m₉ 94 58) (m₉ 94 56) (m₉ 94 57) (m₉ 106)) → (zHA (m₉ 94 10) (m₉ 94 11) (m₉ 94 13) (m₉ 94 14) (m₉ 94 16) (m₉ 94 61) (m₉ 94 59) (m₉ 94 60) (m₉ 99) (m₉ 102) (m₉ 103) (m₉ 111) (m₉ 117) (m₉ 98) (m₉ 101) (m₉ 108)) → (zRG (m₉ 94 10) (m₉ 94 18) (m₉ 94 64) (m₉ 94 63) (m₉ 99) (m₉ 103) (m₉ 102) (m₉ 116)) → ((m₉ 94 58).toInt = 0 ∨ (m₉ 94 10).toInt = 5) → P (some (.inl v)) m₉ := by
    intro v m₉ hf z q0 q1 q2 q3 q4 q5 q6 q7 q8
    have e := zov_eq hf
    rw [e] at z ⊢
    try rw [e] at q0
    try rw [e] at q1
    try rw [e] at q2
    try rw [e] at q3
    try rw [e] at q4
    try rw [e] at q5
    try rw [e] at q6
    try rw [e] at q7
    try rw [e] at q8
    exact KZ v m₉ z q0 q1 q2 q3 q4 q5 q6 q7 q8
  refine g_256_0  ?_
  have f1 : 0 ≤ (m 94 58).toInt ∧ (m 94 58).toInt ≤ 1 := rs_94_58 (m := m) hV
  have f2 : 0 ≤ (m 94 10).toInt ∧ (m 94 10).toInt ≤ 6 := rs_94_10 (m := m) hV
  have f3 : 0 ≤ (m 94 8).toInt ∧ (m 94 8).toInt ≤ 1 := rs_94_8 (m := m) hV
  have li4 : (0 : Int32).toInt = 0 := rfl
  refine zd (fun (h5 : (m 94 8) = (0 : Int32)) => ?_) (fun (h5 : ¬ (m 94 8) = (0 : Int32)) => ?_)
  · skip
    have g6 := i_eq h5
    have hV7 : zV (ma_u m 94 0 (1 : Int32)) := uf_94_0 hV
    exact K ((0 : Int32)) _ (zF_u zF_rfl rfl) hV7 r_W r_GW r_GU r_OW r_DX r_GG r_HA r_RGc (show (m 94 58).toInt = 0 ∨ (m 94 10).toInt = 5 from by omega)
  · skip
    have g8 := i_ne h5
    have li9 : (1 : Int32).toInt = 1 := rfl
    refine zd (fun (h10 : (m 94 10) = (1 : Int32)) => ?_) (fun (h10 : ¬ (m 94 10) = (1 : Int32)) => ?_)
    · skip
      have g11 := i_eq h10
      have hV12 : zV (ma_u m 94 0 (0 : Int32)) := uf_94_0 hV
      refine sp_186  hV12 r_W r_GW r_GU r_OW r_DX (fun v2 m1 hV_m1 p0_m1 p1_m1 p2_m1 p3_m1 => zmi_n ?_)
      have p0_m1 : zGW T (m1 94 55) (m1 109) := p0_m1
      have p1_m1 : zGU T (m 94 46) (m1 99) := p1_m1
      have p2_m1 : zOw (m1 99) (m1 103) (m1 111) := p2_m1
      have p3_m1 : zDX (m 94 10) (m1 99) (m 112) (m1 113) (m1 114) (m1 94 55) (m 98) (m 101) (m 102) (m 108) := p3_m1
      have b13 := i_bd v2
      exact K (v2) _ (zF_zov (zF_u zF_rfl rfl) ws_186_256) hV_m1 r_W p0_m1 p1_m1 p2_m1 p3_m1 r_GG (show zHA (m 94 10) (m 94 11) (m 94 13) (m 94 14) (m 94 16) (m 94 61) (m1 94 59) (m 94 60) (m1 99) (m 102) (m1 103) (m1 111) (m 117) (m 98) (m 101) (m 108) from by first | (exact ⟨fun z => absurd z (by omega), fun z => absurd z (by omega)⟩) | (exfalso; omega; done) | (exfalso; contradiction; done)) (show zRG (m 94 10) (m 94 18) (m 94 64) (m 94 63) (m1 99) (m1 103) (m 102) (m 116) from by first | (exact fun z => absurd z (by omega)) | (exfalso; omega; done) | (exfalso; contradiction; done)) (show (m 94 58).toInt = 0 ∨ (m 94 10).toInt = 5 from by omega)
    · skip
      have g14 := i_ne h10
      have li15 : (2 : Int32).toInt = 2 := rfl
      refine zd (fun (h16 : (m 94 10) = (2 : Int32)) => ?_) (fun (h16 : ¬ (m 94 10) = (2 : Int32)) => ?_)
      · skip
        have g17 := i_eq h16
        have hV18 : zV (ma_u m 94 0 (0 : Int32)) := uf_94_0 hV
        refine sp_206  hV18 r_W r_GW r_GU r_OW r_DX r_HA (show (m 94 10).toInt = 2 from by omega) (fun v4 m3 hV_m3 p0_m3 p1_m3 p2_m3 p3_m3 p4_m3 => zmi_n ?_)
        have p0_m3 : zGW T (m3 94 55) (m3 109) := p0_m3
        have p1_m3 : zGU T (m 94 46) (m3 99) := p1_m3
        have p2_m3 : zOw (m3 99) (m3 103) (m3 111) := p2_m3
        have p3_m3 : zDX (m 94 10) (m3 99) (m 112) (m3 113) (m3 114) (m3 94 55) (m 98) (m 101) (m 102) (m 108) := p3_m3
        have p4_m3 : zHA (m 94 10) (m 94 11) (m 94 13) (m 94 14) (m 94 16) (m3 94 61) (m3 94 59) (m3 94 60) (m3 99) (m 102) (m3 103) (m3 111) (m 117) (m 98) (m 101) (m 108) := p4_m3
        have b19 := i_bd v4
        exact K (v4) _ (zF_zov (zF_u zF_rfl rfl) ws_206_256) hV_m3 r_W p0_m3 p1_m3 p2_m3 p3_m3 r_GG p4_m3 (show zRG (m 94 10) (m 94 18) (m 94 64) (m 94 63) (m3 99) (m3 103) (m 102) (m 116) from by first | (exact fun z => absurd z (by omega)) | (exfalso; omega; done) | (exfalso; contradiction; done)) (show (m 94 58).toInt = 0 ∨ (m 94 10).toInt = 5 from by omega)
      · skip
        have g20 := i_ne h16
        have li21 : (3 : Int32).toInt = 3 := rfl
        refine zd (fun (h22 : (m 94 10) = (3 : Int32)) => ?_) (fun (h22 : ¬ (m 94 10) = (3 : Int32)) => ?_)
        · skip
          have g23 := i_eq h22
          have hV24 : zV (ma_u m 94 0 (0 : Int32)) := uf_94_0 hV
          refine sp_211  hV24 r_W r_GW r_GU r_OW r_DX r_HA (show (m 94 10).toInt = 3 from by omega) (fun v6 m5 hV_m5 p0_m5 p1_m5 p2_m5 p3_m5 p4_m5 => zmi_n ?_)
          have p0_m5 : zGW T (m5 94 55) (m5 109) := p0_m5
          have p1_m5 : zGU T (m 94 46) (m5 99) := p1_m5
          have p2_m5 : zOw (m5 99) (m5 103) (m5 111) := p2_m5
          have p3_m5 : zDX (m 94 10) (m5 99) (m 112) (m5 113) (m5 114) (m5 94 55) (m 98) (m 101) (m 102) (m 108) := p3_m5
          have p4_m5 : zHA (m 94 10) (m 94 11) (m 94 13) (m 94 14) (m 94 16) (m 94 61) (m 94 59) (m5 94 60) (m5 99) (m 102) (m5 103) (m5 111) (m5 117) (m 98) (m 101) (m 108) := p4_m5
          refine sp_214  hV_m5 r_W p0_m5 p1_m5 p2_m5 p3_m5 p4_m5 (show (m 94 10).toInt = 3 from by omega) (fun v8 m7 hV_m7 p0_m7 p1_m7 p2_m7 p3_m7 p4_m7 => zmi_n ?_)
          have p0_m7 : zGW T (m7 94 55) (m7 109) := p0_m7
          have p1_m7 : zGU T (m 94 46) (m7 99) := p1_m7
          have p2_m7 : zOw (m7 99) (m7 103) (m7 111) := p2_m7
          have p3_m7 : zDX (m 94 10) (m7 99) (m 112) (m7 113) (m7 114) (m7 94 55) (m 98) (m 101) (m 102) (m 108) := p3_m7
          have p4_m7 : zHA (m 94 10) (m 94 11) (m 94 13) (m 94 14) (m 94 16) (m7 94 61) (m7 94 59) (m7 94 60) (m7 99) (m 102) (m7 103) (m7 111) (m7 117) (m 98) (m 101) (m 108) := p4_m7
          have b25 := i_bd v6
          have b26 := i_bd v8
          first | have b28 := i_bd (v6 + v8) | have e27 : (v6 + v8).toInt = v6.toInt + v8.toInt := i_add (by omega) (by omega)
          exact K ((v6 + v8)) _ (zF_zov (zF_zov (zF_u zF_rfl rfl) ws_211_256) ws_214_256) hV_m7 r_W p0_m7 p1_m7 p2_m7 p3_m7 r_GG p4_m7 (show zRG (m 94 10) (m 94 18) (m 94 64) (m 94 63) (m7 99) (m7 103) (m 102) (m 116) from by first | (exact fun z => absurd z (by omega)) | (exfalso; omega; done) | (exfalso; contradiction; done)) (show (m 94 58).toInt = 0 ∨ (m 94 10).toInt = 5 from by omega)
        · skip
          have g29 := i_ne h22
          have li30 : (4 : Int32).toInt = 4 := rfl
          refine zd (fun (h31 : (m 94 10) = (4 : Int32)) => ?_) (fun (h31 : ¬ (m 94 10) = (4 : Int32)) => ?_)
          · skip
            have g32 := i_eq h31
            have hV33 : zV (ma_u m 94 0 (0 : Int32)) := uf_94_0 hV
            refine sp_187  hV33 r_W r_GW r_GU r_OW r_DX (fun v10 m9 hV_m9 p0_m9 p1_m9 p2_m9 p3_m9 p4_m9 => zmi_n ?_)
            have p0_m9 : zGW T (m9 94 55) (m9 109) := p0_m9
            have p1_m9 : zGU T (m 94 46) (m9 99) := p1_m9
            have p2_m9 : zOw (m9 99) (m 103) (m9 111) := p2_m9
            have p3_m9 : zDX (m 94 10) (m9 99) (m 112) (m9 113) (m9 114) (m9 94 55) (m 98) (m 101) (m 102) (m 108) := p3_m9
            have p4_m9 : zsw (m 99) (m9 99) (m 111) (m9 111) (m 103) := p4_m9
            have b34 := i_bd v10
            exact K (v10) _ (zF_zov (zF_u zF_rfl rfl) ws_187_256) hV_m9 r_W p0_m9 p1_m9 p2_m9 p3_m9 r_GG (show zHA (m 94 10) (m 94 11) (m 94 13) (m 94 14) (m 94 16) (m 94 61) (m 94 59) (m 94 60) (m9 99) (m 102) (m 103) (m9 111) (m 117) (m 98) (m 101) (m 108) from by first | (exact ⟨fun z => absurd z (by omega), fun z => absurd z (by omega)⟩) | (exfalso; omega; done) | (exfalso; contradiction; done)) (show zRG (m 94 10) (m 94 18) (m 94 64) (m 94 63) (m9 99) (m 103) (m 102) (m 116) from by first | (exact fun z => absurd z (by omega)) | (exfalso; omega; done) | (exfalso; contradiction; done)) (show (m 94 58).toInt = 0 ∨ (m 94 10).toInt = 5 from by omega)
          · skip
            have g35 := i_ne h31
            have li36 : (5 : Int32).toInt = 5 := rfl
            refine zd (fun (h37 : (m 94 10) = (5 : Int32)) => ?_) (fun (h37 : ¬ (m 94 10) = (5 : Int32)) => ?_)
            · skip
              have g38 := i_eq h37
              refine zd (fun (h39 : (m 94 58) = (0 : Int32)) => ?_) (fun (h39 : ¬ (m 94 58) = (0 : Int32)) => ?_)
              · skip
                have g40 := i_eq h39
                have hV41 : zV (ma_u m 94 0 (0 : Int32)) := uf_94_0 hV
                refine sp_219  hV41  (fun m13 hV_m13 p0_m13 p1_m13 => zmv_n ?_)
                have p0_m13 : zG1 (m13 94 56) (m13 94 57) (m13 106) := p0_m13
                have p1_m13 : (m13 94 58).toInt = 1 := p1_m13
                have f42 : 0 ≤ (m13 94 58).toInt ∧ (m13 94 58).toInt ≤ 1 := rs_94_58 (m := (zov wr_219 (ma_u m 94 0 (0 : Int32)) m13)) hV_m13
                refine sp_230  hV_m13 r_W r_GW r_GU r_OW r_DX (show zGG (m13 94 58) (m13 94 56) (m13 94 57) (m13 106) from by first | (exact fun _ => p0_m13) | (exact fun z => absurd z (by omega)) | (exact fun z => absurd z (by decide)) | (exact fun z => absurd z (by omega)) | (exfalso; omega; done) | (exfalso; contradiction; done)) (show (m 94 10).toInt = 5 from by omega) (fun v16 m15 hV_m15 p0_m15 p1_m15 p2_m15 p3_m15 p4_m15 p5_m15 => zmi_n ?_)
                have p0_m15 : zGW T (m15 94 55) (m15 109) := p0_m15
                have p1_m15 : zGU T (m 94 46) (m15 99) := p1_m15
                have p2_m15 : zOw (m15 99) (m 103) (m15 111) := p2_m15
                have p3_m15 : zDX (m 94 10) (m15 99) (m 112) (m15 113) (m15 114) (m15 94 55) (m 98) (m 101) (m 102) (m 108) := p3_m15
                have p4_m15 : zGG (m15 94 58) (m15 94 56) (m15 94 57) (m15 106) := p4_m15
                have p5_m15 : (m15 94 58).toInt = 0 := p5_m15
                have f43 : 0 ≤ (m15 94 58).toInt ∧ (m15 94 58).toInt ≤ 1 := rs_94_58 (m := (zov wr_230 (zov wr_219 (ma_u m 94 0 (0 : Int32)) m13) m15)) hV_m15
                have b44 := i_bd v16
                exact K (v16) _ (zF_zov (zF_zov (zF_u zF_rfl rfl) ws_219_256) ws_230_256) hV_m15 r_W p0_m15 p1_m15 p2_m15 p3_m15 p4_m15 (show zHA (m 94 10) (m 94 11) (m 94 13) (m 94 14) (m 94 16) (m 94 61) (m 94 59) (m 94 60) (m15 99) (m 102) (m 103) (m15 111) (m 117) (m 98) (m 101) (m 108) from by first | (exact ⟨fun z => absurd z (by omega), fun z => absurd z (by omega)⟩) | (exfalso; omega; done) | (exfalso; contradiction; done)) (show zRG (m 94 10) (m 94 18) (m 94 64) (m 94 63) (m15 99) (m 103) (m 102) (m 116) from by first | (exact fun z => absurd z (by omega)) | (exfalso; omega; done) | (exfalso; contradiction; done)) (show (m15 94 58).toInt = 0 ∨ (m 94 10).toInt = 5 from by omega)
              · skip
                have g45 := i_ne h39
                have hV46 : zV (ma_u m 94 0 (0 : Int32)) := uf_94_0 hV
                refine sp_230  hV46 r_W r_GW r_GU r_OW r_DX r_GG (show (m 94 10).toInt = 5 from by omega) (fun v12 m11 hV_m11 p0_m11 p1_m11 p2_m11 p3_m11 p4_m11 p5_m11 => zmi_n ?_)
                have p0_m11 : zGW T (m11 94 55) (m11 109) := p0_m11
                have p1_m11 : zGU T (m 94 46) (m11 99) := p1_m11
                have p2_m11 : zOw (m11 99) (m 103) (m11 111) := p2_m11
                have p3_m11 : zDX (m 94 10) (m11 99) (m 112) (m11 113) (m11 114) (m11 94 55) (m 98) (m 101) (m 102) (m 108) := p3_m11
                have p4_m11 : zGG (m11 94 58) (m11 94 56) (m11 94 57) (m11 106) := p4_m11
                have p5_m11 : (m11 94 58).toInt = 0 := p5_m11
                have f47 : 0 ≤ (m11 94 58).toInt ∧ (m11 94 58).toInt ≤ 1 := rs_94_58 (m := (zov wr_230 (ma_u m 94 0 (0 : Int32)) m11)) hV_m11
                have b48 := i_bd v12
                exact K (v12) _ (zF_zov (zF_u zF_rfl rfl) ws_230_256) hV_m11 r_W p0_m11 p1_m11 p2_m11 p3_m11 p4_m11 (show zHA (m 94 10) (m 94 11) (m 94 13) (m 94 14) (m 94 16) (m 94 61) (m 94 59) (m 94 60) (m11 99) (m 102) (m 103) (m11 111) (m 117) (m 98) (m 101) (m 108) from by first | (exact ⟨fun z => absurd z (by omega), fun z => absurd z (by omega)⟩) | (exfalso; omega; done) | (exfalso; contradiction; done)) (show zRG (m 94 10) (m 94 18) (m 94 64) (m 94 63) (m11 99) (m 103) (m 102) (m 116) from by first | (exact fun z => absurd z (by omega)) | (exfalso; omega; done) | (exfalso; contradiction; done)) (show (m11 94 58).toInt = 0 ∨ (m 94 10).toInt = 5 from by omega)
            · skip
              have g49 := i_ne h37
              have li50 : (6 : Int32).toInt = 6 := rfl
              refine zd (fun (h51 : (m 94 10) = (6 : Int32)) => ?_) (fun (h51 : ¬ (m 94 10) = (6 : Int32)) => ?_)
              · skip
                have g52 := i_eq h51
                have hV53 : zV (ma_u m 94 0 (0 : Int32)) := uf_94_0 hV
                refine sp_235  hV53 r_W r_GW r_GU r_OW r_DX (show zRG1 (m 94 18) (m 94 64) (m 94 63) (m 99) (m 103) (m 102) (m 116) from by first | (exact r_RGc (by omega)) | (exfalso; omega; done) | (exfalso; contradiction; done)) (show (m 94 10).toInt = 6 from by omega) (fun v18 m17 hV_m17 p0_m17 p1_m17 p2_m17 p3_m17 p4_m17 => zmi_n ?_)
                have p0_m17 : zGW T (m17 94 55) (m17 109) := p0_m17
                have p1_m17 : zGU T (m 94 46) (m17 99) := p1_m17
                have p2_m17 : zOw (m17 99) (m17 103) (m17 111) := p2_m17
                have p3_m17 : zDX (m 94 10) (m17 99) (m 112) (m17 113) (m17 114) (m17 94 55) (m 98) (m 101) (m 102) (m 108) := p3_m17
                have p4_m17 : zRG1 (m 94 18) (m 94 64) (m17 94 63) (m17 99) (m17 103) (m 102) (m17 116) := p4_m17
                have b54 := i_bd v18
                exact K (v18) _ (zF_zov (zF_u zF_rfl rfl) ws_235_256) hV_m17 r_W p0_m17 p1_m17 p2_m17 p3_m17 r_GG (show zHA (m 94 10) (m 94 11) (m 94 13) (m 94 14) (m 94 16) (m 94 61) (m 94 59) (m 94 60) (m17 99) (m 102) (m17 103) (m17 111) (m 117) (m 98) (m 101) (m 108) from by first | (exact ⟨fun z => absurd z (by omega), fun z => absurd z (by omega)⟩) | (exfalso; omega; done) | (exfalso; contradiction; done)) (show zRG (m 94 10) (m 94 18) (m 94 64) (m17 94 63) (m17 99) (m17 103) (m 102) (m17 116) from by first | (exact fun _ => p4_m17) | (exact fun z => absurd z (by omega)) | (exfalso; omega; done) | (exfalso; contradiction; done)) (show (m 94 58).toInt = 0 ∨ (m 94 10).toInt = 5 from by omega)
              · skip
                have g55 := i_ne h51
                have hV56 : zV (ma_u m 94 0 (0 : Int32)) := uf_94_0 hV
                refine sp_187  hV56 r_W r_GW r_GU r_OW r_DX (fun v20 m19 hV_m19 p0_m19 p1_m19 p2_m19 p3_m19 p4_m19 => zmi_n ?_)
                have p0_m19 : zGW T (m19 94 55) (m19 109) := p0_m19
                have p1_m19 : zGU T (m 94 46) (m19 99) := p1_m19
                have p2_m19 : zOw (m19 99) (m 103) (m19 111) := p2_m19
                have p3_m19 : zDX (m 94 10) (m19 99) (m 112) (m19 113) (m19 114) (m19 94 55) (m 98) (m 101) (m 102) (m 108) := p3_m19
                have p4_m19 : zsw (m 99) (m19 99) (m 111) (m19 111) (m 103) := p4_m19
                have b57 := i_bd v20
                exact K (v20) _ (zF_zov (zF_u zF_rfl rfl) ws_187_256) hV_m19 r_W p0_m19 p1_m19 p2_m19 p3_m19 r_GG (show zHA (m 94 10) (m 94 11) (m 94 13) (m 94 14) (m 94 16) (m 94 61) (m 94 59) (m 94 60) (m19 99) (m 102) (m 103) (m19 111) (m 117) (m 98) (m 101) (m 108) from by first | (exact ⟨fun z => absurd z (by omega), fun z => absurd z (by omega)⟩) | (exfalso; omega; done) | (exfalso; contradiction; done)) (show zRG (m 94 10) (m 94 18) (m 94 64) (m 94 63) (m19 99) (m 103) (m 102) (m 116) from by first | (exact fun z => absurd z (by omega)) | (exfalso; omega; done) | (exfalso; contradiction; done)) (show (m 94 58).toInt = 0 ∨ (m 94 10).toInt = 5 from by omega)

/-! from 95.a0 -/
/-! the level of the regions -/
def zL91_f (c k : Nat) : Bool := zfz c k && decide (c ≠ 91) && decide (c ≠ 92) && decide (c ≠ 93)
def zL91_s : List (Nat × Nat × Int × Int) := [(69, 5, 0, 512), (69, 6, 0, 512), (75, 3, 0, 512), (75, 4, 0, 512), (88, 3, 0, 512), (88, 4, 0, 512), (91, 2, 0, 1500), (91, 3, 0, 93), (91, 5, 0, 92), (91, 6, -1, 92)]
def zL91_a : List (Nat × Nat × Int × Int) := [(92, 93, 0, 3000)]
def zL91_r : List Nat := [70]
def zL91_x (_ : Nat → Nat → Int32) : Prop := True
abbrev zL91 (f : Nat → Nat → Int32) (r : Nat → Nat → Option Nat) (C Z N : Nat) (S : ma_S) : Prop := zG zL91_f zL91_s zL91_a zL91_r zL91_x f r C Z N S
theorem zL91_dn {f : Nat → Nat → Int32} {r : Nat → Nat → Option Nat} {C Z N : Nat} {S : ma_S} (h : zL91 f r C Z N S) : zI (mI S) (mR S) C Z N S := zG_dn h (by decide) (by decide) (by decide) (fun _ => trivial)
theorem zL91_up {f : Nat → Nat → Int32} {r : Nat → Nat → Option Nat} {C Z N : Nat} {S S1 : ma_S} (h : zL91 f r C Z N S) (h1 : zI (mI S) (mR S) C Z N S1) : zL91 f r C Z N S1 := by
  refine zG_up h h1 (fun c k z => ?_) (by decide) ?_ (by decide) (fun _ _ h => h)
  · unfold zL91_f at z
    unfold zI_f
    simp only [Bool.and_eq_true] at z
    exact z.1.1.1
  · intro q hq
    right
    intro k
    have e : q = (92, 93, 0, 3000) := by
      cases hq with
      | head => rfl
      | tail _ z => cases z
    rw [e]
    rfl

/-! from 95.a1 -/
/-! tables and instructions -/
set_option maxRecDepth 100000 in
theorem hm_38 : ma_md 38 = some (4, yX4_open, cX4_open, 2, none) := rfl
set_option maxRecDepth 100000 in
theorem hm_39 : ma_md 39 = some (4, yX4_total, cX4_total, 1, (some (FieldType.int))) := rfl
set_option maxRecDepth 100000 in
theorem hm_40 : ma_md 40 = some (4, yX4_findRoom, cX4_findRoom, 2, (some (FieldType.int))) := rfl
set_option maxRecDepth 100000 in
theorem hm_41 : ma_md 41 = some (4, yX4_fits, cX4_fits, 3, (some (FieldType.boolean))) := rfl
set_option maxRecDepth 100000 in
theorem hm_42 : ma_md 42 = some (4, yX4_specials, cX4_specials, 3, (some (FieldType.int))) := rfl
set_option maxRecDepth 100000 in
theorem hm_43 : ma_md 43 = some (4, yX4_cleanAll, cX4_cleanAll, 4, (some (FieldType.int))) := rfl
set_option maxRecDepth 100000 in
theorem hm_44 : ma_md 44 = some (4, yX4_sumKept, cX4_sumKept, 3, none) := rfl
set_option maxRecDepth 100000 in
theorem hm_45 : ma_md 45 = some (4, yX4_regionOf, cX4_regionOf, 2, (some (FieldType.int))) := rfl
set_option maxRecDepth 100000 in
theorem hm_46 : ma_md 46 = some (4, yX4_emptyWhereNothingIsLeft, cX4_emptyWhereNothingIsLeft, 2, none) := rfl
set_option maxRecDepth 100000 in
theorem hm_47 : ma_md 47 = some (4, yX4_chooseLeaving, cX4_chooseLeaving, 3, none) := rfl
set_option maxRecDepth 100000 in
theorem hm_48 : ma_md 48 = some (4, yX4_fewestLeaving, cX4_fewestLeaving, 3, (some (FieldType.int))) := rfl
set_option maxRecDepth 100000 in
theorem hm_49 : ma_md 49 = some (4, yX4_moveAll, cX4_moveAll, 5, (some (FieldType.boolean))) := rfl
set_option maxRecDepth 100000 in
theorem hm_50 : ma_md 50 = some (4, yX4_topOf, cX4_topOf, 2, (some (FieldType.int))) := rfl
set_option maxRecDepth 100000 in
theorem hm_51 : ma_md 51 = some (4, yX4_moveOut, cX4_moveOut, 3, (some (FieldType.boolean))) := rfl
set_option maxRecDepth 100000 in
theorem hm_52 : ma_md 52 = some (4, yX4_leastEmpty, cX4_leastEmpty, 2, (some (FieldType.int))) := rfl
set_option maxRecDepth 100000 in
theorem hm_53 : ma_md 53 = some (4, yX4_raiseTop, cX4_raiseTop, 3, none) := rfl
set_option maxRecDepth 100000 in
theorem hm_54 : ma_md 54 = some (4, yX4_orElse, cX4_orElse, 2, (some (FieldType.int))) := rfl
set_option maxRecDepth 100000 in
theorem hm_55 : ma_md 55 = some (4, yX4_topPlace, cX4_topPlace, 1, (some (FieldType.int))) := rfl
set_option maxRecDepth 100000 in
theorem hm_56 : ma_md 56 = some (4, yX4_noteMade, cX4_noteMade, 2, none) := rfl
set_option maxRecDepth 100000 in
theorem hm_57 : ma_md 57 = some (4, yX4_oldTopOrRegion, cX4_oldTopOrRegion, 1, (some (FieldType.int))) := rfl
theorem s_92 : zs 92 = some (20, 93) := rfl
theorem s_93 : zs 93 = some (20, 93) := rfl
theorem r_91_7 : zfi 91 7 = some 92 := rfl
theorem r_91_8 : zfi 91 8 = some 93 := rfl
theorem f_4_9_4 : ma_fld 4 9 4 = some 7 := by decide +kernel
theorem f_4_15_4 : ma_fld 4 15 4 = some 8 := by decide +kernel
theorem f_4_18_4 : ma_fld 4 18 4 = some 2 := by decide +kernel
theorem f_4_28_4 : ma_fld 4 28 4 = some 3 := by decide +kernel
theorem f_4_31_4 : ma_fld 4 31 4 = some 4 := by decide +kernel
theorem f_4_34_4 : ma_fld 4 34 4 = some 5 := by decide +kernel
theorem f_4_63_9 : ma_fld 4 63 9 = some 2 := by decide +kernel
theorem f_4_83_4 : ma_fld 4 83 4 = some 6 := by decide +kernel
theorem f_4_97_9 : ma_fld 4 97 9 = some 4 := by decide +kernel
theorem f_4_100_4 : ma_fld 4 100 4 = some 0 := by decide +kernel
theorem f_4_104_7 : ma_fld 4 104 7 = some 6 := by decide +kernel
theorem f_4_117_9 : ma_fld 4 117 9 = some 7 := by decide +kernel
theorem p_4_18_4 : ma_pk 4 18 4 2 = true := by decide +kernel
theorem p_4_28_4 : ma_pk 4 28 4 3 = true := by decide +kernel
theorem p_4_31_4 : ma_pk 4 31 4 4 = true := by decide +kernel
theorem p_4_34_4 : ma_pk 4 34 4 5 = true := by decide +kernel
theorem p_4_83_4 : ma_pk 4 83 4 6 = true := by decide +kernel
theorem v_4_43_4 : ma_vl 4 43 4 = some (1, 41, 2) := by decide +kernel
theorem v_4_47_4 : ma_vl 4 47 4 = some (0, 42, 0) := by decide +kernel
theorem v_4_51_4 : ma_vl 4 51 4 = some (0, 43, 0) := by decide +kernel
theorem v_4_54_4 : ma_vl 4 54 4 = some (1, 52, 0) := by decide +kernel
theorem v_4_60_4 : ma_vl 4 60 4 = some (0, 55, 0) := by decide +kernel
theorem v_4_66_4 : ma_vl 4 66 4 = some (1, 53, 2) := by decide +kernel
theorem v_4_70_4 : ma_vl 4 70 4 = some (2, 264, 0) := by decide +kernel
theorem v_4_73_4 : ma_vl 4 73 4 = some (1, 44, 0) := by decide +kernel
theorem v_4_77_4 : ma_vl 4 77 4 = some (1, 46, 0) := by decide +kernel
theorem v_4_80_4 : ma_vl 4 80 4 = some (1, 47, 0) := by decide +kernel
theorem v_4_86_4 : ma_vl 4 86 4 = some (1, 48, 0) := by decide +kernel
theorem v_4_89_4 : ma_vl 4 89 4 = some (1, 49, 1) := by decide +kernel
theorem v_4_93_4 : ma_vl 4 93 4 = some (1, 50, 1) := by decide +kernel
theorem v_4_109_7 : ma_vl 4 109 7 = some (0, 81, 1) := by decide +kernel
theorem v_4_113_4 : ma_vl 4 113 4 = some (1, 45, 1) := by decide +kernel
theorem v_4_120_7 : ma_vl 4 120 7 = some (0, 89, 1) := by decide +kernel
theorem v_4_123_4 : ma_vl 4 123 4 = some (1, 51, 1) := by decide +kernel
theorem v_4_127_7 : ma_vl 4 127 7 = some (0, 90, 2) := by decide +kernel
theorem sl_4_37 : ma_sl 4 37 = some (5, 276, 2) := by decide +kernel
theorem pn_4_37 : ma_prt 4 37 = none := by decide +kernel
theorem sl_4_57 : ma_sl 4 57 = some (5, 54, 2) := by decide +kernel
theorem pn_4_57 : ma_prt 4 57 = none := by decide +kernel
theorem pr_4_22 : ma_prt 4 22 = some 2 := by decide +kernel
theorem dX4_total_0 : decode cX4_total 0 = .ok (.aload_n 0, 1) := by decide +kernel
theorem dX4_total_4 : decode cX4_total 4 = .ok (.aload_n 0, 1) := by decide +kernel
theorem dX4_total_8 : decode cX4_total 8 = .ok (.imul, 1) := by decide +kernel
theorem dX4_total_9 : decode cX4_total 9 = .ok (.ireturn, 1) := by decide +kernel
theorem dX4_total_5 : decode cX4_total 5 = .ok (.getfield 18, 3) := by decide +kernel
theorem dX4_total_1 : decode cX4_total 1 = .ok (.getfield 28, 3) := by decide +kernel
theorem dX4_oldTopOrRegion_0 : decode cX4_oldTopOrRegion 0 = .ok (.aload_n 0, 1) := by decide +kernel
theorem dX4_oldTopOrRegion_4 : decode cX4_oldTopOrRegion 4 = .ok (.ireturn, 1) := by decide +kernel
theorem dX4_oldTopOrRegion_1 : decode cX4_oldTopOrRegion 1 = .ok (.getfield 34, 3) := by decide +kernel
theorem dX4_topPlace_0 : decode cX4_topPlace 0 = .ok (.aload_n 0, 1) := by decide +kernel
theorem dX4_topPlace_4 : decode cX4_topPlace 4 = .ok (.aload_n 0, 1) := by decide +kernel
theorem dX4_topPlace_8 : decode cX4_topPlace 8 = .ok (.imul, 1) := by decide +kernel
theorem dX4_topPlace_9 : decode cX4_topPlace 9 = .ok (.aload_n 0, 1) := by decide +kernel
theorem dX4_topPlace_10 : decode cX4_topPlace 10 = .ok (.aload_n 0, 1) := by decide +kernel
theorem dX4_topPlace_14 : decode cX4_topPlace 14 = .ok (.invokevirtual 93, 3) := by decide +kernel
theorem dX4_topOf_0 : decode cX4_topOf 0 = .ok (.iload_n 1, 1) := by decide +kernel
theorem dX4_topOf_19 : decode cX4_topOf 19 = .ok (.iconst 0, 1) := by decide +kernel
theorem dX4_topPlace_17 : decode cX4_topPlace 17 = .ok (.iadd, 1) := by decide +kernel
theorem dX4_topPlace_18 : decode cX4_topPlace 18 = .ok (.ireturn, 1) := by decide +kernel
theorem dX4_topOf_20 : decode cX4_topOf 20 = .ok (.ireturn, 1) := by decide +kernel
theorem dX4_topOf_4 : decode cX4_topOf 4 = .ok (.iload_n 1, 1) := by decide +kernel
theorem dX4_topOf_5 : decode cX4_topOf 5 = .ok (.bipush 93, 2) := by decide +kernel
theorem dX4_topOf_10 : decode cX4_topOf 10 = .ok (.aload_n 0, 1) := by decide +kernel
theorem dX4_topOf_14 : decode cX4_topOf 14 = .ok (.iload_n 1, 1) := by decide +kernel
theorem dX4_topOf_16 : decode cX4_topOf 16 = .ok (.goto 4, 3) := by decide +kernel
theorem dX4_topOf_15 : decode cX4_topOf 15 = .ok (.iaload, 1) := by decide +kernel
theorem dX4_topOf_11 : decode cX4_topOf 11 = .ok (.getfield 9, 3) := by decide +kernel
theorem dX4_topOf_7 : decode cX4_topOf 7 = .ok (.if_icmp .ge 12, 3) := by decide +kernel
theorem dX4_topOf_1 : decode cX4_topOf 1 = .ok (.ifCond .lt 18, 3) := by decide +kernel
theorem dX4_topPlace_11 : decode cX4_topPlace 11 = .ok (.getfield 34, 3) := by decide +kernel
theorem dX4_topPlace_5 : decode cX4_topPlace 5 = .ok (.getfield 18, 3) := by decide +kernel
theorem dX4_topPlace_1 : decode cX4_topPlace 1 = .ok (.getfield 34, 3) := by decide +kernel
theorem dX4_leastEmpty_0 : decode cX4_leastEmpty 0 = .ok (.iconst 0, 1) := by decide +kernel
theorem dX4_leastEmpty_1 : decode cX4_leastEmpty 1 = .ok (.istore_n 1, 1) := by decide +kernel
theorem dX4_leastEmpty_2 : decode cX4_leastEmpty 2 = .ok (.iload_n 1, 1) := by decide +kernel
theorem dX4_leastEmpty_3 : decode cX4_leastEmpty 3 = .ok (.aload_n 0, 1) := by decide +kernel
theorem dX4_leastEmpty_33 : decode cX4_leastEmpty 33 = .ok (.iconst (-1), 1) := by decide +kernel
theorem dX4_leastEmpty_34 : decode cX4_leastEmpty 34 = .ok (.ireturn, 1) := by decide +kernel
theorem dX4_leastEmpty_10 : decode cX4_leastEmpty 10 = .ok (.iload_n 1, 1) := by decide +kernel
theorem dX4_leastEmpty_11 : decode cX4_leastEmpty 11 = .ok (.bipush 93, 2) := by decide +kernel
theorem dX4_leastEmpty_16 : decode cX4_leastEmpty 16 = .ok (.aload_n 0, 1) := by decide +kernel
theorem dX4_leastEmpty_20 : decode cX4_leastEmpty 20 = .ok (.iload_n 1, 1) := by decide +kernel
theorem dX4_leastEmpty_27 : decode cX4_leastEmpty 27 = .ok (.iinc 1 1, 3) := by decide +kernel
theorem dX4_leastEmpty_30 : decode cX4_leastEmpty 30 = .ok (.goto (-28), 3) := by decide +kernel
theorem dX4_leastEmpty_25 : decode cX4_leastEmpty 25 = .ok (.iload_n 1, 1) := by decide +kernel
theorem dX4_leastEmpty_26 : decode cX4_leastEmpty 26 = .ok (.ireturn, 1) := by decide +kernel
theorem dX4_leastEmpty_22 : decode cX4_leastEmpty 22 = .ok (.ifCond .ne 5, 3) := by decide +kernel
theorem dX4_leastEmpty_21 : decode cX4_leastEmpty 21 = .ok (.iaload, 1) := by decide +kernel
theorem dX4_leastEmpty_17 : decode cX4_leastEmpty 17 = .ok (.getfield 9, 3) := by decide +kernel
theorem dX4_leastEmpty_13 : decode cX4_leastEmpty 13 = .ok (.if_icmp .ge 20, 3) := by decide +kernel
theorem dX4_leastEmpty_7 : decode cX4_leastEmpty 7 = .ok (.if_icmp .ge 26, 3) := by decide +kernel
theorem dX4_leastEmpty_4 : decode cX4_leastEmpty 4 = .ok (.getfield 28, 3) := by decide +kernel
theorem dX4_specials_0 : decode cX4_specials 0 = .ok (.iconst 0, 1) := by decide +kernel
theorem dX4_specials_1 : decode cX4_specials 1 = .ok (.istore_n 1, 1) := by decide +kernel
theorem dX4_specials_2 : decode cX4_specials 2 = .ok (.iconst 0, 1) := by decide +kernel
theorem dX4_specials_3 : decode cX4_specials 3 = .ok (.istore_n 2, 1) := by decide +kernel
theorem dX4_specials_4 : decode cX4_specials 4 = .ok (.iload_n 2, 1) := by decide +kernel
theorem dX4_specials_5 : decode cX4_specials 5 = .ok (.aload_n 0, 1) := by decide +kernel
theorem dX4_specials_36 : decode cX4_specials 36 = .ok (.iload_n 1, 1) := by decide +kernel
theorem dX4_specials_37 : decode cX4_specials 37 = .ok (.ireturn, 1) := by decide +kernel
theorem dX4_specials_12 : decode cX4_specials 12 = .ok (.iload_n 2, 1) := by decide +kernel
theorem dX4_specials_13 : decode cX4_specials 13 = .ok (.bipush 93, 2) := by decide +kernel
theorem dX4_specials_18 : decode cX4_specials 18 = .ok (.aload_n 0, 1) := by decide +kernel
theorem dX4_specials_22 : decode cX4_specials 22 = .ok (.iload_n 2, 1) := by decide +kernel
theorem dX4_specials_30 : decode cX4_specials 30 = .ok (.iinc 2 1, 3) := by decide +kernel
theorem dX4_specials_33 : decode cX4_specials 33 = .ok (.goto (-29), 3) := by decide +kernel
theorem dX4_specials_27 : decode cX4_specials 27 = .ok (.iinc 1 1, 3) := by decide +kernel
theorem dX4_specials_24 : decode cX4_specials 24 = .ok (.ifCond .ne 6, 3) := by decide +kernel
theorem dX4_specials_23 : decode cX4_specials 23 = .ok (.iaload, 1) := by decide +kernel
theorem dX4_specials_19 : decode cX4_specials 19 = .ok (.getfield 9, 3) := by decide +kernel
theorem dX4_specials_15 : decode cX4_specials 15 = .ok (.if_icmp .ge 21, 3) := by decide +kernel
theorem dX4_specials_9 : decode cX4_specials 9 = .ok (.if_icmp .ge 27, 3) := by decide +kernel
theorem dX4_specials_6 : decode cX4_specials 6 = .ok (.getfield 28, 3) := by decide +kernel
theorem dX4_sumKept_0 : decode cX4_sumKept 0 = .ok (.aload_n 0, 1) := by decide +kernel
theorem dX4_sumKept_4 : decode cX4_sumKept 4 = .ok (.iconst 0, 1) := by decide +kernel
theorem dX4_sumKept_5 : decode cX4_sumKept 5 = .ok (.invokestatic 37, 3) := by decide +kernel
theorem dX4_sumKept_8 : decode cX4_sumKept 8 = .ok (.iconst 0, 1) := by decide +kernel
theorem dX4_sumKept_9 : decode cX4_sumKept 9 = .ok (.istore_n 1, 1) := by decide +kernel
theorem dX4_sumKept_1 : decode cX4_sumKept 1 = .ok (.getfield 15, 3) := by decide +kernel
theorem dX4_sumKept_10 : decode cX4_sumKept 10 = .ok (.iload_n 1, 1) := by decide +kernel
theorem dX4_sumKept_11 : decode cX4_sumKept 11 = .ok (.aload_n 0, 1) := by decide +kernel
theorem dX4_sumKept_57 : decode cX4_sumKept 57 = .ok (.return_, 1) := by decide +kernel
theorem dX4_sumKept_21 : decode cX4_sumKept 21 = .ok (.aload_n 0, 1) := by decide +kernel
theorem dX4_sumKept_25 : decode cX4_sumKept 25 = .ok (.iload_n 1, 1) := by decide +kernel
theorem dX4_sumKept_26 : decode cX4_sumKept 26 = .ok (.invokevirtual 109, 3) := by decide +kernel
theorem dX4_sumKept_29 : decode cX4_sumKept 29 = .ok (.astore_n 2, 1) := by decide +kernel
theorem dX4_sumKept_30 : decode cX4_sumKept 30 = .ok (.aload_n 2, 1) := by decide +kernel
theorem dX4_sumKept_31 : decode cX4_sumKept 31 = .ok (.ifnull 20, 3) := by decide +kernel
theorem dX4_sumKept_51 : decode cX4_sumKept 51 = .ok (.iinc 1 1, 3) := by decide +kernel
theorem dX4_sumKept_54 : decode cX4_sumKept 54 = .ok (.goto (-44), 3) := by decide +kernel
theorem dX4_sumKept_34 : decode cX4_sumKept 34 = .ok (.aload_n 0, 1) := by decide +kernel
theorem dX4_sumKept_38 : decode cX4_sumKept 38 = .ok (.aload_n 0, 1) := by decide +kernel
theorem dX4_sumKept_39 : decode cX4_sumKept 39 = .ok (.aload_n 2, 1) := by decide +kernel
theorem dX4_sumKept_40 : decode cX4_sumKept 40 = .ok (.invokevirtual 113, 3) := by decide +kernel
theorem dX4_regionOf_0 : decode cX4_regionOf 0 = .ok (.aload_n 0, 1) := by decide +kernel
theorem dX4_regionOf_24 : decode cX4_regionOf 24 = .ok (.iconst 0, 1) := by decide +kernel
theorem dX4_sumKept_43 : decode cX4_sumKept 43 = .ok (.dup2, 1) := by decide +kernel
theorem dX4_sumKept_45 : decode cX4_sumKept 45 = .ok (.aload_n 2, 1) := by decide +kernel
theorem dX4_sumKept_49 : decode cX4_sumKept 49 = .ok (.iadd, 1) := by decide +kernel
theorem dX4_sumKept_50 : decode cX4_sumKept 50 = .ok (.iastore, 1) := by decide +kernel
theorem dX4_sumKept_46 : decode cX4_sumKept 46 = .ok (.getfield 63, 3) := by decide +kernel
theorem dX4_sumKept_44 : decode cX4_sumKept 44 = .ok (.iaload, 1) := by decide +kernel
theorem dX4_regionOf_25 : decode cX4_regionOf 25 = .ok (.ireturn, 1) := by decide +kernel
theorem dX4_regionOf_7 : decode cX4_regionOf 7 = .ok (.aload_n 1, 1) := by decide +kernel
theorem dX4_regionOf_11 : decode cX4_regionOf 11 = .ok (.aload_n 0, 1) := by decide +kernel
theorem dX4_regionOf_16 : decode cX4_regionOf 16 = .ok (.bipush 92, 2) := by decide +kernel
theorem dX4_regionOf_18 : decode cX4_regionOf 18 = .ok (.invokestatic 22, 3) := by decide +kernel
theorem dX4_regionOf_21 : decode cX4_regionOf 21 = .ok (.goto 4, 3) := by decide +kernel
theorem dX4_regionOf_15 : decode cX4_regionOf 15 = .ok (.idiv, 1) := by decide +kernel
theorem dX4_regionOf_12 : decode cX4_regionOf 12 = .ok (.getfield 18, 3) := by decide +kernel
theorem dX4_regionOf_8 : decode cX4_regionOf 8 = .ok (.getfield 97, 3) := by decide +kernel
theorem dX4_regionOf_4 : decode cX4_regionOf 4 = .ok (.ifCond .le 20, 3) := by decide +kernel
theorem dX4_regionOf_1 : decode cX4_regionOf 1 = .ok (.getfield 18, 3) := by decide +kernel
theorem dX4_sumKept_35 : decode cX4_sumKept 35 = .ok (.getfield 15, 3) := by decide +kernel
theorem dX4_sumKept_22 : decode cX4_sumKept 22 = .ok (.getfield 100, 3) := by decide +kernel
theorem dX4_sumKept_18 : decode cX4_sumKept 18 = .ok (.if_icmp .ge 39, 3) := by decide +kernel
theorem dX4_sumKept_15 : decode cX4_sumKept 15 = .ok (.getfield 104, 3) := by decide +kernel
theorem dX4_sumKept_12 : decode cX4_sumKept 12 = .ok (.getfield 100, 3) := by decide +kernel
theorem dX4_emptyWhereNothingIsLeft_0 : decode cX4_emptyWhereNothingIsLeft 0 = .ok (.iconst 0, 1) := by decide +kernel
theorem dX4_emptyWhereNothingIsLeft_1 : decode cX4_emptyWhereNothingIsLeft 1 = .ok (.istore_n 1, 1) := by decide +kernel
theorem dX4_emptyWhereNothingIsLeft_2 : decode cX4_emptyWhereNothingIsLeft 2 = .ok (.iload_n 1, 1) := by decide +kernel
theorem dX4_emptyWhereNothingIsLeft_3 : decode cX4_emptyWhereNothingIsLeft 3 = .ok (.bipush 93, 2) := by decide +kernel
theorem dX4_emptyWhereNothingIsLeft_30 : decode cX4_emptyWhereNothingIsLeft 30 = .ok (.return_, 1) := by decide +kernel
theorem dX4_emptyWhereNothingIsLeft_8 : decode cX4_emptyWhereNothingIsLeft 8 = .ok (.aload_n 0, 1) := by decide +kernel
theorem dX4_emptyWhereNothingIsLeft_12 : decode cX4_emptyWhereNothingIsLeft 12 = .ok (.iload_n 1, 1) := by decide +kernel
theorem dX4_emptyWhereNothingIsLeft_24 : decode cX4_emptyWhereNothingIsLeft 24 = .ok (.iinc 1 1, 3) := by decide +kernel
theorem dX4_emptyWhereNothingIsLeft_27 : decode cX4_emptyWhereNothingIsLeft 27 = .ok (.goto (-25), 3) := by decide +kernel
theorem dX4_emptyWhereNothingIsLeft_17 : decode cX4_emptyWhereNothingIsLeft 17 = .ok (.aload_n 0, 1) := by decide +kernel
theorem dX4_emptyWhereNothingIsLeft_21 : decode cX4_emptyWhereNothingIsLeft 21 = .ok (.iload_n 1, 1) := by decide +kernel
theorem dX4_emptyWhereNothingIsLeft_22 : decode cX4_emptyWhereNothingIsLeft 22 = .ok (.iconst 0, 1) := by decide +kernel
theorem dX4_emptyWhereNothingIsLeft_23 : decode cX4_emptyWhereNothingIsLeft 23 = .ok (.iastore, 1) := by decide +kernel
theorem dX4_emptyWhereNothingIsLeft_18 : decode cX4_emptyWhereNothingIsLeft 18 = .ok (.getfield 9, 3) := by decide +kernel
theorem dX4_emptyWhereNothingIsLeft_14 : decode cX4_emptyWhereNothingIsLeft 14 = .ok (.ifCond .ne 10, 3) := by decide +kernel
theorem dX4_emptyWhereNothingIsLeft_13 : decode cX4_emptyWhereNothingIsLeft 13 = .ok (.iaload, 1) := by decide +kernel
theorem dX4_emptyWhereNothingIsLeft_9 : decode cX4_emptyWhereNothingIsLeft 9 = .ok (.getfield 15, 3) := by decide +kernel
theorem dX4_emptyWhereNothingIsLeft_5 : decode cX4_emptyWhereNothingIsLeft 5 = .ok (.if_icmp .ge 25, 3) := by decide +kernel
theorem dX4_chooseLeaving_0 : decode cX4_chooseLeaving 0 = .ok (.iconst 0, 1) := by decide +kernel
theorem dX4_chooseLeaving_1 : decode cX4_chooseLeaving 1 = .ok (.istore_n 1, 1) := by decide +kernel
theorem dX4_chooseLeaving_2 : decode cX4_chooseLeaving 2 = .ok (.iload_n 1, 1) := by decide +kernel
theorem dX4_chooseLeaving_3 : decode cX4_chooseLeaving 3 = .ok (.bipush 93, 2) := by decide +kernel
theorem dX4_chooseLeaving_50 : decode cX4_chooseLeaving 50 = .ok (.iconst 0, 1) := by decide +kernel
theorem dX4_chooseLeaving_51 : decode cX4_chooseLeaving 51 = .ok (.istore_n 1, 1) := by decide +kernel
theorem dX4_chooseLeaving_8 : decode cX4_chooseLeaving 8 = .ok (.iload_n 1, 1) := by decide +kernel
theorem dX4_chooseLeaving_9 : decode cX4_chooseLeaving 9 = .ok (.aload_n 0, 1) := by decide +kernel
theorem dX4_chooseLeaving_37 : decode cX4_chooseLeaving 37 = .ok (.aload_n 0, 1) := by decide +kernel
theorem dX4_chooseLeaving_41 : decode cX4_chooseLeaving 41 = .ok (.iload_n 1, 1) := by decide +kernel
theorem dX4_chooseLeaving_42 : decode cX4_chooseLeaving 42 = .ok (.iconst 0, 1) := by decide +kernel
theorem dX4_chooseLeaving_44 : decode cX4_chooseLeaving 44 = .ok (.iinc 1 1, 3) := by decide +kernel
theorem dX4_chooseLeaving_47 : decode cX4_chooseLeaving 47 = .ok (.goto (-45), 3) := by decide +kernel
theorem dX4_chooseLeaving_43 : decode cX4_chooseLeaving 43 = .ok (.iastore, 1) := by decide +kernel
theorem dX4_chooseLeaving_38 : decode cX4_chooseLeaving 38 = .ok (.getfield 15, 3) := by decide +kernel
theorem dX4_chooseLeaving_16 : decode cX4_chooseLeaving 16 = .ok (.aload_n 0, 1) := by decide +kernel
theorem dX4_chooseLeaving_20 : decode cX4_chooseLeaving 20 = .ok (.iload_n 1, 1) := by decide +kernel
theorem dX4_chooseLeaving_22 : decode cX4_chooseLeaving 22 = .ok (.bipush 100, 2) := by decide +kernel
theorem dX4_chooseLeaving_24 : decode cX4_chooseLeaving 24 = .ok (.imul, 1) := by decide +kernel
theorem dX4_chooseLeaving_25 : decode cX4_chooseLeaving 25 = .ok (.aload_n 0, 1) := by decide +kernel
theorem dX4_chooseLeaving_29 : decode cX4_chooseLeaving 29 = .ok (.aload_n 0, 1) := by decide +kernel
theorem dX4_chooseLeaving_33 : decode cX4_chooseLeaving 33 = .ok (.imul, 1) := by decide +kernel
theorem dX4_chooseLeaving_34 : decode cX4_chooseLeaving 34 = .ok (.if_icmp .le 10, 3) := by decide +kernel
theorem dX4_chooseLeaving_30 : decode cX4_chooseLeaving 30 = .ok (.getfield 18, 3) := by decide +kernel
theorem dX4_chooseLeaving_26 : decode cX4_chooseLeaving 26 = .ok (.getfield 31, 3) := by decide +kernel
theorem dX4_chooseLeaving_21 : decode cX4_chooseLeaving 21 = .ok (.iaload, 1) := by decide +kernel
theorem dX4_chooseLeaving_17 : decode cX4_chooseLeaving 17 = .ok (.getfield 15, 3) := by decide +kernel
theorem dX4_chooseLeaving_13 : decode cX4_chooseLeaving 13 = .ok (.if_icmp .eq 24, 3) := by decide +kernel
theorem dX4_chooseLeaving_10 : decode cX4_chooseLeaving 10 = .ok (.getfield 34, 3) := by decide +kernel
theorem dX4_chooseLeaving_5 : decode cX4_chooseLeaving 5 = .ok (.if_icmp .ge 45, 3) := by decide +kernel
theorem dX4_chooseLeaving_52 : decode cX4_chooseLeaving 52 = .ok (.iload_n 1, 1) := by decide +kernel
theorem dX4_chooseLeaving_53 : decode cX4_chooseLeaving 53 = .ok (.aload_n 0, 1) := by decide +kernel
theorem dX4_chooseLeaving_100 : decode cX4_chooseLeaving 100 = .ok (.return_, 1) := by decide +kernel
theorem dX4_chooseLeaving_63 : decode cX4_chooseLeaving 63 = .ok (.aload_n 0, 1) := by decide +kernel
theorem dX4_chooseLeaving_67 : decode cX4_chooseLeaving 67 = .ok (.iload_n 1, 1) := by decide +kernel
theorem dX4_chooseLeaving_68 : decode cX4_chooseLeaving 68 = .ok (.invokevirtual 109, 3) := by decide +kernel
theorem dX4_chooseLeaving_71 : decode cX4_chooseLeaving 71 = .ok (.astore_n 2, 1) := by decide +kernel
theorem dX4_chooseLeaving_72 : decode cX4_chooseLeaving 72 = .ok (.aload_n 2, 1) := by decide +kernel
theorem dX4_chooseLeaving_73 : decode cX4_chooseLeaving 73 = .ok (.ifnull 21, 3) := by decide +kernel
theorem dX4_chooseLeaving_94 : decode cX4_chooseLeaving 94 = .ok (.iinc 1 1, 3) := by decide +kernel
theorem dX4_chooseLeaving_97 : decode cX4_chooseLeaving 97 = .ok (.goto (-45), 3) := by decide +kernel
theorem dX4_chooseLeaving_76 : decode cX4_chooseLeaving 76 = .ok (.aload_n 2, 1) := by decide +kernel
theorem dX4_chooseLeaving_83 : decode cX4_chooseLeaving 83 = .ok (.aload_n 0, 1) := by decide +kernel
theorem dX4_chooseLeaving_87 : decode cX4_chooseLeaving 87 = .ok (.aload_n 0, 1) := by decide +kernel
theorem dX4_chooseLeaving_88 : decode cX4_chooseLeaving 88 = .ok (.aload_n 2, 1) := by decide +kernel
theorem dX4_chooseLeaving_89 : decode cX4_chooseLeaving 89 = .ok (.invokevirtual 113, 3) := by decide +kernel
theorem dX4_chooseLeaving_92 : decode cX4_chooseLeaving 92 = .ok (.iconst 0, 1) := by decide +kernel
theorem dX4_chooseLeaving_93 : decode cX4_chooseLeaving 93 = .ok (.iastore, 1) := by decide +kernel
theorem dX4_chooseLeaving_84 : decode cX4_chooseLeaving 84 = .ok (.getfield 15, 3) := by decide +kernel
theorem dX4_chooseLeaving_80 : decode cX4_chooseLeaving 80 = .ok (.ifCond .le 14, 3) := by decide +kernel
theorem dX4_chooseLeaving_77 : decode cX4_chooseLeaving 77 = .ok (.getfield 117, 3) := by decide +kernel
theorem dX4_chooseLeaving_64 : decode cX4_chooseLeaving 64 = .ok (.getfield 100, 3) := by decide +kernel
theorem dX4_chooseLeaving_60 : decode cX4_chooseLeaving 60 = .ok (.if_icmp .ge 40, 3) := by decide +kernel
theorem dX4_chooseLeaving_57 : decode cX4_chooseLeaving 57 = .ok (.getfield 104, 3) := by decide +kernel
theorem dX4_chooseLeaving_54 : decode cX4_chooseLeaving 54 = .ok (.getfield 100, 3) := by decide +kernel
theorem dX4_fewestLeaving_0 : decode cX4_fewestLeaving 0 = .ok (.iconst (-1), 1) := by decide +kernel
theorem dX4_fewestLeaving_1 : decode cX4_fewestLeaving 1 = .ok (.istore_n 1, 1) := by decide +kernel
theorem dX4_fewestLeaving_2 : decode cX4_fewestLeaving 2 = .ok (.iconst 0, 1) := by decide +kernel
theorem dX4_fewestLeaving_3 : decode cX4_fewestLeaving 3 = .ok (.istore_n 2, 1) := by decide +kernel
theorem dX4_fewestLeaving_4 : decode cX4_fewestLeaving 4 = .ok (.iload_n 2, 1) := by decide +kernel
theorem dX4_fewestLeaving_5 : decode cX4_fewestLeaving 5 = .ok (.bipush 93, 2) := by decide +kernel
theorem dX4_fewestLeaving_47 : decode cX4_fewestLeaving 47 = .ok (.iload_n 1, 1) := by decide +kernel
theorem dX4_fewestLeaving_48 : decode cX4_fewestLeaving 48 = .ok (.ireturn, 1) := by decide +kernel
theorem dX4_fewestLeaving_10 : decode cX4_fewestLeaving 10 = .ok (.aload_n 0, 1) := by decide +kernel
theorem dX4_fewestLeaving_14 : decode cX4_fewestLeaving 14 = .ok (.iload_n 2, 1) := by decide +kernel
theorem dX4_fewestLeaving_41 : decode cX4_fewestLeaving 41 = .ok (.iinc 2 1, 3) := by decide +kernel
theorem dX4_fewestLeaving_44 : decode cX4_fewestLeaving 44 = .ok (.goto (-40), 3) := by decide +kernel
theorem dX4_fewestLeaving_19 : decode cX4_fewestLeaving 19 = .ok (.iload_n 1, 1) := by decide +kernel
theorem dX4_fewestLeaving_20 : decode cX4_fewestLeaving 20 = .ok (.iconst (-1), 1) := by decide +kernel
theorem dX4_fewestLeaving_39 : decode cX4_fewestLeaving 39 = .ok (.iload_n 2, 1) := by decide +kernel
theorem dX4_fewestLeaving_40 : decode cX4_fewestLeaving 40 = .ok (.istore_n 1, 1) := by decide +kernel
theorem dX4_fewestLeaving_24 : decode cX4_fewestLeaving 24 = .ok (.aload_n 0, 1) := by decide +kernel
theorem dX4_fewestLeaving_28 : decode cX4_fewestLeaving 28 = .ok (.iload_n 2, 1) := by decide +kernel
theorem dX4_fewestLeaving_30 : decode cX4_fewestLeaving 30 = .ok (.aload_n 0, 1) := by decide +kernel
theorem dX4_fewestLeaving_34 : decode cX4_fewestLeaving 34 = .ok (.iload_n 1, 1) := by decide +kernel
theorem dX4_fewestLeaving_36 : decode cX4_fewestLeaving 36 = .ok (.if_icmp .ge 5, 3) := by decide +kernel
theorem dX4_fewestLeaving_35 : decode cX4_fewestLeaving 35 = .ok (.iaload, 1) := by decide +kernel
theorem dX4_fewestLeaving_31 : decode cX4_fewestLeaving 31 = .ok (.getfield 15, 3) := by decide +kernel
theorem dX4_fewestLeaving_29 : decode cX4_fewestLeaving 29 = .ok (.iaload, 1) := by decide +kernel
theorem dX4_fewestLeaving_25 : decode cX4_fewestLeaving 25 = .ok (.getfield 15, 3) := by decide +kernel
theorem dX4_fewestLeaving_21 : decode cX4_fewestLeaving 21 = .ok (.if_icmp .eq 18, 3) := by decide +kernel
theorem dX4_fewestLeaving_16 : decode cX4_fewestLeaving 16 = .ok (.ifCond .le 25, 3) := by decide +kernel
theorem dX4_fewestLeaving_15 : decode cX4_fewestLeaving 15 = .ok (.iaload, 1) := by decide +kernel
theorem dX4_fewestLeaving_11 : decode cX4_fewestLeaving 11 = .ok (.getfield 15, 3) := by decide +kernel
theorem dX4_fewestLeaving_7 : decode cX4_fewestLeaving 7 = .ok (.if_icmp .ge 40, 3) := by decide +kernel
theorem dX4_moveOut_0 : decode cX4_moveOut 0 = .ok (.aload_n 0, 1) := by decide +kernel
theorem dX4_moveOut_1 : decode cX4_moveOut 1 = .ok (.aload_n 0, 1) := by decide +kernel
theorem dX4_moveOut_5 : decode cX4_moveOut 5 = .ok (.aload_n 1, 1) := by decide +kernel
theorem dX4_moveOut_9 : decode cX4_moveOut 9 = .ok (.invokevirtual 43, 3) := by decide +kernel
theorem dX4_fits_0 : decode cX4_fits 0 = .ok (.iload_n 1, 1) := by decide +kernel
theorem dX4_fits_29 : decode cX4_fits 29 = .ok (.iconst 0, 1) := by decide +kernel
theorem dX4_moveOut_12 : decode cX4_moveOut 12 = .ok (.ifCond .eq 10, 3) := by decide +kernel
theorem dX4_moveOut_22 : decode cX4_moveOut 22 = .ok (.aload_n 0, 1) := by decide +kernel
theorem dX4_moveOut_23 : decode cX4_moveOut 23 = .ok (.invokevirtual 54, 3) := by decide +kernel
theorem dX4_moveOut_26 : decode cX4_moveOut 26 = .ok (.istore_n 2, 1) := by decide +kernel
theorem dX4_moveOut_27 : decode cX4_moveOut 27 = .ok (.iload_n 2, 1) := by decide +kernel
theorem dX4_moveOut_28 : decode cX4_moveOut 28 = .ok (.iconst (-1), 1) := by decide +kernel
theorem dX4_moveOut_34 : decode cX4_moveOut 34 = .ok (.aload_n 0, 1) := by decide +kernel
theorem dX4_moveOut_35 : decode cX4_moveOut 35 = .ok (.iload_n 2, 1) := by decide +kernel
theorem dX4_moveOut_39 : decode cX4_moveOut 39 = .ok (.aload_n 0, 1) := by decide +kernel
theorem dX4_moveOut_43 : decode cX4_moveOut 43 = .ok (.aload_n 1, 1) := by decide +kernel
theorem dX4_moveOut_44 : decode cX4_moveOut 44 = .ok (.iload_n 2, 1) := by decide +kernel
theorem dX4_moveOut_45 : decode cX4_moveOut 45 = .ok (.aload_n 0, 1) := by decide +kernel
theorem dX4_moveOut_49 : decode cX4_moveOut 49 = .ok (.imul, 1) := by decide +kernel
theorem dX4_moveOut_50 : decode cX4_moveOut 50 = .ok (.aload_n 0, 1) := by decide +kernel
theorem dX4_moveOut_51 : decode cX4_moveOut 51 = .ok (.iload_n 2, 1) := by decide +kernel
theorem dX4_moveOut_52 : decode cX4_moveOut 52 = .ok (.invokevirtual 93, 3) := by decide +kernel
theorem dX4_moveOut_55 : decode cX4_moveOut 55 = .ok (.iadd, 1) := by decide +kernel
theorem dX4_moveOut_56 : decode cX4_moveOut 56 = .ok (.invokevirtual 127, 3) := by decide +kernel
theorem dX4_moveOut_59 : decode cX4_moveOut 59 = .ok (.aload_n 0, 1) := by decide +kernel
theorem dX4_moveOut_60 : decode cX4_moveOut 60 = .ok (.iload_n 2, 1) := by decide +kernel
theorem dX4_moveOut_61 : decode cX4_moveOut 61 = .ok (.aload_n 1, 1) := by decide +kernel
theorem dX4_moveOut_65 : decode cX4_moveOut 65 = .ok (.invokevirtual 66, 3) := by decide +kernel
theorem dX4_raiseTop_0 : decode cX4_raiseTop 0 = .ok (.iload_n 1, 1) := by decide +kernel
theorem dX4_moveOut_68 : decode cX4_moveOut 68 = .ok (.iconst 1, 1) := by decide +kernel
theorem dX4_moveOut_69 : decode cX4_moveOut 69 = .ok (.ireturn, 1) := by decide +kernel
theorem dX4_raiseTop_20 : decode cX4_raiseTop 20 = .ok (.return_, 1) := by decide +kernel
theorem dX4_raiseTop_4 : decode cX4_raiseTop 4 = .ok (.iload_n 1, 1) := by decide +kernel
theorem dX4_raiseTop_5 : decode cX4_raiseTop 5 = .ok (.bipush 93, 2) := by decide +kernel
theorem dX4_raiseTop_10 : decode cX4_raiseTop 10 = .ok (.aload_n 0, 1) := by decide +kernel
theorem dX4_raiseTop_14 : decode cX4_raiseTop 14 = .ok (.iload_n 1, 1) := by decide +kernel
theorem dX4_raiseTop_15 : decode cX4_raiseTop 15 = .ok (.dup2, 1) := by decide +kernel
theorem dX4_raiseTop_17 : decode cX4_raiseTop 17 = .ok (.iload_n 2, 1) := by decide +kernel
theorem dX4_raiseTop_18 : decode cX4_raiseTop 18 = .ok (.iadd, 1) := by decide +kernel
theorem dX4_raiseTop_19 : decode cX4_raiseTop 19 = .ok (.iastore, 1) := by decide +kernel
theorem dX4_raiseTop_16 : decode cX4_raiseTop 16 = .ok (.iaload, 1) := by decide +kernel
theorem dX4_raiseTop_11 : decode cX4_raiseTop 11 = .ok (.getfield 9, 3) := by decide +kernel
theorem dX4_raiseTop_7 : decode cX4_raiseTop 7 = .ok (.if_icmp .ge 13, 3) := by decide +kernel
theorem dX4_raiseTop_1 : decode cX4_raiseTop 1 = .ok (.ifCond .lt 19, 3) := by decide +kernel
theorem dX4_moveOut_62 : decode cX4_moveOut 62 = .ok (.getfield 63, 3) := by decide +kernel
theorem dX4_moveOut_46 : decode cX4_moveOut 46 = .ok (.getfield 18, 3) := by decide +kernel
theorem dX4_moveOut_40 : decode cX4_moveOut 40 = .ok (.getfield 100, 3) := by decide +kernel
theorem dX4_moveOut_36 : decode cX4_moveOut 36 = .ok (.putfield 83, 3) := by decide +kernel
theorem dX4_moveOut_32 : decode cX4_moveOut 32 = .ok (.iconst 0, 1) := by decide +kernel
theorem dX4_moveOut_33 : decode cX4_moveOut 33 = .ok (.ireturn, 1) := by decide +kernel
theorem dX4_moveOut_29 : decode cX4_moveOut 29 = .ok (.if_icmp .ne 5, 3) := by decide +kernel
theorem dX4_fits_30 : decode cX4_fits 30 = .ok (.ireturn, 1) := by decide +kernel
theorem dX4_fits_4 : decode cX4_fits 4 = .ok (.iload_n 1, 1) := by decide +kernel
theorem dX4_fits_5 : decode cX4_fits 5 = .ok (.bipush 93, 2) := by decide +kernel
theorem dX4_fits_10 : decode cX4_fits 10 = .ok (.aload_n 0, 1) := by decide +kernel
theorem dX4_fits_14 : decode cX4_fits 14 = .ok (.iload_n 1, 1) := by decide +kernel
theorem dX4_fits_16 : decode cX4_fits 16 = .ok (.iload_n 2, 1) := by decide +kernel
theorem dX4_fits_17 : decode cX4_fits 17 = .ok (.iadd, 1) := by decide +kernel
theorem dX4_fits_18 : decode cX4_fits 18 = .ok (.aload_n 0, 1) := by decide +kernel
theorem dX4_fits_25 : decode cX4_fits 25 = .ok (.iconst 1, 1) := by decide +kernel
theorem dX4_fits_26 : decode cX4_fits 26 = .ok (.goto 4, 3) := by decide +kernel
theorem dX4_moveOut_15 : decode cX4_moveOut 15 = .ok (.aload_n 0, 1) := by decide +kernel
theorem dX4_moveOut_19 : decode cX4_moveOut 19 = .ok (.goto 7, 3) := by decide +kernel
theorem dX4_moveOut_16 : decode cX4_moveOut 16 = .ok (.getfield 83, 3) := by decide +kernel
theorem dX4_fits_22 : decode cX4_fits 22 = .ok (.if_icmp .gt 7, 3) := by decide +kernel
theorem dX4_fits_19 : decode cX4_fits 19 = .ok (.getfield 18, 3) := by decide +kernel
theorem dX4_fits_15 : decode cX4_fits 15 = .ok (.iaload, 1) := by decide +kernel
theorem dX4_fits_11 : decode cX4_fits 11 = .ok (.getfield 9, 3) := by decide +kernel
theorem dX4_fits_7 : decode cX4_fits 7 = .ok (.if_icmp .ge 22, 3) := by decide +kernel
theorem dX4_fits_1 : decode cX4_fits 1 = .ok (.ifCond .lt 28, 3) := by decide +kernel
theorem dX4_moveOut_6 : decode cX4_moveOut 6 = .ok (.getfield 63, 3) := by decide +kernel
theorem dX4_moveOut_2 : decode cX4_moveOut 2 = .ok (.getfield 83, 3) := by decide +kernel
theorem dX4_moveAll_0 : decode cX4_moveAll 0 = .ok (.iload_n 1, 1) := by decide +kernel
theorem dX4_moveAll_1 : decode cX4_moveAll 1 = .ok (.aload_n 0, 1) := by decide +kernel
theorem dX4_moveAll_5 : decode cX4_moveAll 5 = .ok (.imul, 1) := by decide +kernel
theorem dX4_moveAll_6 : decode cX4_moveAll 6 = .ok (.istore_n 2, 1) := by decide +kernel
theorem dX4_moveAll_7 : decode cX4_moveAll 7 = .ok (.iload_n 2, 1) := by decide +kernel
theorem dX4_moveAll_8 : decode cX4_moveAll 8 = .ok (.aload_n 0, 1) := by decide +kernel
theorem dX4_moveAll_9 : decode cX4_moveAll 9 = .ok (.iload_n 1, 1) := by decide +kernel
theorem dX4_moveAll_10 : decode cX4_moveAll 10 = .ok (.invokevirtual 93, 3) := by decide +kernel
theorem dX4_moveAll_13 : decode cX4_moveAll 13 = .ok (.iadd, 1) := by decide +kernel
theorem dX4_moveAll_14 : decode cX4_moveAll 14 = .ok (.istore_n 3, 1) := by decide +kernel
theorem dX4_moveAll_2 : decode cX4_moveAll 2 = .ok (.getfield 18, 3) := by decide +kernel
theorem dX4_moveAll_15 : decode cX4_moveAll 15 = .ok (.iload_n 2, 1) := by decide +kernel
theorem dX4_moveAll_16 : decode cX4_moveAll 16 = .ok (.iload_n 3, 1) := by decide +kernel
theorem dX4_moveAll_63 : decode cX4_moveAll 63 = .ok (.iload_n 1, 1) := by decide +kernel
theorem dX4_moveAll_87 : decode cX4_moveAll 87 = .ok (.iconst 1, 1) := by decide +kernel
theorem dX4_moveAll_88 : decode cX4_moveAll 88 = .ok (.ireturn, 1) := by decide +kernel
theorem dX4_moveAll_67 : decode cX4_moveAll 67 = .ok (.iload_n 1, 1) := by decide +kernel
theorem dX4_moveAll_68 : decode cX4_moveAll 68 = .ok (.bipush 93, 2) := by decide +kernel
theorem dX4_moveAll_73 : decode cX4_moveAll 73 = .ok (.aload_n 0, 1) := by decide +kernel
theorem dX4_moveAll_77 : decode cX4_moveAll 77 = .ok (.iload_n 1, 1) := by decide +kernel
theorem dX4_moveAll_78 : decode cX4_moveAll 78 = .ok (.iconst 0, 1) := by decide +kernel
theorem dX4_moveAll_80 : decode cX4_moveAll 80 = .ok (.aload_n 0, 1) := by decide +kernel
theorem dX4_moveAll_84 : decode cX4_moveAll 84 = .ok (.iload_n 1, 1) := by decide +kernel
theorem dX4_moveAll_85 : decode cX4_moveAll 85 = .ok (.iconst 0, 1) := by decide +kernel
theorem dX4_moveAll_86 : decode cX4_moveAll 86 = .ok (.iastore, 1) := by decide +kernel
theorem dX4_moveAll_81 : decode cX4_moveAll 81 = .ok (.getfield 9, 3) := by decide +kernel
theorem dX4_moveAll_79 : decode cX4_moveAll 79 = .ok (.iastore, 1) := by decide +kernel
theorem dX4_moveAll_74 : decode cX4_moveAll 74 = .ok (.getfield 15, 3) := by decide +kernel
theorem dX4_moveAll_70 : decode cX4_moveAll 70 = .ok (.if_icmp .ge 17, 3) := by decide +kernel
theorem dX4_moveAll_64 : decode cX4_moveAll 64 = .ok (.ifCond .lt 23, 3) := by decide +kernel
theorem dX4_moveAll_20 : decode cX4_moveAll 20 = .ok (.aload_n 0, 1) := by decide +kernel
theorem dX4_moveAll_24 : decode cX4_moveAll 24 = .ok (.iload_n 2, 1) := by decide +kernel
theorem dX4_moveAll_25 : decode cX4_moveAll 25 = .ok (.invokevirtual 120, 3) := by decide +kernel
theorem dX4_moveAll_28 : decode cX4_moveAll 28 = .ok (.astore 4, 2) := by decide +kernel
theorem dX4_moveAll_30 : decode cX4_moveAll 30 = .ok (.aload 4, 2) := by decide +kernel
theorem dX4_moveAll_32 : decode cX4_moveAll 32 = .ok (.ifnonnull 9, 3) := by decide +kernel
theorem dX4_moveAll_35 : decode cX4_moveAll 35 = .ok (.iinc 2 1, 3) := by decide +kernel
theorem dX4_moveAll_38 : decode cX4_moveAll 38 = .ok (.goto 22, 3) := by decide +kernel
theorem dX4_moveAll_60 : decode cX4_moveAll 60 = .ok (.goto (-45), 3) := by decide +kernel
theorem dX4_moveAll_41 : decode cX4_moveAll 41 = .ok (.iload_n 2, 1) := by decide +kernel
theorem dX4_moveAll_42 : decode cX4_moveAll 42 = .ok (.aload 4, 2) := by decide +kernel
theorem dX4_moveAll_47 : decode cX4_moveAll 47 = .ok (.iadd, 1) := by decide +kernel
theorem dX4_moveAll_48 : decode cX4_moveAll 48 = .ok (.istore_n 2, 1) := by decide +kernel
theorem dX4_moveAll_49 : decode cX4_moveAll 49 = .ok (.aload_n 0, 1) := by decide +kernel
theorem dX4_moveAll_50 : decode cX4_moveAll 50 = .ok (.aload 4, 2) := by decide +kernel
theorem dX4_moveAll_52 : decode cX4_moveAll 52 = .ok (.invokevirtual 123, 3) := by decide +kernel
theorem dX4_moveAll_58 : decode cX4_moveAll 58 = .ok (.iconst 0, 1) := by decide +kernel
theorem dX4_moveAll_59 : decode cX4_moveAll 59 = .ok (.ireturn, 1) := by decide +kernel
theorem dX4_moveAll_55 : decode cX4_moveAll 55 = .ok (.ifCond .ne 5, 3) := by decide +kernel
theorem dX4_moveAll_44 : decode cX4_moveAll 44 = .ok (.getfield 63, 3) := by decide +kernel
theorem dX4_moveAll_21 : decode cX4_moveAll 21 = .ok (.getfield 100, 3) := by decide +kernel
theorem dX4_moveAll_17 : decode cX4_moveAll 17 = .ok (.if_icmp .ge 46, 3) := by decide +kernel
theorem dX4_cleanAll_0 : decode cX4_cleanAll 0 = .ok (.aload_n 0, 1) := by decide +kernel
theorem dX4_cleanAll_1 : decode cX4_cleanAll 1 = .ok (.invokevirtual 70, 3) := by decide +kernel
theorem dX4_cleanAll_4 : decode cX4_cleanAll 4 = .ok (.istore_n 1, 1) := by decide +kernel
theorem dX4_cleanAll_5 : decode cX4_cleanAll 5 = .ok (.aload_n 0, 1) := by decide +kernel
theorem dX4_cleanAll_6 : decode cX4_cleanAll 6 = .ok (.invokevirtual 73, 3) := by decide +kernel
theorem dX4_cleanAll_9 : decode cX4_cleanAll 9 = .ok (.aload_n 0, 1) := by decide +kernel
theorem dX4_cleanAll_10 : decode cX4_cleanAll 10 = .ok (.invokevirtual 77, 3) := by decide +kernel
theorem dX4_cleanAll_13 : decode cX4_cleanAll 13 = .ok (.aload_n 0, 1) := by decide +kernel
theorem dX4_cleanAll_14 : decode cX4_cleanAll 14 = .ok (.invokevirtual 80, 3) := by decide +kernel
theorem dX4_cleanAll_17 : decode cX4_cleanAll 17 = .ok (.aload_n 0, 1) := by decide +kernel
theorem dX4_cleanAll_18 : decode cX4_cleanAll 18 = .ok (.iconst (-1), 1) := by decide +kernel
theorem dX4_cleanAll_22 : decode cX4_cleanAll 22 = .ok (.aload_n 0, 1) := by decide +kernel
theorem dX4_cleanAll_23 : decode cX4_cleanAll 23 = .ok (.invokevirtual 86, 3) := by decide +kernel
theorem dX4_cleanAll_26 : decode cX4_cleanAll 26 = .ok (.istore_n 2, 1) := by decide +kernel
theorem dX4_cleanAll_27 : decode cX4_cleanAll 27 = .ok (.iconst 0, 1) := by decide +kernel
theorem dX4_cleanAll_28 : decode cX4_cleanAll 28 = .ok (.istore_n 3, 1) := by decide +kernel
theorem dX4_cleanAll_19 : decode cX4_cleanAll 19 = .ok (.putfield 83, 3) := by decide +kernel
theorem dX4_cleanAll_29 : decode cX4_cleanAll 29 = .ok (.iload_n 3, 1) := by decide +kernel
theorem dX4_cleanAll_30 : decode cX4_cleanAll 30 = .ok (.bipush 93, 2) := by decide +kernel
theorem dX4_cleanAll_59 : decode cX4_cleanAll 59 = .ok (.aload_n 0, 1) := by decide +kernel
theorem dX4_cleanAll_63 : decode cX4_cleanAll 63 = .ok (.iconst (-1), 1) := by decide +kernel
theorem dX4_cleanAll_78 : decode cX4_cleanAll 78 = .ok (.aload_n 0, 1) := by decide +kernel
theorem dX4_cleanAll_79 : decode cX4_cleanAll 79 = .ok (.aload_n 0, 1) := by decide +kernel
theorem dX4_cleanAll_83 : decode cX4_cleanAll 83 = .ok (.invokevirtual 93, 3) := by decide +kernel
theorem dX4_cleanAll_86 : decode cX4_cleanAll 86 = .ok (.ifCond .ne 18, 3) := by decide +kernel
theorem dX4_cleanAll_89 : decode cX4_cleanAll 89 = .ok (.aload_n 0, 1) := by decide +kernel
theorem dX4_cleanAll_90 : decode cX4_cleanAll 90 = .ok (.aload_n 0, 1) := by decide +kernel
theorem dX4_cleanAll_91 : decode cX4_cleanAll 91 = .ok (.invokevirtual 54, 3) := by decide +kernel
theorem dX4_cleanAll_94 : decode cX4_cleanAll 94 = .ok (.aload_n 0, 1) := by decide +kernel
theorem dX4_cleanAll_98 : decode cX4_cleanAll 98 = .ok (.invokestatic 57, 3) := by decide +kernel
theorem dX4_orElse_0 : decode cX4_orElse 0 = .ok (.iload_n 0, 1) := by decide +kernel
theorem dX4_orElse_1 : decode cX4_orElse 1 = .ok (.iconst (-1), 1) := by decide +kernel
theorem dX4_orElse_9 : decode cX4_orElse 9 = .ok (.iload_n 0, 1) := by decide +kernel
theorem dX4_cleanAll_104 : decode cX4_cleanAll 104 = .ok (.iload_n 1, 1) := by decide +kernel
theorem dX4_cleanAll_105 : decode cX4_cleanAll 105 = .ok (.ireturn, 1) := by decide +kernel
theorem dX4_cleanAll_101 : decode cX4_cleanAll 101 = .ok (.putfield 34, 3) := by decide +kernel
theorem dX4_orElse_10 : decode cX4_orElse 10 = .ok (.ireturn, 1) := by decide +kernel
theorem dX4_orElse_5 : decode cX4_orElse 5 = .ok (.iload_n 1, 1) := by decide +kernel
theorem dX4_orElse_6 : decode cX4_orElse 6 = .ok (.goto 4, 3) := by decide +kernel
theorem dX4_orElse_2 : decode cX4_orElse 2 = .ok (.if_icmp .ne 7, 3) := by decide +kernel
theorem dX4_cleanAll_95 : decode cX4_cleanAll 95 = .ok (.getfield 34, 3) := by decide +kernel
theorem dX4_cleanAll_80 : decode cX4_cleanAll 80 = .ok (.getfield 34, 3) := by decide +kernel
theorem dX4_cleanAll_67 : decode cX4_cleanAll 67 = .ok (.aload_n 0, 1) := by decide +kernel
theorem dX4_cleanAll_68 : decode cX4_cleanAll 68 = .ok (.aload_n 0, 1) := by decide +kernel
theorem dX4_cleanAll_75 : decode cX4_cleanAll 75 = .ok (.goto 29, 3) := by decide +kernel
theorem dX4_cleanAll_72 : decode cX4_cleanAll 72 = .ok (.putfield 34, 3) := by decide +kernel
theorem dX4_cleanAll_69 : decode cX4_cleanAll 69 = .ok (.getfield 83, 3) := by decide +kernel
theorem dX4_cleanAll_64 : decode cX4_cleanAll 64 = .ok (.if_icmp .eq 14, 3) := by decide +kernel
theorem dX4_cleanAll_60 : decode cX4_cleanAll 60 = .ok (.getfield 83, 3) := by decide +kernel
theorem dX4_cleanAll_35 : decode cX4_cleanAll 35 = .ok (.iload_n 2, 1) := by decide +kernel
theorem dX4_cleanAll_36 : decode cX4_cleanAll 36 = .ok (.iconst (-1), 1) := by decide +kernel
theorem dX4_cleanAll_40 : decode cX4_cleanAll 40 = .ok (.aload_n 0, 1) := by decide +kernel
theorem dX4_cleanAll_41 : decode cX4_cleanAll 41 = .ok (.iload_n 2, 1) := by decide +kernel
theorem dX4_cleanAll_42 : decode cX4_cleanAll 42 = .ok (.invokevirtual 89, 3) := by decide +kernel
theorem dX4_cleanAll_48 : decode cX4_cleanAll 48 = .ok (.aload_n 0, 1) := by decide +kernel
theorem dX4_cleanAll_49 : decode cX4_cleanAll 49 = .ok (.invokevirtual 86, 3) := by decide +kernel
theorem dX4_cleanAll_52 : decode cX4_cleanAll 52 = .ok (.istore_n 2, 1) := by decide +kernel
theorem dX4_cleanAll_53 : decode cX4_cleanAll 53 = .ok (.iinc 3 1, 3) := by decide +kernel
theorem dX4_cleanAll_56 : decode cX4_cleanAll 56 = .ok (.goto (-27), 3) := by decide +kernel
theorem dX4_cleanAll_45 : decode cX4_cleanAll 45 = .ok (.ifCond .eq 14, 3) := by decide +kernel
theorem dX4_cleanAll_37 : decode cX4_cleanAll 37 = .ok (.if_icmp .eq 22, 3) := by decide +kernel
theorem dX4_cleanAll_32 : decode cX4_cleanAll 32 = .ok (.if_icmp .ge 27, 3) := by decide +kernel
theorem dX4_findRoom_0 : decode cX4_findRoom 0 = .ok (.iload_n 1, 1) := by decide +kernel
theorem dX4_findRoom_1 : decode cX4_findRoom 1 = .ok (.aload_n 0, 1) := by decide +kernel
theorem dX4_findRoom_10 : decode cX4_findRoom 10 = .ok (.aload_n 0, 1) := by decide +kernel
theorem dX4_findRoom_11 : decode cX4_findRoom 11 = .ok (.aload_n 0, 1) := by decide +kernel
theorem dX4_findRoom_15 : decode cX4_findRoom 15 = .ok (.iload_n 1, 1) := by decide +kernel
theorem dX4_findRoom_16 : decode cX4_findRoom 16 = .ok (.invokevirtual 43, 3) := by decide +kernel
theorem dX4_findRoom_19 : decode cX4_findRoom 19 = .ok (.ifCond .ne 16, 3) := by decide +kernel
theorem dX4_findRoom_22 : decode cX4_findRoom 22 = .ok (.aload_n 0, 1) := by decide +kernel
theorem dX4_findRoom_23 : decode cX4_findRoom 23 = .ok (.invokevirtual 47, 3) := by decide +kernel
theorem dX4_findRoom_26 : decode cX4_findRoom 26 = .ok (.iconst 2, 1) := by decide +kernel
theorem dX4_findRoom_30 : decode cX4_findRoom 30 = .ok (.aload_n 0, 1) := by decide +kernel
theorem dX4_findRoom_31 : decode cX4_findRoom 31 = .ok (.invokevirtual 51, 3) := by decide +kernel
theorem dX4_findRoom_34 : decode cX4_findRoom 34 = .ok (.pop, 1) := by decide +kernel
theorem dX4_findRoom_27 : decode cX4_findRoom 27 = .ok (.if_icmp .ge 8, 3) := by decide +kernel
theorem dX4_findRoom_12 : decode cX4_findRoom 12 = .ok (.getfield 34, 3) := by decide +kernel
theorem dX4_findRoom_8 : decode cX4_findRoom 8 = .ok (.iconst (-1), 1) := by decide +kernel
theorem dX4_findRoom_9 : decode cX4_findRoom 9 = .ok (.ireturn, 1) := by decide +kernel
theorem dX4_findRoom_5 : decode cX4_findRoom 5 = .ok (.if_icmp .le 5, 3) := by decide +kernel
theorem dX4_findRoom_2 : decode cX4_findRoom 2 = .ok (.getfield 18, 3) := by decide +kernel
theorem dX4_findRoom_35 : decode cX4_findRoom 35 = .ok (.aload_n 0, 1) := by decide +kernel
theorem dX4_findRoom_36 : decode cX4_findRoom 36 = .ok (.aload_n 0, 1) := by decide +kernel
theorem dX4_findRoom_40 : decode cX4_findRoom 40 = .ok (.iload_n 1, 1) := by decide +kernel
theorem dX4_findRoom_41 : decode cX4_findRoom 41 = .ok (.invokevirtual 43, 3) := by decide +kernel
theorem dX4_findRoom_44 : decode cX4_findRoom 44 = .ok (.ifCond .ne 18, 3) := by decide +kernel
theorem dX4_findRoom_47 : decode cX4_findRoom 47 = .ok (.aload_n 0, 1) := by decide +kernel
theorem dX4_findRoom_48 : decode cX4_findRoom 48 = .ok (.aload_n 0, 1) := by decide +kernel
theorem dX4_findRoom_49 : decode cX4_findRoom 49 = .ok (.invokevirtual 54, 3) := by decide +kernel
theorem dX4_findRoom_52 : decode cX4_findRoom 52 = .ok (.aload_n 0, 1) := by decide +kernel
theorem dX4_findRoom_56 : decode cX4_findRoom 56 = .ok (.invokestatic 57, 3) := by decide +kernel
theorem dX4_findRoom_59 : decode cX4_findRoom 59 = .ok (.putfield 34, 3) := by decide +kernel
theorem dX4_findRoom_53 : decode cX4_findRoom 53 = .ok (.getfield 34, 3) := by decide +kernel
theorem dX4_findRoom_37 : decode cX4_findRoom 37 = .ok (.getfield 34, 3) := by decide +kernel
theorem dX4_findRoom_62 : decode cX4_findRoom 62 = .ok (.aload_n 0, 1) := by decide +kernel
theorem dX4_findRoom_63 : decode cX4_findRoom 63 = .ok (.aload_n 0, 1) := by decide +kernel
theorem dX4_findRoom_67 : decode cX4_findRoom 67 = .ok (.iload_n 1, 1) := by decide +kernel
theorem dX4_findRoom_68 : decode cX4_findRoom 68 = .ok (.invokevirtual 43, 3) := by decide +kernel
theorem dX4_findRoom_71 : decode cX4_findRoom 71 = .ok (.ifCond .eq 10, 3) := by decide +kernel
theorem dX4_findRoom_81 : decode cX4_findRoom 81 = .ok (.iconst (-1), 1) := by decide +kernel
theorem dX4_findRoom_82 : decode cX4_findRoom 82 = .ok (.ireturn, 1) := by decide +kernel
theorem dX4_findRoom_74 : decode cX4_findRoom 74 = .ok (.aload_n 0, 1) := by decide +kernel
theorem dX4_findRoom_75 : decode cX4_findRoom 75 = .ok (.invokevirtual 60, 3) := by decide +kernel
theorem dX4_findRoom_78 : decode cX4_findRoom 78 = .ok (.goto 4, 3) := by decide +kernel
theorem dX4_findRoom_64 : decode cX4_findRoom 64 = .ok (.getfield 34, 3) := by decide +kernel
theorem dX4_noteMade_0 : decode cX4_noteMade 0 = .ok (.aload_n 0, 1) := by decide +kernel
theorem dX4_noteMade_1 : decode cX4_noteMade 1 = .ok (.aload_n 0, 1) := by decide +kernel
theorem dX4_noteMade_5 : decode cX4_noteMade 5 = .ok (.aload_n 1, 1) := by decide +kernel
theorem dX4_noteMade_9 : decode cX4_noteMade 9 = .ok (.invokevirtual 66, 3) := by decide +kernel
theorem dX4_noteMade_12 : decode cX4_noteMade 12 = .ok (.return_, 1) := by decide +kernel
theorem dX4_noteMade_6 : decode cX4_noteMade 6 = .ok (.getfield 63, 3) := by decide +kernel
theorem dX4_noteMade_2 : decode cX4_noteMade 2 = .ok (.getfield 34, 3) := by decide +kernel
theorem dX4_open_0 : decode cX4_open 0 = .ok (.aload_n 0, 1) := by decide +kernel
theorem dX4_open_1 : decode cX4_open 1 = .ok (.aload_n 1, 1) := by decide +kernel
theorem dX4_open_2 : decode cX4_open 2 = .ok (.iconst 1, 1) := by decide +kernel
theorem dX4_open_7 : decode cX4_open 7 = .ok (.aload_n 0, 1) := by decide +kernel
theorem dX4_open_8 : decode cX4_open 8 = .ok (.aload_n 0, 1) := by decide +kernel
theorem dX4_open_31 : decode cX4_open 31 = .ok (.iconst 0, 1) := by decide +kernel
theorem dX4_open_35 : decode cX4_open 35 = .ok (.aload_n 0, 1) := by decide +kernel
theorem dX4_open_36 : decode cX4_open 36 = .ok (.aload_n 1, 1) := by decide +kernel
theorem dX4_open_37 : decode cX4_open 37 = .ok (.iconst 2, 1) := by decide +kernel
theorem dX4_open_42 : decode cX4_open 42 = .ok (.aload_n 0, 1) := by decide +kernel
theorem dX4_open_43 : decode cX4_open 43 = .ok (.iconst 0, 1) := by decide +kernel
theorem dX4_open_47 : decode cX4_open 47 = .ok (.aload_n 0, 1) := by decide +kernel
theorem dX4_open_51 : decode cX4_open 51 = .ok (.iconst 0, 1) := by decide +kernel
theorem dX4_open_52 : decode cX4_open 52 = .ok (.invokestatic 37, 3) := by decide +kernel
theorem dX4_open_55 : decode cX4_open 55 = .ok (.return_, 1) := by decide +kernel
theorem dX4_open_48 : decode cX4_open 48 = .ok (.getfield 9, 3) := by decide +kernel
theorem dX4_open_44 : decode cX4_open 44 = .ok (.putfield 34, 3) := by decide +kernel
theorem dX4_open_39 : decode cX4_open 39 = .ok (.putfield 31, 3) := by decide +kernel
theorem dX4_open_38 : decode cX4_open 38 = .ok (.iaload, 1) := by decide +kernel
theorem dX4_open_32 : decode cX4_open 32 = .ok (.putfield 28, 3) := by decide +kernel
theorem dX4_open_15 : decode cX4_open 15 = .ok (.aload_n 1, 1) := by decide +kernel
theorem dX4_open_16 : decode cX4_open 16 = .ok (.iconst 0, 1) := by decide +kernel
theorem dX4_open_18 : decode cX4_open 18 = .ok (.aload_n 0, 1) := by decide +kernel
theorem dX4_open_23 : decode cX4_open 23 = .ok (.bipush 93, 2) := by decide +kernel
theorem dX4_open_25 : decode cX4_open 25 = .ok (.invokestatic 22, 3) := by decide +kernel
theorem dX4_open_28 : decode cX4_open 28 = .ok (.goto 4, 3) := by decide +kernel
theorem dX4_open_22 : decode cX4_open 22 = .ok (.idiv, 1) := by decide +kernel
theorem dX4_open_19 : decode cX4_open 19 = .ok (.getfield 18, 3) := by decide +kernel
theorem dX4_open_17 : decode cX4_open 17 = .ok (.iaload, 1) := by decide +kernel
theorem dX4_open_12 : decode cX4_open 12 = .ok (.ifCond .le 19, 3) := by decide +kernel
theorem dX4_open_9 : decode cX4_open 9 = .ok (.getfield 18, 3) := by decide +kernel
theorem dX4_open_4 : decode cX4_open 4 = .ok (.putfield 18, 3) := by decide +kernel
theorem dX4_open_3 : decode cX4_open 3 = .ok (.iaload, 1) := by decide +kernel

