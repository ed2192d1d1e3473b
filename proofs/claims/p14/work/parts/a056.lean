/-! from 94.470 -/
/-! the reference (written by wip/tools/gen94m.py) -/
set_option maxRecDepth 100000 in
theorem hm_171 : ma_md 171 = some (12, yX12_heap, cX12_heap, 2, (some (FieldType.int))) := rfl
theorem f_12_133_12 : ma_fld 12 133 12 = some 70 := by decide +kernel
theorem f_12_165_12 : ma_fld 12 165 12 = some 23 := by decide +kernel
theorem f_12_168_12 : ma_fld 12 168 12 = some 24 := by decide +kernel
theorem f_12_171_12 : ma_fld 12 171 12 = some 25 := by decide +kernel
theorem f_12_174_12 : ma_fld 12 174 12 = some 26 := by decide +kernel
theorem f_12_183_12 : ma_fld 12 183 12 = some 27 := by decide +kernel
theorem f_12_193_12 : ma_fld 12 193 12 = some 29 := by decide +kernel
theorem f_12_207_12 : ma_fld 12 207 12 = some 13 := by decide +kernel
theorem p_12_124_12 : ma_pk 12 124 12 4 = true := by decide +kernel
theorem p_12_199_12 : ma_pk 12 199 12 10 = true := by decide +kernel
theorem p_12_202_12 : ma_pk 12 202 12 11 = true := by decide +kernel
theorem p_12_205_12 : ma_pk 12 205 12 12 = true := by decide +kernel
theorem p_12_207_12 : ma_pk 12 207 12 13 = true := by decide +kernel
theorem p_12_210_12 : ma_pk 12 210 12 14 = true := by decide +kernel
theorem p_12_213_12 : ma_pk 12 213 12 15 = true := by decide +kernel
theorem p_12_216_12 : ma_pk 12 216 12 16 = true := by decide +kernel
theorem p_12_219_12 : ma_pk 12 219 12 17 = true := by decide +kernel
theorem p_12_222_12 : ma_pk 12 222 12 18 = true := by decide +kernel
theorem p_12_225_12 : ma_pk 12 225 12 19 = true := by decide +kernel
theorem p_12_228_12 : ma_pk 12 228 12 9 = true := by decide +kernel
theorem v_12_196_12 : ma_vl 12 196 12 = some (1, 172, 0) := by decide +kernel
theorem v_12_231_12 : ma_vl 12 231 12 = some (1, 180, 0) := by decide +kernel
theorem dX12_heap_0 : decode cX12_heap 0 = .ok (.aload_n 0, 1) := by decide +kernel
theorem dX12_heap_1 : decode cX12_heap 1 = .ok (.iconst 0, 1) := by decide +kernel
theorem dX12_heap_5 : decode cX12_heap 5 = .ok (.aload_n 0, 1) := by decide +kernel
theorem dX12_heap_6 : decode cX12_heap 6 = .ok (.aload_n 0, 1) := by decide +kernel
theorem dX12_heap_13 : decode cX12_heap 13 = .ok (.aload_n 0, 1) := by decide +kernel
theorem dX12_heap_14 : decode cX12_heap 14 = .ok (.iconst 0, 1) := by decide +kernel
theorem dX12_heap_18 : decode cX12_heap 18 = .ok (.iconst 0, 1) := by decide +kernel
theorem dX12_heap_19 : decode cX12_heap 19 = .ok (.istore_n 1, 1) := by decide +kernel
theorem dX12_heap_15 : decode cX12_heap 15 = .ok (.putfield 107, 3) := by decide +kernel
theorem dX12_heap_10 : decode cX12_heap 10 = .ok (.putfield 124, 3) := by decide +kernel
theorem dX12_heap_7 : decode cX12_heap 7 = .ok (.getfield 107, 3) := by decide +kernel
theorem dX12_heap_2 : decode cX12_heap 2 = .ok (.putfield 1, 3) := by decide +kernel
theorem dX12_heap_20 : decode cX12_heap 20 = .ok (.iload_n 1, 1) := by decide +kernel
theorem dX12_heap_21 : decode cX12_heap 21 = .ok (.aload_n 0, 1) := by decide +kernel
theorem dX12_heap_46 : decode cX12_heap 46 = .ok (.aload_n 0, 1) := by decide +kernel
theorem dX12_heap_47 : decode cX12_heap 47 = .ok (.invokevirtual 196, 3) := by decide +kernel
theorem dX12_heap_53 : decode cX12_heap 53 = .ok (.iconst (-1), 1) := by decide +kernel
theorem dX12_heap_54 : decode cX12_heap 54 = .ok (.aload_n 0, 1) := by decide +kernel
theorem dX12_heap_58 : decode cX12_heap 58 = .ok (.isub, 1) := by decide +kernel
theorem dX12_heap_59 : decode cX12_heap 59 = .ok (.ireturn, 1) := by decide +kernel
theorem dX12_heap_55 : decode cX12_heap 55 = .ok (.getfield 133, 3) := by decide +kernel
theorem dX12_heap_50 : decode cX12_heap 50 = .ok (.ifCond .ne 10, 3) := by decide +kernel
theorem dX12_heap_28 : decode cX12_heap 28 = .ok (.aload_n 0, 1) := by decide +kernel
theorem dX12_heap_32 : decode cX12_heap 32 = .ok (.iload_n 1, 1) := by decide +kernel
theorem dX12_heap_33 : decode cX12_heap 33 = .ok (.aload_n 0, 1) := by decide +kernel
theorem dX12_heap_37 : decode cX12_heap 37 = .ok (.iload_n 1, 1) := by decide +kernel
theorem dX12_heap_40 : decode cX12_heap 40 = .ok (.iinc 1 1, 3) := by decide +kernel
theorem dX12_heap_43 : decode cX12_heap 43 = .ok (.goto (-23), 3) := by decide +kernel
theorem dX12_heap_39 : decode cX12_heap 39 = .ok (.bastore, 1) := by decide +kernel
theorem dX12_heap_38 : decode cX12_heap 38 = .ok (.baload, 1) := by decide +kernel
theorem dX12_heap_34 : decode cX12_heap 34 = .ok (.getfield 13, 3) := by decide +kernel
theorem dX12_heap_29 : decode cX12_heap 29 = .ok (.getfield 17, 3) := by decide +kernel
theorem dX12_heap_25 : decode cX12_heap 25 = .ok (.if_icmp .ge 21, 3) := by decide +kernel
theorem dX12_heap_22 : decode cX12_heap 22 = .ok (.getfield 124, 3) := by decide +kernel
theorem dX12_heap_60 : decode cX12_heap 60 = .ok (.aload_n 0, 1) := by decide +kernel
theorem dX12_heap_61 : decode cX12_heap 61 = .ok (.aload_n 0, 1) := by decide +kernel
theorem dX12_heap_68 : decode cX12_heap 68 = .ok (.aload_n 0, 1) := by decide +kernel
theorem dX12_heap_69 : decode cX12_heap 69 = .ok (.aload_n 0, 1) := by decide +kernel
theorem dX12_heap_76 : decode cX12_heap 76 = .ok (.aload_n 0, 1) := by decide +kernel
theorem dX12_heap_77 : decode cX12_heap 77 = .ok (.aload_n 0, 1) := by decide +kernel
theorem dX12_heap_84 : decode cX12_heap 84 = .ok (.aload_n 0, 1) := by decide +kernel
theorem dX12_heap_85 : decode cX12_heap 85 = .ok (.aload_n 0, 1) := by decide +kernel
theorem dX12_heap_89 : decode cX12_heap 89 = .ok (.putfield 207, 3) := by decide +kernel
theorem dX12_heap_86 : decode cX12_heap 86 = .ok (.getfield 165, 3) := by decide +kernel
theorem dX12_heap_81 : decode cX12_heap 81 = .ok (.putfield 205, 3) := by decide +kernel
theorem dX12_heap_78 : decode cX12_heap 78 = .ok (.getfield 154, 3) := by decide +kernel
theorem dX12_heap_73 : decode cX12_heap 73 = .ok (.putfield 202, 3) := by decide +kernel
theorem dX12_heap_70 : decode cX12_heap 70 = .ok (.getfield 159, 3) := by decide +kernel
theorem dX12_heap_65 : decode cX12_heap 65 = .ok (.putfield 199, 3) := by decide +kernel
theorem dX12_heap_62 : decode cX12_heap 62 = .ok (.getfield 162, 3) := by decide +kernel
theorem dX12_heap_92 : decode cX12_heap 92 = .ok (.aload_n 0, 1) := by decide +kernel
theorem dX12_heap_93 : decode cX12_heap 93 = .ok (.aload_n 0, 1) := by decide +kernel
theorem dX12_heap_100 : decode cX12_heap 100 = .ok (.aload_n 0, 1) := by decide +kernel
theorem dX12_heap_101 : decode cX12_heap 101 = .ok (.aload_n 0, 1) := by decide +kernel
theorem dX12_heap_108 : decode cX12_heap 108 = .ok (.aload_n 0, 1) := by decide +kernel
theorem dX12_heap_109 : decode cX12_heap 109 = .ok (.aload_n 0, 1) := by decide +kernel
theorem dX12_heap_116 : decode cX12_heap 116 = .ok (.aload_n 0, 1) := by decide +kernel
theorem dX12_heap_117 : decode cX12_heap 117 = .ok (.aload_n 0, 1) := by decide +kernel
theorem dX12_heap_121 : decode cX12_heap 121 = .ok (.putfield 219, 3) := by decide +kernel
theorem dX12_heap_118 : decode cX12_heap 118 = .ok (.getfield 183, 3) := by decide +kernel
theorem dX12_heap_113 : decode cX12_heap 113 = .ok (.putfield 216, 3) := by decide +kernel
theorem dX12_heap_110 : decode cX12_heap 110 = .ok (.getfield 174, 3) := by decide +kernel
theorem dX12_heap_105 : decode cX12_heap 105 = .ok (.putfield 213, 3) := by decide +kernel
theorem dX12_heap_102 : decode cX12_heap 102 = .ok (.getfield 171, 3) := by decide +kernel
theorem dX12_heap_97 : decode cX12_heap 97 = .ok (.putfield 210, 3) := by decide +kernel
theorem dX12_heap_94 : decode cX12_heap 94 = .ok (.getfield 168, 3) := by decide +kernel
theorem dX12_heap_124 : decode cX12_heap 124 = .ok (.aload_n 0, 1) := by decide +kernel
theorem dX12_heap_125 : decode cX12_heap 125 = .ok (.aload_n 0, 1) := by decide +kernel
theorem dX12_heap_132 : decode cX12_heap 132 = .ok (.aload_n 0, 1) := by decide +kernel
theorem dX12_heap_133 : decode cX12_heap 133 = .ok (.aload_n 0, 1) := by decide +kernel
theorem dX12_heap_140 : decode cX12_heap 140 = .ok (.aload_n 0, 1) := by decide +kernel
theorem dX12_heap_141 : decode cX12_heap 141 = .ok (.aload_n 0, 1) := by decide +kernel
theorem dX12_heap_145 : decode cX12_heap 145 = .ok (.putfield 228, 3) := by decide +kernel
theorem dX12_heap_142 : decode cX12_heap 142 = .ok (.getfield 186, 3) := by decide +kernel
theorem dX12_heap_137 : decode cX12_heap 137 = .ok (.putfield 225, 3) := by decide +kernel
theorem dX12_heap_134 : decode cX12_heap 134 = .ok (.getfield 193, 3) := by decide +kernel
theorem dX12_heap_129 : decode cX12_heap 129 = .ok (.putfield 222, 3) := by decide +kernel
theorem dX12_heap_126 : decode cX12_heap 126 = .ok (.getfield 190, 3) := by decide +kernel
theorem dX12_heap_148 : decode cX12_heap 148 = .ok (.aload_n 0, 1) := by decide +kernel
theorem dX12_heap_149 : decode cX12_heap 149 = .ok (.invokevirtual 231, 3) := by decide +kernel
theorem dX12_heap_152 : decode cX12_heap 152 = .ok (.aload_n 0, 1) := by decide +kernel
theorem dX12_heap_156 : decode cX12_heap 156 = .ok (.iconst 2, 1) := by decide +kernel
theorem dX12_heap_169 : decode cX12_heap 169 = .ok (.aload_n 0, 1) := by decide +kernel
theorem dX12_heap_173 : decode cX12_heap 173 = .ok (.iconst 3, 1) := by decide +kernel
theorem dX12_heap_191 : decode cX12_heap 191 = .ok (.aload_n 0, 1) := by decide +kernel
theorem dX12_heap_195 : decode cX12_heap 195 = .ok (.bipush 6, 2) := by decide +kernel
theorem dX12_heap_212 : decode cX12_heap 212 = .ok (.aload_n 0, 1) := by decide +kernel
theorem dX12_heap_216 : decode cX12_heap 216 = .ok (.ireturn, 1) := by decide +kernel
theorem dX12_heap_213 : decode cX12_heap 213 = .ok (.getfield 202, 3) := by decide +kernel
theorem dX12_heap_200 : decode cX12_heap 200 = .ok (.aload_n 0, 1) := by decide +kernel
theorem dX12_heap_204 : decode cX12_heap 204 = .ok (.aload_n 0, 1) := by decide +kernel
theorem dX12_heap_208 : decode cX12_heap 208 = .ok (.imul, 1) := by decide +kernel
theorem dX12_heap_209 : decode cX12_heap 209 = .ok (.goto 7, 3) := by decide +kernel
theorem dX12_heap_205 : decode cX12_heap 205 = .ok (.getfield 222, 3) := by decide +kernel
theorem dX12_heap_201 : decode cX12_heap 201 = .ok (.getfield 234, 3) := by decide +kernel
theorem dX12_heap_197 : decode cX12_heap 197 = .ok (.if_icmp .ne 15, 3) := by decide +kernel
theorem dX12_heap_192 : decode cX12_heap 192 = .ok (.getfield 199, 3) := by decide +kernel
theorem dX12_heap_177 : decode cX12_heap 177 = .ok (.aload_n 0, 1) := by decide +kernel
theorem dX12_heap_181 : decode cX12_heap 181 = .ok (.iconst 2, 1) := by decide +kernel
theorem dX12_heap_182 : decode cX12_heap 182 = .ok (.aload_n 0, 1) := by decide +kernel
theorem dX12_heap_186 : decode cX12_heap 186 = .ok (.imul, 1) := by decide +kernel
theorem dX12_heap_187 : decode cX12_heap 187 = .ok (.iadd, 1) := by decide +kernel
theorem dX12_heap_188 : decode cX12_heap 188 = .ok (.goto 28, 3) := by decide +kernel
theorem dX12_heap_183 : decode cX12_heap 183 = .ok (.getfield 207, 3) := by decide +kernel
theorem dX12_heap_178 : decode cX12_heap 178 = .ok (.getfield 210, 3) := by decide +kernel
theorem dX12_heap_174 : decode cX12_heap 174 = .ok (.if_icmp .ne 17, 3) := by decide +kernel
theorem dX12_heap_170 : decode cX12_heap 170 = .ok (.getfield 199, 3) := by decide +kernel
theorem dX12_heap_160 : decode cX12_heap 160 = .ok (.iconst 2, 1) := by decide +kernel
theorem dX12_heap_161 : decode cX12_heap 161 = .ok (.aload_n 0, 1) := by decide +kernel
theorem dX12_heap_165 : decode cX12_heap 165 = .ok (.imul, 1) := by decide +kernel
theorem dX12_heap_166 : decode cX12_heap 166 = .ok (.goto 50, 3) := by decide +kernel
theorem dX12_heap_162 : decode cX12_heap 162 = .ok (.getfield 202, 3) := by decide +kernel
theorem dX12_heap_157 : decode cX12_heap 157 = .ok (.if_icmp .ne 12, 3) := by decide +kernel
theorem dX12_heap_153 : decode cX12_heap 153 = .ok (.getfield 199, 3) := by decide +kernel
def wr_171 (c k : Nat) : Bool := Nat.beq c 96 || Nat.beq c 99 || Nat.beq c 111 || Nat.beq c 112 || Nat.beq c 113 || Nat.beq c 116 || Nat.beq c 117 || (Nat.beq c 94 && (Nat.beq k 0 || Nat.beq k 3 || Nat.beq k 4 || Nat.beq k 8 || Nat.beq k 9 || Nat.beq k 10 || Nat.beq k 11 || Nat.beq k 12 || Nat.beq k 13 || Nat.beq k 14 || Nat.beq k 15 || Nat.beq k 16 || Nat.beq k 17 || Nat.beq k 18 || Nat.beq k 19 || Nat.beq k 20 || Nat.beq k 21 || Nat.beq k 22 || Nat.beq k 23 || Nat.beq k 24 || Nat.beq k 25 || Nat.beq k 26 || Nat.beq k 27 || Nat.beq k 28 || Nat.beq k 29 || Nat.beq k 30 || Nat.beq k 44 || Nat.beq k 45 || Nat.beq k 46 || Nat.beq k 47 || Nat.beq k 48 || Nat.beq k 49 || Nat.beq k 50 || Nat.beq k 55 || Nat.beq k 56 || Nat.beq k 57 || Nat.beq k 58 || Nat.beq k 59 || Nat.beq k 60 || Nat.beq k 61 || Nat.beq k 62 || Nat.beq k 63 || Nat.beq k 64 || Nat.beq k 67 || Nat.beq k 68 || Nat.beq k 69 || Nat.beq k 70 || Nat.beq k 71))
theorem ws_172_171 : ∀ c k, wr_172 c k = true → wr_171 c k = true := by
  intro c k h
  simp only [wr_172, wr_171, Bool.or_eq_true, Bool.and_eq_true, Nat.beq_eq] at h ⊢
  omega
theorem ws_180_171 : ∀ c k, wr_180 c k = true → wr_171 c k = true := by
  intro c k h
  simp only [wr_180, wr_171, Bool.or_eq_true, Bool.and_eq_true, Nat.beq_eq] at h ⊢
  omega
theorem g_171_0 {X : Nat × (Nat → Int32)} {m : Nat → Nat → Int32} {P : Option ma_V → (Nat → Nat → Int32) → Prop}  (h : zm X 4 90 171 20 [(0, .inr (.inr (some 94))), (1, .inl (0 : Int32))] (ma_u (ma_u (ma_u m 94 0 (0 : Int32)) 94 4 (m 94 3)) 94 3 (0 : Int32)) P) : zm X 4 90 171 0 [(0, .inr (.inr (some 94)))] m P := by
  intro d w S Q hd hw hS hm HQ
  subst hm
  refine zw_push hm_171 dX12_heap_0 (v := .inr (.inr (some 94))) rfl ?_
  refine zw_push hm_171 dX12_heap_1 (v := .inl (0 : Int32)) rfl ?_
  refine zw_pf hm_171 dX12_heap_2 (zT_is hS s_94) (zT_t hS s_94) p_12_1_12 zk_int ?_
  refine zw_push hm_171 dX12_heap_5 (v := .inr (.inr (some 94))) rfl ?_
  refine zw_push hm_171 dX12_heap_6 (v := .inr (.inr (some 94))) rfl ?_
  refine zw_gf hm_171 dX12_heap_7 (v := .inl ((mI S) 94 3)) (zT_is (zT_pi hS) s_94) (zT_t (zT_pi hS) s_94) rfl f_12_107_12 rfl ?_
  refine zw_pf hm_171 dX12_heap_10 (zT_is (zT_pi hS) s_94) (zT_t (zT_pi hS) s_94) p_12_124_12 zk_int ?_
  refine zw_push hm_171 dX12_heap_13 (v := .inr (.inr (some 94))) rfl ?_
  refine zw_push hm_171 dX12_heap_14 (v := .inl (0 : Int32)) rfl ?_
  refine zw_pf hm_171 dX12_heap_15 (zT_is (zT_pi (zT_pi hS)) s_94) (zT_t (zT_pi (zT_pi hS)) s_94) p_12_107_12 zk_int ?_
  refine zw_push hm_171 dX12_heap_18 (v := .inl (0 : Int32)) rfl ?_
  refine zw_sto hm_171 dX12_heap_19 [(1, .inl (0 : Int32)), (0, .inr (.inr (some 94)))] rfl rfl rfl ?_
  exact zw_sub (ma_nd_of (ks := [0, 1]) rfl (by decide)) (ma_nd_of (ks := [1, 0]) rfl (by decide)) (ma_le_cons rfl (ma_le_cons rfl (ma_le_nil _))) (h d w _ Q (by omega) (by omega) (zT_pi (zT_pi (zT_pi hS))) rfl HQ)
theorem g_171_20 {X : Nat × (Nat → Int32)} {m : Nat → Nat → Int32} {P : Option ma_V → (Nat → Nat → Int32) → Prop} (l1 : Int32) (h : if (m 94 4) ≤ l1 then (zm X 3 70 172 0 [(0, .inr (.inr (some 94)))] m (zmi (fun v2 m1 => if v2 = 0 then (P (some (.inl ((-1 : Int32) - (m1 94 70)))) m1) else (zm X 4 90 171 60 [(0, .inr (.inr (some 94)))] m1 P)))) else ((0 ≤ l1 ∧ l1.toNatClampNeg < 100) ∧ ((0 ≤ l1 ∧ l1.toNatClampNeg < 100) ∧ (zm X 4 90 171 20 [(0, .inr (.inr (some 94))), (1, .inl (l1 + (1 : Int32)))] (ma_u m 96 l1.toNatClampNeg (vp_nar .byte (m 95 l1.toNatClampNeg))) P)))) : zm X 4 90 171 20 [(0, .inr (.inr (some 94))), (1, .inl l1)] m P := by
  intro d w S Q hd hw hS hm HQ
  subst hm
  refine zw_push hm_171 dX12_heap_20 (v := .inl l1) rfl ?_
  refine zw_push hm_171 dX12_heap_21 (v := .inr (.inr (some 94))) rfl ?_
  refine zw_gf hm_171 dX12_heap_22 (v := .inl ((mI S) 94 4)) (zT_is hS s_94) (zT_t hS s_94) rfl f_12_124_12 rfl ?_
  refine zw_if2 hm_171 dX12_heap_25 (t := 46) rfl zc2_ge ?_ ?_
  · intro hc
    rw [if_pos hc] at h
    refine zw_push hm_171 dX12_heap_46 (v := .inr (.inr (some 94))) rfl ?_
    refine zw_cv hm_171 dX12_heap_47 v_12_196_12 hm_172 [] [] rfl (zT_rt hS s_94 rfl) ⟨by omega, by omega⟩ rfl (h _ _ S _ (by omega) (by omega) hS rfl (fun o9 m1 hv => ?_))
    obtain ⟨v2, rfl, h⟩ := zmi_of hv
    show ma_wp X d w 171 50 [(0, .inr (.inr (some 94))), (1, .inl l1)] [.inl v2] (zst S m1) _
    refine zw_if0 hm_171 dX12_heap_50 (t := 60) rfl zc0_ne ?_ ?_
    · intro hc
      rw [if_neg hc] at h
      exact zw_sub (ma_nd_of (ks := [0]) rfl (by decide)) (ma_nd_of (ks := [0, 1]) rfl (by decide)) (ma_le_cons rfl (ma_le_nil _)) (h d w _ Q (by omega) (by omega) (zT_zst hS m1) rfl HQ)
    · intro hc
      rw [if_pos (Classical.not_not.mp hc)] at h
      refine zw_push hm_171 dX12_heap_53 (v := .inl (-1 : Int32)) rfl ?_
      refine zw_push hm_171 dX12_heap_54 (v := .inr (.inr (some 94))) rfl ?_
      refine zw_gf hm_171 dX12_heap_55 (v := .inl (m1 94 70)) (zT_is (zT_zst hS m1) s_94) (zT_t (zT_zst hS m1) s_94) rfl f_12_133_12 rfl ?_
      refine zw_stk hm_171 dX12_heap_58 (st₉ := [.inl ((-1 : Int32) - (m1 94 70))]) rfl rfl ?_
      exact zw_iret hm_171 dX12_heap_59 (HQ _ _ h)
  · intro hc
    rw [if_neg hc] at h
    refine zw_push hm_171 dX12_heap_28 (v := .inr (.inr (some 94))) rfl ?_
    refine zw_gf hm_171 dX12_heap_29 (v := .inr (.inr (some 96))) (zT_is hS s_94) (zT_t hS s_94) rfl f_12_17_12 (zT_f hS r_94_2) ?_
    refine zw_push hm_171 dX12_heap_32 (v := .inl l1) rfl ?_
    refine zw_push hm_171 dX12_heap_33 (v := .inr (.inr (some 94))) rfl ?_
    refine zw_gf hm_171 dX12_heap_34 (v := .inr (.inr (some 95))) (zT_is hS s_94) (zT_t hS s_94) rfl f_12_13_12 (zT_f hS r_94_1) ?_
    refine zw_push hm_171 dX12_heap_37 (v := .inl l1) rfl ?_
    obtain ⟨hg, h⟩ := h
    refine zw_ba hm_171 dX12_heap_38 (zT_is hS s_95) (zT_h hS s_95) rfl rfl hg ?_
    show ma_wp X d w 171 39 [(0, .inr (.inr (some 94))), (1, .inl l1)] [.inl ((mI S) 95 l1.toNatClampNeg), .inl l1, .inr (.inr (some 96))] S _
    obtain ⟨hg, h⟩ := h
    refine zw_bas21 hm_171 dX12_heap_39 (zT_is hS s_96) (zT_h hS s_96) rfl hg ?_
    refine zw_sto hm_171 dX12_heap_40 [(1, .inl (l1 + (1 : Int32))), (0, .inr (.inr (some 94)))] rfl rfl rfl ?_
    refine zw_goto hm_171 dX12_heap_43 (t := 20) rfl ?_
    exact zw_sub (ma_nd_of (ks := [0, 1]) rfl (by decide)) (ma_nd_of (ks := [1, 0]) rfl (by decide)) (ma_le_cons rfl (ma_le_cons rfl (ma_le_nil _))) (h d w _ Q (by omega) (by omega) (zT_pi hS) rfl HQ)
theorem g_171_60 {X : Nat × (Nat → Int32)} {m : Nat → Nat → Int32} {P : Option ma_V → (Nat → Nat → Int32) → Prop}  (h : zm X 4 90 171 92 [(0, .inr (.inr (some 94)))] (ma_u (ma_u (ma_u (ma_u m 94 10 (m 94 20)) 94 11 (m 94 21)) 94 12 (m 94 22)) 94 13 (m 94 23)) P) : zm X 4 90 171 60 [(0, .inr (.inr (some 94)))] m P := by
  intro d w S Q hd hw hS hm HQ
  subst hm
  refine zw_push hm_171 dX12_heap_60 (v := .inr (.inr (some 94))) rfl ?_
  refine zw_push hm_171 dX12_heap_61 (v := .inr (.inr (some 94))) rfl ?_
  refine zw_gf hm_171 dX12_heap_62 (v := .inl ((mI S) 94 20)) (zT_is hS s_94) (zT_t hS s_94) rfl f_12_162_12 rfl ?_
  refine zw_pf hm_171 dX12_heap_65 (zT_is hS s_94) (zT_t hS s_94) p_12_199_12 zk_int ?_
  refine zw_push hm_171 dX12_heap_68 (v := .inr (.inr (some 94))) rfl ?_
  refine zw_push hm_171 dX12_heap_69 (v := .inr (.inr (some 94))) rfl ?_
  refine zw_gf hm_171 dX12_heap_70 (v := .inl ((mI S) 94 21)) (zT_is (zT_pi hS) s_94) (zT_t (zT_pi hS) s_94) rfl f_12_159_12 rfl ?_
  refine zw_pf hm_171 dX12_heap_73 (zT_is (zT_pi hS) s_94) (zT_t (zT_pi hS) s_94) p_12_202_12 zk_int ?_
  refine zw_push hm_171 dX12_heap_76 (v := .inr (.inr (some 94))) rfl ?_
  refine zw_push hm_171 dX12_heap_77 (v := .inr (.inr (some 94))) rfl ?_
  refine zw_gf hm_171 dX12_heap_78 (v := .inl ((mI S) 94 22)) (zT_is (zT_pi (zT_pi hS)) s_94) (zT_t (zT_pi (zT_pi hS)) s_94) rfl f_12_154_12 rfl ?_
  refine zw_pf hm_171 dX12_heap_81 (zT_is (zT_pi (zT_pi hS)) s_94) (zT_t (zT_pi (zT_pi hS)) s_94) p_12_205_12 zk_int ?_
  refine zw_push hm_171 dX12_heap_84 (v := .inr (.inr (some 94))) rfl ?_
  refine zw_push hm_171 dX12_heap_85 (v := .inr (.inr (some 94))) rfl ?_
  refine zw_gf hm_171 dX12_heap_86 (v := .inl ((mI S) 94 23)) (zT_is (zT_pi (zT_pi (zT_pi hS))) s_94) (zT_t (zT_pi (zT_pi (zT_pi hS))) s_94) rfl f_12_165_12 rfl ?_
  refine zw_pf hm_171 dX12_heap_89 (zT_is (zT_pi (zT_pi (zT_pi hS))) s_94) (zT_t (zT_pi (zT_pi (zT_pi hS))) s_94) p_12_207_12 zk_int ?_
  exact (h d w _ Q (by omega) (by omega) (zT_pi (zT_pi (zT_pi (zT_pi hS)))) rfl HQ)
theorem g_171_92 {X : Nat × (Nat → Int32)} {m : Nat → Nat → Int32} {P : Option ma_V → (Nat → Nat → Int32) → Prop}  (h : zm X 4 90 171 124 [(0, .inr (.inr (some 94)))] (ma_u (ma_u (ma_u (ma_u m 94 14 (m 94 24)) 94 15 (m 94 25)) 94 16 (m 94 26)) 94 17 (m 94 27)) P) : zm X 4 90 171 92 [(0, .inr (.inr (some 94)))] m P := by
  intro d w S Q hd hw hS hm HQ
  subst hm
  refine zw_push hm_171 dX12_heap_92 (v := .inr (.inr (some 94))) rfl ?_
  refine zw_push hm_171 dX12_heap_93 (v := .inr (.inr (some 94))) rfl ?_
  refine zw_gf hm_171 dX12_heap_94 (v := .inl ((mI S) 94 24)) (zT_is hS s_94) (zT_t hS s_94) rfl f_12_168_12 rfl ?_
  refine zw_pf hm_171 dX12_heap_97 (zT_is hS s_94) (zT_t hS s_94) p_12_210_12 zk_int ?_
  refine zw_push hm_171 dX12_heap_100 (v := .inr (.inr (some 94))) rfl ?_
  refine zw_push hm_171 dX12_heap_101 (v := .inr (.inr (some 94))) rfl ?_
  refine zw_gf hm_171 dX12_heap_102 (v := .inl ((mI S) 94 25)) (zT_is (zT_pi hS) s_94) (zT_t (zT_pi hS) s_94) rfl f_12_171_12 rfl ?_
  refine zw_pf hm_171 dX12_heap_105 (zT_is (zT_pi hS) s_94) (zT_t (zT_pi hS) s_94) p_12_213_12 zk_int ?_
  refine zw_push hm_171 dX12_heap_108 (v := .inr (.inr (some 94))) rfl ?_
  refine zw_push hm_171 dX12_heap_109 (v := .inr (.inr (some 94))) rfl ?_
  refine zw_gf hm_171 dX12_heap_110 (v := .inl ((mI S) 94 26)) (zT_is (zT_pi (zT_pi hS)) s_94) (zT_t (zT_pi (zT_pi hS)) s_94) rfl f_12_174_12 rfl ?_
  refine zw_pf hm_171 dX12_heap_113 (zT_is (zT_pi (zT_pi hS)) s_94) (zT_t (zT_pi (zT_pi hS)) s_94) p_12_216_12 zk_int ?_
  refine zw_push hm_171 dX12_heap_116 (v := .inr (.inr (some 94))) rfl ?_
  refine zw_push hm_171 dX12_heap_117 (v := .inr (.inr (some 94))) rfl ?_
  refine zw_gf hm_171 dX12_heap_118 (v := .inl ((mI S) 94 27)) (zT_is (zT_pi (zT_pi (zT_pi hS))) s_94) (zT_t (zT_pi (zT_pi (zT_pi hS))) s_94) rfl f_12_183_12 rfl ?_
  refine zw_pf hm_171 dX12_heap_121 (zT_is (zT_pi (zT_pi (zT_pi hS))) s_94) (zT_t (zT_pi (zT_pi (zT_pi hS))) s_94) p_12_219_12 zk_int ?_
  exact (h d w _ Q (by omega) (by omega) (zT_pi (zT_pi (zT_pi (zT_pi hS)))) rfl HQ)
theorem g_171_124 {X : Nat × (Nat → Int32)} {m : Nat → Nat → Int32} {P : Option ma_V → (Nat → Nat → Int32) → Prop}  (h : ((m 94 30) = 0 ∨ (m 94 30) = 1) ∧ (zm X 4 90 171 148 [(0, .inr (.inr (some 94)))] (ma_u (ma_u (ma_u m 94 18 (m 94 28)) 94 19 (m 94 29)) 94 9 (m 94 30)) P)) : zm X 4 90 171 124 [(0, .inr (.inr (some 94)))] m P := by
  intro d w S Q hd hw hS hm HQ
  subst hm
  refine zw_push hm_171 dX12_heap_124 (v := .inr (.inr (some 94))) rfl ?_
  refine zw_push hm_171 dX12_heap_125 (v := .inr (.inr (some 94))) rfl ?_
  refine zw_gf hm_171 dX12_heap_126 (v := .inl ((mI S) 94 28)) (zT_is hS s_94) (zT_t hS s_94) rfl f_12_190_12 rfl ?_
  refine zw_pf hm_171 dX12_heap_129 (zT_is hS s_94) (zT_t hS s_94) p_12_222_12 zk_int ?_
  refine zw_push hm_171 dX12_heap_132 (v := .inr (.inr (some 94))) rfl ?_
  refine zw_push hm_171 dX12_heap_133 (v := .inr (.inr (some 94))) rfl ?_
  refine zw_gf hm_171 dX12_heap_134 (v := .inl ((mI S) 94 29)) (zT_is (zT_pi hS) s_94) (zT_t (zT_pi hS) s_94) rfl f_12_193_12 rfl ?_
  refine zw_pf hm_171 dX12_heap_137 (zT_is (zT_pi hS) s_94) (zT_t (zT_pi hS) s_94) p_12_225_12 zk_int ?_
  refine zw_push hm_171 dX12_heap_140 (v := .inr (.inr (some 94))) rfl ?_
  refine zw_push hm_171 dX12_heap_141 (v := .inr (.inr (some 94))) rfl ?_
  refine zw_gf hm_171 dX12_heap_142 (v := .inl ((mI S) 94 30)) (zT_is (zT_pi (zT_pi hS)) s_94) (zT_t (zT_pi (zT_pi hS)) s_94) rfl f_12_186_12 rfl ?_
  obtain ⟨hg2, h⟩ := h
  refine zw_pf hm_171 dX12_heap_145 (zT_is (zT_pi (zT_pi hS)) s_94) (zT_t (zT_pi (zT_pi hS)) s_94) p_12_228_12 (zk_bool hg2) ?_
  exact (h d w _ Q (by omega) (by omega) (zT_pi (zT_pi (zT_pi hS))) rfl HQ)
theorem g_171_148 {X : Nat × (Nat → Int32)} {m : Nat → Nat → Int32} {P : Option ma_V → (Nat → Nat → Int32) → Prop}  (h : zm X 0 0 180 0 [(0, .inr (.inr (some 94)))] m (zmv (fun m1 => if (m1 94 10) = (2 : Int32) then (P (some (.inl ((2 : Int32) * (m1 94 11)))) m1) else (if (m1 94 10) = (3 : Int32) then (P (some (.inl ((m1 94 14) + ((2 : Int32) * (m1 94 13))))) m1) else (if (m1 94 10) = (6 : Int32) then (P (some (.inl ((m1 94 64) * (m1 94 18)))) m1) else (P (some (.inl (m1 94 11))) m1)))))) : zm X 4 90 171 148 [(0, .inr (.inr (some 94)))] m P := by
  intro d w S Q hd hw hS hm HQ
  subst hm
  refine zw_push hm_171 dX12_heap_148 (v := .inr (.inr (some 94))) rfl ?_
  refine zw_cv hm_171 dX12_heap_149 v_12_231_12 hm_180 [] [] rfl (zT_rt hS s_94 rfl) ⟨by omega, by omega⟩ rfl (h _ _ S _ (by omega) (by omega) hS rfl (fun o9 m1 hv => ?_))
  obtain ⟨rfl, h⟩ := zmv_of hv
  show ma_wp X d w 171 152 [(0, .inr (.inr (some 94)))] [] (zst S m1) _
  refine zw_push hm_171 dX12_heap_152 (v := .inr (.inr (some 94))) rfl ?_
  refine zw_gf hm_171 dX12_heap_153 (v := .inl (m1 94 10)) (zT_is (zT_zst hS m1) s_94) (zT_t (zT_zst hS m1) s_94) rfl f_12_199_12 rfl ?_
  refine zw_push hm_171 dX12_heap_156 (v := .inl (2 : Int32)) rfl ?_
  refine zw_if2 hm_171 dX12_heap_157 (t := 169) rfl zc2_ne ?_ ?_
  · intro hc
    rw [if_neg hc] at h
    refine zw_push hm_171 dX12_heap_169 (v := .inr (.inr (some 94))) rfl ?_
    refine zw_gf hm_171 dX12_heap_170 (v := .inl (m1 94 10)) (zT_is (zT_zst hS m1) s_94) (zT_t (zT_zst hS m1) s_94) rfl f_12_199_12 rfl ?_
    refine zw_push hm_171 dX12_heap_173 (v := .inl (3 : Int32)) rfl ?_
    refine zw_if2 hm_171 dX12_heap_174 (t := 191) rfl zc2_ne ?_ ?_
    · intro hc
      rw [if_neg hc] at h
      refine zw_push hm_171 dX12_heap_191 (v := .inr (.inr (some 94))) rfl ?_
      refine zw_gf hm_171 dX12_heap_192 (v := .inl (m1 94 10)) (zT_is (zT_zst hS m1) s_94) (zT_t (zT_zst hS m1) s_94) rfl f_12_199_12 rfl ?_
      refine zw_push hm_171 dX12_heap_195 (v := .inl (6 : Int32)) rfl ?_
      refine zw_if2 hm_171 dX12_heap_197 (t := 212) rfl zc2_ne ?_ ?_
      · intro hc
        rw [if_neg hc] at h
        refine zw_push hm_171 dX12_heap_212 (v := .inr (.inr (some 94))) rfl ?_
        refine zw_gf hm_171 dX12_heap_213 (v := .inl (m1 94 11)) (zT_is (zT_zst hS m1) s_94) (zT_t (zT_zst hS m1) s_94) rfl f_12_202_12 rfl ?_
        exact zw_iret hm_171 dX12_heap_216 (HQ _ _ h)
      · intro hc
        rw [if_pos (Classical.not_not.mp hc)] at h
        refine zw_push hm_171 dX12_heap_200 (v := .inr (.inr (some 94))) rfl ?_
        refine zw_gf hm_171 dX12_heap_201 (v := .inl (m1 94 64)) (zT_is (zT_zst hS m1) s_94) (zT_t (zT_zst hS m1) s_94) rfl f_12_234_12 rfl ?_
        refine zw_push hm_171 dX12_heap_204 (v := .inr (.inr (some 94))) rfl ?_
        refine zw_gf hm_171 dX12_heap_205 (v := .inl (m1 94 18)) (zT_is (zT_zst hS m1) s_94) (zT_t (zT_zst hS m1) s_94) rfl f_12_222_12 rfl ?_
        refine zw_stk hm_171 dX12_heap_208 (st₉ := [.inl ((m1 94 64) * (m1 94 18))]) rfl rfl ?_
        refine zw_goto hm_171 dX12_heap_209 (t := 216) rfl ?_
        exact zw_iret hm_171 dX12_heap_216 (HQ _ _ h)
    · intro hc
      rw [if_pos (Classical.not_not.mp hc)] at h
      refine zw_push hm_171 dX12_heap_177 (v := .inr (.inr (some 94))) rfl ?_
      refine zw_gf hm_171 dX12_heap_178 (v := .inl (m1 94 14)) (zT_is (zT_zst hS m1) s_94) (zT_t (zT_zst hS m1) s_94) rfl f_12_210_12 rfl ?_
      refine zw_push hm_171 dX12_heap_181 (v := .inl (2 : Int32)) rfl ?_
      refine zw_push hm_171 dX12_heap_182 (v := .inr (.inr (some 94))) rfl ?_
      refine zw_gf hm_171 dX12_heap_183 (v := .inl (m1 94 13)) (zT_is (zT_zst hS m1) s_94) (zT_t (zT_zst hS m1) s_94) rfl f_12_207_12 rfl ?_
      refine zw_stk hm_171 dX12_heap_186 (st₉ := [.inl ((2 : Int32) * (m1 94 13)), .inl (m1 94 14)]) rfl rfl ?_
      refine zw_stk hm_171 dX12_heap_187 (st₉ := [.inl ((m1 94 14) + ((2 : Int32) * (m1 94 13)))]) rfl rfl ?_
      refine zw_goto hm_171 dX12_heap_188 (t := 216) rfl ?_
      exact zw_iret hm_171 dX12_heap_216 (HQ _ _ h)
  · intro hc
    rw [if_pos (Classical.not_not.mp hc)] at h
    refine zw_push hm_171 dX12_heap_160 (v := .inl (2 : Int32)) rfl ?_
    refine zw_push hm_171 dX12_heap_161 (v := .inr (.inr (some 94))) rfl ?_
    refine zw_gf hm_171 dX12_heap_162 (v := .inl (m1 94 11)) (zT_is (zT_zst hS m1) s_94) (zT_t (zT_zst hS m1) s_94) rfl f_12_202_12 rfl ?_
    refine zw_stk hm_171 dX12_heap_165 (st₉ := [.inl ((2 : Int32) * (m1 94 11))]) rfl rfl ?_
    refine zw_goto hm_171 dX12_heap_166 (t := 216) rfl ?_
    exact zw_iret hm_171 dX12_heap_216 (HQ _ _ h)
/-! from 94.471 -/
/-! dirty cards are found anew; the major cleaning -/
def zDP (ol ca : Int) (at₉ kr kd wd di : Nat → Int32) (s i : Nat) : Prop := (zrf kr kd wd s i).toInt < 0 ∨ (at₉ (zrf kr kd wd s i).toNatClampNeg).toInt < ol ∨ di (((at₉ s).toInt + 1 + i) / ca).toNat ≠ 0
def zDCu (ol ca : Int) (us at₉ ws kr kd wd di : Nat → Int32) (cur i0 : Nat) : Prop := ∀ s, s < 3100 → us s ≠ 0 → (at₉ s).toInt < ol → ∀ i : Nat, (i : Int) < (ws s).toInt → (s < cur ∨ (s = cur ∧ i < i0)) → zDP ol ca at₉ kr kd wd di s i
section DC1
variable {ol ca : Int} {us at₉ ws kr kd wd di : Nat → Int32} {cur cur2 i0 i2 k c : Nat} {m : Nat → Nat → Int32} {x : Int32}
theorem DCu_0 : zDCu ol ca us at₉ ws kr kd wd di 0 0 := fun s _ _ _ i _ h => by omega
theorem DCu_skip (h : zDCu ol ca us at₉ ws kr kd wd di cur 0) (hs : us cur = 0 ∨ ol ≤ (at₉ cur).toInt) (e : cur2 = cur + 1) : zDCu ol ca us at₉ ws kr kd wd di cur2 0 := by
  subst e
  intro s hs1 hu ha i hi hc
  by_cases q : s = cur
  · subst q
    rcases hs with z | z
    · exact absurd z hu
    · omega
  · exact h s hs1 hu ha i hi (Or.inl (by omega))
theorem DCu_next (h : zDCu ol ca us at₉ ws kr kd wd di cur i0) (hs : (ws cur).toInt ≤ (i0 : Int)) (e : cur2 = cur + 1) : zDCu ol ca us at₉ ws kr kd wd di cur2 0 := by
  subst e
  intro s hs1 hu ha i hi hc
  by_cases q : s = cur
  · exact h s hs1 hu ha i hi (Or.inr ⟨q, by rw [q] at hi; omega⟩)
  · exact h s hs1 hu ha i hi (Or.inl (by omega))
theorem DCu_adv (h : zDCu ol ca us at₉ ws kr kd wd di cur i0) (hp : zDP ol ca at₉ kr kd wd di cur i0) (e : i2 = i0 + 1) : zDCu ol ca us at₉ ws kr kd wd di cur i2 := by
  subst e
  intro s hs1 hu ha i hi hc
  by_cases q : s = cur ∧ i = i0
  · rw [q.1, q.2]; exact hp
  · refine h s hs1 hu ha i hi ?_
    rcases hc with z | z
    · exact Or.inl z
    · exact Or.inr ⟨z.1, by have := z.1; have := z.2; rcases Nat.lt_or_ge i i0 with y | y; exact y; exact absurd ⟨z.1, by omega⟩ q⟩
theorem DCu_put (h : zDCu ol ca us at₉ ws kr kd wd (m c) cur i0) (hx : x ≠ 0) : zDCu ol ca us at₉ ws kr kd wd (ma_u m c k x c) cur i0 := by
  intro s hs1 hu ha i hi hc
  rcases h s hs1 hu ha i hi hc with q | q | q
  · exact Or.inl q
  · exact Or.inr (Or.inl q)
  · exact Or.inr (Or.inr (mu_mono hx q))
theorem DCu_end (h : zDCu ol ca us at₉ ws kr kd wd di cur i0) (hc : 3100 ≤ cur) : zDC ol ca us at₉ ws kr kd wd di := fun s hs hu ha i hi => h s hs hu ha i hi (Or.inl (by omega))
theorem sm_mono {b b₉ : Nat → Bool} {n : Nat} (h : ∀ s, s < n → b s = true → b₉ s = true) (hw : ∀ s, s < n → 0 ≤ (ws s).toInt) : sm b ws n ≤ sm b₉ ws n := by
  induction n with
  | zero => exact Int.le_refl _
  | succ n ih =>
    unfold sm
    have i := ih (fun s hs => h s (by omega)) (fun s hs => hw s (by omega))
    have w := hw n (by omega)
    have t := h n (by omega)
    by_cases q : b n = true
    · rw [if_pos q, if_pos (t q)]; omega
    · rw [if_neg q]
      split <;> omega
theorem HA_major {po ro yo ol ca hf tp ot ot₉ : Int32} {us us₉ ws at₉ at2 ow ow2 di di₉ : Nat → Int32} (h : zHA po ro yo ol ca hf tp ot us ws at₉ ow di kr kd wd) (hp : po.toInt = 3) (hu : ∀ s, s < 3100 → us₉ s ≠ 0 → us s ≠ 0) (hl : zLO ol.toInt at₉ at2) (hw : ∀ s, s < 3100 → 0 ≤ (ws s).toInt) (hk : ot₉.toInt ≤ ot.toInt ∧ zPK ol.toInt ot₉.toInt us₉ ws at2 ow2) (hd : zDC ol.toInt ca.toInt us₉ at2 ws kr kd wd di₉) : zHA po ro yo ol ca hf tp ot₉ us₉ ws at2 ow2 di₉ kr kd wd := by
  obtain ⟨a1, a2, a3, a4, a5⟩ := h.2 hp
  refine ⟨fun e => by omega, fun _ => ⟨a1, ⟨a2.1, a2.2.1, ?_⟩, by omega, hk.2, hd⟩⟩
  refine Int.le_trans (sm_mono (fun s hs hb => ?_) hw) a2.2.2
  unfold zbY at hb ⊢
  rw [decide_eq_true_eq] at hb ⊢
  refine ⟨hu s hs hb.1, ?_⟩
  rcases hl s hs with q | q
  · rw [← q]; exact hb.2
  · omega
end DC1

