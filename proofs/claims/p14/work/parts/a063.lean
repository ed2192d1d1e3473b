/-! from 94.488 -/
/-! the reference (written by wip/tools/gen94m.py) -/
set_option maxRecDepth 100000 in
theorem hm_214 : ma_md 214 = some (12, yX12_minor, cX12_minor, 4, (some (FieldType.int))) := rfl
theorem v_12_381_12 : ma_vl 12 381 12 = some (1, 215, 0) := by decide +kernel
theorem v_12_384_12 : ma_vl 12 384 12 = some (1, 211, 0) := by decide +kernel
theorem v_12_387_12 : ma_vl 12 387 12 = some (1, 216, 1) := by decide +kernel
theorem dX12_minor_0 : decode cX12_minor 0 = .ok (.iconst 0, 1) := by decide +kernel
theorem dX12_minor_1 : decode cX12_minor 1 = .ok (.istore_n 1, 1) := by decide +kernel
theorem dX12_minor_2 : decode cX12_minor 2 = .ok (.aload_n 0, 1) := by decide +kernel
theorem dX12_minor_3 : decode cX12_minor 3 = .ok (.invokevirtual 381, 3) := by decide +kernel
theorem dX12_minor_14 : decode cX12_minor 14 = .ok (.aload_n 0, 1) := by decide +kernel
theorem dX12_minor_15 : decode cX12_minor 15 = .ok (.invokevirtual 381, 3) := by decide +kernel
theorem dX12_minor_23 : decode cX12_minor 23 = .ok (.aload_n 0, 1) := by decide +kernel
theorem dX12_minor_24 : decode cX12_minor 24 = .ok (.dup, 1) := by decide +kernel
theorem dX12_minor_28 : decode cX12_minor 28 = .ok (.iconst 1, 1) := by decide +kernel
theorem dX12_minor_29 : decode cX12_minor 29 = .ok (.iadd, 1) := by decide +kernel
theorem dX12_minor_33 : decode cX12_minor 33 = .ok (.iconst 0, 1) := by decide +kernel
theorem dX12_minor_34 : decode cX12_minor 34 = .ok (.istore_n 2, 1) := by decide +kernel
theorem dX12_minor_30 : decode cX12_minor 30 = .ok (.putfield 249, 3) := by decide +kernel
theorem dX12_minor_25 : decode cX12_minor 25 = .ok (.getfield 249, 3) := by decide +kernel
theorem dX12_minor_21 : decode cX12_minor 21 = .ok (.iload_n 1, 1) := by decide +kernel
theorem dX12_minor_22 : decode cX12_minor 22 = .ok (.ireturn, 1) := by decide +kernel
theorem dX12_minor_18 : decode cX12_minor 18 = .ok (.ifCond .eq 5, 3) := by decide +kernel
theorem dX12_minor_9 : decode cX12_minor 9 = .ok (.aload_n 0, 1) := by decide +kernel
theorem dX12_minor_10 : decode cX12_minor 10 = .ok (.invokevirtual 384, 3) := by decide +kernel
theorem dX12_minor_13 : decode cX12_minor 13 = .ok (.istore_n 1, 1) := by decide +kernel
theorem dX12_minor_6 : decode cX12_minor 6 = .ok (.ifCond .eq 8, 3) := by decide +kernel
theorem dX12_minor_35 : decode cX12_minor 35 = .ok (.iload_n 2, 1) := by decide +kernel
theorem dX12_minor_36 : decode cX12_minor 36 = .ok (.sipush 3100, 3) := by decide +kernel
theorem dX12_minor_76 : decode cX12_minor 76 = .ok (.aload_n 0, 1) := by decide +kernel
theorem dX12_minor_77 : decode cX12_minor 77 = .ok (.iconst 0, 1) := by decide +kernel
theorem dX12_minor_81 : decode cX12_minor 81 = .ok (.aload_n 0, 1) := by decide +kernel
theorem dX12_minor_82 : decode cX12_minor 82 = .ok (.iconst 0, 1) := by decide +kernel
theorem dX12_minor_86 : decode cX12_minor 86 = .ok (.aload_n 0, 1) := by decide +kernel
theorem dX12_minor_90 : decode cX12_minor 90 = .ok (.istore_n 2, 1) := by decide +kernel
theorem dX12_minor_91 : decode cX12_minor 91 = .ok (.aload_n 0, 1) := by decide +kernel
theorem dX12_minor_92 : decode cX12_minor 92 = .ok (.iconst 1, 1) := by decide +kernel
theorem dX12_minor_93 : decode cX12_minor 93 = .ok (.aload_n 0, 1) := by decide +kernel
theorem dX12_minor_97 : decode cX12_minor 97 = .ok (.isub, 1) := by decide +kernel
theorem dX12_minor_101 : decode cX12_minor 101 = .ok (.aload_n 0, 1) := by decide +kernel
theorem dX12_minor_102 : decode cX12_minor 102 = .ok (.aload_n 0, 1) := by decide +kernel
theorem dX12_minor_106 : decode cX12_minor 106 = .ok (.aload_n 0, 1) := by decide +kernel
theorem dX12_minor_110 : decode cX12_minor 110 = .ok (.aload_n 0, 1) := by decide +kernel
theorem dX12_minor_114 : decode cX12_minor 114 = .ok (.imul, 1) := by decide +kernel
theorem dX12_minor_115 : decode cX12_minor 115 = .ok (.iadd, 1) := by decide +kernel
theorem dX12_minor_119 : decode cX12_minor 119 = .ok (.iconst 0, 1) := by decide +kernel
theorem dX12_minor_120 : decode cX12_minor 120 = .ok (.istore_n 3, 1) := by decide +kernel
theorem dX12_minor_116 : decode cX12_minor 116 = .ok (.putfield 359, 3) := by decide +kernel
theorem dX12_minor_111 : decode cX12_minor 111 = .ok (.getfield 207, 3) := by decide +kernel
theorem dX12_minor_107 : decode cX12_minor 107 = .ok (.getfield 273, 3) := by decide +kernel
theorem dX12_minor_103 : decode cX12_minor 103 = .ok (.getfield 210, 3) := by decide +kernel
theorem dX12_minor_98 : decode cX12_minor 98 = .ok (.putfield 273, 3) := by decide +kernel
theorem dX12_minor_94 : decode cX12_minor 94 = .ok (.getfield 273, 3) := by decide +kernel
theorem dX12_minor_87 : decode cX12_minor 87 = .ok (.getfield 279, 3) := by decide +kernel
theorem dX12_minor_83 : decode cX12_minor 83 = .ok (.putfield 362, 3) := by decide +kernel
theorem dX12_minor_78 : decode cX12_minor 78 = .ok (.putfield 356, 3) := by decide +kernel
theorem dX12_minor_42 : decode cX12_minor 42 = .ok (.aload_n 0, 1) := by decide +kernel
theorem dX12_minor_46 : decode cX12_minor 46 = .ok (.iload_n 2, 1) := by decide +kernel
theorem dX12_minor_47 : decode cX12_minor 47 = .ok (.aload_n 0, 1) := by decide +kernel
theorem dX12_minor_51 : decode cX12_minor 51 = .ok (.iload_n 2, 1) := by decide +kernel
theorem dX12_minor_68 : decode cX12_minor 68 = .ok (.iconst 0, 1) := by decide +kernel
theorem dX12_minor_70 : decode cX12_minor 70 = .ok (.iinc 2 1, 3) := by decide +kernel
theorem dX12_minor_73 : decode cX12_minor 73 = .ok (.goto (-38), 3) := by decide +kernel
theorem dX12_minor_69 : decode cX12_minor 69 = .ok (.bastore, 1) := by decide +kernel
theorem dX12_minor_56 : decode cX12_minor 56 = .ok (.aload_n 0, 1) := by decide +kernel
theorem dX12_minor_57 : decode cX12_minor 57 = .ok (.iload_n 2, 1) := by decide +kernel
theorem dX12_minor_58 : decode cX12_minor 58 = .ok (.invokevirtual 314, 3) := by decide +kernel
theorem dX12_minor_61 : decode cX12_minor 61 = .ok (.ifCond .eq 7, 3) := by decide +kernel
theorem dX12_minor_64 : decode cX12_minor 64 = .ok (.iconst 1, 1) := by decide +kernel
theorem dX12_minor_65 : decode cX12_minor 65 = .ok (.goto 4, 3) := by decide +kernel
theorem dX12_minor_53 : decode cX12_minor 53 = .ok (.ifCond .eq 15, 3) := by decide +kernel
theorem dX12_minor_52 : decode cX12_minor 52 = .ok (.baload, 1) := by decide +kernel
theorem dX12_minor_48 : decode cX12_minor 48 = .ok (.getfield 27, 3) := by decide +kernel
theorem dX12_minor_43 : decode cX12_minor 43 = .ok (.getfield 62, 3) := by decide +kernel
theorem dX12_minor_39 : decode cX12_minor 39 = .ok (.if_icmp .ge 37, 3) := by decide +kernel
theorem dX12_minor_121 : decode cX12_minor 121 = .ok (.iload_n 3, 1) := by decide +kernel
theorem dX12_minor_122 : decode cX12_minor 122 = .ok (.bipush 16, 2) := by decide +kernel
theorem dX12_minor_143 : decode cX12_minor 143 = .ok (.iconst 0, 1) := by decide +kernel
theorem dX12_minor_144 : decode cX12_minor 144 = .ok (.istore_n 3, 1) := by decide +kernel
theorem dX12_minor_127 : decode cX12_minor 127 = .ok (.aload_n 0, 1) := by decide +kernel
theorem dX12_minor_128 : decode cX12_minor 128 = .ok (.aload_n 0, 1) := by decide +kernel
theorem dX12_minor_132 : decode cX12_minor 132 = .ok (.iload_n 3, 1) := by decide +kernel
theorem dX12_minor_134 : decode cX12_minor 134 = .ok (.invokevirtual 365, 3) := by decide +kernel
theorem dX12_minor_137 : decode cX12_minor 137 = .ok (.iinc 3 1, 3) := by decide +kernel
theorem dX12_minor_140 : decode cX12_minor 140 = .ok (.goto (-19), 3) := by decide +kernel
theorem dX12_minor_133 : decode cX12_minor 133 = .ok (.iaload, 1) := by decide +kernel
theorem dX12_minor_129 : decode cX12_minor 129 = .ok (.getfield 68, 3) := by decide +kernel
theorem dX12_minor_124 : decode cX12_minor 124 = .ok (.if_icmp .ge 19, 3) := by decide +kernel
theorem dX12_minor_145 : decode cX12_minor 145 = .ok (.iload_n 3, 1) := by decide +kernel
theorem dX12_minor_146 : decode cX12_minor 146 = .ok (.aload_n 0, 1) := by decide +kernel
theorem dX12_minor_169 : decode cX12_minor 169 = .ok (.aload_n 0, 1) := by decide +kernel
theorem dX12_minor_170 : decode cX12_minor 170 = .ok (.iload_n 2, 1) := by decide +kernel
theorem dX12_minor_171 : decode cX12_minor 171 = .ok (.invokevirtual 387, 3) := by decide +kernel
theorem dX12_minor_174 : decode cX12_minor 174 = .ok (.aload_n 0, 1) := by decide +kernel
theorem dX12_minor_175 : decode cX12_minor 175 = .ok (.invokevirtual 368, 3) := by decide +kernel
theorem dX12_minor_178 : decode cX12_minor 178 = .ok (.aload_n 0, 1) := by decide +kernel
theorem dX12_minor_179 : decode cX12_minor 179 = .ok (.iconst 1, 1) := by decide +kernel
theorem dX12_minor_180 : decode cX12_minor 180 = .ok (.invokevirtual 371, 3) := by decide +kernel
theorem dX12_minor_183 : decode cX12_minor 183 = .ok (.aload_n 0, 1) := by decide +kernel
theorem dX12_minor_184 : decode cX12_minor 184 = .ok (.invokevirtual 339, 3) := by decide +kernel
theorem dX12_minor_187 : decode cX12_minor 187 = .ok (.aload_n 0, 1) := by decide +kernel
theorem dX12_minor_188 : decode cX12_minor 188 = .ok (.aload_n 0, 1) := by decide +kernel
theorem dX12_minor_195 : decode cX12_minor 195 = .ok (.iload_n 1, 1) := by decide +kernel
theorem dX12_minor_196 : decode cX12_minor 196 = .ok (.aload_n 0, 1) := by decide +kernel
theorem dX12_minor_197 : decode cX12_minor 197 = .ok (.invokevirtual 342, 3) := by decide +kernel
theorem dX12_minor_200 : decode cX12_minor 200 = .ok (.iadd, 1) := by decide +kernel
theorem dX12_minor_201 : decode cX12_minor 201 = .ok (.istore_n 1, 1) := by decide +kernel
theorem dX12_minor_202 : decode cX12_minor 202 = .ok (.aload_n 0, 1) := by decide +kernel
theorem dX12_minor_203 : decode cX12_minor 203 = .ok (.invokevirtual 378, 3) := by decide +kernel
theorem dX12_minor_206 : decode cX12_minor 206 = .ok (.iload_n 1, 1) := by decide +kernel
theorem dX12_minor_207 : decode cX12_minor 207 = .ok (.ireturn, 1) := by decide +kernel
theorem dX12_minor_192 : decode cX12_minor 192 = .ok (.putfield 276, 3) := by decide +kernel
theorem dX12_minor_189 : decode cX12_minor 189 = .ok (.getfield 359, 3) := by decide +kernel
theorem dX12_minor_153 : decode cX12_minor 153 = .ok (.aload_n 0, 1) := by decide +kernel
theorem dX12_minor_154 : decode cX12_minor 154 = .ok (.aload_n 0, 1) := by decide +kernel
theorem dX12_minor_158 : decode cX12_minor 158 = .ok (.iload_n 3, 1) := by decide +kernel
theorem dX12_minor_160 : decode cX12_minor 160 = .ok (.invokevirtual 365, 3) := by decide +kernel
theorem dX12_minor_163 : decode cX12_minor 163 = .ok (.iinc 3 1, 3) := by decide +kernel
theorem dX12_minor_166 : decode cX12_minor 166 = .ok (.goto (-21), 3) := by decide +kernel
theorem dX12_minor_159 : decode cX12_minor 159 = .ok (.iaload, 1) := by decide +kernel
theorem dX12_minor_155 : decode cX12_minor 155 = .ok (.getfield 74, 3) := by decide +kernel
theorem dX12_minor_150 : decode cX12_minor 150 = .ok (.if_icmp .ge 19, 3) := by decide +kernel
theorem dX12_minor_147 : decode cX12_minor 147 = .ok (.getfield 261, 3) := by decide +kernel
def wr_214 (c k : Nat) : Bool := Nat.beq c 99 || Nat.beq c 103 || Nat.beq c 104 || Nat.beq c 105 || Nat.beq c 109 || Nat.beq c 110 || Nat.beq c 111 || Nat.beq c 113 || Nat.beq c 114 || Nat.beq c 117 || Nat.beq c 118 || Nat.beq c 119 || (Nat.beq c 94 && (Nat.beq k 44 || Nat.beq k 45 || Nat.beq k 47 || Nat.beq k 48 || Nat.beq k 49 || Nat.beq k 55 || Nat.beq k 59 || Nat.beq k 60 || Nat.beq k 61 || Nat.beq k 73 || Nat.beq k 75 || Nat.beq k 76 || Nat.beq k 77))
theorem ws_199_214 : ∀ c k, wr_199 c k = true → wr_214 c k = true := by
  intro c k h
  simp only [wr_199, wr_214, Bool.or_eq_true, Bool.and_eq_true, Nat.beq_eq] at h ⊢
  omega
theorem ws_200_214 : ∀ c k, wr_200 c k = true → wr_214 c k = true := by
  intro c k h
  simp only [wr_200, wr_214, Bool.or_eq_true, Bool.and_eq_true, Nat.beq_eq] at h ⊢
  omega
theorem ws_207_214 : ∀ c k, wr_207 c k = true → wr_214 c k = true := by
  intro c k h
  simp only [wr_207, wr_214, Bool.or_eq_true, Bool.and_eq_true, Nat.beq_eq] at h ⊢
  omega
theorem ws_208_214 : ∀ c k, wr_208 c k = true → wr_214 c k = true := by
  intro c k h
  simp only [wr_208, wr_214, Bool.or_eq_true, Bool.and_eq_true, Nat.beq_eq] at h ⊢
  omega
theorem ws_209_214 : ∀ c k, wr_209 c k = true → wr_214 c k = true := by
  intro c k h
  simp only [wr_209, wr_214, Bool.or_eq_true, Bool.and_eq_true, Nat.beq_eq] at h ⊢
  omega
theorem ws_211_214 : ∀ c k, wr_211 c k = true → wr_214 c k = true := by
  intro c k h
  simp only [wr_211, wr_214, Bool.or_eq_true, Bool.and_eq_true, Nat.beq_eq] at h ⊢
  omega
theorem ws_212_214 : ∀ c k, wr_212 c k = true → wr_214 c k = true := by
  intro c k h
  simp only [wr_212, wr_214, Bool.or_eq_true, Bool.and_eq_true, Nat.beq_eq] at h ⊢
  omega
theorem ws_215_214 : ∀ c k, wr_215 c k = true → wr_214 c k = true := fun _ _ h => by cases h
theorem ws_216_214 : ∀ c k, wr_216 c k = true → wr_214 c k = true := by
  intro c k h
  simp only [wr_216, wr_214, Bool.or_eq_true, Bool.and_eq_true, Nat.beq_eq] at h ⊢
  omega
theorem g_214_0 {X : Nat × (Nat → Int32)} {m : Nat → Nat → Int32} {P : Option ma_V → (Nat → Nat → Int32) → Prop}  (h : zm X 1 21 215 0 [(0, .inr (.inr (some 94)))] m (zmi (fun v2 m1 => if v2 = 0 then (zm X 1 21 215 0 [(0, .inr (.inr (some 94)))] m1 (zmi (fun v4 m3 => if v4 = 0 then (zm X 6 129 214 35 [(0, .inr (.inr (some 94))), (1, .inl (0 : Int32)), (2, .inl (0 : Int32))] (ma_u m3 94 47 ((m3 94 47) + (1 : Int32))) P) else (P (some (.inl (0 : Int32))) m3)))) else (zm X 5 108 211 0 [(0, .inr (.inr (some 94)))] m1 (zmi (fun v6 m5 => zm X 1 21 215 0 [(0, .inr (.inr (some 94)))] m5 (zmi (fun v8 m7 => if v8 = 0 then (zm X 6 129 214 35 [(0, .inr (.inr (some 94))), (1, .inl v6), (2, .inl (0 : Int32))] (ma_u m7 94 47 ((m7 94 47) + (1 : Int32))) P) else (P (some (.inl v6)) m7))))))))) : zm X 6 129 214 0 [(0, .inr (.inr (some 94)))] m P := by
  intro d w S Q hd hw hS hm HQ
  subst hm
  refine zw_push hm_214 dX12_minor_0 (v := .inl (0 : Int32)) rfl ?_
  refine zw_sto hm_214 dX12_minor_1 [(1, .inl (0 : Int32)), (0, .inr (.inr (some 94)))] rfl rfl rfl ?_
  refine zw_push hm_214 dX12_minor_2 (v := .inr (.inr (some 94))) rfl ?_
  refine zw_cv hm_214 dX12_minor_3 v_12_381_12 hm_215 [] [] rfl (zT_rt hS s_94 rfl) ⟨by omega, by omega⟩ rfl (h _ _ S _ (by omega) (by omega) hS rfl (fun o9 m1 hv => ?_))
  obtain ⟨v2, rfl, h⟩ := zmi_of hv
  show ma_wp X d w 214 6 [(1, .inl (0 : Int32)), (0, .inr (.inr (some 94)))] [.inl v2] (zst S m1) _
  refine zw_if0 hm_214 dX12_minor_6 (t := 14) rfl zc0_eq ?_ ?_
  · intro hc
    rw [if_pos hc] at h
    refine zw_push hm_214 dX12_minor_14 (v := .inr (.inr (some 94))) rfl ?_
    refine zw_cv hm_214 dX12_minor_15 v_12_381_12 hm_215 [] [] rfl (zT_rt (zT_zst hS m1) s_94 rfl) ⟨by omega, by omega⟩ rfl (h _ _ (zst S m1) _ (by omega) (by omega) (zT_zst hS m1) rfl (fun o9 m3 hv => ?_))
    obtain ⟨v4, rfl, h⟩ := zmi_of hv
    show ma_wp X d w 214 18 [(1, .inl (0 : Int32)), (0, .inr (.inr (some 94)))] [.inl v4] (zst S m3) _
    refine zw_if0 hm_214 dX12_minor_18 (t := 23) rfl zc0_eq ?_ ?_
    · intro hc
      rw [if_pos hc] at h
      refine zw_push hm_214 dX12_minor_23 (v := .inr (.inr (some 94))) rfl ?_
      refine zw_stk hm_214 dX12_minor_24 (st₉ := [.inr (.inr (some 94)), .inr (.inr (some 94))]) rfl rfl ?_
      refine zw_gf hm_214 dX12_minor_25 (v := .inl (m3 94 47)) (zT_is (zT_zst hS m3) s_94) (zT_t (zT_zst hS m3) s_94) rfl f_12_249_12 rfl ?_
      refine zw_push hm_214 dX12_minor_28 (v := .inl (1 : Int32)) rfl ?_
      refine zw_stk hm_214 dX12_minor_29 (st₉ := [.inl ((m3 94 47) + (1 : Int32)), .inr (.inr (some 94))]) rfl rfl ?_
      refine zw_pf hm_214 dX12_minor_30 (zT_is (zT_zst hS m3) s_94) (zT_t (zT_zst hS m3) s_94) p_12_249_12 zk_int ?_
      refine zw_push hm_214 dX12_minor_33 (v := .inl (0 : Int32)) rfl ?_
      refine zw_sto hm_214 dX12_minor_34 [(2, .inl (0 : Int32)), (1, .inl (0 : Int32)), (0, .inr (.inr (some 94)))] rfl rfl rfl ?_
      exact zw_sub (ma_nd_of (ks := [0, 1, 2]) rfl (by decide)) (ma_nd_of (ks := [2, 1, 0]) rfl (by decide)) (ma_le_cons rfl (ma_le_cons rfl (ma_le_cons rfl (ma_le_nil _)))) (h d w _ Q (by omega) (by omega) (zT_pi (zT_zst hS m3)) rfl HQ)
    · intro hc
      rw [if_neg hc] at h
      refine zw_push hm_214 dX12_minor_21 (v := .inl (0 : Int32)) rfl ?_
      exact zw_iret hm_214 dX12_minor_22 (HQ _ _ h)
  · intro hc
    rw [if_neg hc] at h
    refine zw_push hm_214 dX12_minor_9 (v := .inr (.inr (some 94))) rfl ?_
    refine zw_cv hm_214 dX12_minor_10 v_12_384_12 hm_211 [] [] rfl (zT_rt (zT_zst hS m1) s_94 rfl) ⟨by omega, by omega⟩ rfl (h _ _ (zst S m1) _ (by omega) (by omega) (zT_zst hS m1) rfl (fun o9 m5 hv => ?_))
    obtain ⟨v6, rfl, h⟩ := zmi_of hv
    show ma_wp X d w 214 13 [(1, .inl (0 : Int32)), (0, .inr (.inr (some 94)))] [.inl v6] (zst S m5) _
    refine zw_sto hm_214 dX12_minor_13 [(1, .inl v6), (0, .inr (.inr (some 94)))] rfl rfl rfl ?_
    refine zw_push hm_214 dX12_minor_14 (v := .inr (.inr (some 94))) rfl ?_
    refine zw_cv hm_214 dX12_minor_15 v_12_381_12 hm_215 [] [] rfl (zT_rt (zT_zst hS m5) s_94 rfl) ⟨by omega, by omega⟩ rfl (h _ _ (zst S m5) _ (by omega) (by omega) (zT_zst hS m5) rfl (fun o9 m7 hv => ?_))
    obtain ⟨v8, rfl, h⟩ := zmi_of hv
    show ma_wp X d w 214 18 [(1, .inl v6), (0, .inr (.inr (some 94)))] [.inl v8] (zst S m7) _
    refine zw_if0 hm_214 dX12_minor_18 (t := 23) rfl zc0_eq ?_ ?_
    · intro hc
      rw [if_pos hc] at h
      refine zw_push hm_214 dX12_minor_23 (v := .inr (.inr (some 94))) rfl ?_
      refine zw_stk hm_214 dX12_minor_24 (st₉ := [.inr (.inr (some 94)), .inr (.inr (some 94))]) rfl rfl ?_
      refine zw_gf hm_214 dX12_minor_25 (v := .inl (m7 94 47)) (zT_is (zT_zst hS m7) s_94) (zT_t (zT_zst hS m7) s_94) rfl f_12_249_12 rfl ?_
      refine zw_push hm_214 dX12_minor_28 (v := .inl (1 : Int32)) rfl ?_
      refine zw_stk hm_214 dX12_minor_29 (st₉ := [.inl ((m7 94 47) + (1 : Int32)), .inr (.inr (some 94))]) rfl rfl ?_
      refine zw_pf hm_214 dX12_minor_30 (zT_is (zT_zst hS m7) s_94) (zT_t (zT_zst hS m7) s_94) p_12_249_12 zk_int ?_
      refine zw_push hm_214 dX12_minor_33 (v := .inl (0 : Int32)) rfl ?_
      refine zw_sto hm_214 dX12_minor_34 [(2, .inl (0 : Int32)), (1, .inl v6), (0, .inr (.inr (some 94)))] rfl rfl rfl ?_
      exact zw_sub (ma_nd_of (ks := [0, 1, 2]) rfl (by decide)) (ma_nd_of (ks := [2, 1, 0]) rfl (by decide)) (ma_le_cons rfl (ma_le_cons rfl (ma_le_cons rfl (ma_le_nil _)))) (h d w _ Q (by omega) (by omega) (zT_pi (zT_zst hS m7)) rfl HQ)
    · intro hc
      rw [if_neg hc] at h
      refine zw_push hm_214 dX12_minor_21 (v := .inl v6) rfl ?_
      exact zw_iret hm_214 dX12_minor_22 (HQ _ _ h)
theorem g_214_35 {X : Nat × (Nat → Int32)} {m : Nat → Nat → Int32} {P : Option ma_V → (Nat → Nat → Int32) → Prop} (l1 : Int32) (l2 : Int32) (h : if (3100 : Int32) ≤ l2 then (zm X 6 129 214 121 [(0, .inr (.inr (some 94))), (1, .inl l1), (2, .inl (m 94 60)), (3, .inl (0 : Int32))] (ma_u (ma_u (ma_u (ma_u m 94 75 (0 : Int32)) 94 76 (0 : Int32)) 94 61 ((1 : Int32) - (m 94 61))) 94 77 ((m 94 14) + (((1 : Int32) - (m 94 61)) * (m 94 13)))) P) else ((0 ≤ l2 ∧ l2.toNatClampNeg < 3100) ∧ (if (m 99 l2.toNatClampNeg) = 0 then ((0 ≤ l2 ∧ l2.toNatClampNeg < 3100) ∧ (zm X 6 129 214 35 [(0, .inr (.inr (some 94))), (1, .inl l1), (2, .inl (l2 + (1 : Int32)))] (ma_u m 110 l2.toNatClampNeg (0 : Int32)) P)) else ((0 ≤ l2 ∧ l2.toNatClampNeg < 3100) ∧ (if (m 94 14) ≤ (m 103 l2.toNatClampNeg) then ((0 ≤ l2 ∧ l2.toNatClampNeg < 3100) ∧ (zm X 6 129 214 35 [(0, .inr (.inr (some 94))), (1, .inl l1), (2, .inl (l2 + (1 : Int32)))] (ma_u m 110 l2.toNatClampNeg (0 : Int32)) P)) else ((0 ≤ l2 ∧ l2.toNatClampNeg < 3100) ∧ (zm X 6 129 214 35 [(0, .inr (.inr (some 94))), (1, .inl l1), (2, .inl (l2 + (1 : Int32)))] (ma_u m 110 l2.toNatClampNeg (1 : Int32)) P))))))) : zm X 6 129 214 35 [(0, .inr (.inr (some 94))), (1, .inl l1), (2, .inl l2)] m P := by
  intro d w S Q hd hw hS hm HQ
  subst hm
  refine zw_push hm_214 dX12_minor_35 (v := .inl l2) rfl ?_
  refine zw_push hm_214 dX12_minor_36 (v := .inl (3100 : Int32)) rfl ?_
  refine zw_if2 hm_214 dX12_minor_39 (t := 76) rfl zc2_ge ?_ ?_
  · intro hc
    rw [if_pos hc] at h
    refine zw_push hm_214 dX12_minor_76 (v := .inr (.inr (some 94))) rfl ?_
    refine zw_push hm_214 dX12_minor_77 (v := .inl (0 : Int32)) rfl ?_
    refine zw_pf hm_214 dX12_minor_78 (zT_is hS s_94) (zT_t hS s_94) p_12_356_12 zk_int ?_
    refine zw_push hm_214 dX12_minor_81 (v := .inr (.inr (some 94))) rfl ?_
    refine zw_push hm_214 dX12_minor_82 (v := .inl (0 : Int32)) rfl ?_
    refine zw_pf hm_214 dX12_minor_83 (zT_is (zT_pi hS) s_94) (zT_t (zT_pi hS) s_94) p_12_362_12 zk_int ?_
    refine zw_push hm_214 dX12_minor_86 (v := .inr (.inr (some 94))) rfl ?_
    refine zw_gf hm_214 dX12_minor_87 (v := .inl ((mI S) 94 60)) (zT_is (zT_pi (zT_pi hS)) s_94) (zT_t (zT_pi (zT_pi hS)) s_94) rfl f_12_279_12 rfl ?_
    refine zw_sto hm_214 dX12_minor_90 [(2, .inl ((mI S) 94 60)), (0, .inr (.inr (some 94))), (1, .inl l1)] rfl rfl rfl ?_
    refine zw_push hm_214 dX12_minor_91 (v := .inr (.inr (some 94))) rfl ?_
    refine zw_push hm_214 dX12_minor_92 (v := .inl (1 : Int32)) rfl ?_
    refine zw_push hm_214 dX12_minor_93 (v := .inr (.inr (some 94))) rfl ?_
    refine zw_gf hm_214 dX12_minor_94 (v := .inl ((mI S) 94 61)) (zT_is (zT_pi (zT_pi hS)) s_94) (zT_t (zT_pi (zT_pi hS)) s_94) rfl f_12_273_12 rfl ?_
    refine zw_stk hm_214 dX12_minor_97 (st₉ := [.inl ((1 : Int32) - ((mI S) 94 61)), .inr (.inr (some 94))]) rfl rfl ?_
    refine zw_pf hm_214 dX12_minor_98 (zT_is (zT_pi (zT_pi hS)) s_94) (zT_t (zT_pi (zT_pi hS)) s_94) p_12_273_12 zk_int ?_
    refine zw_push hm_214 dX12_minor_101 (v := .inr (.inr (some 94))) rfl ?_
    refine zw_push hm_214 dX12_minor_102 (v := .inr (.inr (some 94))) rfl ?_
    refine zw_gf hm_214 dX12_minor_103 (v := .inl ((mI S) 94 14)) (zT_is (zT_pi (zT_pi (zT_pi hS))) s_94) (zT_t (zT_pi (zT_pi (zT_pi hS))) s_94) rfl f_12_210_12 rfl ?_
    refine zw_push hm_214 dX12_minor_106 (v := .inr (.inr (some 94))) rfl ?_
    refine zw_gf hm_214 dX12_minor_107 (v := .inl ((1 : Int32) - ((mI S) 94 61))) (zT_is (zT_pi (zT_pi (zT_pi hS))) s_94) (zT_t (zT_pi (zT_pi (zT_pi hS))) s_94) rfl f_12_273_12 rfl ?_
    refine zw_push hm_214 dX12_minor_110 (v := .inr (.inr (some 94))) rfl ?_
    refine zw_gf hm_214 dX12_minor_111 (v := .inl ((mI S) 94 13)) (zT_is (zT_pi (zT_pi (zT_pi hS))) s_94) (zT_t (zT_pi (zT_pi (zT_pi hS))) s_94) rfl f_12_207_12 rfl ?_
    refine zw_stk hm_214 dX12_minor_114 (st₉ := [.inl (((1 : Int32) - ((mI S) 94 61)) * ((mI S) 94 13)), .inl ((mI S) 94 14), .inr (.inr (some 94))]) rfl rfl ?_
    refine zw_stk hm_214 dX12_minor_115 (st₉ := [.inl (((mI S) 94 14) + (((1 : Int32) - ((mI S) 94 61)) * ((mI S) 94 13))), .inr (.inr (some 94))]) rfl rfl ?_
    refine zw_pf hm_214 dX12_minor_116 (zT_is (zT_pi (zT_pi (zT_pi hS))) s_94) (zT_t (zT_pi (zT_pi (zT_pi hS))) s_94) p_12_359_12 zk_int ?_
    refine zw_push hm_214 dX12_minor_119 (v := .inl (0 : Int32)) rfl ?_
    refine zw_sto hm_214 dX12_minor_120 [(3, .inl (0 : Int32)), (2, .inl ((mI S) 94 60)), (0, .inr (.inr (some 94))), (1, .inl l1)] rfl rfl rfl ?_
    exact zw_sub (ma_nd_of (ks := [0, 1, 2, 3]) rfl (by decide)) (ma_nd_of (ks := [3, 2, 0, 1]) rfl (by decide)) (ma_le_cons rfl (ma_le_cons rfl (ma_le_cons rfl (ma_le_cons rfl (ma_le_nil _))))) (h d w _ Q (by omega) (by omega) (zT_pi (zT_pi (zT_pi (zT_pi hS)))) rfl HQ)
  · intro hc
    rw [if_neg hc] at h
    refine zw_push hm_214 dX12_minor_42 (v := .inr (.inr (some 94))) rfl ?_
    refine zw_gf hm_214 dX12_minor_43 (v := .inr (.inr (some 110))) (zT_is hS s_94) (zT_t hS s_94) rfl f_12_62_12 (zT_f hS r_94_42) ?_
    refine zw_push hm_214 dX12_minor_46 (v := .inl l2) rfl ?_
    refine zw_push hm_214 dX12_minor_47 (v := .inr (.inr (some 94))) rfl ?_
    refine zw_gf hm_214 dX12_minor_48 (v := .inr (.inr (some 99))) (zT_is hS s_94) (zT_t hS s_94) rfl f_12_27_12 (zT_f hS r_94_31) ?_
    refine zw_push hm_214 dX12_minor_51 (v := .inl l2) rfl ?_
    obtain ⟨hg, h⟩ := h
    refine zw_ba hm_214 dX12_minor_52 (zT_is hS s_99) (zT_h hS s_99) rfl rfl hg ?_
    show ma_wp X d w 214 53 [(0, .inr (.inr (some 94))), (1, .inl l1), (2, .inl l2)] [.inl ((mI S) 99 l2.toNatClampNeg), .inl l2, .inr (.inr (some 110))] S _
    refine zw_if0 hm_214 dX12_minor_53 (t := 68) rfl zc0_eq ?_ ?_
    · intro hc
      rw [if_pos hc] at h
      refine zw_push hm_214 dX12_minor_68 (v := .inl (0 : Int32)) rfl ?_
      obtain ⟨hg, h⟩ := h
      refine zw_bas22l hm_214 dX12_minor_69 (hx := by decide) (yv := (0 : Int32)) (zT_is hS s_110) (zT_h hS s_110) rfl hg ?_
      refine zw_sto hm_214 dX12_minor_70 [(2, .inl (l2 + (1 : Int32))), (0, .inr (.inr (some 94))), (1, .inl l1)] rfl rfl rfl ?_
      refine zw_goto hm_214 dX12_minor_73 (t := 35) rfl ?_
      exact zw_sub (ma_nd_of (ks := [0, 1, 2]) rfl (by decide)) (ma_nd_of (ks := [2, 0, 1]) rfl (by decide)) (ma_le_cons rfl (ma_le_cons rfl (ma_le_cons rfl (ma_le_nil _)))) (h d w _ Q (by omega) (by omega) (zT_pi hS) rfl HQ)
    · intro hc
      rw [if_neg hc] at h
      refine zw_push hm_214 dX12_minor_56 (v := .inr (.inr (some 94))) rfl ?_
      refine zw_push hm_214 dX12_minor_57 (v := .inl l2) rfl ?_
      refine zw_cv hm_214 dX12_minor_58 v_12_314_12 hm_196 [.inl l2] [.inl l2, .inr (.inr (some 110))] rfl (zT_rt hS s_94 rfl) ⟨by omega, by omega⟩ rfl ?_
      show ma_wp X (d - 1) (w - 21) 196 0 [(0, .inr (.inr (some 94))), (1, .inl l2)] [] S _
      refine zw_push hm_196 dX12_isOld_0 (v := .inr (.inr (some 94))) rfl ?_
      refine zw_gf hm_196 dX12_isOld_1 (v := .inr (.inr (some 103))) (zT_is hS s_94) (zT_t hS s_94) rfl f_12_40_12 (zT_f hS r_94_35) ?_
      refine zw_push hm_196 dX12_isOld_4 (v := .inl l2) rfl ?_
      obtain ⟨hg, h⟩ := h
      refine zw_ia hm_196 dX12_isOld_5 (zT_is hS s_103) (zT_h hS s_103) rfl hg ?_
      show ma_wp X (d - 1) (w - 21) 196 6 [(0, .inr (.inr (some 94))), (1, .inl l2)] [.inl ((mI S) 103 l2.toNatClampNeg)] S _
      refine zw_push hm_196 dX12_isOld_6 (v := .inr (.inr (some 94))) rfl ?_
      refine zw_gf hm_196 dX12_isOld_7 (v := .inl ((mI S) 94 14)) (zT_is hS s_94) (zT_t hS s_94) rfl f_12_210_12 rfl ?_
      refine zw_if2 hm_196 dX12_isOld_10 (t := 17) rfl zc2_ge ?_ ?_
      · intro hc
        rw [if_pos hc] at h
        refine zw_push hm_196 dX12_isOld_17 (v := .inl (0 : Int32)) rfl ?_
        refine zw_bret hm_196 dX12_isOld_18 (by decide) ?_
        show ma_wp X d w 214 61 [(0, .inr (.inr (some 94))), (1, .inl l1), (2, .inl l2)] [.inl (0 : Int32), .inl l2, .inr (.inr (some 110))] S _
        refine zw_if0 hm_214 dX12_minor_61 (t := 68) rfl zc0_eq (fun _ => ?_) (fun hc => absurd (by decide) hc)
        refine zw_push hm_214 dX12_minor_68 (v := .inl (0 : Int32)) rfl ?_
        obtain ⟨hg, h⟩ := h
        refine zw_bas22l hm_214 dX12_minor_69 (hx := by decide) (yv := (0 : Int32)) (zT_is hS s_110) (zT_h hS s_110) rfl hg ?_
        refine zw_sto hm_214 dX12_minor_70 [(2, .inl (l2 + (1 : Int32))), (0, .inr (.inr (some 94))), (1, .inl l1)] rfl rfl rfl ?_
        refine zw_goto hm_214 dX12_minor_73 (t := 35) rfl ?_
        exact zw_sub (ma_nd_of (ks := [0, 1, 2]) rfl (by decide)) (ma_nd_of (ks := [2, 0, 1]) rfl (by decide)) (ma_le_cons rfl (ma_le_cons rfl (ma_le_cons rfl (ma_le_nil _)))) (h d w _ Q (by omega) (by omega) (zT_pi hS) rfl HQ)
      · intro hc
        rw [if_neg hc] at h
        refine zw_push hm_196 dX12_isOld_13 (v := .inl (1 : Int32)) rfl ?_
        refine zw_goto hm_196 dX12_isOld_14 (t := 18) rfl ?_
        refine zw_bret hm_196 dX12_isOld_18 (by decide) ?_
        show ma_wp X d w 214 61 [(0, .inr (.inr (some 94))), (1, .inl l1), (2, .inl l2)] [.inl (1 : Int32), .inl l2, .inr (.inr (some 110))] S _
        refine zw_if0 hm_214 dX12_minor_61 (t := 68) rfl zc0_eq (fun hc => absurd hc (by decide)) (fun _ => ?_)
        refine zw_push hm_214 dX12_minor_64 (v := .inl (1 : Int32)) rfl ?_
        refine zw_goto hm_214 dX12_minor_65 (t := 69) rfl ?_
        obtain ⟨hg, h⟩ := h
        refine zw_bas22l hm_214 dX12_minor_69 (hx := by decide) (yv := (1 : Int32)) (zT_is hS s_110) (zT_h hS s_110) rfl hg ?_
        refine zw_sto hm_214 dX12_minor_70 [(2, .inl (l2 + (1 : Int32))), (0, .inr (.inr (some 94))), (1, .inl l1)] rfl rfl rfl ?_
        refine zw_goto hm_214 dX12_minor_73 (t := 35) rfl ?_
        exact zw_sub (ma_nd_of (ks := [0, 1, 2]) rfl (by decide)) (ma_nd_of (ks := [2, 0, 1]) rfl (by decide)) (ma_le_cons rfl (ma_le_cons rfl (ma_le_cons rfl (ma_le_nil _)))) (h d w _ Q (by omega) (by omega) (zT_pi hS) rfl HQ)
theorem g_214_121 {X : Nat × (Nat → Int32)} {m : Nat → Nat → Int32} {P : Option ma_V → (Nat → Nat → Int32) → Prop} (l1 : Int32) (l2 : Int32) (l3 : Int32) (h : if (16 : Int32) ≤ l3 then (zm X 6 129 214 145 [(0, .inr (.inr (some 94))), (1, .inl l1), (2, .inl l2), (3, .inl (0 : Int32))] m P) else ((0 ≤ l3 ∧ l3.toNatClampNeg < 16) ∧ (zm X 2 43 207 0 [(0, .inr (.inr (some 94))), (1, .inl (m 112 l3.toNatClampNeg))] m (zmv (fun m1 => zm X 6 129 214 121 [(0, .inr (.inr (some 94))), (1, .inl l1), (2, .inl l2), (3, .inl (l3 + (1 : Int32)))] m1 P))))) : zm X 6 129 214 121 [(0, .inr (.inr (some 94))), (1, .inl l1), (2, .inl l2), (3, .inl l3)] m P := by
  intro d w S Q hd hw hS hm HQ
  subst hm
  refine zw_push hm_214 dX12_minor_121 (v := .inl l3) rfl ?_
  refine zw_push hm_214 dX12_minor_122 (v := .inl (16 : Int32)) rfl ?_
  refine zw_if2 hm_214 dX12_minor_124 (t := 143) rfl zc2_ge ?_ ?_
  · intro hc
    rw [if_pos hc] at h
    refine zw_push hm_214 dX12_minor_143 (v := .inl (0 : Int32)) rfl ?_
    refine zw_sto hm_214 dX12_minor_144 [(3, .inl (0 : Int32)), (0, .inr (.inr (some 94))), (1, .inl l1), (2, .inl l2)] rfl rfl rfl ?_
    exact zw_sub (ma_nd_of (ks := [0, 1, 2, 3]) rfl (by decide)) (ma_nd_of (ks := [3, 0, 1, 2]) rfl (by decide)) (ma_le_cons rfl (ma_le_cons rfl (ma_le_cons rfl (ma_le_cons rfl (ma_le_nil _))))) (h d w _ Q (by omega) (by omega) hS rfl HQ)
  · intro hc
    rw [if_neg hc] at h
    refine zw_push hm_214 dX12_minor_127 (v := .inr (.inr (some 94))) rfl ?_
    refine zw_push hm_214 dX12_minor_128 (v := .inr (.inr (some 94))) rfl ?_
    refine zw_gf hm_214 dX12_minor_129 (v := .inr (.inr (some 112))) (zT_is hS s_94) (zT_t hS s_94) rfl f_12_68_12 (zT_f hS r_94_51) ?_
    refine zw_push hm_214 dX12_minor_132 (v := .inl l3) rfl ?_
    obtain ⟨hg, h⟩ := h
    refine zw_ia hm_214 dX12_minor_133 (zT_is hS s_112) (zT_h hS s_112) rfl hg ?_
    show ma_wp X d w 214 134 [(0, .inr (.inr (some 94))), (1, .inl l1), (2, .inl l2), (3, .inl l3)] [.inl ((mI S) 112 l3.toNatClampNeg), .inr (.inr (some 94))] S _
    refine zw_cv hm_214 dX12_minor_134 v_12_365_12 hm_207 [.inl ((mI S) 112 l3.toNatClampNeg)] [] rfl (zT_rt hS s_94 rfl) ⟨by omega, by omega⟩ rfl (h _ _ S _ (by omega) (by omega) hS rfl (fun o9 m1 hv => ?_))
    obtain ⟨rfl, h⟩ := zmv_of hv
    show ma_wp X d w 214 137 [(0, .inr (.inr (some 94))), (1, .inl l1), (2, .inl l2), (3, .inl l3)] [] (zst S m1) _
    refine zw_sto hm_214 dX12_minor_137 [(3, .inl (l3 + (1 : Int32))), (0, .inr (.inr (some 94))), (1, .inl l1), (2, .inl l2)] rfl rfl rfl ?_
    refine zw_goto hm_214 dX12_minor_140 (t := 121) rfl ?_
    exact zw_sub (ma_nd_of (ks := [0, 1, 2, 3]) rfl (by decide)) (ma_nd_of (ks := [3, 0, 1, 2]) rfl (by decide)) (ma_le_cons rfl (ma_le_cons rfl (ma_le_cons rfl (ma_le_cons rfl (ma_le_nil _))))) (h d w _ Q (by omega) (by omega) (zT_zst hS m1) rfl HQ)
theorem g_214_145 {X : Nat × (Nat → Int32)} {m : Nat → Nat → Int32} {P : Option ma_V → (Nat → Nat → Int32) → Prop} (l1 : Int32) (l2 : Int32) (l3 : Int32) (h : if (m 94 55) ≤ l3 then (zm X 3 64 216 0 [(0, .inr (.inr (some 94))), (1, .inl l2)] m (zmv (fun m1 => zm X 3 64 208 0 [(0, .inr (.inr (some 94)))] m1 (zmv (fun m3 => zm X 4 86 209 0 [(0, .inr (.inr (some 94))), (1, .inl (1 : Int32))] m3 (zmv (fun m5 => zm X 0 0 199 0 [(0, .inr (.inr (some 94)))] m5 (zmv (fun m7 => zm X 2 44 200 0 [(0, .inr (.inr (some 94)))] (ma_u m7 94 59 (m7 94 77)) (zmi (fun v10 m9 => zm X 2 44 212 0 [(0, .inr (.inr (some 94)))] m9 (zmv (fun m11 => P (some (.inl (l1 + v10))) m11))))))))))))) else ((0 ≤ l3 ∧ l3.toNatClampNeg < 3100) ∧ (zm X 2 43 207 0 [(0, .inr (.inr (some 94))), (1, .inl (m 114 l3.toNatClampNeg))] m (zmv (fun m13 => zm X 6 129 214 145 [(0, .inr (.inr (some 94))), (1, .inl l1), (2, .inl l2), (3, .inl (l3 + (1 : Int32)))] m13 P))))) : zm X 6 129 214 145 [(0, .inr (.inr (some 94))), (1, .inl l1), (2, .inl l2), (3, .inl l3)] m P := by
  intro d w S Q hd hw hS hm HQ
  subst hm
  refine zw_push hm_214 dX12_minor_145 (v := .inl l3) rfl ?_
  refine zw_push hm_214 dX12_minor_146 (v := .inr (.inr (some 94))) rfl ?_
  refine zw_gf hm_214 dX12_minor_147 (v := .inl ((mI S) 94 55)) (zT_is hS s_94) (zT_t hS s_94) rfl f_12_261_12 rfl ?_
  refine zw_if2 hm_214 dX12_minor_150 (t := 169) rfl zc2_ge ?_ ?_
  · intro hc
    rw [if_pos hc] at h
    refine zw_push hm_214 dX12_minor_169 (v := .inr (.inr (some 94))) rfl ?_
    refine zw_push hm_214 dX12_minor_170 (v := .inl l2) rfl ?_
    refine zw_cv hm_214 dX12_minor_171 v_12_387_12 hm_216 [.inl l2] [] rfl (zT_rt hS s_94 rfl) ⟨by omega, by omega⟩ rfl (h _ _ S _ (by omega) (by omega) hS rfl (fun o9 m1 hv => ?_))
    obtain ⟨rfl, h⟩ := zmv_of hv
    show ma_wp X d w 214 174 [(0, .inr (.inr (some 94))), (1, .inl l1), (2, .inl l2), (3, .inl l3)] [] (zst S m1) _
    refine zw_push hm_214 dX12_minor_174 (v := .inr (.inr (some 94))) rfl ?_
    refine zw_cv hm_214 dX12_minor_175 v_12_368_12 hm_208 [] [] rfl (zT_rt (zT_zst hS m1) s_94 rfl) ⟨by omega, by omega⟩ rfl (h _ _ (zst S m1) _ (by omega) (by omega) (zT_zst hS m1) rfl (fun o9 m3 hv => ?_))
    obtain ⟨rfl, h⟩ := zmv_of hv
    show ma_wp X d w 214 178 [(0, .inr (.inr (some 94))), (1, .inl l1), (2, .inl l2), (3, .inl l3)] [] (zst S m3) _
    refine zw_push hm_214 dX12_minor_178 (v := .inr (.inr (some 94))) rfl ?_
    refine zw_push hm_214 dX12_minor_179 (v := .inl (1 : Int32)) rfl ?_
    refine zw_cv hm_214 dX12_minor_180 v_12_371_12 hm_209 [.inl (1 : Int32)] [] rfl (zT_rt (zT_zst hS m3) s_94 rfl) ⟨by omega, by omega⟩ rfl (h _ _ (zst S m3) _ (by omega) (by omega) (zT_zst hS m3) rfl (fun o9 m5 hv => ?_))
    obtain ⟨rfl, h⟩ := zmv_of hv
    show ma_wp X d w 214 183 [(0, .inr (.inr (some 94))), (1, .inl l1), (2, .inl l2), (3, .inl l3)] [] (zst S m5) _
    refine zw_push hm_214 dX12_minor_183 (v := .inr (.inr (some 94))) rfl ?_
    refine zw_cv hm_214 dX12_minor_184 v_12_339_12 hm_199 [] [] rfl (zT_rt (zT_zst hS m5) s_94 rfl) ⟨by omega, by omega⟩ rfl (h _ _ (zst S m5) _ (by omega) (by omega) (zT_zst hS m5) rfl (fun o9 m7 hv => ?_))
    obtain ⟨rfl, h⟩ := zmv_of hv
    show ma_wp X d w 214 187 [(0, .inr (.inr (some 94))), (1, .inl l1), (2, .inl l2), (3, .inl l3)] [] (zst S m7) _
    refine zw_push hm_214 dX12_minor_187 (v := .inr (.inr (some 94))) rfl ?_
    refine zw_push hm_214 dX12_minor_188 (v := .inr (.inr (some 94))) rfl ?_
    refine zw_gf hm_214 dX12_minor_189 (v := .inl (m7 94 77)) (zT_is (zT_zst hS m7) s_94) (zT_t (zT_zst hS m7) s_94) rfl f_12_359_12 rfl ?_
    refine zw_pf hm_214 dX12_minor_192 (zT_is (zT_zst hS m7) s_94) (zT_t (zT_zst hS m7) s_94) p_12_276_12 zk_int ?_
    refine zw_push hm_214 dX12_minor_195 (v := .inl l1) rfl ?_
    refine zw_push hm_214 dX12_minor_196 (v := .inr (.inr (some 94))) rfl ?_
    refine zw_cv hm_214 dX12_minor_197 v_12_342_12 hm_200 [] [.inl l1] rfl (zT_rt (zT_pi (zT_zst hS m7)) s_94 rfl) ⟨by omega, by omega⟩ rfl (h _ _ (ma_put (zst S m7) 94 59 (.inl (m7 94 77))) _ (by omega) (by omega) (zT_pi (zT_zst hS m7)) rfl (fun o9 m9 hv => ?_))
    obtain ⟨v10, rfl, h⟩ := zmi_of hv
    show ma_wp X d w 214 200 [(0, .inr (.inr (some 94))), (1, .inl l1), (2, .inl l2), (3, .inl l3)] [.inl v10, .inl l1] (zst S m9) _
    refine zw_stk hm_214 dX12_minor_200 (st₉ := [.inl (l1 + v10)]) rfl rfl ?_
    refine zw_sto hm_214 dX12_minor_201 [(1, .inl (l1 + v10)), (0, .inr (.inr (some 94))), (2, .inl l2), (3, .inl l3)] rfl rfl rfl ?_
    refine zw_push hm_214 dX12_minor_202 (v := .inr (.inr (some 94))) rfl ?_
    refine zw_cv hm_214 dX12_minor_203 v_12_378_12 hm_212 [] [] rfl (zT_rt (zT_zst hS m9) s_94 rfl) ⟨by omega, by omega⟩ rfl (h _ _ (zst S m9) _ (by omega) (by omega) (zT_zst hS m9) rfl (fun o9 m11 hv => ?_))
    obtain ⟨rfl, h⟩ := zmv_of hv
    show ma_wp X d w 214 206 [(1, .inl (l1 + v10)), (0, .inr (.inr (some 94))), (2, .inl l2), (3, .inl l3)] [] (zst S m11) _
    refine zw_push hm_214 dX12_minor_206 (v := .inl (l1 + v10)) rfl ?_
    exact zw_iret hm_214 dX12_minor_207 (HQ _ _ h)
  · intro hc
    rw [if_neg hc] at h
    refine zw_push hm_214 dX12_minor_153 (v := .inr (.inr (some 94))) rfl ?_
    refine zw_push hm_214 dX12_minor_154 (v := .inr (.inr (some 94))) rfl ?_
    refine zw_gf hm_214 dX12_minor_155 (v := .inr (.inr (some 114))) (zT_is hS s_94) (zT_t hS s_94) rfl f_12_74_12 (zT_f hS r_94_53) ?_
    refine zw_push hm_214 dX12_minor_158 (v := .inl l3) rfl ?_
    obtain ⟨hg, h⟩ := h
    refine zw_ia hm_214 dX12_minor_159 (zT_is hS s_114) (zT_h hS s_114) rfl hg ?_
    show ma_wp X d w 214 160 [(0, .inr (.inr (some 94))), (1, .inl l1), (2, .inl l2), (3, .inl l3)] [.inl ((mI S) 114 l3.toNatClampNeg), .inr (.inr (some 94))] S _
    refine zw_cv hm_214 dX12_minor_160 v_12_365_12 hm_207 [.inl ((mI S) 114 l3.toNatClampNeg)] [] rfl (zT_rt hS s_94 rfl) ⟨by omega, by omega⟩ rfl (h _ _ S _ (by omega) (by omega) hS rfl (fun o9 m13 hv => ?_))
    obtain ⟨rfl, h⟩ := zmv_of hv
    show ma_wp X d w 214 163 [(0, .inr (.inr (some 94))), (1, .inl l1), (2, .inl l2), (3, .inl l3)] [] (zst S m13) _
    refine zw_sto hm_214 dX12_minor_163 [(3, .inl (l3 + (1 : Int32))), (0, .inr (.inr (some 94))), (1, .inl l1), (2, .inl l2)] rfl rfl rfl ?_
    refine zw_goto hm_214 dX12_minor_166 (t := 145) rfl ?_
    exact zw_sub (ma_nd_of (ks := [0, 1, 2, 3]) rfl (by decide)) (ma_nd_of (ks := [3, 0, 1, 2]) rfl (by decide)) (ma_le_cons rfl (ma_le_cons rfl (ma_le_cons rfl (ma_le_cons rfl (ma_le_nil _))))) (h d w _ Q (by omega) (by omega) (zT_zst hS m13) rfl HQ)
set_option maxHeartbeats 8000000 in
theorem lp_214_145 {X : Nat × (Nat → Int32)} {P : Option ma_V → (Nat → Nat → Int32) → Prop} {T : Nat} {m0 : Nat → Nat → Int32} (h0 : zV m0) (K : ∀ v m₉, zF wr_214 m0 m₉ → zV m₉ → (zGW T (m₉ 94 55) (m₉ 109)) → (zGU T (m₉ 94 46) (m₉ 99)) → (zOw (m₉ 99) (m₉ 103) (m₉ 111)) → (zDX (m₉ 94 10) (m₉ 99) (m₉ 112) (m₉ 113) (m₉ 114) (m₉ 94 55) (m₉ 98) (m₉ 101) (m₉ 102) (m₉ 108)) → (zHA (m₉ 94 10) (m₉ 94 11) (m₉ 94 13) (m₉ 94 14) (m₉ 94 16) (m₉ 94 61) (m₉ 94 59) (m₉ 94 60) (m₉ 99) (m₉ 102) (m₉ 103) (m₉ 111) (m₉ 117) (m₉ 98) (m₉ 101) (m₉ 108)) → P (some (.inl v)) m₉) : ∀ (n : Nat) (m : Nat → Nat → Int32) (l1 : Int32) (l2 : Int32) (l3 : Int32), (3100 - l3.toInt).toNat = n → zF wr_214 m0 m → zV m → (0 ≤ l2.toInt) → (0 ≤ l3.toInt) → ((m 94 10).toInt = 3) → (zKS (m 110) (m 94 75)) → (zOw (m 99) (m 103) (m 111)) → (zH2 (m 94 10) (m 94 11) (m 94 61) (m 94 77) (m 99) (m 110) (m 102)) → (zH3 (m 94 10) (m 94 13) (m 94 14) (m 94 15) (m 94 61) (m 94 77) (m 94 60) (m 99) (m 110) (m 104) (m 102) (m 103) (m 111)) → ((m 94 76).toInt ≤ (m 94 75).toInt) → (zKU (m 94 10) (m 99) (m 110)) → (zW (m 94 7) (m 98) (m 101) (m 102) (m 108)) → (zDX (m 94 10) (m 99) (m 112) (m 113) (m 114) (m 94 55) (m 98) (m 101) (m 102) (m 108)) → (4 ≤ (m 94 16).toInt) → (l2.toInt ≤ (m 94 60).toInt) → (zDK l2.toInt (m 94 16).toInt (m 110) (m 99) (m 103) (m 102) (m 98) (m 101) (m 108) (m 117)) → (zCQ (m 110) (m 98) (m 101) (m 102) (m 108) (m 119) (m 94 76) (m 94 75) (zXX (m 99) (m 103) (0 : Int32).toInt l2.toInt) 3100 0) → (zGW T (m 94 55) (m 109)) → (zGU T (m 94 46) (m 99)) → (((m 94 10).toInt = 2 ∨ (m 94 10).toInt = 3) → zcov (m 110) (m 112) 16) → (((m 94 10).toInt = 2 ∨ (m 94 10).toInt = 3) → zcov (m 110) (m 114) l3.toInt) → zm X 6 129 214 145 [(0, .inr (.inr (some 94))), (1, .inl l1), (2, .inl l2), (3, .inl l3)] m P := by
  intro n
  induction n using Nat.strongRecOn with
  | _ n IH =>
    intro m l1 l2 l3 hmu hF hV hi0 hi1 hi2 r_CMK r_OW r_H2 r_H3 hi7 r_KU r_W r_DX hi11 hi12 r_DK r_CQ r_GW r_GU r_COVR r_COVW
    refine g_214_145 l1 l2 l3 ?_
    have f1 : 0 ≤ (m 94 10).toInt ∧ (m 94 10).toInt ≤ 6 := rs_94_10 (m := m) hV
    have f2 : 0 ≤ (m 94 76).toInt ∧ (m 94 76).toInt ≤ 3100 := rs_94_76 (m := m) hV
    have f3 : 0 ≤ (m 94 75).toInt ∧ (m 94 75).toInt ≤ 3100 := rs_94_75 (m := m) hV
    have f4 : 0 ≤ (m 94 16).toInt ∧ (m 94 16).toInt ≤ 64 := rs_94_16 (m := m) hV
    have f5 : 0 ≤ (m 94 60).toInt ∧ (m 94 60).toInt ≤ 1600 := rs_94_60 (m := m) hV
    have f6 : 0 ≤ (m 94 55).toInt ∧ (m 94 55).toInt ≤ 3100 := rs_94_55 (m := m) hV
    have b7 := i_bd l3
    refine zd (fun (h8 : (m 94 55) ≤ l3) => ?_) (fun (h8 : ¬ (m 94 55) ≤ l3) => ?_)
    · skip
      have g9 := i_le h8
      have b10 := i_bd l2
      try have gw := GW_room r_GW
      refine sp_216 (l2) hV (by omega) (show (m 94 10).toInt = 3 from by omega) r_CMK r_OW r_H2 r_H3 (show (m 94 76).toInt ≤ (m 94 75).toInt from by omega) r_KU r_W r_DX (show 4 ≤ (m 94 16).toInt from by omega) (show l2.toInt ≤ (m 94 60).toInt from by omega) r_DK r_CQ (fun m1 hV_m1 p0_m1 p1_m1 p2_m1 p3_m1 p4_m1 p5_m1 p6_m1 p7_m1 => zmv_n ?_)
      have p0_m1 : zKS (m1 110) (m1 94 75) := p0_m1
      have p1_m1 : zOw (m 99) (m1 103) (m1 111) := p1_m1
      have p2_m1 : zH2 (m 94 10) (m 94 11) (m 94 61) (m1 94 77) (m 99) (m1 110) (m 102) := p2_m1
      have p3_m1 : zH3 (m 94 10) (m 94 13) (m 94 14) (m 94 15) (m 94 61) (m1 94 77) (m1 94 60) (m 99) (m1 110) (m1 104) (m 102) (m1 103) (m1 111) := p3_m1
      have p4_m1 : (m 94 76).toInt ≤ (m1 94 75).toInt := p4_m1
      have p5_m1 : zKU (m 94 10) (m 99) (m1 110) := p5_m1
      have p6_m1 : zle (m 110) (m1 110) := p6_m1
      have p7_m1 : zCQ (m1 110) (m 98) (m 101) (m 102) (m 108) (m1 119) (m 94 76) (m1 94 75) (fun _ => False) 3100 0 := p7_m1
      have f11 : 0 ≤ (m1 94 75).toInt ∧ (m1 94 75).toInt ≤ 3100 := rs_94_75 (m := (zov wr_216 m m1)) hV_m1
      try have gw := GW_room r_GW
      refine sp_208 (XX := (fun _ => False))  hV_m1 (show (m 94 10).toInt = 2 ∨ (m 94 10).toInt = 3 from by omega) p0_m1 p1_m1 p2_m1 p3_m1 (show (m 94 76).toInt ≤ (m1 94 75).toInt from by omega) p5_m1 r_W r_DX p7_m1 (fun m3 hV_m3 p0_m3 p1_m3 p2_m3 p3_m3 p4_m3 p5_m3 p6_m3 p7_m3 p8_m3 => zmv_n ?_)
      have p0_m3 : zKS (m3 110) (m3 94 75) := p0_m3
      have p1_m3 : zOw (m 99) (m3 103) (m3 111) := p1_m3
      have p2_m3 : zH2 (m 94 10) (m 94 11) (m 94 61) (m3 94 77) (m 99) (m3 110) (m 102) := p2_m3
      have p3_m3 : zH3 (m 94 10) (m 94 13) (m 94 14) (m 94 15) (m 94 61) (m3 94 77) (m3 94 60) (m 99) (m3 110) (m3 104) (m 102) (m3 103) (m3 111) := p3_m3
      have p4_m3 : (m3 94 76).toInt ≤ (m3 94 75).toInt := p4_m3
      have p5_m3 : zKU (m 94 10) (m 99) (m3 110) := p5_m3
      have p6_m3 : zle (m1 110) (m3 110) := p6_m3
      have p7_m3 : zCQ (m3 110) (m 98) (m 101) (m 102) (m 108) (m3 119) (m3 94 76) (m3 94 75) (fun _ => False) 3100 0 := p7_m3
      have p8_m3 : (m3 94 75).toInt ≤ (m3 94 76).toInt := p8_m3
      have f12 : 0 ≤ (m3 94 76).toInt ∧ (m3 94 76).toInt ≤ 3100 := rs_94_76 (m := (zov wr_208 (zov wr_216 m m1) m3)) hV_m3
      have f13 : 0 ≤ (m3 94 75).toInt ∧ (m3 94 75).toInt ≤ 3100 := rs_94_75 (m := (zov wr_208 (zov wr_216 m m1) m3)) hV_m3
      have li14 : (1 : Int32).toInt = 1 := rfl
      try have gw := GW_room r_GW
      refine sp_209 (XX := (fun _ => False)) ((1 : Int32)) hV_m3 (show (m 94 10).toInt = 2 ∨ (m 94 10).toInt = 3 from by omega) p0_m3 p1_m3 p2_m3 p3_m3 (show (m3 94 76).toInt ≤ (m3 94 75).toInt from by omega) p5_m3 r_W r_DX (show (m3 94 75).toInt ≤ (m3 94 76).toInt from by omega) p7_m3 r_GW (show ((m 94 10).toInt = 2 ∨ (m 94 10).toInt = 3) → zcov (m3 110) (m 112) 16 from by first | (exact fun hp => cov_cut (r_COVR hp) (by omega)) | (exact fun hp => cov_le (cov_le (r_COVR hp) p6_m1 (fun k hk => (ra_112 hV (by omega)).2)) p6_m3 (fun k hk => (ra_112 hV (by omega)).2)) | (exact fun hp => cov_le (cov_le (cov_cut (r_COVR hp) (by omega)) p6_m1 (fun k hk => (ra_112 hV (by omega)).2)) p6_m3 (fun k hk => (ra_112 hV (by omega)).2)) | (exact fun hp => cov_le (r_COVR hp) p6_m3 (fun k hk => (ra_112 hV (by omega)).2)) | (exact fun hp => cov_le (cov_cut (r_COVR hp) (by omega)) p6_m3 (fun k hk => (ra_112 hV (by omega)).2)) | (exact fun hp => cov_0 (by decide)) | (exact fun hp => cov_one (r_COVR hp) rfl (by omega) (by omega) (Or.inl (by omega))) | (exact fun hp => cov_one (r_COVR hp) rfl (by omega) (by omega) (Or.inr (by assumption))) | (exact fun hp => cov_cut (r_COVR hp) (by omega)) | (exact fun hp => cov_le (r_COVR hp) p6_m3 (fun k hk => (ra_112 hV_m3 (by omega)).2)) | (exact fun hp => cov_le (r_COVR hp) p6_m3 (fun k hk => (ra_114 hV_m3 (by have := rs_94_55 hV; omega)).2)) | (exfalso; omega; done) | (exfalso; contradiction; done)) (show ((m 94 10).toInt = 2 ∨ (m 94 10).toInt = 3) → zcov (m3 110) (m 114) (m 94 55).toInt from by first | (exact fun hp => cov_cut (r_COVW hp) (by omega)) | (exact fun hp => cov_le (cov_le (r_COVW hp) p6_m1 (fun k hk => (ra_114 hV (by have := GW_room r_GW; omega)).2)) p6_m3 (fun k hk => (ra_114 hV (by have := GW_room r_GW; omega)).2)) | (exact fun hp => cov_le (cov_le (cov_cut (r_COVW hp) (by omega)) p6_m1 (fun k hk => (ra_114 hV (by have := GW_room r_GW; omega)).2)) p6_m3 (fun k hk => (ra_114 hV (by have := GW_room r_GW; omega)).2)) | (exact fun hp => cov_le (r_COVW hp) p6_m3 (fun k hk => (ra_114 hV (by have := GW_room r_GW; omega)).2)) | (exact fun hp => cov_le (cov_cut (r_COVW hp) (by omega)) p6_m3 (fun k hk => (ra_114 hV (by have := GW_room r_GW; omega)).2)) | (exact fun hp => cov_0 (by decide)) | (exact fun hp => cov_one (r_COVW hp) rfl (by omega) (by omega) (Or.inl (by omega))) | (exact fun hp => cov_one (r_COVW hp) rfl (by omega) (by omega) (Or.inr (by assumption))) | (exact fun hp => cov_cut (r_COVW hp) (by omega)) | (exact fun hp => cov_le (r_COVW hp) p6_m3 (fun k hk => (ra_112 hV_m3 (by omega)).2)) | (exact fun hp => cov_le (r_COVW hp) p6_m3 (fun k hk => (ra_114 hV_m3 (by have := rs_94_55 hV; omega)).2)) | (exfalso; omega; done) | (exfalso; contradiction; done)) (fun m5 hV_m5 p0_m5 p1_m5 p2_m5 p3_m5 p4_m5 p5_m5 p6_m5 p7_m5 p8_m5 p9_m5 p10_m5 p11_m5 p12_m5 => zmv_n ?_)
      have p0_m5 : zKS (m5 110) (m5 94 75) := p0_m5
      have p1_m5 : zOw (m 99) (m5 103) (m5 111) := p1_m5
      have p2_m5 : zH2 (m 94 10) (m 94 11) (m 94 61) (m5 94 77) (m 99) (m5 110) (m 102) := p2_m5
      have p3_m5 : zH3 (m 94 10) (m 94 13) (m 94 14) (m 94 15) (m 94 61) (m5 94 77) (m5 94 60) (m 99) (m5 110) (m5 104) (m 102) (m5 103) (m5 111) := p3_m5
      have p4_m5 : (m5 94 76).toInt ≤ (m5 94 75).toInt := p4_m5
      have p5_m5 : zKU (m 94 10) (m 99) (m5 110) := p5_m5
      have p6_m5 : zDX (m 94 10) (m 99) (m 112) (m5 113) (m5 114) (m5 94 55) (m 98) (m 101) (m 102) (m 108) := p6_m5
      have p7_m5 : (m5 94 75).toInt ≤ (m5 94 76).toInt := p7_m5
      have p8_m5 : zCQ (m5 110) (m 98) (m 101) (m 102) (m 108) (m5 119) (m5 94 76) (m5 94 75) (fun _ => False) 3100 0 := p8_m5
      have p9_m5 : zGW T (m5 94 55) (m5 109) := p9_m5
      have p10_m5 : ((m 94 10).toInt = 2 ∨ (m 94 10).toInt = 3) → zcov (m5 110) (m 112) 16 := p10_m5
      have p11_m5 : ((m 94 10).toInt = 2 ∨ (m 94 10).toInt = 3) → zcov (m5 110) (m5 114) (m5 94 55).toInt := p11_m5
      have p12_m5 : zuw (m 113) (m5 113) := p12_m5
      have f15 : 0 ≤ (m5 94 76).toInt ∧ (m5 94 76).toInt ≤ 3100 := rs_94_76 (m := (zov wr_209 (zov wr_208 (zov wr_216 m m1) m3) m5)) hV_m5
      have f16 : 0 ≤ (m5 94 75).toInt ∧ (m5 94 75).toInt ≤ 3100 := rs_94_75 (m := (zov wr_209 (zov wr_208 (zov wr_216 m m1) m3) m5)) hV_m5
      try have gw := GW_room p9_m5
      refine sp_199  hV_m5  (fun m7 hV_m7 p0_m7 p1_m7 => zmv_n ?_)
      have p0_m7 : zuw (m5 113) (m7 113) := p0_m7
      have p1_m7 : zcov (m5 110) (m7 113) 16 := p1_m7
      have f18 : 0 ≤ (m5 94 77).toInt ∧ (m5 94 77).toInt ≤ 4600 := rs_94_77 (m := (zov wr_209 (zov wr_208 (zov wr_216 m m1) m3) m5)) hV_m5
      have hV17 : zV (ma_u (zov wr_199 (zov wr_209 (zov wr_208 (zov wr_216 m m1) m3) m5) m7) 94 59 (m5 94 77)) := us_94_59 hV_m7 (by omega) (by omega)
      try have gw := GW_room p9_m5
      refine sp_200  hV17 r_W r_GU p1_m5 (fun v10 m9 hV_m9 p0_m9 p1_m9 p2_m9 p3_m9 => zmi_n ?_)
      have p0_m9 : zrm (m 99) (m9 99) (m5 110) 3100 := p0_m9
      have p1_m9 : zowr (m5 111) (m9 111) (m 99) (m5 110) (m5 103) := p1_m9
      have p2_m9 : zGU T (m 94 46) (m9 99) := p2_m9
      have p3_m9 : zOw (m9 99) (m5 103) (m9 111) := p3_m9
      try have gw := GW_room p9_m5
      refine sp_212  hV_m9 r_W (show 4 ≤ (m 94 16).toInt from by omega) (fun m11 hV_m11 p0_m11 => zmv_n ?_)
      have p0_m11 : zDC (m 94 14).toInt (m 94 16).toInt (m9 99) (m5 103) (m 102) (m 98) (m 101) (m 108) (m11 117) := p0_m11
      try have gw := GW_room p9_m5
      have b19 := i_bd l1
      have b20 := i_bd v10
      first | have e21 : (l1 + v10).toInt = l1.toInt + v10.toInt := i_add (by omega) (by omega) | have b22 := i_bd (l1 + v10)
      exact K ((l1 + v10)) _ (zF_zov (zF_zov (zF_u (zF_zov (zF_zov (zF_zov (zF_zov hF ws_216_214) ws_208_214) ws_209_214) ws_199_214) rfl) ws_200_214) ws_212_214) hV_m11 p9_m5 p2_m9 p3_m9 (show zDX (m 94 10) (m9 99) (m 112) (m7 113) (m5 114) (m5 94 55) (m 98) (m 101) (m 102) (m 108) from by first | (exact DX_come p8_m5 (by omega) (p10_m5 (by omega)) (p11_m5 (by omega)) p1_m7 p5_m5 p0_m9 (fun k hk => (ra_112 hV_m11 (by omega)).2) (fun k hk => (ra_114 hV_m11 (by have := GW_room p9_m5; omega)).2) (fun k hk => (ra_113 hV_m11 (by omega)).2) (W_hi r_W)) | (exfalso; omega; done) | (exfalso; contradiction; done)) (show zHA (m 94 10) (m 94 11) (m 94 13) (m 94 14) (m 94 16) (m 94 61) (m5 94 77) (m5 94 60) (m9 99) (m 102) (m5 103) (m9 111) (m11 117) (m 98) (m 101) (m 108) from by first | (exact HA_minor (by omega) (by omega) (p3_m5 (by omega)) p0_m9 p1_m9 p0_m11 (fun t ht => ⟨(ra_103 hV_m11 ht).1, Int.lt_of_le_of_lt (ra_103 hV_m11 ht).2 (by decide)⟩) (fun t ht => (ra_102 hV_m11 ht).1)) | (exfalso; omega; done) | (exfalso; contradiction; done))
    · skip
      have g23 := i_nle h8
      have hg24 : (0 ≤ l3 ∧ l3.toNatClampNeg < 3100) := i_ix (by omega) (by omega)
      refine ⟨hg24, ?_⟩
      first | have f25 : 0 ≤ (m 114 l3.toNatClampNeg).toInt ∧ (m 114 l3.toNatClampNeg).toInt ≤ 3099 := ra_114 (m := m) hV (k := l3.toNatClampNeg) (i_ix (n := 3100) (by omega) (by omega)).2 | have b26 := i_bd (m 114 l3.toNatClampNeg)
      try have gw := GW_room r_GW
      refine sp_207 (XX := (zXX (m 99) (m 103) (0 : Int32).toInt l2.toInt)) (CU := 3100) (II := 0) ((m 114 l3.toNatClampNeg)) hV (by omega) (by omega) (show (m 94 10).toInt = 2 ∨ (m 94 10).toInt = 3 from by omega) (show (m 114 l3.toNatClampNeg).toInt < 0 ∨ (m 99) (m 114 l3.toNatClampNeg).toNatClampNeg ≠ 0 from by first | (exact ((r_DX (by omega)).2.2.1 l3.toNatClampNeg (by rw [tn_cast (by omega)]; omega))) | (exfalso; omega; done) | (exfalso; contradiction; done)) r_CMK r_OW r_H2 r_H3 (show (m 94 76).toInt ≤ (m 94 75).toInt from by omega) r_CQ r_KU (fun m13 hV_m13 p0_m13 p1_m13 p2_m13 p3_m13 p4_m13 p5_m13 p6_m13 p7_m13 p8_m13 p9_m13 p10_m13 => zmv_n ?_)
      have p0_m13 : zKS (m13 110) (m13 94 75) := p0_m13
      have p1_m13 : zOw (m 99) (m13 103) (m13 111) := p1_m13
      have p2_m13 : zH2 (m 94 10) (m 94 11) (m 94 61) (m13 94 77) (m 99) (m13 110) (m 102) := p2_m13
      have p3_m13 : zH3 (m 94 10) (m 94 13) (m 94 14) (m 94 15) (m 94 61) (m13 94 77) (m13 94 60) (m 99) (m13 110) (m13 104) (m 102) (m13 103) (m13 111) := p3_m13
      have p4_m13 : (m 114 l3.toNatClampNeg).toInt < 0 ∨ (m13 110) (m 114 l3.toNatClampNeg).toNatClampNeg ≠ 0 := p4_m13
      have p5_m13 : zle (m 110) (m13 110) := p5_m13
      have p6_m13 : (m 94 76).toInt ≤ (m13 94 75).toInt := p6_m13
      have p7_m13 : zCQ (m13 110) (m 98) (m 101) (m 102) (m 108) (m13 119) (m 94 76) (m13 94 75) (zXX (m 99) (m 103) (0 : Int32).toInt l2.toInt) 3100 0 := p7_m13
      have p8_m13 : zKU (m 94 10) (m 99) (m13 110) := p8_m13
      have p9_m13 : (m 94 10).toInt = 3 → zax (m 103) (m13 103) (m 94 60).toInt := p9_m13
      have p10_m13 : (m 94 60).toInt ≤ (m13 94 60).toInt := p10_m13
      have f27 : 0 ≤ (m13 94 75).toInt ∧ (m13 94 75).toInt ≤ 3100 := rs_94_75 (m := (zov wr_207 m m13)) hV_m13
      have f28 : 0 ≤ (m13 94 60).toInt ∧ (m13 94 60).toInt ≤ 1600 := rs_94_60 (m := (zov wr_207 m m13)) hV_m13
      try have axs := ax_at (p9_m13 (by omega)) (s := l3.toNatClampNeg) (p := l2.toInt) (by omega) (by omega) (by omega)
      try have gw := GW_room r_GW
      have b29 := i_bd l1
      have b30 := i_bd l2
      first | have e31 : (l3 + (1 : Int32)).toInt = l3.toInt + (1) := i_addk rfl (by omega) (by omega) | have b32 := i_bd (l3 + (1 : Int32))
      exact IH (3100 - (l3 + (1 : Int32)).toInt).toNat (by omega) _ (l1) (l2) ((l3 + (1 : Int32))) rfl (zF_zov hF ws_207_214) hV_m13 (by omega) (by omega) (show (m 94 10).toInt = 3 from by omega) p0_m13 p1_m13 p2_m13 p3_m13 (show (m 94 76).toInt ≤ (m13 94 75).toInt from by omega) p8_m13 r_W r_DX (show 4 ≤ (m 94 16).toInt from by omega) (show l2.toInt ≤ (m13 94 60).toInt from by omega) (show zDK l2.toInt (m 94 16).toInt (m13 110) (m 99) (m13 103) (m 102) (m 98) (m 101) (m 108) (m 117) from by first | (exact DK_ax r_DK p5_m13 (p9_m13 (by omega)) (by omega) (W_hi r_W)) | (exfalso; omega; done) | (exfalso; contradiction; done)) (show zCQ (m13 110) (m 98) (m 101) (m 102) (m 108) (m13 119) (m 94 76) (m13 94 75) (zXX (m 99) (m13 103) (0 : Int32).toInt l2.toInt) 3100 0 from by first | (exact CQ_ax p7_m13 (p9_m13 (by omega)) (by omega)) | (exfalso; omega; done) | (exfalso; contradiction; done)) r_GW r_GU (show ((m 94 10).toInt = 2 ∨ (m 94 10).toInt = 3) → zcov (m13 110) (m 112) 16 from by first | (exact fun hp => cov_one (cov_le (r_COVR hp) p5_m13 (fun k hk => (ra_112 hV (by omega)).2)) rfl (by omega) (by omega) p4_m13) | (exact fun hp => cov_le (r_COVR hp) p5_m13 (fun k hk => (ra_112 hV (by omega)).2)) | (exact fun hp => cov_cut (r_COVR hp) (by omega)) | (exact fun hp => cov_0 (by decide)) | (exact fun hp => cov_one (r_COVR hp) rfl (by omega) (by omega) (Or.inl (by omega))) | (exact fun hp => cov_one (r_COVR hp) rfl (by omega) (by omega) (Or.inr (by assumption))) | (exact fun hp => cov_cut (r_COVR hp) (by omega)) | (exfalso; omega; done) | (exfalso; contradiction; done)) (show ((m 94 10).toInt = 2 ∨ (m 94 10).toInt = 3) → zcov (m13 110) (m 114) (l3 + (1 : Int32)).toInt from by first | (exact fun hp => cov_one (cov_le (r_COVW hp) p5_m13 (fun k hk => (ra_114 hV (by have := GW_room r_GW; omega)).2)) rfl (by omega) (by omega) p4_m13) | (exact fun hp => cov_le (r_COVW hp) p5_m13 (fun k hk => (ra_114 hV (by have := GW_room r_GW; omega)).2)) | (exact fun hp => cov_cut (r_COVW hp) (by omega)) | (exact fun hp => cov_0 (by decide)) | (exact fun hp => cov_one (r_COVW hp) rfl (by omega) (by omega) (Or.inl (by omega))) | (exact fun hp => cov_one (r_COVW hp) rfl (by omega) (by omega) (Or.inr (by assumption))) | (exact fun hp => cov_cut (r_COVW hp) (by omega)) | (exfalso; omega; done) | (exfalso; contradiction; done))
set_option maxHeartbeats 8000000 in
theorem lp_214_121 {X : Nat × (Nat → Int32)} {P : Option ma_V → (Nat → Nat → Int32) → Prop} {T : Nat} {m0 : Nat → Nat → Int32} (h0 : zV m0) (K : ∀ v m₉, zF wr_214 m0 m₉ → zV m₉ → (zGW T (m₉ 94 55) (m₉ 109)) → (zGU T (m₉ 94 46) (m₉ 99)) → (zOw (m₉ 99) (m₉ 103) (m₉ 111)) → (zDX (m₉ 94 10) (m₉ 99) (m₉ 112) (m₉ 113) (m₉ 114) (m₉ 94 55) (m₉ 98) (m₉ 101) (m₉ 102) (m₉ 108)) → (zHA (m₉ 94 10) (m₉ 94 11) (m₉ 94 13) (m₉ 94 14) (m₉ 94 16) (m₉ 94 61) (m₉ 94 59) (m₉ 94 60) (m₉ 99) (m₉ 102) (m₉ 103) (m₉ 111) (m₉ 117) (m₉ 98) (m₉ 101) (m₉ 108)) → P (some (.inl v)) m₉) : ∀ (n : Nat) (m : Nat → Nat → Int32) (l1 : Int32) (l2 : Int32) (l3 : Int32), (16 - l3.toInt).toNat = n → zF wr_214 m0 m → zV m → (0 ≤ l2.toInt) → (0 ≤ l3.toInt) → ((m 94 10).toInt = 3) → (zKS (m 110) (m 94 75)) → (zOw (m 99) (m 103) (m 111)) → (zH2 (m 94 10) (m 94 11) (m 94 61) (m 94 77) (m 99) (m 110) (m 102)) → (zH3 (m 94 10) (m 94 13) (m 94 14) (m 94 15) (m 94 61) (m 94 77) (m 94 60) (m 99) (m 110) (m 104) (m 102) (m 103) (m 111)) → ((m 94 76).toInt ≤ (m 94 75).toInt) → (zKU (m 94 10) (m 99) (m 110)) → (zW (m 94 7) (m 98) (m 101) (m 102) (m 108)) → (zDX (m 94 10) (m 99) (m 112) (m 113) (m 114) (m 94 55) (m 98) (m 101) (m 102) (m 108)) → (4 ≤ (m 94 16).toInt) → (l2.toInt ≤ (m 94 60).toInt) → (zDK l2.toInt (m 94 16).toInt (m 110) (m 99) (m 103) (m 102) (m 98) (m 101) (m 108) (m 117)) → (zCQ (m 110) (m 98) (m 101) (m 102) (m 108) (m 119) (m 94 76) (m 94 75) (zXX (m 99) (m 103) (0 : Int32).toInt l2.toInt) 3100 0) → (zGW T (m 94 55) (m 109)) → (zGU T (m 94 46) (m 99)) → (((m 94 10).toInt = 2 ∨ (m 94 10).toInt = 3) → zcov (m 110) (m 112) l3.toInt) → zm X 6 129 214 121 [(0, .inr (.inr (some 94))), (1, .inl l1), (2, .inl l2), (3, .inl l3)] m P := by
  intro n
  induction n using Nat.strongRecOn with
  | _ n IH =>
    intro m l1 l2 l3 hmu hF hV hi0 hi1 hi2 r_CMK r_OW r_H2 r_H3 hi7 r_KU r_W r_DX hi11 hi12 r_DK r_CQ r_GW r_GU r_COVR
    refine g_214_121 l1 l2 l3 ?_
    have f1 : 0 ≤ (m 94 10).toInt ∧ (m 94 10).toInt ≤ 6 := rs_94_10 (m := m) hV
    have f2 : 0 ≤ (m 94 76).toInt ∧ (m 94 76).toInt ≤ 3100 := rs_94_76 (m := m) hV
    have f3 : 0 ≤ (m 94 75).toInt ∧ (m 94 75).toInt ≤ 3100 := rs_94_75 (m := m) hV
    have f4 : 0 ≤ (m 94 16).toInt ∧ (m 94 16).toInt ≤ 64 := rs_94_16 (m := m) hV
    have f5 : 0 ≤ (m 94 60).toInt ∧ (m 94 60).toInt ≤ 1600 := rs_94_60 (m := m) hV
    have li6 : (16 : Int32).toInt = 16 := rfl
    have b7 := i_bd l3
    refine zd (fun (h8 : (16 : Int32) ≤ l3) => ?_) (fun (h8 : ¬ (16 : Int32) ≤ l3) => ?_)
    · skip
      have g9 := i_le h8
      try have gw := GW_room r_GW
      have b10 := i_bd l1
      have b11 := i_bd l2
      have li12 : (0 : Int32).toInt = 0 := rfl
      exact lp_214_145 h0 K _ _ (l1) (l2) ((0 : Int32)) rfl hF hV (by omega) (by omega) (show (m 94 10).toInt = 3 from by omega) r_CMK r_OW r_H2 r_H3 (show (m 94 76).toInt ≤ (m 94 75).toInt from by omega) r_KU r_W r_DX (show 4 ≤ (m 94 16).toInt from by omega) (show l2.toInt ≤ (m 94 60).toInt from by omega) r_DK r_CQ r_GW r_GU (show ((m 94 10).toInt = 2 ∨ (m 94 10).toInt = 3) → zcov (m 110) (m 112) 16 from by first | (exact fun hp => cov_cut (r_COVR hp) (by omega)) | (exact fun hp => cov_0 (by decide)) | (exact fun hp => cov_one (r_COVR hp) rfl (by omega) (by omega) (Or.inl (by omega))) | (exact fun hp => cov_one (r_COVR hp) rfl (by omega) (by omega) (Or.inr (by assumption))) | (exact fun hp => cov_cut (r_COVR hp) (by omega)) | (exfalso; omega; done) | (exfalso; contradiction; done)) (show ((m 94 10).toInt = 2 ∨ (m 94 10).toInt = 3) → zcov (m 110) (m 114) (0 : Int32).toInt from by first | (exact fun hp => cov_0 (by decide)) | (exact fun hp => cov_0 (by decide)) | (exfalso; omega; done) | (exfalso; contradiction; done))
    · skip
      have g13 := i_nle h8
      have hg14 : (0 ≤ l3 ∧ l3.toNatClampNeg < 16) := i_ix (by omega) (by omega)
      refine ⟨hg14, ?_⟩
      first | have f15 : -1 ≤ (m 112 l3.toNatClampNeg).toInt ∧ (m 112 l3.toNatClampNeg).toInt ≤ 3099 := ra_112 (m := m) hV (k := l3.toNatClampNeg) (i_ix (n := 16) (by omega) (by omega)).2 | have b16 := i_bd (m 112 l3.toNatClampNeg)
      try have gw := GW_room r_GW
      refine sp_207 (XX := (zXX (m 99) (m 103) (0 : Int32).toInt l2.toInt)) (CU := 3100) (II := 0) ((m 112 l3.toNatClampNeg)) hV (by omega) (by omega) (show (m 94 10).toInt = 2 ∨ (m 94 10).toInt = 3 from by omega) (show (m 112 l3.toNatClampNeg).toInt < 0 ∨ (m 99) (m 112 l3.toNatClampNeg).toNatClampNeg ≠ 0 from by first | (exact ((r_DX (by omega)).1 l3.toNatClampNeg (by rw [tn_cast (by omega)]; omega))) | (exfalso; omega; done) | (exfalso; contradiction; done)) r_CMK r_OW r_H2 r_H3 (show (m 94 76).toInt ≤ (m 94 75).toInt from by omega) r_CQ r_KU (fun m1 hV_m1 p0_m1 p1_m1 p2_m1 p3_m1 p4_m1 p5_m1 p6_m1 p7_m1 p8_m1 p9_m1 p10_m1 => zmv_n ?_)
      have p0_m1 : zKS (m1 110) (m1 94 75) := p0_m1
      have p1_m1 : zOw (m 99) (m1 103) (m1 111) := p1_m1
      have p2_m1 : zH2 (m 94 10) (m 94 11) (m 94 61) (m1 94 77) (m 99) (m1 110) (m 102) := p2_m1
      have p3_m1 : zH3 (m 94 10) (m 94 13) (m 94 14) (m 94 15) (m 94 61) (m1 94 77) (m1 94 60) (m 99) (m1 110) (m1 104) (m 102) (m1 103) (m1 111) := p3_m1
      have p4_m1 : (m 112 l3.toNatClampNeg).toInt < 0 ∨ (m1 110) (m 112 l3.toNatClampNeg).toNatClampNeg ≠ 0 := p4_m1
      have p5_m1 : zle (m 110) (m1 110) := p5_m1
      have p6_m1 : (m 94 76).toInt ≤ (m1 94 75).toInt := p6_m1
      have p7_m1 : zCQ (m1 110) (m 98) (m 101) (m 102) (m 108) (m1 119) (m 94 76) (m1 94 75) (zXX (m 99) (m 103) (0 : Int32).toInt l2.toInt) 3100 0 := p7_m1
      have p8_m1 : zKU (m 94 10) (m 99) (m1 110) := p8_m1
      have p9_m1 : (m 94 10).toInt = 3 → zax (m 103) (m1 103) (m 94 60).toInt := p9_m1
      have p10_m1 : (m 94 60).toInt ≤ (m1 94 60).toInt := p10_m1
      have f17 : 0 ≤ (m1 94 75).toInt ∧ (m1 94 75).toInt ≤ 3100 := rs_94_75 (m := (zov wr_207 m m1)) hV_m1
      have f18 : 0 ≤ (m1 94 60).toInt ∧ (m1 94 60).toInt ≤ 1600 := rs_94_60 (m := (zov wr_207 m m1)) hV_m1
      try have axs := ax_at (p9_m1 (by omega)) (s := l3.toNatClampNeg) (p := l2.toInt) (by omega) (by omega) (by omega)
      try have gw := GW_room r_GW
      have b19 := i_bd l1
      have b20 := i_bd l2
      first | have e21 : (l3 + (1 : Int32)).toInt = l3.toInt + (1) := i_addk rfl (by omega) (by omega) | have b22 := i_bd (l3 + (1 : Int32))
      exact IH (16 - (l3 + (1 : Int32)).toInt).toNat (by omega) _ (l1) (l2) ((l3 + (1 : Int32))) rfl (zF_zov hF ws_207_214) hV_m1 (by omega) (by omega) (show (m 94 10).toInt = 3 from by omega) p0_m1 p1_m1 p2_m1 p3_m1 (show (m 94 76).toInt ≤ (m1 94 75).toInt from by omega) p8_m1 r_W r_DX (show 4 ≤ (m 94 16).toInt from by omega) (show l2.toInt ≤ (m1 94 60).toInt from by omega) (show zDK l2.toInt (m 94 16).toInt (m1 110) (m 99) (m1 103) (m 102) (m 98) (m 101) (m 108) (m 117) from by first | (exact DK_ax r_DK p5_m1 (p9_m1 (by omega)) (by omega) (W_hi r_W)) | (exfalso; omega; done) | (exfalso; contradiction; done)) (show zCQ (m1 110) (m 98) (m 101) (m 102) (m 108) (m1 119) (m 94 76) (m1 94 75) (zXX (m 99) (m1 103) (0 : Int32).toInt l2.toInt) 3100 0 from by first | (exact CQ_ax p7_m1 (p9_m1 (by omega)) (by omega)) | (exfalso; omega; done) | (exfalso; contradiction; done)) r_GW r_GU (show ((m 94 10).toInt = 2 ∨ (m 94 10).toInt = 3) → zcov (m1 110) (m 112) (l3 + (1 : Int32)).toInt from by first | (exact fun hp => cov_one (cov_le (r_COVR hp) p5_m1 (fun k hk => (ra_112 hV (by omega)).2)) rfl (by omega) (by omega) p4_m1) | (exact fun hp => cov_le (r_COVR hp) p5_m1 (fun k hk => (ra_112 hV (by omega)).2)) | (exact fun hp => cov_cut (r_COVR hp) (by omega)) | (exact fun hp => cov_0 (by decide)) | (exact fun hp => cov_one (r_COVR hp) rfl (by omega) (by omega) (Or.inl (by omega))) | (exact fun hp => cov_one (r_COVR hp) rfl (by omega) (by omega) (Or.inr (by assumption))) | (exact fun hp => cov_cut (r_COVR hp) (by omega)) | (exfalso; omega; done) | (exfalso; contradiction; done))
set_option maxHeartbeats 8000000 in
theorem lp_214_35 {X : Nat × (Nat → Int32)} {P : Option ma_V → (Nat → Nat → Int32) → Prop} {T : Nat} {m0 : Nat → Nat → Int32} (h0 : zV m0) (K : ∀ v m₉, zF wr_214 m0 m₉ → zV m₉ → (zGW T (m₉ 94 55) (m₉ 109)) → (zGU T (m₉ 94 46) (m₉ 99)) → (zOw (m₉ 99) (m₉ 103) (m₉ 111)) → (zDX (m₉ 94 10) (m₉ 99) (m₉ 112) (m₉ 113) (m₉ 114) (m₉ 94 55) (m₉ 98) (m₉ 101) (m₉ 102) (m₉ 108)) → (zHA (m₉ 94 10) (m₉ 94 11) (m₉ 94 13) (m₉ 94 14) (m₉ 94 16) (m₉ 94 61) (m₉ 94 59) (m₉ 94 60) (m₉ 99) (m₉ 102) (m₉ 103) (m₉ 111) (m₉ 117) (m₉ 98) (m₉ 101) (m₉ 108)) → P (some (.inl v)) m₉) : ∀ (n : Nat) (m : Nat → Nat → Int32) (l1 : Int32) (l2 : Int32), (3100 - l2.toInt).toNat = n → zF wr_214 m0 m → zV m → (0 ≤ l2.toInt) → (zW (m 94 7) (m 98) (m 101) (m 102) (m 108)) → (zGW T (m 94 55) (m 109)) → (zGU T (m 94 46) (m 99)) → (zOw (m 99) (m 103) (m 111)) → (zDX (m 94 10) (m 99) (m 112) (m 113) (m 114) (m 94 55) (m 98) (m 101) (m 102) (m 108)) → (zHA (m 94 10) (m 94 11) (m 94 13) (m 94 14) (m 94 16) (m 94 61) (m 94 59) (m 94 60) (m 99) (m 102) (m 103) (m 111) (m 117) (m 98) (m 101) (m 108)) → ((m 94 10).toInt = 3) → ((m 94 60).toInt + sm (zbG (m 99) (m 103) (m 94 14) (m 104) (m 94 15)) (m 102) 3100 ≤ (m 94 14).toInt) → (∀ s : Nat, (s : Int) < l2.toInt → ((m 110) s ≠ 0 ↔ (m 99) s ≠ 0 ∧ ((m 103) s).toInt < (m 94 14).toInt)) → zm X 6 129 214 35 [(0, .inr (.inr (some 94))), (1, .inl l1), (2, .inl l2)] m P := by
  intro n
  induction n using Nat.strongRecOn with
  | _ n IH =>
    intro m l1 l2 hmu hF hV hi0 r_W r_GW r_GU r_OW r_DX r_HA hi7 r_OF3 r_KOl
    refine g_214_35 l1 l2 ?_
    have f1 : 0 ≤ (m 94 10).toInt ∧ (m 94 10).toInt ≤ 6 := rs_94_10 (m := m) hV
    have li2 : (3100 : Int32).toInt = 3100 := rfl
    have b3 := i_bd l2
    refine zd (fun (h4 : (3100 : Int32) ≤ l2) => ?_) (fun (h4 : ¬ (3100 : Int32) ≤ l2) => ?_)
    · skip
      have g5 := i_le h4
      try have gw := GW_room r_GW
      try have hc4 := (r_HA.2 (by omega)).1
      have li7 : (0 : Int32).toInt = 0 := rfl
      have hV6 : zV (ma_u m 94 75 (0 : Int32)) := us_94_75 hV (by omega) (by omega)
      have hV8 : zV (ma_u (ma_u m 94 75 (0 : Int32)) 94 76 (0 : Int32)) := us_94_76 hV6 (by omega) (by omega)
      have li10 : (1 : Int32).toInt = 1 := rfl
      have f11 : 0 ≤ (m 94 61).toInt ∧ (m 94 61).toInt ≤ 1 := rs_94_61 (m := m) hV
      first | have e12 : ((1 : Int32) - (m 94 61)).toInt = (1 : Int32).toInt - (m 94 61).toInt := i_sub (by omega) (by omega) | have b13 := i_bd ((1 : Int32) - (m 94 61))
      have hV9 : zV (ma_u (ma_u (ma_u m 94 75 (0 : Int32)) 94 76 (0 : Int32)) 94 61 ((1 : Int32) - (m 94 61))) := us_94_61 hV8 (by omega) (by omega)
      have f15 : 0 ≤ (m 94 14).toInt ∧ (m 94 14).toInt ≤ 1500 := rs_94_14 (m := m) hV
      have f16 : 0 ≤ (m 94 13).toInt ∧ (m 94 13).toInt ≤ 1500 := rs_94_13 (m := m) hV
      first | have f17 := i_mul01 (x := ((1 : Int32) - (m 94 61))) (y := (m 94 13)) (by omega) (by omega) (by omega) (by omega) | have b18 := i_bd (((1 : Int32) - (m 94 61)) * (m 94 13))
      first | have e19 : ((m 94 14) + (((1 : Int32) - (m 94 61)) * (m 94 13))).toInt = (m 94 14).toInt + (((1 : Int32) - (m 94 61)) * (m 94 13)).toInt := i_add (by omega) (by omega) | have b20 := i_bd ((m 94 14) + (((1 : Int32) - (m 94 61)) * (m 94 13)))
      have hV14 : zV (ma_u (ma_u (ma_u (ma_u m 94 75 (0 : Int32)) 94 76 (0 : Int32)) 94 61 ((1 : Int32) - (m 94 61))) 94 77 ((m 94 14) + (((1 : Int32) - (m 94 61)) * (m 94 13)))) := us_94_77 hV9 (by omega) (by omega)
      have b21 := i_bd l1
      have f22 : 0 ≤ (m 94 60).toInt ∧ (m 94 60).toInt ≤ 1600 := rs_94_60 (m := m) hV
      have f23 : 0 ≤ (m 94 16).toInt ∧ (m 94 16).toInt ≤ 64 := rs_94_16 (m := m) hV
      exact lp_214_121 h0 K _ _ (l1) ((m 94 60)) ((0 : Int32)) rfl (zF_u (zF_u (zF_u (zF_u hF rfl) rfl) rfl) rfl) hV14 (by omega) (by omega) (show (m 94 10).toInt = 3 from by omega) (show zKS (m 110) (0 : Int32) from by first | (exact KS_0 (by omega)) | (exfalso; omega; done) | (exfalso; contradiction; done)) r_OW (show zH2 (m 94 10) (m 94 11) ((1 : Int32) - (m 94 61)) ((m 94 14) + (((1 : Int32) - (m 94 61)) * (m 94 13))) (m 99) (m 110) (m 102) from by first | (exact fun hp => absurd hp (by omega)) | (exfalso; omega; done) | (exfalso; contradiction; done)) (show zH3 (m 94 10) (m 94 13) (m 94 14) (m 94 15) ((1 : Int32) - (m 94 61)) ((m 94 14) + (((1 : Int32) - (m 94 61)) * (m 94 13))) (m 94 60) (m 99) (m 110) (m 104) (m 102) (m 103) (m 111) from by first | (exact fun _ => H3_0 r_HA (by omega) (fun s hs => r_KOl s (by omega)) r_OF3 ((i_add (by omega) (by omega)).trans (mul_B3 (by omega) (by omega) (by omega) (by omega))) (fun t ht => (ra_102 hV14 ht).1)) | (exfalso; omega; done) | (exfalso; contradiction; done)) (show (0 : Int32).toInt ≤ (0 : Int32).toInt from by omega) (show zKU (m 94 10) (m 99) (m 110) from by first | (exact KU_ko (fun s hs => r_KOl s (by omega))) | (exfalso; omega; done) | (exfalso; contradiction; done)) r_W r_DX (show 4 ≤ (m 94 16).toInt from by omega) (show (m 94 60).toInt ≤ (m 94 60).toInt from by omega) (show zDK (m 94 60).toInt (m 94 16).toInt (m 110) (m 99) (m 103) (m 102) (m 98) (m 101) (m 108) (m 117) from by first | (exact DK_ko r_HA (by omega) r_DX (fun s hs => r_KOl s (by omega)) (W_hi r_W)) | (exfalso; omega; done) | (exfalso; contradiction; done)) (show zCQ (m 110) (m 98) (m 101) (m 102) (m 108) (m 119) (0 : Int32) (0 : Int32) (zXX (m 99) (m 103) (0 : Int32).toInt (m 94 60).toInt) 3100 0 from by first | (exact CQ_ko r_HA (by omega) (fun s hs => r_KOl s (by omega)) (by omega) (fun t ht => (ra_103 hV14 ht).1) (fun t ht => (ra_102 hV14 ht).1)) | (exfalso; omega; done) | (exfalso; contradiction; done)) r_GW r_GU (show ((m 94 10).toInt = 2 ∨ (m 94 10).toInt = 3) → zcov (m 110) (m 112) (0 : Int32).toInt from by first | (exact fun hp => cov_0 (by decide)) | (exact fun hp => cov_0 (by decide)) | (exfalso; omega; done) | (exfalso; contradiction; done))
    · skip
      have g24 := i_nle h4
      have hg25 : (0 ≤ l2 ∧ l2.toNatClampNeg < 3100) := i_ix (by omega) (by omega)
      refine ⟨hg25, ?_⟩
      first | have f26 : 0 ≤ (m 99 l2.toNatClampNeg).toInt ∧ (m 99 l2.toNatClampNeg).toInt ≤ 1 := ra_99 (m := m) hV (k := l2.toNatClampNeg) (i_ix (n := 3100) (by omega) (by omega)).2 | have b27 := i_bd (m 99 l2.toNatClampNeg)
      have li28 : (0 : Int32).toInt = 0 := rfl
      refine zd (fun (h29 : (m 99 l2.toNatClampNeg) = (0 : Int32)) => ?_) (fun (h29 : ¬ (m 99 l2.toNatClampNeg) = (0 : Int32)) => ?_)
      · skip
        have g30 := i_eq h29
        have hg31 : (0 ≤ l2 ∧ l2.toNatClampNeg < 3100) := i_ix (by omega) (by omega)
        refine ⟨hg31, ?_⟩
        try have gw := GW_room r_GW
        try have hc4 := (r_HA.2 (by omega)).1
        have hV32 : zV (ma_u m 110 l2.toNatClampNeg (0 : Int32)) := ua_110 hV (by omega) (by omega)
        have b33 := i_bd l1
        first | have e34 : (l2 + (1 : Int32)).toInt = l2.toInt + (1) := i_addk rfl (by omega) (by omega) | have b35 := i_bd (l2 + (1 : Int32))
        exact IH (3100 - (l2 + (1 : Int32)).toInt).toNat (by omega) _ (l1) ((l2 + (1 : Int32))) rfl (zF_u hF rfl) hV32 (by omega) r_W r_GW r_GU r_OW r_DX r_HA (show (m 94 10).toInt = 3 from by omega) r_OF3 (show ∀ s : Nat, (s : Int) < (l2 + (1 : Int32)).toInt → (((ma_u m 110 l2.toNatClampNeg (0 : Int32)) 110) s ≠ 0 ↔ (m 99) s ≠ 0 ∧ ((m 103) s).toInt < (m 94 14).toInt) from by first | (exact KO_step r_KOl (by omega) (by omega) ⟨fun _ => ⟨by assumption, by omega⟩, fun _ => by decide⟩) | (exact KO_step r_KOl (by omega) (by omega) ⟨fun z => absurd rfl z, fun z => absurd (by assumption) z.1⟩) | (exact KO_step r_KOl (by omega) (by omega) ⟨fun z => absurd rfl z, fun z => absurd z.2 (by omega)⟩) | (exfalso; omega; done) | (exfalso; contradiction; done))
      · skip
        have g36 := i_ne h29
        have hg37 : (0 ≤ l2 ∧ l2.toNatClampNeg < 3100) := i_ix (by omega) (by omega)
        refine ⟨hg37, ?_⟩
        have f38 : 0 ≤ (m 94 14).toInt ∧ (m 94 14).toInt ≤ 1500 := rs_94_14 (m := m) hV
        first | have f39 : 0 ≤ (m 103 l2.toNatClampNeg).toInt ∧ (m 103 l2.toNatClampNeg).toInt ≤ 4599 := ra_103 (m := m) hV (k := l2.toNatClampNeg) (i_ix (n := 3100) (by omega) (by omega)).2 | have b40 := i_bd (m 103 l2.toNatClampNeg)
        refine zd (fun (h41 : (m 94 14) ≤ (m 103 l2.toNatClampNeg)) => ?_) (fun (h41 : ¬ (m 94 14) ≤ (m 103 l2.toNatClampNeg)) => ?_)
        · skip
          have g42 := i_le h41
          have hg43 : (0 ≤ l2 ∧ l2.toNatClampNeg < 3100) := i_ix (by omega) (by omega)
          refine ⟨hg43, ?_⟩
          try have gw := GW_room r_GW
          try have hc4 := (r_HA.2 (by omega)).1
          have hV44 : zV (ma_u m 110 l2.toNatClampNeg (0 : Int32)) := ua_110 hV (by omega) (by omega)
          have b45 := i_bd l1
          first | have e46 : (l2 + (1 : Int32)).toInt = l2.toInt + (1) := i_addk rfl (by omega) (by omega) | have b47 := i_bd (l2 + (1 : Int32))
          exact IH (3100 - (l2 + (1 : Int32)).toInt).toNat (by omega) _ (l1) ((l2 + (1 : Int32))) rfl (zF_u hF rfl) hV44 (by omega) r_W r_GW r_GU r_OW r_DX r_HA (show (m 94 10).toInt = 3 from by omega) r_OF3 (show ∀ s : Nat, (s : Int) < (l2 + (1 : Int32)).toInt → (((ma_u m 110 l2.toNatClampNeg (0 : Int32)) 110) s ≠ 0 ↔ (m 99) s ≠ 0 ∧ ((m 103) s).toInt < (m 94 14).toInt) from by first | (exact KO_step r_KOl (by omega) (by omega) ⟨fun _ => ⟨by assumption, by omega⟩, fun _ => by decide⟩) | (exact KO_step r_KOl (by omega) (by omega) ⟨fun z => absurd rfl z, fun z => absurd (by assumption) z.1⟩) | (exact KO_step r_KOl (by omega) (by omega) ⟨fun z => absurd rfl z, fun z => absurd z.2 (by omega)⟩) | (exfalso; omega; done) | (exfalso; contradiction; done))
        · skip
          have g48 := i_nle h41
          have hg49 : (0 ≤ l2 ∧ l2.toNatClampNeg < 3100) := i_ix (by omega) (by omega)
          refine ⟨hg49, ?_⟩
          try have gw := GW_room r_GW
          try have hc4 := (r_HA.2 (by omega)).1
          have li51 : (1 : Int32).toInt = 1 := rfl
          have hV50 : zV (ma_u m 110 l2.toNatClampNeg (1 : Int32)) := ua_110 hV (by omega) (by omega)
          have b52 := i_bd l1
          first | have e53 : (l2 + (1 : Int32)).toInt = l2.toInt + (1) := i_addk rfl (by omega) (by omega) | have b54 := i_bd (l2 + (1 : Int32))
          exact IH (3100 - (l2 + (1 : Int32)).toInt).toNat (by omega) _ (l1) ((l2 + (1 : Int32))) rfl (zF_u hF rfl) hV50 (by omega) r_W r_GW r_GU r_OW r_DX r_HA (show (m 94 10).toInt = 3 from by omega) r_OF3 (show ∀ s : Nat, (s : Int) < (l2 + (1 : Int32)).toInt → (((ma_u m 110 l2.toNatClampNeg (1 : Int32)) 110) s ≠ 0 ↔ (m 99) s ≠ 0 ∧ ((m 103) s).toInt < (m 94 14).toInt) from by first | (exact KO_step r_KOl (by omega) (by omega) ⟨fun _ => ⟨by assumption, by omega⟩, fun _ => by decide⟩) | (exact KO_step r_KOl (by omega) (by omega) ⟨fun z => absurd rfl z, fun z => absurd (by assumption) z.1⟩) | (exact KO_step r_KOl (by omega) (by omega) ⟨fun z => absurd rfl z, fun z => absurd z.2 (by omega)⟩) | (exfalso; omega; done) | (exfalso; contradiction; done))
set_option maxHeartbeats 8000000 in
theorem sp_214 {X : Nat × (Nat → Int32)} {P : Option ma_V → (Nat → Nat → Int32) → Prop} {T : Nat} {m : Nat → Nat → Int32}  (hV : zV m) (r_W : zW (m 94 7) (m 98) (m 101) (m 102) (m 108)) (r_GW : zGW T (m 94 55) (m 109)) (r_GU : zGU T (m 94 46) (m 99)) (r_OW : zOw (m 99) (m 103) (m 111)) (r_DX : zDX (m 94 10) (m 99) (m 112) (m 113) (m 114) (m 94 55) (m 98) (m 101) (m 102) (m 108)) (r_HA : zHA (m 94 10) (m 94 11) (m 94 13) (m 94 14) (m 94 16) (m 94 61) (m 94 59) (m 94 60) (m 99) (m 102) (m 103) (m 111) (m 117) (m 98) (m 101) (m 108)) (hpre6 : (m 94 10).toInt = 3) (KZ : ∀ v m₉, zV (zov wr_214 m m₉) → (zGW T (m₉ 94 55) (m₉ 109)) → (zGU T (m 94 46) (m₉ 99)) → (zOw (m₉ 99) (m₉ 103) (m₉ 111)) → (zDX (m 94 10) (m₉ 99) (m 112) (m₉ 113) (m₉ 114) (m₉ 94 55) (m 98) (m 101) (m 102) (m 108)) → (zHA (m 94 10) (m 94 11) (m 94 13) (m 94 14) (m 94 16) (m₉ 94 61) (m₉ 94 59) (m₉ 94 60) (m₉ 99) (m 102) (m₉ 103) (m₉ 111) (m₉ 117) (m 98) (m 101) (m 108)) → P (some (.inl v)) (zov wr_214 m m₉)) : zm X 6 129 214 0 [(0, .inr (.inr (some 94)))] m P := by
  have K : ∀ v m₉, zF wr_214 m m₉ → zV m₉ → (zGW T (m₉ 94 55) (m₉ 109)) → (zGU T (m₉ 94 46) (m₉ 99)) → (zOw (m₉ 99) (m₉ 103) (m₉ 111)) → (zDX (m₉ 94 10) (m₉ 99) (m₉ 112) (m₉ 113) (m₉ 114) (m₉ 94 55) (m₉ 98) (m₉ 101) (m₉ 102) (m₉ 108)) → (zHA (m₉ 94 10) (m₉ 94 11) (m₉ 94 13) (m₉ 94 14) (m₉ 94 16) (m₉ 94 61) (m₉ 94 59) (m₉ 94 60) (m₉ 99) (m₉ 102) (m₉ 103) (m₉ 111) (m₉ 117) (m₉ 98) (m₉ 101) (m₉ 108)) → P (some (.inl v)) m₉ := by
    intro v m₉ hf z q0 q1 q2 q3 q4
    have e := zov_eq hf
    rw [e] at z ⊢
    try rw [e] at q0
    try rw [e] at q1
    try rw [e] at q2
    try rw [e] at q3
    try rw [e] at q4
    exact KZ v m₉ z q0 q1 q2 q3 q4
  refine g_214_0  ?_
  have f1 : 0 ≤ (m 94 10).toInt ∧ (m 94 10).toInt ≤ 6 := rs_94_10 (m := m) hV
  try have hc4 := (r_HA.2 (by omega)).1
  try have gw := GW_room r_GW
  refine sp_215  hV  (fun v2 m1 hV_m1 hb_m1 p0_m1 => zmi_n ?_)
  have p0_m1 : v2.toInt = 1 ∨ (m 94 60).toInt + sm (zbG (m 99) (m 103) (m 94 14) (m 104) (m 94 15)) (m 102) 3100 ≤ (m 94 14).toInt := p0_m1
  have f2 := i_01 hb_m1
  have li3 : (0 : Int32).toInt = 0 := rfl
  refine zd (fun (h4 : v2 = (0 : Int32)) => ?_) (fun (h4 : ¬ v2 = (0 : Int32)) => ?_)
  · skip
    have g5 := i_eq h4
    try have hc4 := (r_HA.2 (by omega)).1
    try have gw := GW_room r_GW
    refine sp_215  hV_m1  (fun v4 m3 hV_m3 hb_m3 p0_m3 => zmi_n ?_)
    have p0_m3 : v4.toInt = 1 ∨ (m 94 60).toInt + sm (zbG (m 99) (m 103) (m 94 14) (m 104) (m 94 15)) (m 102) 3100 ≤ (m 94 14).toInt := p0_m3
    have f6 := i_01 hb_m3
    refine zd (fun (h7 : v4 = (0 : Int32)) => ?_) (fun (h7 : ¬ v4 = (0 : Int32)) => ?_)
    · skip
      have g8 := i_eq h7
      try have gw := GW_room r_GW
      try have hc4 := (r_HA.2 (by omega)).1
      have hV9 : zV (ma_u (zov wr_215 (zov wr_215 m m1) m3) 94 47 ((m 94 47) + (1 : Int32))) := uf_94_47 hV_m3
      exact lp_214_35 hV K _ _ ((0 : Int32)) ((0 : Int32)) rfl (zF_u (zF_zov (zF_zov zF_rfl ws_215_214) ws_215_214) rfl) hV9 (by omega) r_W r_GW r_GU r_OW r_DX r_HA (show (m 94 10).toInt = 3 from by omega) (show (m 94 60).toInt + sm (zbG (m 99) (m 103) (m 94 14) (m 104) (m 94 15)) (m 102) 3100 ≤ (m 94 14).toInt from by first | (exact p0_m3.elim (fun z => absurd z (by omega)) id) | (exfalso; omega; done) | (exfalso; contradiction; done)) (show ∀ s : Nat, (s : Int) < (0 : Int32).toInt → ((m 110) s ≠ 0 ↔ (m 99) s ≠ 0 ∧ ((m 103) s).toInt < (m 94 14).toInt) from by first | (intro s hs; omega; done) | (exfalso; omega; done) | (exfalso; contradiction; done))
    · skip
      have g10 := i_ne h7
      try have gw := GW_room r_GW
      try have hc4 := (r_HA.2 (by omega)).1
      exact K ((0 : Int32)) _ (zF_zov (zF_zov zF_rfl ws_215_214) ws_215_214) hV_m3 r_GW r_GU r_OW r_DX r_HA
  · skip
    have g11 := i_ne h4
    try have hc4 := (r_HA.2 (by omega)).1
    try have gw := GW_room r_GW
    refine sp_211  hV_m1 r_W r_GW r_GU r_OW r_DX r_HA (show (m 94 10).toInt = 3 from by omega) (fun v6 m5 hV_m5 p0_m5 p1_m5 p2_m5 p3_m5 p4_m5 => zmi_n ?_)
    have p0_m5 : zGW T (m5 94 55) (m5 109) := p0_m5
    have p1_m5 : zGU T (m 94 46) (m5 99) := p1_m5
    have p2_m5 : zOw (m5 99) (m5 103) (m5 111) := p2_m5
    have p3_m5 : zDX (m 94 10) (m5 99) (m 112) (m5 113) (m5 114) (m5 94 55) (m 98) (m 101) (m 102) (m 108) := p3_m5
    have p4_m5 : zHA (m 94 10) (m 94 11) (m 94 13) (m 94 14) (m 94 16) (m 94 61) (m 94 59) (m5 94 60) (m5 99) (m 102) (m5 103) (m5 111) (m5 117) (m 98) (m 101) (m 108) := p4_m5
    try have hc4 := (p4_m5.2 (by omega)).1
    try have gw := GW_room p0_m5
    refine sp_215  hV_m5  (fun v8 m7 hV_m7 hb_m7 p0_m7 => zmi_n ?_)
    have p0_m7 : v8.toInt = 1 ∨ (m5 94 60).toInt + sm (zbG (m5 99) (m5 103) (m 94 14) (m 104) (m 94 15)) (m 102) 3100 ≤ (m 94 14).toInt := p0_m7
    have f12 := i_01 hb_m7
    refine zd (fun (h13 : v8 = (0 : Int32)) => ?_) (fun (h13 : ¬ v8 = (0 : Int32)) => ?_)
    · skip
      have g14 := i_eq h13
      try have gw := GW_room p0_m5
      try have hc4 := (p4_m5.2 (by omega)).1
      have hV15 : zV (ma_u (zov wr_215 (zov wr_211 (zov wr_215 m m1) m5) m7) 94 47 ((m5 94 47) + (1 : Int32))) := uf_94_47 hV_m7
      have b16 := i_bd v6
      exact lp_214_35 hV K _ _ (v6) ((0 : Int32)) rfl (zF_u (zF_zov (zF_zov (zF_zov zF_rfl ws_215_214) ws_211_214) ws_215_214) rfl) hV15 (by omega) r_W p0_m5 p1_m5 p2_m5 p3_m5 p4_m5 (show (m 94 10).toInt = 3 from by omega) (show (m5 94 60).toInt + sm (zbG (m5 99) (m5 103) (m 94 14) (m 104) (m 94 15)) (m 102) 3100 ≤ (m 94 14).toInt from by first | (exact p0_m7.elim (fun z => absurd z (by omega)) id) | (exfalso; omega; done) | (exfalso; contradiction; done)) (show ∀ s : Nat, (s : Int) < (0 : Int32).toInt → ((m5 110) s ≠ 0 ↔ (m5 99) s ≠ 0 ∧ ((m5 103) s).toInt < (m 94 14).toInt) from by first | (intro s hs; omega; done) | (exfalso; omega; done) | (exfalso; contradiction; done))
    · skip
      have g17 := i_ne h13
      try have gw := GW_room p0_m5
      try have hc4 := (p4_m5.2 (by omega)).1
      have b18 := i_bd v6
      exact K (v6) _ (zF_zov (zF_zov (zF_zov zF_rfl ws_215_214) ws_211_214) ws_215_214) hV_m7 p0_m5 p1_m5 p2_m5 p3_m5 p4_m5

