/-! from 94.488 -/
/-! the reference (written by wip/tools/gen94m.py) -/
set_option maxRecDepth 100000 in
theorem hm_214 : ma_md 214 = some (12, yX12_minor, cX12_minor, 4, (some (FieldType.int))) := rfl
theorem v_12_381_12 : ma_vl 12 381 12 = some (1, 215, 0) := by decide +kernel
theorem v_12_384_12 : ma_vl 12 384 12 = some (1, 211, 0) := by decide +kernel
theorem v_12_387_12 : ma_vl 12 387 12 = some (1, 216, 1) := by decide +kernel
theorem dX12_minor_0 : decode cX12_minor 0 = .ok (.iconst 0, 1) := by decide +kernel
theorem dX12_minor_1 : decode cX12_minor 1 = .ok (.istore_n 1, 1) := by decide +kernel
theorem dX12_minor_2 : decode cX12_minor 2 = .ok (.aload_n 0, 1) := by decide +kernel
theorem dX12_minor_3 : decode cX12_minor 3 = .ok (.invokevirtual 381, 3) := by decide +kernel
theorem dX12_minor_14 : decode cX12_minor 14 = .ok (.aload_n 0, 1) := by decide +kernel
theorem dX12_minor_15 : decode cX12_minor 15 = .ok (.invokevirtual 381, 3) := by decide +kernel
theorem dX12_minor_23 : decode cX12_minor 23 = .ok (.aload_n 0, 1) := by decide +kernel
theorem dX12_minor_24 : decode cX12_minor 24 = .ok (.dup, 1) := by decide +kernel
theorem dX12_minor_28 : decode cX12_minor 28 = .ok (.iconst 1, 1) := by decide +kernel
theorem dX12_minor_29 : decode cX12_minor 29 = .ok (.iadd, 1) := by decide +kernel
theorem dX12_minor_33 : decode cX12_minor 33 = .ok (.iconst 0, 1) := by decide +kernel
theorem dX12_minor_34 : decode cX12_minor 34 = .ok (.istore_n 2, 1) := by decide +kernel
theorem dX12_minor_30 : decode cX12_minor 30 = .ok (.putfield 249, 3) := by decide +kernel
theorem dX12_minor_25 : decode cX12_minor 25 = .ok (.getfield 249, 3) := by decide +kernel
theorem dX12_minor_21 : decode cX12_minor 21 = .ok (.iload_n 1, 1) := by decide +kernel
theorem dX12_minor_22 : decode cX12_minor 22 = .ok (.ireturn, 1) := by decide +kernel
theorem dX12_minor_18 : decode cX12_minor 18 = .ok (.ifCond .eq 5, 3) := by decide +kernel
theorem dX12_minor_9 : decode cX12_minor 9 = .ok (.aload_n 0, 1) := by decide +kernel
theorem dX12_minor_10 : decode cX12_minor 10 = .ok (.invokevirtual 384, 3) := by decide +kernel
theorem dX12_minor_13 : decode cX12_minor 13 = .ok (.istore_n 1, 1) := by decide +kernel
theorem dX12_minor_6 : decode cX12_minor 6 = .ok (.ifCond .eq 8, 3) := by decide +kernel
theorem dX12_minor_35 : decode cX12_minor 35 = .ok (.iload_n 2, 1) := by decide +kernel
theorem dX12_minor_36 : decode cX12_minor 36 = .ok (.sipush 3100, 3) := by decide +kernel
theorem dX12_minor_76 : decode cX12_minor 76 = .ok (.aload_n 0, 1) := by decide +kernel
theorem dX12_minor_77 : decode cX12_minor 77 = .ok (.iconst 0, 1) := by decide +kernel
theorem dX12_minor_81 : decode cX12_minor 81 = .ok (.aload_n 0, 1) := by decide +kernel
theorem dX12_minor_82 : decode cX12_minor 82 = .ok (.iconst 0, 1) := by decide +kernel
theorem dX12_minor_86 : decode cX12_minor 86 = .ok (.aload_n 0, 1) := by decide +kernel
theorem dX12_minor_90 : decode cX12_minor 90 = .ok (.istore_n 2, 1) := by decide +kernel
theorem dX12_minor_91 : decode cX12_minor 91 = .ok (.aload_n 0, 1) := by decide +kernel
theorem dX12_minor_92 : decode cX12_minor 92 = .ok (.iconst 1, 1) := by decide +kernel
theorem dX12_minor_93 : decode cX12_minor 93 = .ok (.aload_n 0, 1) := by decide +kernel
theorem dX12_minor_97 : decode cX12_minor 97 = .ok (.isub, 1) := by decide +kernel
theorem dX12_minor_101 : decode cX12_minor 101 = .ok (.aload_n 0, 1) := by decide +kernel
theorem dX12_minor_102 : decode cX12_minor 102 = .ok (.aload_n 0, 1) := by decide +kernel
theorem dX12_minor_106 : decode cX12_minor 106 = .ok (.aload_n 0, 1) := by decide +kernel
theorem dX12_minor_110 : decode cX12_minor 110 = .ok (.aload_n 0, 1) := by decide +kernel
theorem dX12_minor_114 : decode cX12_minor 114 = .ok (.imul, 1) := by decide +kernel
theorem dX12_minor_115 : decode cX12_minor 115 = .ok (.iadd, 1) := by decide +kernel
theorem dX12_minor_119 : decode cX12_minor 119 = .ok (.iconst 0, 1) := by decide +kernel
theorem dX12_minor_120 : decode cX12_minor 120 = .ok (.istore_n 3, 1) := by decide +kernel
theorem dX12_minor_116 : decode cX12_minor 116 = .ok (.putfield 359, 3) := by decide +kernel
theorem dX12_minor_111 : decode cX12_minor 111 = .ok (.getfield 207, 3) := by decide +kernel
theorem dX12_minor_107 : decode cX12_minor 107 = .ok (.getfield 273, 3) := by decide +kernel
theorem dX12_minor_103 : decode cX12_minor 103 = .ok (.getfield 210, 3) := by decide +kernel
theorem dX12_minor_98 : decode cX12_minor 98 = .ok (.putfield 273, 3) := by decide +kernel
theorem dX12_minor_94 : decode cX12_minor 94 = .ok (.getfield 273, 3) := by decide +kernel
theorem dX12_minor_87 : decode cX12_minor 87 = .ok (.getfield 279, 3) := by decide +kernel
theorem dX12_minor_83 : decode cX12_minor 83 = .ok (.putfield 362, 3) := by decide +kernel
theorem dX12_minor_78 : decode cX12_minor 78 = .ok (.putfield 356, 3) := by decide +kernel
theorem dX12_minor_42 : decode cX12_minor 42 = .ok (.aload_n 0, 1) := by decide +kernel
theorem dX12_minor_46 : decode cX12_minor 46 = .ok (.iload_n 2, 1) := by decide +kernel
theorem dX12_minor_47 : decode cX12_minor 47 = .ok (.aload_n 0, 1) := by decide +kernel
theorem dX12_minor_51 : decode cX12_minor 51 = .ok (.iload_n 2, 1) := by decide +kernel
theorem dX12_minor_68 : decode cX12_minor 68 = .ok (.iconst 0, 1) := by decide +kernel
theorem dX12_minor_70 : decode cX12_minor 70 = .ok (.iinc 2 1, 3) := by decide +kernel
theorem dX12_minor_73 : decode cX12_minor 73 = .ok (.goto (-38), 3) := by decide +kernel
theorem dX12_minor_69 : decode cX12_minor 69 = .ok (.bastore, 1) := by decide +kernel
theorem dX12_minor_56 : decode cX12_minor 56 = .ok (.aload_n 0, 1) := by decide +kernel
theorem dX12_minor_57 : decode cX12_minor 57 = .ok (.iload_n 2, 1) := by decide +kernel
theorem dX12_minor_58 : decode cX12_minor 58 = .ok (.invokevirtual 314, 3) := by decide +kernel
theorem dX12_minor_61 : decode cX12_minor 61 = .ok (.ifCond .eq 7, 3) := by decide +kernel
theorem dX12_minor_64 : decode cX12_minor 64 = .ok (.iconst 1, 1) := by decide +kernel
theorem dX12_minor_65 : decode cX12_minor 65 = .ok (.goto 4, 3) := by decide +kernel
theorem dX12_minor_53 : decode cX12_minor 53 = .ok (.ifCond .eq 15, 3) := by decide +kernel
theorem dX12_minor_52 : decode cX12_minor 52 = .ok (.baload, 1) := by decide +kernel
theorem dX12_minor_48 : decode cX12_minor 48 = .ok (.getfield 27, 3) := by decide +kernel
theorem dX12_minor_43 : decode cX12_minor 43 = .ok (.getfield 62, 3) := by decide +kernel
theorem dX12_minor_39 : decode cX12_minor 39 = .ok (.if_icmp .ge 37, 3) := by decide +kernel
theorem dX12_minor_121 : decode cX12_minor 121 = .ok (.iload_n 3, 1) := by decide +kernel
theorem dX12_minor_122 : decode cX12_minor 122 = .ok (.bipush 16, 2) := by decide +kernel
theorem dX12_minor_143 : decode cX12_minor 143 = .ok (.iconst 0, 1) := by decide +kernel
theorem dX12_minor_144 : decode cX12_minor 144 = .ok (.istore_n 3, 1) := by decide +kernel
theorem dX12_minor_127 : decode cX12_minor 127 = .ok (.aload_n 0, 1) := by decide +kernel
theorem dX12_minor_128 : decode cX12_minor 128 = .ok (.aload_n 0, 1) := by decide +kernel
theorem dX12_minor_132 : decode cX12_minor 132 = .ok (.iload_n 3, 1) := by decide +kernel
theorem dX12_minor_134 : decode cX12_minor 134 = .ok (.invokevirtual 365, 3) := by decide +kernel
theorem dX12_minor_137 : decode cX12_minor 137 = .ok (.iinc 3 1, 3) := by decide +kernel
theorem dX12_minor_140 : decode cX12_minor 140 = .ok (.goto (-19), 3) := by decide +kernel
theorem dX12_minor_133 : decode cX12_minor 133 = .ok (.iaload, 1) := by decide +kernel
theorem dX12_minor_129 : decode cX12_minor 129 = .ok (.getfield 68, 3) := by decide +kernel
theorem dX12_minor_124 : decode cX12_minor 124 = .ok (.if_icmp .ge 19, 3) := by decide +kernel
theorem dX12_minor_145 : decode cX12_minor 145 = .ok (.iload_n 3, 1) := by decide +kernel
theorem dX12_minor_146 : decode cX12_minor 146 = .ok (.aload_n 0, 1) := by decide +kernel
theorem dX12_minor_169 : decode cX12_minor 169 = .ok (.aload_n 0, 1) := by decide +kernel
theorem dX12_minor_170 : decode cX12_minor 170 = .ok (.iload_n 2, 1) := by decide +kernel
theorem dX12_minor_171 : decode cX12_minor 171 = .ok (.invokevirtual 387, 3) := by decide +kernel
theorem dX12_minor_174 : decode cX12_minor 174 = .ok (.aload_n 0, 1) := by decide +kernel
theorem dX12_minor_175 : decode cX12_minor 175 = .ok (.invokevirtual 368, 3) := by decide +kernel
theorem dX12_minor_178 : decode cX12_minor 178 = .ok (.aload_n 0, 1) := by decide +kernel
theorem dX12_minor_179 : decode cX12_minor 179 = .ok (.iconst 1, 1) := by decide +kernel
theorem dX12_minor_180 : decode cX12_minor 180 = .ok (.invokevirtual 371, 3) := by decide +kernel
theorem dX12_minor_183 : decode cX12_minor 183 = .ok (.aload_n 0, 1) := by decide +kernel
theorem dX12_minor_184 : decode cX12_minor 184 = .ok (.invokevirtual 339, 3) := by decide +kernel
theorem dX12_minor_187 : decode cX12_minor 187 = .ok (.aload_n 0, 1) := by decide +kernel
theorem dX12_minor_188 : decode cX12_minor 188 = .ok (.aload_n 0, 1) := by decide +kernel
theorem dX12_minor_195 : decode cX12_minor 195 = .ok (.iload_n 1, 1) := by decide +kernel
theorem dX12_minor_196 : decode cX12_minor 196 = .ok (.aload_n 0, 1) := by decide +kernel
theorem dX12_minor_197 : decode cX12_minor 197 = .ok (.invokevirtual 342, 3) := by decide +kernel
theorem dX12_minor_200 : decode cX12_minor 200 = .ok (.iadd, 1) := by decide +kernel
theorem dX12_minor_201 : decode cX12_minor 201 = .ok (.istore_n 1, 1) := by decide +kernel
theorem dX12_minor_202 : decode cX12_minor 202 = .ok (.aload_n 0, 1) := by decide +kernel
theorem dX12_minor_203 : decode cX12_minor 203 = .ok (.invokevirtual 378, 3) := by decide +kernel
theorem dX12_minor_206 : decode cX12_minor 206 = .ok (.iload_n 1, 1) := by decide +kernel
theorem dX12_minor_207 : decode cX12_minor 207 = .ok (.ireturn, 1) := by decide +kernel
theorem dX12_minor_192 : decode cX12_minor 192 = .ok (.putfield 276, 3) := by decide +kernel
theorem dX12_minor_189 : decode cX12_minor 189 = .ok (.getfield 359, 3) := by decide +kernel
theorem dX12_minor_153 : decode cX12_minor 153 = .ok (.aload_n 0, 1) := by decide +kernel
theorem dX12_minor_154 : decode cX12_minor 154 = .ok (.aload_n 0, 1) := by decide +kernel
theorem dX12_minor_158 : decode cX12_minor 158 = .ok (.iload_n 3, 1) := by decide +kernel
theorem dX12_minor_160 : decode cX12_minor 160 = .ok (.invokevirtual 365, 3) := by decide +kernel
theorem dX12_minor_163 : decode cX12_minor 163 = .ok (.iinc 3 1, 3) := by decide +kernel
theorem dX12_minor_166 : decode cX12_minor 166 = .ok (.goto (-21), 3) := by decide +kernel
theorem dX12_minor_159 : decode cX12_minor 159 = .ok (.iaload, 1) := by decide +kernel
theorem dX12_minor_155 : decode cX12_minor 155 = .ok (.getfield 74, 3) := by decide +kernel
theorem dX12_minor_150 : decode cX12_minor 150 = .ok (.if_icmp .ge 19, 3) := by decide +kernel
theorem dX12_minor_147 : decode cX12_minor 147 = .ok (.getfield 261, 3) := by decide +kernel
def wr_214 (c k : Nat) : Bool := Nat.beq c 99 || Nat.beq c 103 || Nat.beq c 104 || Nat.beq c 105 || Nat.beq c 109 || Nat.beq c 110 || Nat.beq c 111 || Nat.beq c 113 || Nat.beq c 114 || Nat.beq c 117 || Nat.beq c 118 || Nat.beq c 119 || (Nat.beq c 94 && (Nat.beq k 44 || Nat.beq k 45 || Nat.beq k 47 || Nat.beq k 48 || Nat.beq k 49 || Nat.beq k 55 || Nat.beq k 59 || Nat.beq k 60 || Nat.beq k 61 || Nat.beq k 73 || Nat.beq k 75 || Nat.beq k 76 || Nat.beq k 77))
theorem ws_199_214 : ∀ c k, wr_199 c k = true → wr_214 c k = true := by
  intro c k h
  simp only [wr_199, wr_214, Bool.or_eq_true, Bool.and_eq_true, Nat.beq_eq] at h ⊢
  omega
theorem ws_200_214 : ∀ c k, wr_200 c k = true → wr_214 c k = true := by
  intro c k h
  simp only [wr_200, Bool.or_eq_true, Bool.and_eq_true, Nat.beq_eq] at h
  rcases h with ((rfl | rfl) | rfl) | ⟨rfl, ((rfl | rfl) | rfl)⟩ <;> rfl
theorem ws_207_214 : ∀ c k, wr_207 c k = true → wr_214 c k = true := by
  intro c k h
  simp only [wr_207, Bool.or_eq_true, Bool.and_eq_true, Nat.beq_eq] at h
  rcases h with ((((rfl | rfl) | rfl) | rfl) | rfl) | ⟨rfl, (((rfl | rfl) | rfl) | rfl)⟩ <;> rfl
theorem ws_208_214 : ∀ c k, wr_208 c k = true → wr_214 c k = true := by
  intro c k h
  simp only [wr_208, Bool.or_eq_true, Bool.and_eq_true, Nat.beq_eq] at h
  rcases h with ((((rfl | rfl) | rfl) | rfl) | rfl) | ⟨rfl, ((((rfl | rfl) | rfl) | rfl) | rfl)⟩ <;> rfl
theorem ws_209_214 : ∀ c k, wr_209 c k = true → wr_214 c k = true := by
  intro c k h
  simp only [wr_209, Bool.or_eq_true, Bool.and_eq_true, Nat.beq_eq] at h
  rcases h with ((((((((rfl | rfl) | rfl) | rfl) | rfl) | rfl) | rfl) | rfl) | rfl) | ⟨rfl, (((((rfl | rfl) | rfl) | rfl) | rfl) | rfl)⟩ <;> rfl
theorem ws_211_214 : ∀ c k, wr_211 c k = true → wr_214 c k = true := by
  intro c k h
  simp only [wr_211, Bool.or_eq_true, Bool.and_eq_true, Nat.beq_eq] at h
  rcases h with (((((((((rfl | rfl) | rfl) | rfl) | rfl) | rfl) | rfl) | rfl) | rfl) | rfl) | ⟨rfl, (((((((rfl | rfl) | rfl) | rfl) | rfl) | rfl) | rfl) | rfl)⟩ <;> rfl
theorem ws_212_214 : ∀ c k, wr_212 c k = true → wr_214 c k = true := by
  intro c k h
  simp only [wr_212, wr_214, Bool.or_eq_true, Bool.and_eq_true, Nat.beq_eq] at h ⊢
  omega
theorem ws_215_214 : ∀ c k, wr_215 c k = true → wr_214 c k = true := fun _ _ h => by cases h
theorem ws_216_214 : ∀ c k, wr_216 c k = true → wr_214 c k = true := by
  intro c k h
  simp only [wr_216, Bool.or_eq_true, Bool.and_eq_true, Nat.beq_eq] at h
  rcases h with ((((rfl | rfl) | rfl) | rfl) | rfl) | ⟨rfl, (((rfl | rfl) | rfl) | rfl)⟩ <;> rfl
theorem g_214_0 {X : Nat × (Nat → Int32)} {m : Nat → Nat → Int32} {P : Option ma_V → (Nat → Nat → Int32) → Prop}  (h : zm X 1 21 215 0 [(0, .inr (.inr (some 94)))] m (zmi (fun v2 m1 => if v2 = 0 then (zm X 1 21 215 0 [(0, .inr (.inr (some 94)))] m1 (zmi (fun v4 m3 => if v4 = 0 then (zm X 6 129 214 35 [(0, .inr (.inr (some 94))), (1, .inl (0 : Int32)), (2, .inl (0 : Int32))] (ma_u m3 94 47 ((m3 94 47) + (1 : Int32))) P) else (P (some (.inl (0 : Int32))) m3)))) else (zm X 5 108 211 0 [(0, .inr (.inr (some 94)))] m1 (zmi (fun v6 m5 => zm X 1 21 215 0 [(0, .inr (.inr (some 94)))] m5 (zmi (fun v8 m7 => if v8 = 0 then (zm X 6 129 214 35 [(0, .inr (.inr (some 94))), (1, .inl v6), (2, .inl (0 : Int32))] (ma_u m7 94 47 ((m7 94 47) + (1 : Int32))) P) else (P (some (.inl v6)) m7))))))))) : zm X 6 129 214 0 [(0, .inr (.inr (some 94)))] m P := by
  intro d w S Q hd hw hS hm HQ
  subst hm
  refine zw_push hm_214 dX12_minor_0 (v := .inl (0 : Int32)) rfl ?_
  refine zw_sto hm_214 dX12_minor_1 [(1, .inl (0 : Int32)), (0, .inr (.inr (some 94)))] rfl rfl rfl ?_
  refine zw_push hm_214 dX12_minor_2 (v := .inr (.inr (some 94))) rfl ?_
  refine zw_cv hm_214 dX12_minor_3 v_12_381_12 hm_215 [] [] rfl (zT_rt hS s_94 rfl) ⟨by omega, by omega⟩ rfl (h _ _ S _ (by omega) (by omega) hS rfl (fun o9 m1 hv => ?_))
  obtain ⟨v2, rfl, h⟩ := zmi_of hv
  show ma_wp X d w 214 6 [(1, .inl (0 : Int32)), (0, .inr (.inr (some 94)))] [.inl v2] (zst S m1) _
  refine zw_if0 hm_214 dX12_minor_6 (t := 14) rfl zc0_eq ?_ ?_
  · intro hc
    rw [if_pos hc] at h
    refine zw_push hm_214 dX12_minor_14 (v := .inr (.inr (some 94))) rfl ?_
    refine zw_cv hm_214 dX12_minor_15 v_12_381_12 hm_215 [] [] rfl (zT_rt (zT_zst hS m1) s_94 rfl) ⟨by omega, by omega⟩ rfl (h _ _ (zst S m1) _ (by omega) (by omega) (zT_zst hS m1) rfl (fun o9 m3 hv => ?_))
    obtain ⟨v4, rfl, h⟩ := zmi_of hv
    show ma_wp X d w 214 18 [(1, .inl (0 : Int32)), (0, .inr (.inr (some 94)))] [.inl v4] (zst S m3) _
    refine zw_if0 hm_214 dX12_minor_18 (t := 23) rfl zc0_eq ?_ ?_
    · intro hc
      rw [if_pos hc] at h
      refine zw_push hm_214 dX12_minor_23 (v := .inr (.inr (some 94))) rfl ?_
      refine zw_stk hm_214 dX12_minor_24 (st₉ := [.inr (.inr (some 94)), .inr (.inr (some 94))]) rfl rfl ?_
      refine zw_gf hm_214 dX12_minor_25 (v := .inl (m3 94 47)) (zT_is (zT_zst hS m3) s_94) (zT_t (zT_zst hS m3) s_94) rfl f_12_249_12 rfl ?_
      refine zw_push hm_214 dX12_minor_28 (v := .inl (1 : Int32)) rfl ?_
      refine zw_stk hm_214 dX12_minor_29 (st₉ := [.inl ((m3 94 47) + (1 : Int32)), .inr (.inr (some 94))]) rfl rfl ?_
      refine zw_pf hm_214 dX12_minor_30 (zT_is (zT_zst hS m3) s_94) (zT_t (zT_zst hS m3) s_94) p_12_249_12 zk_int ?_
      refine zw_push hm_214 dX12_minor_33 (v := .inl (0 : Int32)) rfl ?_
      refine zw_sto hm_214 dX12_minor_34 [(2, .inl (0 : Int32)), (1, .inl (0 : Int32)), (0, .inr (.inr (some 94)))] rfl rfl rfl ?_
      exact zw_sub (ma_nd_of (ks := [0, 1, 2]) rfl (by decide)) (ma_nd_of (ks := [2, 1, 0]) rfl (by decide)) (ma_le_cons rfl (ma_le_cons rfl (ma_le_cons rfl (ma_le_nil _)))) (h d w _ Q (by omega) (by omega) (zT_pi (zT_zst hS m3)) rfl HQ)
    · intro hc
      rw [if_neg hc] at h
      refine zw_push hm_214 dX12_minor_21 (v := .inl (0 : Int32)) rfl ?_
      exact zw_iret hm_214 dX12_minor_22 (HQ _ _ h)
  · intro hc
    rw [if_neg hc] at h
    refine zw_push hm_214 dX12_minor_9 (v := .inr (.inr (some 94))) rfl ?_
    refine zw_cv hm_214 dX12_minor_10 v_12_384_12 hm_211 [] [] rfl (zT_rt (zT_zst hS m1) s_94 rfl) ⟨by omega, by omega⟩ rfl (h _ _ (zst S m1) _ (by omega) (by omega) (zT_zst hS m1) rfl (fun o9 m5 hv => ?_))
    obtain ⟨v6, rfl, h⟩ := zmi_of hv
    show ma_wp X d w 214 13 [(1, .inl (0 : Int32)), (0, .inr (.inr (some 94)))] [.inl v6] (zst S m5) _
    refine zw_sto hm_214 dX12_minor_13 [(1, .inl v6), (0, .inr (.inr (some 94)))] rfl rfl rfl ?_
    refine zw_push hm_214 dX12_minor_14 (v := .inr (.inr (some 94))) rfl ?_
    refine zw_cv hm_214 dX12_minor_15 v_12_381_12 hm_215 [] [] rfl (zT_rt (zT_zst hS m5) s_94 rfl) ⟨by omega, by omega⟩ rfl (h _ _ (zst S m5) _ (by omega) (by omega) (zT_zst hS m5) rfl (fun o9 m7 hv => ?_))
    obtain ⟨v8, rfl, h⟩ := zmi_of hv
    show ma_wp X d w 214 18 [(1, .inl v6), (0, .inr (.inr (some 94)))] [.inl v8] (zst S m7) _
    refine zw_if0 hm_214 dX12_minor_18 (t := 23) rfl zc0_eq ?_ ?_
    · intro hc
      rw [if_pos hc] at h
      refine zw_push hm_214 dX12_minor_23 (v := .inr (.inr (some 94))) rfl ?_
      refine zw_stk hm_214 dX12_minor_24 (st₉ := [.inr (.inr (some 94)), .inr (.inr (some 94))]) rfl rfl ?_
      refine zw_gf hm_214 dX12_minor_25 (v := .inl (m7 94 47)) (zT_is (zT_zst hS m7) s_94) (zT_t (zT_zst hS m7) s_94) rfl f_12_249_12 rfl ?_
      refine zw_push hm_214 dX12_minor_28 (v := .inl (1 : Int32)) rfl ?_
      refine zw_stk hm_214 dX12_minor_29 (st₉ := [.inl ((m7 94 47) + (1 : Int32)), .inr (.inr (some 94))]) rfl rfl ?_
      refine zw_pf hm_214 dX12_minor_30 (zT_is (zT_zst hS m7) s_94) (zT_t (zT_zst hS m7) s_94) p_12_249_12 zk_int ?_
      refine zw_push hm_214 dX12_minor_33 (v := .inl (0 : Int32)) rfl ?_
      refine zw_sto hm_214 dX12_minor_34 [(2, .inl (0 : Int32)), (1, .inl v6), (0, .inr (.inr (some 94)))] rfl rfl rfl ?_
      exact zw_sub (ma_nd_of (ks := [0, 1, 2]) rfl (by decide)) (ma_nd_of (ks := [2, 1, 0]) rfl (by decide)) (ma_le_cons rfl (ma_le_cons rfl (ma_le_cons rfl (ma_le_nil _)))) (h d w _ Q (by omega) (by omega) (zT_pi (zT_zst hS m7)) rfl HQ)
    · intro hc
      rw [if_neg hc] at h
      refine zw_push hm_214 dX12_minor_21 (v := .inl v6) rfl ?_
      exact zw_iret hm_214 dX12_minor_22 (HQ _ _ h)
theorem g_214_35 {X : Nat × (Nat → Int32)} {m : Nat → Nat → Int32} {P : Option ma_V → (Nat → Nat → Int32) → Prop} (l1 : Int32) (l2 : Int32) (h : if (3100 : Int32) ≤ l2 then (zm X 6 129 214 121 [(0, .inr (.inr (some 94))), (1, .inl l1), (2, .inl (m 94 60)), (3, .inl (0 : Int32))] (ma_u (ma_u (ma_u (ma_u m 94 75 (0 : Int32)) 94 76 (0 : Int32)) 94 61 ((1 : Int32) - (m 94 61))) 94 77 ((m 94 14) + (((1 : Int32) - (m 94 61)) * (m 94 13)))) P) else ((0 ≤ l2 ∧ l2.toNatClampNeg < 3100) ∧ (if (m 99 l2.toNatClampNeg) = 0 then ((0 ≤ l2 ∧ l2.toNatClampNeg < 3100) ∧ (zm X 6 129 214 35 [(0, .inr (.inr (some 94))), (1, .inl l1), (2, .inl (l2 + (1 : Int32)))] (ma_u m 110 l2.toNatClampNeg (0 : Int32)) P)) else ((0 ≤ l2 ∧ l2.toNatClampNeg < 3100) ∧ (if (m 94 14) ≤ (m 103 l2.toNatClampNeg) then ((0 ≤ l2 ∧ l2.toNatClampNeg < 3100) ∧ (zm X 6 129 214 35 [(0, .inr (.inr (some 94))), (1, .inl l1), (2, .inl (l2 + (1 : Int32)))] (ma_u m 110 l2.toNatClampNeg (0 : Int32)) P)) else ((0 ≤ l2 ∧ l2.toNatClampNeg < 3100) ∧ (zm X 6 129 214 35 [(0, .inr (.inr (some 94))), (1, .inl l1), (2, .inl (l2 + (1 : Int32)))] (ma_u m 110 l2.toNatClampNeg (1 : Int32)) P))))))) : zm X 6 129 214 35 [(0, .inr (.inr (some 94))), (1, .inl l1), (2, .inl l2)] m P := by
  intro d w S Q hd hw hS hm HQ
  subst hm
  refine zw_push hm_214 dX12_minor_35 (v := .inl l2) rfl ?_
  refine zw_push hm_214 dX12_minor_36 (v := .inl (3100 : Int32)) rfl ?_
  refine zw_if2 hm_214 dX12_minor_39 (t := 76) rfl zc2_ge ?_ ?_
  · intro hc
    rw [if_pos hc] at h
    refine zw_push hm_214 dX12_minor_76 (v := .inr (.inr (some 94))) rfl ?_
    refine zw_push hm_214 dX12_minor_77 (v := .inl (0 : Int32)) rfl ?_
    refine zw_pf hm_214 dX12_minor_78 (zT_is hS s_94) (zT_t hS s_94) p_12_356_12 zk_int ?_
    refine zw_push hm_214 dX12_minor_81 (v := .inr (.inr (some 94))) rfl ?_
    refine zw_push hm_214 dX12_minor_82 (v := .inl (0 : Int32)) rfl ?_
    refine zw_pf hm_214 dX12_minor_83 (zT_is (zT_pi hS) s_94) (zT_t (zT_pi hS) s_94) p_12_362_12 zk_int ?_
    refine zw_push hm_214 dX12_minor_86 (v := .inr (.inr (some 94))) rfl ?_
    refine zw_gf hm_214 dX12_minor_87 (v := .inl ((mI S) 94 60)) (zT_is (zT_pi (zT_pi hS)) s_94) (zT_t (zT_pi (zT_pi hS)) s_94) rfl f_12_279_12 rfl ?_
    refine zw_sto hm_214 dX12_minor_90 [(2, .inl ((mI S) 94 60)), (0, .inr (.inr (some 94))), (1, .inl l1)] rfl rfl rfl ?_
    refine zw_push hm_214 dX12_minor_91 (v := .inr (.inr (some 94))) rfl ?_
    refine zw_push hm_214 dX12_minor_92 (v := .inl (1 : Int32)) rfl ?_
    refine zw_push hm_214 dX12_minor_93 (v := .inr (.inr (some 94))) rfl ?_
    refine zw_gf hm_214 dX12_minor_94 (v := .inl ((mI S) 94 61)) (zT_is (zT_pi (zT_pi hS)) s_94) (zT_t (zT_pi (zT_pi hS)) s_94) rfl f_12_273_12 rfl ?_
    refine zw_stk hm_214 dX12_minor_97 (st₉ := [.inl ((1 : Int32) - ((mI S) 94 61)), .inr (.inr (some 94))]) rfl rfl ?_
    refine zw_pf hm_214 dX12_minor_98 (zT_is (zT_pi (zT_pi hS)) s_94) (zT_t (zT_pi (zT_pi hS)) s_94) p_12_273_12 zk_int ?_
    refine zw_push hm_214 dX12_minor_101 (v := .inr (.inr (some 94))) rfl ?_
    refine zw_push hm_214 dX12_minor_102 (v := .inr (.inr (some 94))) rfl ?_
    refine zw_gf hm_214 dX12_minor_103 (v := .inl ((mI S) 94 14)) (zT_is (zT_pi (zT_pi (zT_pi hS))) s_94) (zT_t (zT_pi (zT_pi (zT_pi hS))) s_94) rfl f_12_210_12 rfl ?_
    refine zw_push hm_214 dX12_minor_106 (v := .inr (.inr (some 94))) rfl ?_
    refine zw_gf hm_214 dX12_minor_107 (v := .inl ((1 : Int32) - ((mI S) 94 61))) (zT_is (zT_pi (zT_pi (zT_pi hS))) s_94) (zT_t (zT_pi (zT_pi (zT_pi hS))) s_94) rfl f_12_273_12 rfl ?_
    refine zw_push hm_214 dX12_minor_110 (v := .inr (.inr (some 94))) rfl ?_
    refine zw_gf hm_214 dX12_minor_111 (v := .inl ((mI S) 94 13)) (zT_is (zT_pi (zT_pi (zT_pi hS))) s_94) (zT_t (zT_pi (zT_pi (zT_pi hS))) s_94) rfl f_12_207_12 rfl ?_
    refine zw_stk hm_214 dX12_minor_114 (st₉ := [.inl (((1 : Int32) - ((mI S) 94 61)) * ((mI S) 94 13)), .inl ((mI S) 94 14), .inr (.inr (some 94))]) rfl rfl ?_
    refine zw_stk hm_214 dX12_minor_115 (st₉ := [.inl (((mI S) 94 14) + (((1 : Int32) - ((mI S) 94 61)) * ((mI S) 94 13))), .inr (.inr (some 94))]) rfl rfl ?_
    refine zw_pf hm_214 dX12_minor_116 (zT_is (zT_pi (zT_pi (zT_pi hS))) s_94) (zT_t (zT_pi (zT_pi (zT_pi hS))) s_94) p_12_359_12 zk_int ?_
    refine zw_push hm_214 dX12_minor_119 (v := .inl (0 : Int32)) rfl ?_
    refine zw_sto hm_214 dX12_minor_120 [(3, .inl (0 : Int32)), (2, .inl ((mI S) 94 60)), (0, .inr (.inr (some 94))), (1, .inl l1)] rfl rfl rfl ?_
    exact zw_sub (ma_nd_of (ks := [0, 1, 2, 3]) rfl (by decide)) (ma_nd_of (ks := [3, 2, 0, 1]) rfl (by decide)) (ma_le_cons rfl (ma_le_cons rfl (ma_le_cons rfl (ma_le_cons rfl (ma_le_nil _))))) (h d w _ Q (by omega) (by omega) (zT_pi (zT_pi (zT_pi (zT_pi hS)))) rfl HQ)
  · intro hc
    rw [if_neg hc] at h
    refine zw_push hm_214 dX12_minor_42 (v := .inr (.inr (some 94))) rfl ?_
    refine zw_gf hm_214 dX12_minor_43 (v := .inr (.inr (some 110))) (zT_is hS s_94) (zT_t hS s_94) rfl f_12_62_12 (zT_f hS r_94_42) ?_
    refine zw_push hm_214 dX12_minor_46 (v := .inl l2) rfl ?_
    refine zw_push hm_214 dX12_minor_47 (v := .inr (.inr (some 94))) rfl ?_
    refine zw_gf hm_214 dX12_minor_48 (v := .inr (.inr (some 99))) (zT_is hS s_94) (zT_t hS s_94) rfl f_12_27_12 (zT_f hS r_94_31) ?_
    refine zw_push hm_214 dX12_minor_51 (v := .inl l2) rfl ?_
    obtain ⟨hg, h⟩ := h
    refine zw_ba hm_214 dX12_minor_52 (zT_is hS s_99) (zT_h hS s_99) rfl rfl hg ?_
    show ma_wp X d w 214 53 [(0, .inr (.inr (some 94))), (1, .inl l1), (2, .inl l2)] [.inl ((mI S) 99 l2.toNatClampNeg), .inl l2, .inr (.inr (some 110))] S _
    refine zw_if0 hm_214 dX12_minor_53 (t := 68) rfl zc0_eq ?_ ?_
    · intro hc
      rw [if_pos hc] at h
      refine zw_push hm_214 dX12_minor_68 (v := .inl (0 : Int32)) rfl ?_
      obtain ⟨hg, h⟩ := h
      refine zw_bas22l hm_214 dX12_minor_69 (hx := by decide) (yv := (0 : Int32)) (zT_is hS s_110) (zT_h hS s_110) rfl hg ?_
      refine zw_sto hm_214 dX12_minor_70 [(2, .inl (l2 + (1 : Int32))), (0, .inr (.inr (some 94))), (1, .inl l1)] rfl rfl rfl ?_
      refine zw_goto hm_214 dX12_minor_73 (t := 35) rfl ?_
      exact zw_sub (ma_nd_of (ks := [0, 1, 2]) rfl (by decide)) (ma_nd_of (ks := [2, 0, 1]) rfl (by decide)) (ma_le_cons rfl (ma_le_cons rfl (ma_le_cons rfl (ma_le_nil _)))) (h d w _ Q (by omega) (by omega) (zT_pi hS) rfl HQ)
    · intro hc
      rw [if_neg hc] at h
      refine zw_push hm_214 dX12_minor_56 (v := .inr (.inr (some 94))) rfl ?_
      refine zw_push hm_214 dX12_minor_57 (v := .inl l2) rfl ?_
      refine zw_cv hm_214 dX12_minor_58 v_12_314_12 hm_196 [.inl l2] [.inl l2, .inr (.inr (some 110))] rfl (zT_rt hS s_94 rfl) ⟨by omega, by omega⟩ rfl ?_
      show ma_wp X (d - 1) (w - 21) 196 0 [(0, .inr (.inr (some 94))), (1, .inl l2)] [] S _
      refine zw_push hm_196 dX12_isOld_0 (v := .inr (.inr (some 94))) rfl ?_
      refine zw_gf hm_196 dX12_isOld_1 (v := .inr (.inr (some 103))) (zT_is hS s_94) (zT_t hS s_94) rfl f_12_40_12 (zT_f hS r_94_35) ?_
      refine zw_push hm_196 dX12_isOld_4 (v := .inl l2) rfl ?_
      obtain ⟨hg, h⟩ := h
      refine zw_ia hm_196 dX12_isOld_5 (zT_is hS s_103) (zT_h hS s_103) rfl hg ?_
      show ma_wp X (d - 1) (w - 21) 196 6 [(0, .inr (.inr (some 94))), (1, .inl l2)] [.inl ((mI S) 103 l2.toNatClampNeg)] S _
      refine zw_push hm_196 dX12_isOld_6 (v := .inr (.inr (some 94))) rfl ?_
      refine zw_gf hm_196 dX12_isOld_7 (v := .inl ((mI S) 94 14)) (zT_is hS s_94) (zT_t hS s_94) rfl f_12_210_12 rfl ?_
      refine zw_if2 hm_196 dX12_isOld_10 (t := 17) rfl zc2_ge ?_ ?_
      · intro hc
        rw [if_pos hc] at h
        refine zw_push hm_196 dX12_isOld_17 (v := .inl (0 : Int32)) rfl ?_
        refine zw_bret hm_196 dX12_isOld_18 (by decide) ?_
        show ma_wp X d w 214 61 [(0, .inr (.inr (some 94))), (1, .inl l1), (2, .inl l2)] [.inl (0 : Int32), .inl l2, .inr (.inr (some 110))] S _
        refine zw_if0 hm_214 dX12_minor_61 (t := 68) rfl zc0_eq (fun _ => ?_) (fun hc => absurd (by decide) hc)
        refine zw_push hm_214 dX12_minor_68 (v := .inl (0 : Int32)) rfl ?_
        obtain ⟨hg, h⟩ := h
        refine zw_bas22l hm_214 dX12_minor_69 (hx := by decide) (yv := (0 : Int32)) (zT_is hS s_110) (zT_h hS s_110) rfl hg ?_
        refine zw_sto hm_214 dX12_minor_70 [(2, .inl (l2 + (1 : Int32))), (0, .inr (.inr (some 94))), (1, .inl l1)] rfl rfl rfl ?_
        refine zw_goto hm_214 dX12_minor_73 (t := 35) rfl ?_
        exact zw_sub (ma_nd_of (ks := [0, 1, 2]) rfl (by decide)) (ma_nd_of (ks := [2, 0, 1]) rfl (by decide)) (ma_le_cons rfl (ma_le_cons rfl (ma_le_cons rfl (ma_le_nil _)))) (h d w _ Q (by omega) (by omega) (zT_pi hS) rfl HQ)
      · intro hc
        rw [if_neg hc] at h
        refine zw_push hm_196 dX12_isOld_13 (v := .inl (1 : Int32)) rfl ?_
        refine zw_goto hm_196 dX12_isOld_14 (t := 18) rfl ?_
        refine zw_bret hm_196 dX12_isOld_18 (by decide) ?_
        show ma_wp X d w 214 61 [(0, .inr (.inr (some 94))), (1, .inl l1), (2, .inl l2)] [.inl (1 : Int32), .inl l2, .inr (.inr (some 110))] S _
        refine zw_if0 hm_214 dX12_minor_61 (t := 68) rfl zc0_eq (fun hc => absurd hc (by decide)) (fun _ => ?_)
        refine zw_push hm_214 dX12_minor_64 (v := .inl (1 : Int32)) rfl ?_
        refine zw_goto hm_214 dX12_minor_65 (t := 69) rfl ?_
        obtain ⟨hg, h⟩ := h
        refine zw_bas22l hm_214 dX12_minor_69 (hx := by decide) (yv := (1 : Int32)) (zT_is hS s_110) (zT_h hS s_110) rfl hg ?_
        refine zw_sto hm_214 dX12_minor_70 [(2, .inl (l2 + (1 : Int32))), (0, .inr (.inr (some 94))), (1, .inl l1)] rfl rfl rfl ?_
        refine zw_goto hm_214 dX12_minor_73 (t := 35) rfl ?_
        exact zw_sub (ma_nd_of (ks := [0, 1, 2]) rfl (by decide)) (ma_nd_of (ks := [2, 0, 1]) rfl (by decide)) (ma_le_cons rfl (ma_le_cons rfl (ma_le_cons rfl (ma_le_nil _)))) (h d w _ Q (by omega) (by omega) (zT_pi hS) rfl HQ)
theorem g_214_121 {X : Nat × (Nat → Int32)} {m : Nat → Nat → Int32} {P : Option ma_V → (Nat → Nat → Int32) → Prop} (l1 : Int32) (l2 : Int32) (l3 : Int32) (h : if (16 : Int32) ≤ l3 then (zm X 6 129 214 145 [(0, .inr (.inr (some 94))), (1, .inl l1), (2, .inl l2), (3, .inl (0 : Int32))] m P) else ((0 ≤ l3 ∧ l3.toNatClampNeg < 16) ∧ (zm X 2 43 207 0 [(0, .inr (.inr (some 94))), (1, .inl (m 112 l3.toNatClampNeg))] m (zmv (fun m1 => zm X 6 129 214 121 [(0, .inr (.inr (some 94))), (1, .inl l1), (2, .inl l2), (3, .inl (l3 + (1 : Int32)))] m1 P))))) : zm X 6 129 214 121 [(0, .inr (.inr (some 94))), (1, .inl l1), (2, .inl l2), (3, .inl l3)] m P := by
  intro d w S Q hd hw hS hm HQ
  subst hm
  refine zw_push hm_214 dX12_minor_121 (v := .inl l3) rfl ?_
  refine zw_push hm_214 dX12_minor_122 (v := .inl (16 : Int32)) rfl ?_
  refine zw_if2 hm_214 dX12_minor_124 (t := 143) rfl zc2_ge ?_ ?_
  · intro hc
    rw [if_pos hc] at h
    refine zw_push hm_214 dX12_minor_143 (v := .inl (0 : Int32)) rfl ?_
    refine zw_sto hm_214 dX12_minor_144 [(3, .inl (0 : Int32)), (0, .inr (.inr (some 94))), (1, .inl l1), (2, .inl l2)] rfl rfl rfl ?_
    exact zw_sub (ma_nd_of (ks := [0, 1, 2, 3]) rfl (by decide)) (ma_nd_of (ks := [3, 0, 1, 2]) rfl (by decide)) (ma_le_cons rfl (ma_le_cons rfl (ma_le_cons rfl (ma_le_cons rfl (ma_le_nil _))))) (h d w _ Q (by omega) (by omega) hS rfl HQ)
  · intro hc
    rw [if_neg hc] at h
    refine zw_push hm_214 dX12_minor_127 (v := .inr (.inr (some 94))) rfl ?_
    refine zw_push hm_214 dX12_minor_128 (v := .inr (.inr (some 94))) rfl ?_
    refine zw_gf hm_214 dX12_minor_129 (v := .inr (.inr (some 112))) (zT_is hS s_94) (zT_t hS s_94) rfl f_12_68_12 (zT_f hS r_94_51) ?_
    refine zw_push hm_214 dX12_minor_132 (v := .inl l3) rfl ?_
    obtain ⟨hg, h⟩ := h
    refine zw_ia hm_214 dX12_minor_133 (zT_is hS s_112) (zT_h hS s_112) rfl hg ?_
    show ma_wp X d w 214 134 [(0, .inr (.inr (some 94))), (1, .inl l1), (2, .inl l2), (3, .inl l3)] [.inl ((mI S) 112 l3.toNatClampNeg), .inr (.inr (some 94))] S _
    refine zw_cv hm_214 dX12_minor_134 v_12_365_12 hm_207 [.inl ((mI S) 112 l3.toNatClampNeg)] [] rfl (zT_rt hS s_94 rfl) ⟨by omega, by omega⟩ rfl (h _ _ S _ (by omega) (by omega) hS rfl (fun o9 m1 hv => ?_))
    obtain ⟨rfl, h⟩ := zmv_of hv
    show ma_wp X d w 214 137 [(0, .inr (.inr (some 94))), (1, .inl l1), (2, .inl l2), (3, .inl l3)] [] (zst S m1) _
    refine zw_sto hm_214 dX12_minor_137 [(3, .inl (l3 + (1 : Int32))), (0, .inr (.inr (some 94))), (1, .inl l1), (2, .inl l2)] rfl rfl rfl ?_
    refine zw_goto hm_214 dX12_minor_140 (t := 121) rfl ?_
    exact zw_sub (ma_nd_of (ks := [0, 1, 2, 3]) rfl (by decide)) (ma_nd_of (ks := [3, 0, 1, 2]) rfl (by decide)) (ma_le_cons rfl (ma_le_cons rfl (ma_le_cons rfl (ma_le_cons rfl (ma_le_nil _))))) (h d w _ Q (by omega) (by omega) (zT_zst hS m1) rfl HQ)
theorem g_214_145 {X : Nat × (Nat → Int32)} {m : Nat → Nat → Int32} {P : Option ma_V → (Nat → Nat → Int32) → Prop} (l1 : Int32) (l2 : Int32) (l3 : Int32) (h : if (m 94 55) ≤ l3 then (zm X 3 64 216 0 [(0, .inr (.inr (some 94))), (1, .inl l2)] m (zmv (fun m1 => zm X 3 64 208 0 [(0, .inr (.inr (some 94)))] m1 (zmv (fun m3 => zm X 4 86 209 0 [(0, .inr (.inr (some 94))), (1, .inl (1 : Int32))] m3 (zmv (fun m5 => zm X 0 0 199 0 [(0, .inr (.inr (some 94)))] m5 (zmv (fun m7 => zm X 2 44 200 0 [(0, .inr (.inr (some 94)))] (ma_u m7 94 59 (m7 94 77)) (zmi (fun v10 m9 => zm X 2 44 212 0 [(0, .inr (.inr (some 94)))] m9 (zmv (fun m11 => P (some (.inl (l1 + v10))) m11))))))))))))) else ((0 ≤ l3 ∧ l3.toNatClampNeg < 3100) ∧ (zm X 2 43 207 0 [(0, .inr (.inr (some 94))), (1, .inl (m 114 l3.toNatClampNeg))] m (zmv (fun m13 => zm X 6 129 214 145 [(0, .inr (.inr (some 94))), (1, .inl l1), (2, .inl l2), (3, .inl (l3 + (1 : Int32)))] m13 P))))) : zm X 6 129 214 145 [(0, .inr (.inr (some 94))), (1, .inl l1), (2, .inl l2), (3, .inl l3)] m P := by
  intro d w S Q hd hw hS hm HQ
  subst hm
  refine zw_push hm_214 dX12_minor_145 (v := .inl l3) rfl ?_
  refine zw_push hm_214 dX12_minor_146 (v := .inr (.inr (some 94))) rfl ?_
  refine zw_gf hm_214 dX12_minor_147 (v := .inl ((mI S) 94 55)) (zT_is hS s_94) (zT_t hS s_94) rfl f_12_261_12 rfl ?_
  refine zw_if2 hm_214 dX12_minor_150 (t := 169) rfl zc2_ge ?_ ?_
  · intro hc
    rw [if_pos hc] at h
    refine zw_push hm_214 dX12_minor_169 (v := .inr (.inr (some 94))) rfl ?_
    refine zw_push hm_214 dX12_minor_170 (v := .inl l2) rfl ?_
    refine zw_cv hm_214 dX12_minor_171 v_12_387_12 hm_216 [.inl l2] [] rfl (zT_rt hS s_94 rfl) ⟨by omega, by omega⟩ rfl (h _ _ S _ (by omega) (by omega) hS rfl (fun o9 m1 hv => ?_))
    obtain ⟨rfl, h⟩ := zmv_of hv
    show ma_wp X d w 214 174 [(0, .inr (.inr (some 94))), (1, .inl l1), (2, .inl l2), (3, .inl l3)] [] (zst S m1) _
    refine zw_push hm_214 dX12_minor_174 (v := .inr (.inr (some 94))) rfl ?_
    refine zw_cv hm_214 dX12_minor_175 v_12_368_12 hm_208 [] [] rfl (zT_rt (zT_zst hS m1) s_94 rfl) ⟨by omega, by omega⟩ rfl (h _ _ (zst S m1) _ (by omega) (by omega) (zT_zst hS m1) rfl (fun o9 m3 hv => ?_))
    obtain ⟨rfl, h⟩ := zmv_of hv
    show ma_wp X d w 214 178 [(0, .inr (.inr (some 94))), (1, .inl l1), (2, .inl l2), (3, .inl l3)] [] (zst S m3) _
    refine zw_push hm_214 dX12_minor_178 (v := .inr (.inr (some 94))) rfl ?_
    refine zw_push hm_214 dX12_minor_179 (v := .inl (1 : Int32)) rfl ?_
    refine zw_cv hm_214 dX12_minor_180 v_12_371_12 hm_209 [.inl (1 : Int32)] [] rfl (zT_rt (zT_zst hS m3) s_94 rfl) ⟨by omega, by omega⟩ rfl (h _ _ (zst S m3) _ (by omega) (by omega) (zT_zst hS m3) rfl (fun o9 m5 hv => ?_))
    obtain ⟨rfl, h⟩ := zmv_of hv
    show ma_wp X d w 214 183 [(0, .inr (.inr (some 94))), (1, .inl l1), (2, .inl l2), (3, .inl l3)] [] (zst S m5) _
    refine zw_push hm_214 dX12_minor_183 (v := .inr (.inr (some 94))) rfl ?_
    refine zw_cv hm_214 dX12_minor_184 v_12_339_12 hm_199 [] [] rfl (zT_rt (zT_zst hS m5) s_94 rfl) ⟨by omega, by omega⟩ rfl (h _ _ (zst S m5) _ (by omega) (by omega) (zT_zst hS m5) rfl (fun o9 m7 hv => ?_))
    obtain ⟨rfl, h⟩ := zmv_of hv
    show ma_wp X d w 214 187 [(0, .inr (.inr (some 94))), (1, .inl l1), (2, .inl l2), (3, .inl l3)] [] (zst S m7) _
    refine zw_push hm_214 dX12_minor_187 (v := .inr (.inr (some 94))) rfl ?_
    refine zw_push hm_214 dX12_minor_188 (v := .inr (.inr (some 94))) rfl ?_
    refine zw_gf hm_214 dX12_minor_189 (v := .inl (m7 94 77)) (zT_is (zT_zst hS m7) s_94) (zT_t (zT_zst hS m7) s_94) rfl f_12_359_12 rfl ?_
    refine zw_pf hm_214 dX12_minor_192 (zT_is (zT_zst hS m7) s_94) (zT_t (zT_zst hS m7) s_94) p_12_276_12 zk_int ?_
    refine zw_push hm_214 dX12_minor_195 (v := .inl l1) rfl ?_
    refine zw_push hm_214 dX12_minor_196 (v := .inr (.inr (some 94))) rfl ?_
    refine zw_cv hm_214 dX12_minor_197 v_12_342_12 hm_200 [] [.inl l1] rfl (zT_rt (zT_pi (zT_zst hS m7)) s_94 rfl) ⟨by omega, by omega⟩ rfl (h _ _ (ma_put (zst S m7) 94 59 (.inl (m7 94 77))) _ (by omega) (by omega) (zT_pi (zT_zst hS m7)) rfl (fun o9 m9 hv => ?_))
    obtain ⟨v10, rfl, h⟩ := zmi_of hv
    show ma_wp X d w 214 200 [(0, .inr (.inr (some 94))), (1, .inl l1), (2, .inl l2), (3, .inl l3)] [.inl v10, .inl l1] (zst S m9) _
    refine zw_stk hm_214 dX12_minor_200 (st₉ := [.inl (l1 + v10)]) rfl rfl ?_
    refine zw_sto hm_214 dX12_minor_201 [(1, .inl (l1 + v10)), (0, .inr (.inr (some 94))), (2, .inl l2), (3, .inl l3)] rfl rfl rfl ?_
    refine zw_push hm_214 dX12_minor_202 (v := .inr (.inr (some 94))) rfl ?_
    refine zw_cv hm_214 dX12_minor_203 v_12_378_12 hm_212 [] [] rfl (zT_rt (zT_zst hS m9) s_94 rfl) ⟨by omega, by omega⟩ rfl (h _ _ (zst S m9) _ (by omega) (by omega) (zT_zst hS m9) rfl (fun o9 m11 hv => ?_))
    obtain ⟨rfl, h⟩ := zmv_of hv
    show ma_wp X d w 214 206 [(1, .inl (l1 + v10)), (0, .inr (.inr (some 94))), (2, .inl l2), (3, .inl l3)] [] (zst S m11) _
    refine zw_push hm_214 dX12_minor_206 (v := .inl (l1 + v10)) rfl ?_
    exact zw_iret hm_214 dX12_minor_207 (HQ _ _ h)
  · intro hc
    rw [if_neg hc] at h
    refine zw_push hm_214 dX12_minor_153 (v := .inr (.inr (some 94))) rfl ?_
    refine zw_push hm_214 dX12_minor_154 (v := .inr (.inr (some 94))) rfl ?_
    refine zw_gf hm_214 dX12_minor_155 (v := .inr (.inr (some 114))) (zT_is hS s_94) (zT_t hS s_94) rfl f_12_74_12 (zT_f hS r_94_53) ?_
    refine zw_push hm_214 dX12_minor_158 (v := .inl l3) rfl ?_
    obtain ⟨hg, h⟩ := h
    refine zw_ia hm_214 dX12_minor_159 (zT_is hS s_114) (zT_h hS s_114) rfl hg ?_
    show ma_wp X d w 214 160 [(0, .inr (.inr (some 94))), (1, .inl l1), (2, .inl l2), (3, .inl l3)] [.inl ((mI S) 114 l3.toNatClampNeg), .inr (.inr (some 94))] S _
    refine zw_cv hm_214 dX12_minor_160 v_12_365_12 hm_207 [.inl ((mI S) 114 l3.toNatClampNeg)] [] rfl (zT_rt hS s_94 rfl) ⟨by omega, by omega⟩ rfl (h _ _ S _ (by omega) (by omega) hS rfl (fun o9 m13 hv => ?_))
    obtain ⟨rfl, h⟩ := zmv_of hv
    show ma_wp X d w 214 163 [(0, .inr (.inr (some 94))), (1, .inl l1), (2, .inl l2), (3, .inl l3)] [] (zst S m13) _
    refine zw_sto hm_214 dX12_minor_163 [(3, .inl (l3 + (1 : Int32))), (0, .inr (.inr (some 94))), (1, .inl l1), (2, .inl l2)] rfl rfl rfl ?_
    refine zw_goto hm_214 dX12_minor_166 (t := 145) rfl ?_
    exact zw_sub (ma_nd_of (ks := [0, 1, 2, 3]) rfl (by decide)) (ma_nd_of (ks := [3, 0, 1, 2]) rfl (by decide)) (ma_le_cons rfl (ma_le_cons rfl (ma_le_cons rfl (ma_le_cons rfl (ma_le_nil _))))) (h d w _ Q (by omega) (by omega) (zT_zst hS m13) rfl HQ)
set_option maxHeartbeats 8000000 in
theorem lp_214_145 {X : Nat × (Nat → Int32)} {P : Option ma_V → (Nat → Nat → Int32) → Prop} {T : Nat} {m0 : Nat → Nat → Int32} (h0 : zV m0) (K : ∀ v m₉, zF wr_214 m0 m₉ → zV m₉ → (zGW T (m₉ 94 55) (m₉ 109)) → (zGU T (m₉ 94 46) (m₉ 99)) → (zOw (m₉ 99) (m₉ 103) (m₉ 111)) → (zDX (m₉ 94 10) (m₉ 99) (m₉ 112) (m₉ 113) (m₉ 114) (m₉ 94 55) (m₉ 98) (m₉ 101) (m₉ 102) (m₉ 108)) → (zHA (m₉ 94 10) (m₉ 94 11) (m₉ 94 13) (m₉ 94 14) (m₉ 94 16) (m₉ 94 61) (m₉ 94 59) (m₉ 94 60) (m₉ 99) (m₉ 102) (m₉ 103) (m₉ 111) (m₉ 117) (m₉ 98) (m₉ 101) (m₉ 108)) → P (some (.inl v)) m₉) : ∀ (n : Nat) (m : Nat → Nat → Int32) (l1 : Int32) (l2 : Int32) (l3 : Int32), (3100 - l3.toInt).toNat = n → zF wr_214 m0 m → zV m → (0 ≤ l2.toInt) → (0 ≤ l3.toInt) → ((m 94 10).toInt = 3) → (zKS (m 110) (m 94 75)) → (zOw (m 99) (m 103) (m 111)) → (zH2 (m 94 10) (m 94 11) (m 94 61) (m 94 77) (m 99) (m 110) (m 102)) → (zH3 (m 94 10) (m 94 13) (m 94 14) (m 94 15) (m 94 61) (m 94 77) (m 94 60) (m 99) (m 110) (m 104) (m 102) (m 103) (m 111)) → ((m 94 76).toInt ≤ (m 94 75).toInt) → (zKU (m 94 10) (m 99) (m 110)) → (zW (m 94 7) (m 98) (m 101) (m 102) (m 108)) → (zDX (m 94 10) (m 99) (m 112) (m 113) (m 114) (m 94 55) (m 98) (m 101) (m 102) (m 108)) → (4 ≤ (m 94 16).toInt) → (l2.toInt ≤ (m 94 60).toInt) → (zDK l2.toInt (m 94 16).toInt (m 110) (m 99) (m 103) (m 102) (m 98) (m 101) (m 108) (m 117)) → (zCQ (m 110) (m 98) (m 101) (m 102) (m 108) (m 119) (m 94 76) (m 94 75) (zXX (m 99) (m 103) (0 : Int32).toInt l2.toInt) 3100 0) → (zGW T (m 94 55) (m 109)) → (zGU T (m 94 46) (m 99)) → (((m 94 10).toInt = 2 ∨ (m 94 10).toInt = 3) → zcov (m 110) (m 112) 16) → (((m 94 10).toInt = 2 ∨ (m 94 10).toInt = 3) → zcov (m 110) (m 114) l3.toInt) → zm X 6 129 214 145 [(0, .inr (.inr (some 94))), (1, .inl l1), (2, .inl l2), (3, .inl l3)] m P := by
  intro n
  induction n using Nat.strongRecOn with
  | _ n IH =>
    intro m l1 l2 l3 hmu hF hV hi0 hi1 hi2 r_CMK r_OW r_H2 r_H3 hi7 r_KU r_W r_DX hi11 hi12 r_DK r_CQ r_GW r_GU r_COVR r_COVW
    refine g_214_145 l1 l2 l3 ?_
    have f1 : 0 ≤ (m 94 10).toInt ∧ (m 94 10).toInt ≤ 6 := rs_94_10 (m := m) hV
    have f2 : 0 ≤ (m 94 76).toInt ∧ (m 94 76).toInt ≤ 3100 := rs_94_76 (m := m) hV
    have f3 : 0 ≤ (m 94 75).toInt ∧ (m 94 75).toInt ≤ 3100 := rs_94_75 (m := m) hV
    have f4 : 0 ≤ (m 94 16).toInt ∧ (m 94 16).toInt ≤ 64 := rs_94_16 (m := m) hV
    have f5 : 0 ≤ (m 94 60).toInt ∧ (m 94 60).toInt ≤ 1600 := rs_94_60 (m := m) hV
    have f6 : 0 ≤ (m 94 55).toInt ∧ (m 94 55).toInt ≤ 3100 := rs_94_55 (m := m) hV
    have b7 := i_bd l3
    refine zd (fun (h8 : (m 94 55) ≤ l3) => ?_) (fun (h8 : ¬ (m 94 55) ≤ l3) => ?_)
    · skip
      have g9 := i_le h8
      have b10 := i_bd l2
      try have gw := GW_room r_GW
      refine sp_216 (l2) hV (by omega) (show (m 94 10).toInt = 3 from by omega) r_CMK r_OW r_H2 r_H3 (show (m 94 76).toInt ≤ (m 94 75).toInt from by omega) r_KU r_W r_DX (show 4 ≤ (m 94 16).toInt from by omega) (show l2.toInt ≤ (m 94 60).toInt from by omega) r_DK r_CQ (fun m1 hV_m1 p0_m1 p1_m1 p2_m1 p3_m1 p4_m1 p5_m1 p6_m1 p7_m1 => zmv_n ?_)
      have p0_m1 : zKS (m1 110) (m1 94 75) := p0_m1
      have p1_m1 : zOw (m 99) (m1 103) (m1 111) := p1_m1
      have p2_m1 : zH2 (m 94 10) (m 94 11) (m 94 61) (m1 94 77) (m 99) (m1 110) (m 102) := p2_m1
      have p3_m1 : zH3 (m 94 10) (m 94 13) (m 94 14) (m 94 15) (m 94 61) (m1 94 77) (m1 94 60) (m 99) (m1 110) (m1 104) (m 102) (m1 103) (m1 111) := p3_m1
      have p4_m1 : (m 94 76).toInt ≤ (m1 94 75).toInt := p4_m1
      have p5_m1 : zKU (m 94 10) (m 99) (m1 110) := p5_m1
      have p6_m1 : zle (m 110) (m1 110) := p6_m1
      have p7_m1 : zCQ (m1 110) (m 98) (m 101) (m 102) (m 108) (m1 119) (m 94 76) (m1 94 75) (fun _ => False) 3100 0 := p7_m1
      have f11 : 0 ≤ (m1 94 75).toInt ∧ (m1 94 75).toInt ≤ 3100 := rs_94_75 (m := (zov wr_216 m m1)) hV_m1
      try have gw := GW_room r_GW
      refine sp_208 (XX := (fun _ => False))  hV_m1 (show (m 94 10).toInt = 2 ∨ (m 94 10).toInt = 3 from by omega) p0_m1 p1_m1 p2_m1 p3_m1 (show (m 94 76).toInt ≤ (m1 94 75).toInt from by omega) p5_m1 r_W r_DX p7_m1 (fun m3 hV_m3 p0_m3 p1_m3 p2_m3 p3_m3 p4_m3 p5_m3 p6_m3 p7_m3 p8_m3 => zmv_n ?_)
      have p0_m3 : zKS (m3 110) (m3 94 75) := p0_m3
      have p1_m3 : zOw (m 99) (m3 103) (m3 111) := p1_m3
      have p2_m3 : zH2 (m 94 10) (m 94 11) (m 94 61) (m3 94 77) (m 99) (m3 110) (m 102) := p2_m3
      have p3_m3 : zH3 (m 94 10) (m 94 13) (m 94 14) (m 94 15) (m 94 61) (m3 94 77) (m3 94 60) (m 99) (m3 110) (m3 104) (m 102) (m3 103) (m3 111) := p3_m3
      have p4_m3 : (m3 94 76).toInt ≤ (m3 94 75).toInt := p4_m3
      have p5_m3 : zKU (m 94 10) (m 99) (m3 110) := p5_m3
      have p6_m3 : zle (m1 110) (m3 110) := p6_m3
      have p7_m3 : zCQ (m3 110) (m 98) (m 101) (m 102) (m 108) (m3 119) (m3 94 76) (m3 94 75) (fun _ => False) 3100 0 := p7_m3
      have p8_m3 : (m3 94 75).toInt ≤ (m3 94 76).toInt := p8_m3
      have f12 : 0 ≤ (m3 94 76).toInt ∧ (m3 94 76).toInt ≤ 3100 := rs_94_76 (m := (zov wr_208 (zov wr_216 m m1) m3)) hV_m3
      have f13 : 0 ≤ (m3 94 75).toInt ∧ (m3 94 75).toInt ≤ 3100 := rs_94_75 (m := (zov wr_208 (zov wr_216 m m1) m3)) hV_m3
      have li14 : (1 : Int32).toInt = 1 := rfl
      try have gw := GW_room r_GW
      refine sp_209 (XX := (fun _ => False)) ((1 : Int32)) hV_m3 (show (m 94 10).toInt = 2 ∨ (m 94 10).toInt = 3 from by omega) p0_m3 p1_m3 p2_m3 p3_m3 (show (m3 94 76).toInt ≤ (m3 94 75).toInt from by omega) p5_m3 r_W r_DX (show (m3 94 75).toInt ≤ (m3 94 76).toInt from by omega) p7_m3 r_GW (show ((m 94 10).toInt = 2 ∨ (m 94 10).toInt = 3) → zcov (m3 110) (m 112) 16 from by first | (exact fun hp => cov_le (cov_le (r_COVR hp) p6_m1 (fun k hk => (ra_112 hV (by omega)).2)) p6_m3 (fun k hk => (ra_112 hV (by omega)).2)) | (exact fun hp => cov_cut (r_COVR hp) (by omega)) | (exact fun hp => cov_le (cov_le (cov_cut (r_COVR hp) (by omega)) p6_m1 (fun k hk => (ra_112 hV (by omega)).2)) p6_m3 (fun k hk => (ra_112 hV (by omega)).2)) | (exact fun hp => cov_le (r_COVR hp) p6_m3 (fun k hk => (ra_112 hV (by omega)).2)) | (exact fun hp => cov_le (cov_cut (r_COVR hp) (by omega)) p6_m3 (fun k hk => (ra_112 hV (by omega)).2)) | (exact fun hp => cov_0 (by decide)) | (exact fun hp => cov_one (r_COVR hp) rfl (by omega) (by omega) (Or.inl (by omega))) | (exact fun hp => cov_one (r_COVR hp) rfl (by omega) (by omega) (Or.inr (by assumption))) | (exact fun hp => cov_cut (r_COVR hp) (by omega)) | (exact fun hp => cov_le (r_COVR hp) p6_m3 (fun k hk => (ra_112 hV_m3 (by omega)).2)) | (exact fun hp => cov_le (r_COVR hp) p6_m3 (fun k hk => (ra_114 hV_m3 (by have := rs_94_55 hV; omega)).2)) | (exfalso; omega; done) | (exfalso; contradiction; done)) (show ((m 94 10).toInt = 2 ∨ (m 94 10).toInt = 3) → zcov (m3 110) (m 114) (m 94 55).toInt from by first | (exact fun hp => cov_le (cov_le (cov_cut (r_COVW hp) (by omega)) p6_m1 (fun k hk => (ra_114 hV (by have := GW_room r_GW; omega)).2)) p6_m3 (fun k hk => (ra_114 hV (by have := GW_room r_GW; omega)).2)) | (exact fun hp => cov_cut (r_COVW hp) (by omega)) | (exact fun hp => cov_le (cov_le (r_COVW hp) p6_m1 (fun k hk => (ra_114 hV (by have := GW_room r_GW; omega)).2)) p6_m3 (fun k hk => (ra_114 hV (by have := GW_room r_GW; omega)).2)) | (exact fun hp => cov_le (r_COVW hp) p6_m3 (fun k hk => (ra_114 hV (by have := GW_room r_GW; omega)).2)) | (exact fun hp => cov_le (cov_cut (r_COVW hp) (by omega)) p6_m3 (fun k hk => (ra_114 hV (by have := GW_room r_GW; omega)).2)) | (exact fun hp => cov_0 (by decide)) | (exact fun hp => cov_one (r_COVW hp) rfl (by omega) (by omega) (Or.inl (by omega))) | (exact fun hp => cov_one (r_COVW hp) rfl (by omega) (by omega) (Or.inr (by assumption))) | (exact fun hp => cov_cut (r_COVW hp) (by omega)) | (exact fun hp => cov_le (r_COVW hp) p6_m3 (fun k hk => (ra_112 hV_m3 (by omega)).2)) | (exact fun hp => cov_le (r_COVW hp) p6_m3 (fun k hk => (ra_114 hV_m3 (by have := rs_94_55 hV; omega)).2)) | (exfalso; omega; done) | (exfalso; contradiction; done)) (fun m5 hV_m5 p0_m5 p1_m5 p2_m5 p3_m5 p4_m5 p5_m5 p6_m5 p7_m5 p8_m5 p9_m5 p10_m5 p11_m5 p12_m5 => zmv_n ?_)
      have p0_m5 : zKS (m5 110) (m5 94 75) := p0_m5
      have p1_m5 : zOw (m 99) (m5 103) (m5 111) := p1_m5
      have p2_m5 : zH2 (m 94 10) (m 94 11) (m 94 61) (m5 94 77) (m 99) (m5 110) (m 102) := p2_m5
      have p3_m5 : zH3 (m 94 10) (m 94 13) (m 94 14) (m 94 15) (m 94 61) (m5 94 77) (m5 94 60) (m 99) (m5 110) (m5 104) (m 102) (m5 103) (m5 111) := p3_m5
      have p4_m5 : (m5 94 76).toInt ≤ (m5 94 75).toInt := p4_m5
      have p5_m5 : zKU (m 94 10) (m 99) (m5 110) := p5_m5
      have p6_m5 : zDX (m 94 10) (m 99) (m 112) (m5 113) (m5 114) (m5 94 55) (m 98) (m 101) (m 102) (m 108) := p6_m5
      have p7_m5 : (m5 94 75).toInt ≤ (m5 94 76).toInt := p7_m5
      have p8_m5 : zCQ (m5 110) (m 98) (m 101) (m 102) (m 108) (m5 119) (m5 94 76) (m5 94 75) (fun _ => False) 3100 0 := p8_m5
      have p9_m5 : zGW T (m5 94 55) (m5 109) := p9_m5
      have p10_m5 : ((m 94 10).toInt = 2 ∨ (m 94 10).toInt = 3) → zcov (m5 110) (m 112) 16 := p10_m5
      have p11_m5 : ((m 94 10).toInt = 2 ∨ (m 94 10).toInt = 3) → zcov (m5 110) (m5 114) (m5 94 55).toInt := p11_m5
      have p12_m5 : zuw (m 113) (m5 113) := p12_m5
      have f15 : 0 ≤ (m5 94 76).toInt ∧ (m5 94 76).toInt ≤ 3100 := rs_94_76 (m := (zov wr_209 (zov wr_208 (zov wr_216 m m1) m3) m5)) hV_m5
      have f16 : 0 ≤ (m5 94 75).toInt ∧ (m5 94 75).toInt ≤ 3100 := rs_94_75 (m := (zov wr_209 (zov wr_208 (zov wr_216 m m1) m3) m5)) hV_m5
      try have gw := GW_room p9_m5
      refine sp_199  hV_m5  (fun m7 hV_m7 p0_m7 p1_m7 => zmv_n ?_)
      have p0_m7 : zuw (m5 113) (m7 113) := p0_m7
      have p1_m7 : zcov (m5 110) (m7 113) 16 := p1_m7
      have f18 : 0 ≤ (m5 94 77).toInt ∧ (m5 94 77).toInt ≤ 4600 := rs_94_77 (m := (zov wr_209 (zov wr_208 (zov wr_216 m m1) m3) m5)) hV_m5
      have hV17 : zV (ma_u (zov wr_199 (zov wr_209 (zov wr_208 (zov wr_216 m m1) m3) m5) m7) 94 59 (m5 94 77)) := us_94_59 hV_m7 (by omega) (by omega)
      try have gw := GW_room p9_m5
      refine sp_200  hV17 r_W r_GU p1_m5 (fun v10 m9 hV_m9 p0_m9 p1_m9 p2_m9 p3_m9 => zmi_n ?_)
      have p0_m9 : zrm (m 99) (m9 99) (m5 110) 3100 := p0_m9
      have p1_m9 : zowr (m5 111) (m9 111) (m 99) (m5 110) (m5 103) := p1_m9
      have p2_m9 : zGU T (m 94 46) (m9 99) := p2_m9
      have p3_m9 : zOw (m9 99) (m5 103) (m9 111) := p3_m9
      try have gw := GW_room p9_m5
      refine sp_212  hV_m9 r_W (show 4 ≤ (m 94 16).toInt from by omega) (fun m11 hV_m11 p0_m11 => zmv_n ?_)
      have p0_m11 : zDC (m 94 14).toInt (m 94 16).toInt (m9 99) (m5 103) (m 102) (m 98) (m 101) (m 108) (m11 117) := p0_m11
      try have gw := GW_room p9_m5
      have b19 := i_bd l1
      have b20 := i_bd v10
      first | have b22 := i_bd (l1 + v10) | have e21 : (l1 + v10).toInt = l1.toInt + v10.toInt := i_add (by omega) (by omega)
      exact K ((l1 + v10)) _ (zF_zov (zF_zov (zF_u (zF_zov (zF_zov (zF_zov (zF_zov hF ws_216_214) ws_208_214) ws_209_214) ws_199_214) rfl) ws_200_214) ws_212_214) hV_m11 p9_m5 p2_m9 p3_m9 (show zDX (m 94 10) (m9 99) (m 112) (m7 113) (m5 114) (m5 94 55) (m 98) (m 101) (m 102) (m 108) from by first | (exact DX_come p8_m5 (by omega) (p10_m5 (by omega)) (p11_m5 (by omega)) p1_m7 p5_m5 p0_m9 (fun k hk => (ra_112 hV_m11 (by omega)).2) (fun k hk => (ra_114 hV_m11 (by have := GW_room p9_m5; omega)).2) (fun k hk => (ra_113 hV_m11 (by omega)).2) (W_hi r_W)) | (exfalso; omega; done) | (exfalso; contradiction; done)) (show zHA (m 94 10) (m 94 11) (m 94 13) (m 94 14) (m 94 16) (m 94 61) (m5 94 77) (m5 94 60) (m9 99) (m 102) (m5 103) (m9 111) (m11 117) (m 98) (m 101) (m 108) from by first | (exact HA_minor (by omega) (by omega) (p3_m5 (by omega)) p0_m9 p1_m9 p0_m11 (fun t ht => ⟨(ra_103 hV_m11 ht).1, Int.lt_of_le_of_lt (ra_103 hV_m11 ht).2 (by decide)⟩) (fun t ht => (ra_102 hV_m11 ht).1)) | (exfalso; omega; done) | (exfalso; contradiction; done))
    · skip
      have g23 := i_nle h8
      have hg24 : (0 ≤ l3 ∧ l3.toNatClampNeg < 3100) := i_ix (by omega) (by omega)
      refine ⟨hg24, ?_⟩
      first | have f25 : 0 ≤ (m 114 l3.toNatClampNeg).toInt ∧ (m 114 l3.toNatClampNeg).toInt ≤ 3099 := ra_114 (m := m) hV (k := l3.toNatClampNeg) (i_ix (n := 3100) (by omega) (by omega)).2 | have b26 := i_bd (m 114 l3.toNatClampNeg)
      try have gw := GW_room r_GW
      refine sp_207 (XX := (zXX (m 99) (m 103) (0 : Int32).toInt l2.toInt)) (CU := 3100) (II := 0) ((m 114 l3.toNatClampNeg)) hV (by omega) (by omega) (show (m 94 10).toInt = 2 ∨ (m 94 10).toInt = 3 from by omega) (show (m 114 l3.toNatClampNeg).toInt < 0 ∨ (m 99) (m 114 l3.toNatClampNeg).toNatClampNeg ≠ 0 from by first | (exact ((r_DX (by omega)).2.2.1 l3.toNatClampNeg (by rw [tn_cast (by omega)]; omega))) | (exfalso; omega; done) | (exfalso; contradiction; done)) r_CMK r_OW r_H2 r_H3 (show (m 94 76).toInt ≤ (m 94 75).toInt from by omega) r_CQ r_KU (fun m13 hV_m13 p0_m13 p1_m13 p2_m13 p3_m13 p4_m13 p5_m13 p6_m13 p7_m13 p8_m13 p9_m13 p10_m13 => zmv_n ?_)
      have p0_m13 : zKS (m13 110) (m13 94 75) := p0_m13
      have p1_m13 : zOw (m 99) (m13 103) (m13 111) := p1_m13
      have p2_m13 : zH2 (m 94 10) (m 94 11) (m 94 61) (m13 94 77) (m 99) (m13 110) (m 102) := p2_m13
      have p3_m13 : zH3 (m 94 10) (m 94 13) (m 94 14) (m 94 15) (m 94 61) (m13 94 77) (m13 94 60) (m 99) (m13 110) (m13 104) (m 102) (m13 103) (m13 111) := p3_m13
      have p4_m13 : (m 114 l3.toNatClampNeg).toInt < 0 ∨ (m13 110) (m 114 l3.toNatClampNeg).toNatClampNeg ≠ 0 := p4_m13
      have p5_m13 : zle (m 110) (m13 110) := p5_m13
      have p6_m13 : (m 94 76).toInt ≤ (m13 94 75).toInt := p6_m13
      have p7_m13 : zCQ (m13 110) (m 98) (m 101) (m 102) (m 108) (m13 119) (m 94 76) (m13 94 75) (zXX (m 99) (m 103) (0 : Int32).toInt l2.toInt) 3100 0 := p7_m13
      have p8_m13 : zKU (m 94 10) (m 99) (m13 110) := p8_m13
      have p9_m13 : (m 94 10).toInt = 3 → zax (m 103) (m13 103) (m 94 60).toInt := p9_m13
      have p10_m13 : (m 94 60).toInt ≤ (m13 94 60).toInt := p10_m13
      have f27 : 0 ≤ (m13 94 75).toInt ∧ (m13 94 75).toInt ≤ 3100 := rs_94_75 (m := (zov wr_207 m m13)) hV_m13
      have f28 : 0 ≤ (m13 94 60).toInt ∧ (m13 94 60).toInt ≤ 1600 := rs_94_60 (m := (zov wr_207 m m13)) hV_m13
      skip
      try have gw := GW_room r_GW
      have b29 := i_bd l1
      have b30 := i_bd l2
      first | have e31 : (l3 + (1 : Int32)).toInt = l3.toInt + (1) := i_addk rfl (by omega) (by omega) | have b32 := i_bd (l3 + (1 : Int32))
      exact IH (3100 - (l3 + (1 : Int32)).toInt).toNat (by omega) _ (l1) (l2) ((l3 + (1 : Int32))) rfl (zF_zov hF ws_207_214) hV_m13 (by omega) (by omega) (show (m 94 10).toInt = 3 from by omega) p0_m13 p1_m13 p2_m13 p3_m13 (show (m 94 76).toInt ≤ (m13 94 75).toInt from by omega) p8_m13 r_W r_DX (show 4 ≤ (m 94 16).toInt from by omega) (show l2.toInt ≤ (m13 94 60).toInt from by omega) (show zDK l2.toInt (m 94 16).toInt (m13 110) (m 99) (m13 103) (m 102) (m 98) (m 101) (m 108) (m 117) from by first | (exact DK_ax r_DK p5_m13 (p9_m13 (by omega)) (by omega) (W_hi r_W)) | (exfalso; omega; done) | (exfalso; contradiction; done)) (show zCQ (m13 110) (m 98) (m 101) (m 102) (m 108) (m13 119) (m 94 76) (m13 94 75) (zXX (m 99) (m13 103) (0 : Int32).toInt l2.toInt) 3100 0 from by first | (exact CQ_ax p7_m13 (p9_m13 (by omega)) (by omega)) | (exfalso; omega; done) | (exfalso; contradiction; done)) r_GW r_GU (show ((m 94 10).toInt = 2 ∨ (m 94 10).toInt = 3) → zcov (m13 110) (m 112) 16 from by first | (exact fun hp => cov_le (r_COVR hp) p5_m13 (fun k hk => (ra_112 hV (by omega)).2)) | (exact fun hp => cov_one (cov_le (r_COVR hp) p5_m13 (fun k hk => (ra_112 hV (by omega)).2)) rfl (by omega) (by omega) p4_m13) | (exact fun hp => cov_cut (r_COVR hp) (by omega)) | (exact fun hp => cov_0 (by decide)) | (exact fun hp => cov_one (r_COVR hp) rfl (by omega) (by omega) (Or.inl (by omega))) | (exact fun hp => cov_one (r_COVR hp) rfl (by omega) (by omega) (Or.inr (by assumption))) | (exact fun hp => cov_cut (r_COVR hp) (by omega)) | (exfalso; omega; done) | (exfalso; contradiction; done)) (show ((m 94 10).toInt = 2 ∨ (m 94 10).toInt = 3) → zcov (m13 110) (m 114) (l3 + (1 : Int32)).toInt from by first | (exact fun hp => cov_one (cov_le (r_COVW hp) p5_m13 (fun k hk => (ra_114 hV (by have := GW_room r_GW; omega)).2)) rfl (by omega) (by omega) p4_m13) | (exact fun hp => cov_le (r_COVW hp) p5_m13 (fun k hk => (ra_114 hV (by have := GW_room r_GW; omega)).2)) | (exact fun hp => cov_cut (r_COVW hp) (by omega)) | (exact fun hp => cov_0 (by decide)) | (exact fun hp => cov_one (r_COVW hp) rfl (by omega) (by omega) (Or.inl (by omega))) | (exact fun hp => cov_one (r_COVW hp) rfl (by omega) (by omega) (Or.inr (by assumption))) | (exact fun hp => cov_cut (r_COVW hp) (by omega)) | (exfalso; omega; done) | (exfalso; contradiction; done))
set_option maxHeartbeats 8000000 in
theorem lp_214_121 {X : Nat × (Nat → Int32)} {P : Option ma_V → (Nat → Nat → Int32) → Prop} {T : Nat} {m0 : Nat → Nat → Int32} (h0 : zV m0) (K : ∀ v m₉, zF wr_214 m0 m₉ → zV m₉ → (zGW T (m₉ 94 55) (m₉ 109)) → (zGU T (m₉ 94 46) (m₉ 99)) → (zOw (m₉ 99) (m₉ 103) (m₉ 111)) → (zDX (m₉ 94 10) (m₉ 99) (m₉ 112) (m₉ 113) (m₉ 114) (m₉ 94 55) (m₉ 98) (m₉ 101) (m₉ 102) (m₉ 108)) → (zHA (m₉ 94 10) (m₉ 94 11) (m₉ 94 13) (m₉ 94 14) (m₉ 94 16) (m₉ 94 61) (m₉ 94 59) (m₉ 94 60) (m₉ 99) (m₉ 102) (m₉ 103) (m₉ 111) (m₉ 117) (m₉ 98) (m₉ 101) (m₉ 108)) → P (some (.inl v)) m₉) : ∀ (n : Nat) (m : Nat → Nat → Int32) (l1 : Int32) (l2 : Int32) (l3 : Int32), (16 - l3.toInt).toNat = n → zF wr_214 m0 m → zV m → (0 ≤ l2.toInt) → (0 ≤ l3.toInt) → ((m 94 10).toInt = 3) → (zKS (m 110) (m 94 75)) → (zOw (m 99) (m 103) (m 111)) → (zH2 (m 94 10) (m 94 11) (m 94 61) (m 94 77) (m 99) (m 110) (m 102)) → (zH3 (m 94 10) (m 94 13) (m 94 14) (m 94 15) (m 94 61) (m 94 77) (m 94 60) (m 99) (m 110) (m 104) (m 102) (m 103) (m 111)) → ((m 94 76).toInt ≤ (m 94 75).toInt) → (zKU (m 94 10) (m 99) (m 110)) → (zW (m 94 7) (m 98) (m 101) (m 102) (m 108)) → (zDX (m 94 10) (m 99) (m 112) (m 113) (m 114) (m 94 55) (m 98) (m 101) (m 102) (m 108)) → (4 ≤ (m 94 16).toInt) → (l2.toInt ≤ (m 94 60).toInt) → (zDK l2.toInt (m 94 16).toInt (m 110) (m 99) (m 103) (m 102) (m 98) (m 101) (m 108) (m 117)) → (zCQ (m 110) (m 98) (m 101) (m 102) (m 108) (m 119) (m 94 76) (m 94 75) (zXX (m 99) (m 103) (0 : Int32).toInt l2.toInt) 3100 0) → (zGW T (m 94 55) (m 109)) → (zGU T (m 94 46) (m 99)) → (((m 94 10).toInt = 2 ∨ (m 94 10).toInt = 3) → zcov (m 110) (m 112) l3.toInt) → zm X 6 129 214 121 [(0, .inr (.inr (some 94))), (1, .inl l1), (2, .inl l2), (3, .inl l3)] m P := by
  intro n
  induction n using Nat.strongRecOn with
  | _ n IH =>
    intro m l1 l2 l3 hmu hF hV hi0 hi1 hi2 r_CMK r_OW r_H2 r_H3 hi7 r_KU r_W r_DX hi11 hi12 r_DK r_CQ r_GW r_GU r_COVR
    refine g_214_121 l1 l2 l3 ?_
    have f1 : 0 ≤ (m 94 10).toInt ∧ (m 94 10).toInt ≤ 6 := rs_94_10 (m := m) hV
    have f2 : 0 ≤ (m 94 76).toInt ∧ (m 94 76).toInt ≤ 3100 := rs_94_76 (m := m) hV
    have f3 : 0 ≤ (m 94 75).toInt ∧ (m 94 75).toInt ≤ 3100 := rs_94_75 (m := m) hV
    have f4 : 0 ≤ (m 94 16).toInt ∧ (m 94 16).toInt ≤ 64 := rs_94_16 (m := m) hV
    have f5 : 0 ≤ (m 94 60).toInt ∧ (m 94 60).toInt ≤ 1600 := rs_94_60 (m := m) hV
    have li6 : (16 : Int32).toInt = 16 := rfl
    have b7 := i_bd l3
    refine zd (fun (h8 : (16 : Int32) ≤ l3) => ?_) (fun (h8 : ¬ (16 : Int32) ≤ l3) => ?_)
    · skip
      have g9 := i_le h8
      try have gw := GW_room r_GW
      have b10 := i_bd l1
      have b11 := i_bd l2
      have li12 : (0 : Int32).toInt = 0 := rfl
      exact lp_214_145 h0 K _ _ (l1) (l2) ((0 : Int32)) rfl hF hV (by omega) (by omega) (show (m 94 10).toInt = 3 from by omega) r_CMK r_OW r_H2 r_H3 (show (m 94 76).toInt ≤ (m 94 75).toInt from by omega) r_KU r_W r_DX (show 4 ≤ (m 94 16).toInt from by omega) (show l2.toInt ≤ (m 94 60).toInt from by omega) r_DK r_CQ r_GW r_GU (show ((m 94 10).toInt = 2 ∨ (m 94 10).toInt = 3) → zcov (m 110) (m 112) 16 from by first | (exact fun hp => cov_cut (r_COVR hp) (by omega)) | (exact fun hp => cov_0 (by decide)) | (exact fun hp => cov_one (r_COVR hp) rfl (by omega) (by omega) (Or.inl (by omega))) | (exact fun hp => cov_one (r_COVR hp) rfl (by omega) (by omega) (Or.inr (by assumption))) | (exact fun hp => cov_cut (r_COVR hp) (by omega)) | (exfalso; omega; done) | (exfalso; contradiction; done)) (show ((m 94 10).toInt = 2 ∨ (m 94 10).toInt = 3) → zcov (m 110) (m 114) (0 : Int32).toInt from by first | (exact fun hp => cov_0 (by decide)) | (exact fun hp => cov_0 (by decide)) | (exfalso; omega; done) | (exfalso; contradiction; done))
    · skip
      have g13 := i_nle h8
      have hg14 : (0 ≤ l3 ∧ l3.toNatClampNeg < 16) := i_ix (by omega) (by omega)
      refine ⟨hg14, ?_⟩
      first | have f15 : -1 ≤ (m 112 l3.toNatClampNeg).toInt ∧ (m 112 l3.toNatClampNeg).toInt ≤ 3099 := ra_112 (m := m) hV (k := l3.toNatClampNeg) (i_ix (n := 16) (by omega) (by omega)).2 | have b16 := i_bd (m 112 l3.toNatClampNeg)
      try have gw := GW_room r_GW
      refine sp_207 (XX := (zXX (m 99) (m 103) (0 : Int32).toInt l2.toInt)) (CU := 3100) (II := 0) ((m 112 l3.toNatClampNeg)) hV (by omega) (by omega) (show (m 94 10).toInt = 2 ∨ (m 94 10).toInt = 3 from by omega) (show (m 112 l3.toNatClampNeg).toInt < 0 ∨ (m 99) (m 112 l3.toNatClampNeg).toNatClampNeg ≠ 0 from by first | (exact ((r_DX (by omega)).1 l3.toNatClampNeg (by rw [tn_cast (by omega)]; omega))) | (exfalso; omega; done) | (exfalso; contradiction; done)) r_CMK r_OW r_H2 r_H3 (show (m 94 76).toInt ≤ (m 94 75).toInt from by omega) r_CQ r_KU (fun m1 hV_m1 p0_m1 p1_m1 p2_m1 p3_m1 p4_m1 p5_m1 p6_m1 p7_m1 p8_m1 p9_m1 p10_m1 => zmv_n ?_)
      have p0_m1 : zKS (m1 110) (m1 94 75) := p0_m1
      have p1_m1 : zOw (m 99) (m1 103) (m1 111) := p1_m1
      have p2_m1 : zH2 (m 94 10) (m 94 11) (m 94 61) (m1 94 77) (m 99) (m1 110) (m 102) := p2_m1
      have p3_m1 : zH3 (m 94 10) (m 94 13) (m 94 14) (m 94 15) (m 94 61) (m1 94 77) (m1 94 60) (m 99) (m1 110) (m1 104) (m 102) (m1 103) (m1 111) := p3_m1
      have p4_m1 : (m 112 l3.toNatClampNeg).toInt < 0 ∨ (m1 110) (m 112 l3.toNatClampNeg).toNatClampNeg ≠ 0 := p4_m1
      have p5_m1 : zle (m 110) (m1 110) := p5_m1
      have p6_m1 : (m 94 76).toInt ≤ (m1 94 75).toInt := p6_m1
      have p7_m1 : zCQ (m1 110) (m 98) (m 101) (m 102) (m 108) (m1 119) (m 94 76) (m1 94 75) (zXX (m 99) (m 103) (0 : Int32).toInt l2.toInt) 3100 0 := p7_m1
      have p8_m1 : zKU (m 94 10) (m 99) (m1 110) := p8_m1
      have p9_m1 : (m 94 10).toInt = 3 → zax (m 103) (m1 103) (m 94 60).toInt := p9_m1
      have p10_m1 : (m 94 60).toInt ≤ (m1 94 60).toInt := p10_m1
      have f17 : 0 ≤ (m1 94 75).toInt ∧ (m1 94 75).toInt ≤ 3100 := rs_94_75 (m := (zov wr_207 m m1)) hV_m1
      have f18 : 0 ≤ (m1 94 60).toInt ∧ (m1 94 60).toInt ≤ 1600 := rs_94_60 (m := (zov wr_207 m m1)) hV_m1
      skip
      try have gw := GW_room r_GW
      have b19 := i_bd l1
      have b20 := i_bd l2
      first | have e21 : (l3 + (1 : Int32)).toInt = l3.toInt + (1) := i_addk rfl (by omega) (by omega) | have b22 := i_bd (l3 + (1 : Int32))
      exact IH (16 - (l3 + (1 : Int32)).toInt).toNat (by omega) _ (l1) (l2) ((l3 + (1 : Int32))) rfl (zF_zov hF ws_207_214) hV_m1 (by omega) (by omega) (show (m 94 10).toInt = 3 from by omega) p0_m1 p1_m1 p2_m1 p3_m1 (show (m 94 76).toInt ≤ (m1 94 75).toInt from by omega) p8_m1 r_W r_DX (show 4 ≤ (m 94 16).toInt from by omega) (show l2.toInt ≤ (m1 94 60).toInt from by omega) (show zDK l2.toInt (m 94 16).toInt (m1 110) (m 99) (m1 103) (m 102) (m 98) (m 101) (m 108) (m 117) from by first | (exact DK_ax r_DK p5_m1 (p9_m1 (by omega)) (by omega) (W_hi r_W)) | (exfalso; omega; done) | (exfalso; contradiction; done)) (show zCQ (m1 110) (m 98) (m 101) (m 102) (m 108) (m1 119) (m 94 76) (m1 94 75) (zXX (m 99) (m1 103) (0 : Int32).toInt l2.toInt) 3100 0 from by first | (exact CQ_ax p7_m1 (p9_m1 (by omega)) (by omega)) | (exfalso; omega; done) | (exfalso; contradiction; done)) r_GW r_GU (show ((m 94 10).toInt = 2 ∨ (m 94 10).toInt = 3) → zcov (m1 110) (m 112) (l3 + (1 : Int32)).toInt from by first | (exact fun hp => cov_one (cov_le (r_COVR hp) p5_m1 (fun k hk => (ra_112 hV (by omega)).2)) rfl (by omega) (by omega) p4_m1) | (exact fun hp => cov_le (r_COVR hp) p5_m1 (fun k hk => (ra_112 hV (by omega)).2)) | (exact fun hp => cov_cut (r_COVR hp) (by omega)) | (exact fun hp => cov_0 (by decide)) | (exact fun hp => cov_one (r_COVR hp) rfl (by omega) (by omega) (Or.inl (by omega))) | (exact fun hp => cov_one (r_COVR hp) rfl (by omega) (by omega) (Or.inr (by assumption))) | (exact fun hp => cov_cut (r_COVR hp) (by omega)) | (exfalso; omega; done) | (exfalso; contradiction; done))
set_option maxHeartbeats 8000000 in
theorem lp_214_35 {X : Nat × (Nat → Int32)} {P : Option ma_V → (Nat → Nat → Int32) → Prop} {T : Nat} {m0 : Nat → Nat → Int32} (h0 : zV m0) (K : ∀ v m₉, zF wr_214 m0 m₉ → zV m₉ → (zGW T (m₉ 94 55) (m₉ 109)) → (zGU T (m₉ 94 46) (m₉ 99)) → (zOw (m₉ 99) (m₉ 103) (m₉ 111)) → (zDX (m₉ 94 10) (m₉ 99) (m₉ 112) (m₉ 113) (m₉ 114) (m₉ 94 55) (m₉ 98) (m₉ 101) (m₉ 102) (m₉ 108)) → (zHA (m₉ 94 10) (m₉ 94 11) (m₉ 94 13) (m₉ 94 14) (m₉ 94 16) (m₉ 94 61) (m₉ 94 59) (m₉ 94 60) (m₉ 99) (m₉ 102) (m₉ 103) (m₉ 111) (m₉ 117) (m₉ 98) (m₉ 101) (m₉ 108)) → P (some (.inl v)) m₉) : ∀ (n : Nat) (m : Nat → Nat → Int32) (l1 : Int32) (l2 : Int32), (3100 - l2.toInt).toNat = n → zF wr_214 m0 m → zV m → (0 ≤ l2.toInt) → (zW (m 94 7) (m 98) (m 101) (m 102) (m 108)) → (zGW T (m 94 55) (m 109)) → (zGU T (m 94 46) (m 99)) → (zOw (m 99) (m 103) (m 111)) → (zDX (m 94 10) (m 99) (m 112) (m 113) (m 114) (m 94 55) (m 98) (m 101) (m 102) (m 108)) → (zHA (m 94 10) (m 94 11) (m 94 13) (m 94 14) (m 94 16) (m 94 61) (m 94 59) (m 94 60) (m 99) (m 102) (m 103) (m 111) (m 117) (m 98) (m 101) (m 108)) → ((m 94 10).toInt = 3) → ((m 94 60).toInt + sm (zbG (m 99) (m 103) (m 94 14) (m 104) (m 94 15)) (m 102) 3100 ≤ (m 94 14).toInt) → (∀ s : Nat, (s : Int) < l2.toInt → ((m 110) s ≠ 0 ↔ (m 99) s ≠ 0 ∧ ((m 103) s).toInt < (m 94 14).toInt)) → zm X 6 129 214 35 [(0, .inr (.inr (some 94))), (1, .inl l1), (2, .inl l2)] m P := by
  intro n
  induction n using Nat.strongRecOn with
  | _ n IH =>
    intro m l1 l2 hmu hF hV hi0 r_W r_GW r_GU r_OW r_DX r_HA hi7 r_OF3 r_KOl
    refine g_214_35 l1 l2 ?_
    have f1 : 0 ≤ (m 94 10).toInt ∧ (m 94 10).toInt ≤ 6 := rs_94_10 (m := m) hV
    have li2 : (3100 : Int32).toInt = 3100 := rfl
    have b3 := i_bd l2
    refine zd (fun (h4 : (3100 : Int32) ≤ l2) => ?_) (fun (h4 : ¬ (3100 : Int32) ≤ l2) => ?_)
    · skip
      have g5 := i_le h4
      try have gw := GW_room r_GW
      try have hc4 := (r_HA.2 (by omega)).1
      have li7 : (0 : Int32).toInt = 0 := rfl
      have hV6 : zV (ma_u m 94 75 (0 : Int32)) := us_94_75 hV (by omega) (by omega)
      have hV8 : zV (ma_u (ma_u m 94 75 (0 : Int32)) 94 76 (0 : Int32)) := us_94_76 hV6 (by omega) (by omega)
      have li10 : (1 : Int32).toInt = 1 := rfl
      have f11 : 0 ≤ (m 94 61).toInt ∧ (m 94 61).toInt ≤ 1 := rs_94_61 (m := m) hV
      first | have e12 : ((1 : Int32) - (m 94 61)).toInt = (1 : Int32).toInt - (m 94 61).toInt := i_sub (by omega) (by omega) | have b13 := i_bd ((1 : Int32) - (m 94 61))
      have hV9 : zV (ma_u (ma_u (ma_u m 94 75 (0 : Int32)) 94 76 (0 : Int32)) 94 61 ((1 : Int32) - (m 94 61))) := us_94_61 hV8 (by omega) (by omega)
      have f15 : 0 ≤ (m 94 14).toInt ∧ (m 94 14).toInt ≤ 1500 := rs_94_14 (m := m) hV
      have f16 : 0 ≤ (m 94 13).toInt ∧ (m 94 13).toInt ≤ 1500 := rs_94_13 (m := m) hV
      first | have f17 := i_mul01 (x := ((1 : Int32) - (m 94 61))) (y := (m 94 13)) (by omega) (by omega) (by omega) (by omega) | have b18 := i_bd (((1 : Int32) - (m 94 61)) * (m 94 13))
      first | have e19 : ((m 94 14) + (((1 : Int32) - (m 94 61)) * (m 94 13))).toInt = (m 94 14).toInt + (((1 : Int32) - (m 94 61)) * (m 94 13)).toInt := i_add (by omega) (by omega) | have b20 := i_bd ((m 94 14) + (((1 : Int32) - (m 94 61)) * (m 94 13)))
      have hV14 : zV (ma_u (ma_u (ma_u (ma_u m 94 75 (0 : Int32)) 94 76 (0 : Int32)) 94 61 ((1 : Int32) - (m 94 61))) 94 77 ((m 94 14) + (((1 : Int32) - (m 94 61)) * (m 94 13)))) := us_94_77 hV9 (by omega) (by omega)
      have b21 := i_bd l1
      have f22 : 0 ≤ (m 94 60).toInt ∧ (m 94 60).toInt ≤ 1600 := rs_94_60 (m := m) hV
      have f23 : 0 ≤ (m 94 16).toInt ∧ (m 94 16).toInt ≤ 64 := rs_94_16 (m := m) hV
      exact lp_214_121 h0 K _ _ (l1) ((m 94 60)) ((0 : Int32)) rfl (zF_u (zF_u (zF_u (zF_u hF rfl) rfl) rfl) rfl) hV14 (by omega) (by omega) (show (m 94 10).toInt = 3 from by omega) (show zKS (m 110) (0 : Int32) from by first | (exact KS_0 (by omega)) | (exfalso; omega; done) | (exfalso; contradiction; done)) r_OW (show zH2 (m 94 10) (m 94 11) ((1 : Int32) - (m 94 61)) ((m 94 14) + (((1 : Int32) - (m 94 61)) * (m 94 13))) (m 99) (m 110) (m 102) from by first | (exact fun hp => absurd hp (by omega)) | (exfalso; omega; done) | (exfalso; contradiction; done)) (show zH3 (m 94 10) (m 94 13) (m 94 14) (m 94 15) ((1 : Int32) - (m 94 61)) ((m 94 14) + (((1 : Int32) - (m 94 61)) * (m 94 13))) (m 94 60) (m 99) (m 110) (m 104) (m 102) (m 103) (m 111) from by first | (exact fun _ => H3_0 r_HA (by omega) (fun s hs => r_KOl s (by omega)) r_OF3 ((i_add (by omega) (by omega)).trans (mul_B3 (by omega) (by omega) (by omega) (by omega))) (fun t ht => (ra_102 hV14 ht).1)) | (exfalso; omega; done) | (exfalso; contradiction; done)) (show (0 : Int32).toInt ≤ (0 : Int32).toInt from by omega) (show zKU (m 94 10) (m 99) (m 110) from by first | (exact KU_ko (fun s hs => r_KOl s (by omega))) | (exfalso; omega; done) | (exfalso; contradiction; done)) r_W r_DX (show 4 ≤ (m 94 16).toInt from by omega) (show (m 94 60).toInt ≤ (m 94 60).toInt from by omega) (show zDK (m 94 60).toInt (m 94 16).toInt (m 110) (m 99) (m 103) (m 102) (m 98) (m 101) (m 108) (m 117) from by first | (exact DK_ko r_HA (by omega) r_DX (fun s hs => r_KOl s (by omega)) (W_hi r_W)) | (exfalso; omega; done) | (exfalso; contradiction; done)) (show zCQ (m 110) (m 98) (m 101) (m 102) (m 108) (m 119) (0 : Int32) (0 : Int32) (zXX (m 99) (m 103) (0 : Int32).toInt (m 94 60).toInt) 3100 0 from by first | (exact CQ_ko r_HA (by omega) (fun s hs => r_KOl s (by omega)) (by omega) (fun t ht => (ra_103 hV14 ht).1) (fun t ht => (ra_102 hV14 ht).1)) | (exfalso; omega; done) | (exfalso; contradiction; done)) r_GW r_GU (show ((m 94 10).toInt = 2 ∨ (m 94 10).toInt = 3) → zcov (m 110) (m 112) (0 : Int32).toInt from by first | (exact fun hp => cov_0 (by decide)) | (exact fun hp => cov_0 (by decide)) | (exfalso; omega; done) | (exfalso; contradiction; done))
    · skip
      have g24 := i_nle h4
      have hg25 : (0 ≤ l2 ∧ l2.toNatClampNeg < 3100) := i_ix (by omega) (by omega)
      refine ⟨hg25, ?_⟩
      first | have f26 : 0 ≤ (m 99 l2.toNatClampNeg).toInt ∧ (m 99 l2.toNatClampNeg).toInt ≤ 1 := ra_99 (m := m) hV (k := l2.toNatClampNeg) (i_ix (n := 3100) (by omega) (by omega)).2 | have b27 := i_bd (m 99 l2.toNatClampNeg)
      have li28 : (0 : Int32).toInt = 0 := rfl
      refine zd (fun (h29 : (m 99 l2.toNatClampNeg) = (0 : Int32)) => ?_) (fun (h29 : ¬ (m 99 l2.toNatClampNeg) = (0 : Int32)) => ?_)
      · skip
        have g30 := i_eq h29
        have hg31 : (0 ≤ l2 ∧ l2.toNatClampNeg < 3100) := i_ix (by omega) (by omega)
        refine ⟨hg31, ?_⟩
        try have gw := GW_room r_GW
        try have hc4 := (r_HA.2 (by omega)).1
        have hV32 : zV (ma_u m 110 l2.toNatClampNeg (0 : Int32)) := ua_110 hV (by omega) (by omega)
        have b33 := i_bd l1
        first | have e34 : (l2 + (1 : Int32)).toInt = l2.toInt + (1) := i_addk rfl (by omega) (by omega) | have b35 := i_bd (l2 + (1 : Int32))
        exact IH (3100 - (l2 + (1 : Int32)).toInt).toNat (by omega) _ (l1) ((l2 + (1 : Int32))) rfl (zF_u hF rfl) hV32 (by omega) r_W r_GW r_GU r_OW r_DX r_HA (show (m 94 10).toInt = 3 from by omega) r_OF3 (show ∀ s : Nat, (s : Int) < (l2 + (1 : Int32)).toInt → (((ma_u m 110 l2.toNatClampNeg (0 : Int32)) 110) s ≠ 0 ↔ (m 99) s ≠ 0 ∧ ((m 103) s).toInt < (m 94 14).toInt) from by first | (exact KO_step r_KOl (by omega) (by omega) ⟨fun z => absurd rfl z, fun z => absurd (by assumption) z.1⟩) | (exact KO_step r_KOl (by omega) (by omega) ⟨fun _ => ⟨by assumption, by omega⟩, fun _ => by decide⟩) | (exact KO_step r_KOl (by omega) (by omega) ⟨fun z => absurd rfl z, fun z => absurd z.2 (by omega)⟩) | (exfalso; omega; done) | (exfalso; contradiction; done))
      · skip
        have g36 := i_ne h29
        have hg37 : (0 ≤ l2 ∧ l2.toNatClampNeg < 3100) := i_ix (by omega) (by omega)
        refine ⟨hg37, ?_⟩
        have f38 : 0 ≤ (m 94 14).toInt ∧ (m 94 14).toInt ≤ 1500 := rs_94_14 (m := m) hV
        first | have f39 : 0 ≤ (m 103 l2.toNatClampNeg).toInt ∧ (m 103 l2.toNatClampNeg).toInt ≤ 4599 := ra_103 (m := m) hV (k := l2.toNatClampNeg) (i_ix (n := 3100) (by omega) (by omega)).2 | have b40 := i_bd (m 103 l2.toNatClampNeg)
        refine zd (fun (h41 : (m 94 14) ≤ (m 103 l2.toNatClampNeg)) => ?_) (fun (h41 : ¬ (m 94 14) ≤ (m 103 l2.toNatClampNeg)) => ?_)
        · skip
          have g42 := i_le h41
          have hg43 : (0 ≤ l2 ∧ l2.toNatClampNeg < 3100) := i_ix (by omega) (by omega)
          refine ⟨hg43, ?_⟩
          try have gw := GW_room r_GW
          try have hc4 := (r_HA.2 (by omega)).1
          have hV44 : zV (ma_u m 110 l2.toNatClampNeg (0 : Int32)) := ua_110 hV (by omega) (by omega)
          have b45 := i_bd l1
          first | have e46 : (l2 + (1 : Int32)).toInt = l2.toInt + (1) := i_addk rfl (by omega) (by omega) | have b47 := i_bd (l2 + (1 : Int32))
          exact IH (3100 - (l2 + (1 : Int32)).toInt).toNat (by omega) _ (l1) ((l2 + (1 : Int32))) rfl (zF_u hF rfl) hV44 (by omega) r_W r_GW r_GU r_OW r_DX r_HA (show (m 94 10).toInt = 3 from by omega) r_OF3 (show ∀ s : Nat, (s : Int) < (l2 + (1 : Int32)).toInt → (((ma_u m 110 l2.toNatClampNeg (0 : Int32)) 110) s ≠ 0 ↔ (m 99) s ≠ 0 ∧ ((m 103) s).toInt < (m 94 14).toInt) from by first | (exact KO_step r_KOl (by omega) (by omega) ⟨fun z => absurd rfl z, fun z => absurd z.2 (by omega)⟩) | (exact KO_step r_KOl (by omega) (by omega) ⟨fun _ => ⟨by assumption, by omega⟩, fun _ => by decide⟩) | (exact KO_step r_KOl (by omega) (by omega) ⟨fun z => absurd rfl z, fun z => absurd (by assumption) z.1⟩) | (exfalso; omega; done) | (exfalso; contradiction; done))
        · skip
          have g48 := i_nle h41
          have hg49 : (0 ≤ l2 ∧ l2.toNatClampNeg < 3100) := i_ix (by omega) (by omega)
          refine ⟨hg49, ?_⟩
          try have gw := GW_room r_GW
          try have hc4 := (r_HA.2 (by omega)).1
          have li51 : (1 : Int32).toInt = 1 := rfl
          have hV50 : zV (ma_u m 110 l2.toNatClampNeg (1 : Int32)) := ua_110 hV (by omega) (by omega)
          have b52 := i_bd l1
          first | have e53 : (l2 + (1 : Int32)).toInt = l2.toInt + (1) := i_addk rfl (by omega) (by omega) | have b54 := i_bd (l2 + (1 : Int32))
          exact IH (3100 - (l2 + (1 : Int32)).toInt).toNat (by omega) _ (l1) ((l2 + (1 : Int32))) rfl (zF_u hF rfl) hV50 (by omega) r_W r_GW r_GU r_OW r_DX r_HA (show (m 94 10).toInt = 3 from by omega) r_OF3 (show ∀ s : Nat, (s : Int) < (l2 + (1 : Int32)).toInt → (((ma_u m 110 l2.toNatClampNeg (1 : Int32)) 110) s ≠ 0 ↔ (m 99) s ≠ 0 ∧ ((m 103) s).toInt < (m 94 14).toInt) from by first | (exact KO_step r_KOl (by omega) (by omega) ⟨fun _ => ⟨by assumption, by omega⟩, fun _ => by decide⟩) | (exact KO_step r_KOl (by omega) (by omega) ⟨fun z => absurd rfl z, fun z => absurd (by assumption) z.1⟩) | (exact KO_step r_KOl (by omega) (by omega) ⟨fun z => absurd rfl z, fun z => absurd z.2 (by omega)⟩) | (exfalso; omega; done) | (exfalso; contradiction; done))
set_option maxHeartbeats 8000000 in
theorem sp_214 {X : Nat × (Nat → Int32)} {P : Option ma_V → (Nat → Nat → Int32) → Prop} {T : Nat} {m : Nat → Nat → Int32}  (hV : zV m) (r_W : zW (m 94 7) (m 98) (m 101) (m 102) (m 108)) (r_GW : zGW T (m 94 55) (m 109)) (r_GU : zGU T (m 94 46) (m 99)) (r_OW : zOw (m 99) (m 103) (m 111)) (r_DX : zDX (m 94 10) (m 99) (m 112) (m 113) (m 114) (m 94 55) (m 98) (m 101) (m 102) (m 108)) (r_HA : zHA (m 94 10) (m 94 11) (m 94 13) (m 94 14) (m 94 16) (m 94 61) (m 94 59) (m 94 60) (m 99) (m 102) (m 103) (m 111) (m 117) (m 98) (m 101) (m 108)) (hpre6 : (m 94 10).toInt = 3) (KZ : ∀ v m₉, zV (zov wr_214 m m₉) → (zGW T (m₉ 94 55) (m₉ 109)) → (zGU T (m 94 46) (m₉ 99)) → (zOw (m₉ 99) (m₉ 103) (m₉ 111)) → (zDX (m 94 10) (m₉ 99) (m 112) (m₉ 113) (m₉ 114) (m₉ 94 55) (m 98) (m 101) (m 102) (m 108)) → (zHA (m 94 10) (m 94 11) (m 94 13) (m 94 14) (m 94 16) (m₉ 94 61) (m₉ 94 59) (m₉ 94 60) (m₉ 99) (m 102) (m₉ 103) (m₉ 111) (m₉ 117) (m 98) (m 101) (m 108)) → P (some (.inl v)) (zov wr_214 m m₉)) : zm X 6 129 214 0 [(0, .inr (.inr (some 94)))] m P := by
  have K : ∀ v m₉, zF wr_214 m m₉ → zV m₉ → (zGW T (m₉ 94 55) (m₉ 109)) → (zGU T (m₉ 94 46) (m₉ 99)) → (zOw (m₉ 99) (m₉ 103) (m₉ 111)) → (zDX (m₉ 94 10) (m₉ 99) (m₉ 112) (m₉ 113) (m₉ 114) (m₉ 94 55) (m₉ 98) (m₉ 101) (m₉ 102) (m₉ 108)) → (zHA (m₉ 94 10) (m₉ 94 11) (m₉ 94 13) (m₉ 94 14) (m₉ 94 16) (m₉ 94 61) (m₉ 94 59) (m₉ 94 60) (m₉ 99) (m₉ 102) (m₉ 103) (m₉ 111) (m₉ 117) (m₉ 98) (m₉ 101) (m₉ 108)) → P (some (.inl v)) m₉ := by
    intro v m₉ hf z q0 q1 q2 q3 q4
    have e := zov_eq hf
    rw [e] at z ⊢
    try rw [e] at q0
    try rw [e] at q1
    try rw [e] at q2
    try rw [e] at q3
    try rw [e] at q4
    exact KZ v m₉ z q0 q1 q2 q3 q4
  refine g_214_0  ?_
  have f1 : 0 ≤ (m 94 10).toInt ∧ (m 94 10).toInt ≤ 6 := rs_94_10 (m := m) hV
  try have hc4 := (r_HA.2 (by omega)).1
  try have gw := GW_room r_GW
  refine sp_215  hV  (fun v2 m1 hV_m1 hb_m1 p0_m1 => zmi_n ?_)
  have p0_m1 : v2.toInt = 1 ∨ (m 94 60).toInt + sm (zbG (m 99) (m 103) (m 94 14) (m 104) (m 94 15)) (m 102) 3100 ≤ (m 94 14).toInt := p0_m1
  have f2 := i_01 hb_m1
  have li3 : (0 : Int32).toInt = 0 := rfl
  refine zd (fun (h4 : v2 = (0 : Int32)) => ?_) (fun (h4 : ¬ v2 = (0 : Int32)) => ?_)
  · skip
    have g5 := i_eq h4
    try have hc4 := (r_HA.2 (by omega)).1
    try have gw := GW_room r_GW
    refine sp_215  hV_m1  (fun v4 m3 hV_m3 hb_m3 p0_m3 => zmi_n ?_)
    have p0_m3 : v4.toInt = 1 ∨ (m 94 60).toInt + sm (zbG (m 99) (m 103) (m 94 14) (m 104) (m 94 15)) (m 102) 3100 ≤ (m 94 14).toInt := p0_m3
    have f6 := i_01 hb_m3
    refine zd (fun (h7 : v4 = (0 : Int32)) => ?_) (fun (h7 : ¬ v4 = (0 : Int32)) => ?_)
    · skip
      have g8 := i_eq h7
      try have gw := GW_room r_GW
      try have hc4 := (r_HA.2 (by omega)).1
      have hV9 : zV (ma_u (zov wr_215 (zov wr_215 m m1) m3) 94 47 ((m 94 47) + (1 : Int32))) := uf_94_47 hV_m3
      exact lp_214_35 hV K _ _ ((0 : Int32)) ((0 : Int32)) rfl (zF_u (zF_zov (zF_zov zF_rfl ws_215_214) ws_215_214) rfl) hV9 (by omega) r_W r_GW r_GU r_OW r_DX r_HA (show (m 94 10).toInt = 3 from by omega) (show (m 94 60).toInt + sm (zbG (m 99) (m 103) (m 94 14) (m 104) (m 94 15)) (m 102) 3100 ≤ (m 94 14).toInt from by first | (exact p0_m3.elim (fun z => absurd z (by omega)) id) | (exfalso; omega; done) | (exfalso; contradiction; done)) (show ∀ s : Nat, (s : Int) < (0 : Int32).toInt → ((m 110) s ≠ 0 ↔ (m 99) s ≠ 0 ∧ ((m 103) s).toInt < (m 94 14).toInt) from by first | (intro s hs; omega; done) | (exfalso; omega; done) | (exfalso; contradiction; done))
    · skip
      have g10 := i_ne h7
      try have gw := GW_room r_GW
      try have hc4 := (r_HA.2 (by omega)).1
      exact K ((0 : Int32)) _ (zF_zov (zF_zov zF_rfl ws_215_214) ws_215_214) hV_m3 r_GW r_GU r_OW r_DX r_HA
  · skip
    have g11 := i_ne h4
    try have hc4 := (r_HA.2 (by omega)).1
    try have gw := GW_room r_GW
    refine sp_211  hV_m1 r_W r_GW r_GU r_OW r_DX r_HA (show (m 94 10).toInt = 3 from by omega) (fun v6 m5 hV_m5 p0_m5 p1_m5 p2_m5 p3_m5 p4_m5 => zmi_n ?_)
    have p0_m5 : zGW T (m5 94 55) (m5 109) := p0_m5
    have p1_m5 : zGU T (m 94 46) (m5 99) := p1_m5
    have p2_m5 : zOw (m5 99) (m5 103) (m5 111) := p2_m5
    have p3_m5 : zDX (m 94 10) (m5 99) (m 112) (m5 113) (m5 114) (m5 94 55) (m 98) (m 101) (m 102) (m 108) := p3_m5
    have p4_m5 : zHA (m 94 10) (m 94 11) (m 94 13) (m 94 14) (m 94 16) (m 94 61) (m 94 59) (m5 94 60) (m5 99) (m 102) (m5 103) (m5 111) (m5 117) (m 98) (m 101) (m 108) := p4_m5
    try have hc4 := (p4_m5.2 (by omega)).1
    try have gw := GW_room p0_m5
    refine sp_215  hV_m5  (fun v8 m7 hV_m7 hb_m7 p0_m7 => zmi_n ?_)
    have p0_m7 : v8.toInt = 1 ∨ (m5 94 60).toInt + sm (zbG (m5 99) (m5 103) (m 94 14) (m 104) (m 94 15)) (m 102) 3100 ≤ (m 94 14).toInt := p0_m7
    have f12 := i_01 hb_m7
    refine zd (fun (h13 : v8 = (0 : Int32)) => ?_) (fun (h13 : ¬ v8 = (0 : Int32)) => ?_)
    · skip
      have g14 := i_eq h13
      try have gw := GW_room p0_m5
      try have hc4 := (p4_m5.2 (by omega)).1
      have hV15 : zV (ma_u (zov wr_215 (zov wr_211 (zov wr_215 m m1) m5) m7) 94 47 ((m5 94 47) + (1 : Int32))) := uf_94_47 hV_m7
      have b16 := i_bd v6
      exact lp_214_35 hV K _ _ (v6) ((0 : Int32)) rfl (zF_u (zF_zov (zF_zov (zF_zov zF_rfl ws_215_214) ws_211_214) ws_215_214) rfl) hV15 (by omega) r_W p0_m5 p1_m5 p2_m5 p3_m5 p4_m5 (show (m 94 10).toInt = 3 from by omega) (show (m5 94 60).toInt + sm (zbG (m5 99) (m5 103) (m 94 14) (m 104) (m 94 15)) (m 102) 3100 ≤ (m 94 14).toInt from by first | (exact p0_m7.elim (fun z => absurd z (by omega)) id) | (exfalso; omega; done) | (exfalso; contradiction; done)) (show ∀ s : Nat, (s : Int) < (0 : Int32).toInt → ((m5 110) s ≠ 0 ↔ (m5 99) s ≠ 0 ∧ ((m5 103) s).toInt < (m 94 14).toInt) from by first | (intro s hs; omega; done) | (exfalso; omega; done) | (exfalso; contradiction; done))
    · skip
      have g17 := i_ne h13
      try have gw := GW_room p0_m5
      try have hc4 := (p4_m5.2 (by omega)).1
      have b18 := i_bd v6
      exact K (v6) _ (zF_zov (zF_zov (zF_zov zF_rfl ws_215_214) ws_211_214) ws_215_214) hV_m7 p0_m5 p1_m5 p2_m5 p3_m5 p4_m5

/-! from 94.489 -/
/-! room is found, and a new one is made -/
def zPL (po ro yo ol hf tp ot si rg : Int32) (us ws at₉ ow : Nat → Int32) (v nw : Int32) : Prop := v.toInt = -1 ∨ (0 ≤ v.toInt ∧ v.toInt + nw.toInt ≤ 4600 ∧
  (po.toInt = 2 → sm (zbU us) ws 3100 + nw.toInt ≤ tp.toInt - zB2 hf ro) ∧
  (po.toInt = 3 → (ol.toInt ≤ v.toInt ∧ sm (zbY ol.toInt us at₉) ws 3100 + nw.toInt ≤ tp.toInt - zB3 hf ol yo) ∨ (v.toInt + nw.toInt ≤ ot.toInt ∧ zPK ol.toInt v.toInt us ws at₉ ow)) ∧
  (po.toInt = 6 → v.toInt < rg.toInt * si.toInt ∧ nw.toInt ≤ si.toInt))
/-- as zHA, but of dirty cards -/
def zHAs (po ro yo ol ca hf tp ot : Int32) (us ws at₉ ow : Nat → Int32) : Prop :=
  (po.toInt = 2 → zB2 hf ro ≤ tp.toInt ∧ tp.toInt ≤ zB2 hf ro + ro.toInt ∧ sm (zbU us) ws 3100 ≤ tp.toInt - zB2 hf ro) ∧
  (po.toInt = 3 → 4 ≤ ca.toInt ∧ (zB3 hf ol yo ≤ tp.toInt ∧ tp.toInt ≤ zB3 hf ol yo + yo.toInt ∧ sm (zbY ol.toInt us at₉) ws 3100 ≤ tp.toInt - zB3 hf ol yo) ∧ ot.toInt ≤ ol.toInt ∧ zPK ol.toInt ot.toInt us ws at₉ ow)
/-- all but s -/
def zmk (us : Nat → Int32) (s : Nat) : Nat → Int32 := fun t => if t = s then 0 else us t
/-- as zW, but of s up to i alone, and there nothing is referred to -/
def zWn (ks : Int32) (kr kd ws wd : Nat → Int32) (s i : Nat) : Prop := (∀ t, t < 3100 → t ≠ s → (∀ i : Nat, (i : Int) < (ws t).toInt → -1 ≤ (zrf kr kd wd t i).toInt ∧ (zrf kr kd wd t i).toInt ≤ 3099) ∧ ((ws t).toInt = 0 ∨ 16 ≤ (kd t).toInt ∨ (kd t).toInt < ks.toInt)) ∧ (∀ i₉, i₉ < i → (zrf kr kd wd s i₉).toInt = -1) ∧ (16 ≤ (kd s).toInt ∨ (kd s).toInt < ks.toInt)
def zGUp (T : Nat) (nu : Int32) (us : Nat → Int32) : Prop := (cnt us 3100 : Int) ≤ nu.toInt + 1 ∧ nu.toInt ≤ (T : Int) ∧ T + 1 ≤ 3000
section FR1
variable {po ro yo ol ca hf tp tp₉ ot ot₉ si rg pr v nw ks wm nu nu₉ : Int32} {us us₉ ws ws₉ at₉ at2 ow ow2 di kr kd kd₉ wd wd₉ rt wk wi : Nat → Int32} {m : Nat → Nat → Int32} {s i T c : Nat} {x si5 : Int32}
theorem mul1_B2 (h1 : 0 ≤ hf.toInt) (h2 : hf.toInt ≤ 1) (h3 : 0 ≤ ro.toInt) (h4 : ro.toInt ≤ 3000) : ((hf + (1 : Int32)) * ro).toInt = zB2 hf ro + ro.toInt := by
  have e : (hf + (1 : Int32)).toInt = hf.toInt + 1 := i_addk rfl (by omega) (by omega)
  unfold zB2
  rcases i_mul01 (x := hf + (1 : Int32)) (y := ro) (by omega) (by omega) h3 h4 with h | h | h
  · omega
  · rw [if_pos (by omega)]; omega
  · rw [if_neg (by omega)]; omega
theorem mul1_B3 (h1 : 0 ≤ hf.toInt) (h2 : hf.toInt ≤ 1) (h3 : 0 ≤ yo.toInt) (h4 : yo.toInt ≤ 3000) : ol.toInt + ((hf + (1 : Int32)) * yo).toInt = zB3 hf ol yo + yo.toInt := by
  have e : (hf + (1 : Int32)).toInt = hf.toInt + 1 := i_addk rfl (by omega) (by omega)
  unfold zB3
  rcases i_mul01 (x := hf + (1 : Int32)) (y := yo) (by omega) (by omega) h3 h4 with h | h | h
  · omega
  · rw [if_pos (by omega)]; omega
  · rw [if_neg (by omega)]; omega
theorem HA_up2 (h : zHA po ro yo ol ca hf tp ot us ws at₉ ow di kr kd wd) (hp : po.toInt = 2) (h1 : 0 ≤ hf.toInt) (h2 : hf.toInt ≤ 1) (h3 : 0 ≤ ro.toInt) (h4 : ro.toInt ≤ 3000) (ht : tp.toInt ≤ tp₉.toInt) (he : tp₉.toInt ≤ ((hf + (1 : Int32)) * ro).toInt) : zHA po ro yo ol ca hf tp₉ ot us ws at₉ ow di kr kd wd := by
  have a := h.1 hp
  rw [mul1_B2 h1 h2 h3 h4] at he
  exact ⟨fun _ => by omega, fun z => by omega⟩
theorem PL_2 (h : zHA po ro yo ol ca hf tp ot us ws at₉ ow di kr kd wd) (hp : po.toInt = 2) (h0 : 0 ≤ v.toInt) (h1 : v.toInt + nw.toInt ≤ 4600) (ht : tp₉.toInt = tp.toInt + nw.toInt) : zPL po ro yo ol hf tp₉ ot si rg us ws at₉ ow v nw := by
  have a := h.1 hp
  exact Or.inr ⟨h0, h1, fun _ => by omega, fun z => by omega, fun z => by omega⟩
theorem HA_up3 (h : zHA po ro yo ol ca hf tp ot us ws at₉ ow di kr kd wd) (hp : po.toInt = 3) (h1 : 0 ≤ hf.toInt) (h2 : hf.toInt ≤ 1) (h3 : 0 ≤ yo.toInt) (h4 : yo.toInt ≤ 3000) (ht : tp.toInt ≤ tp₉.toInt) (he : tp₉.toInt ≤ ol.toInt + ((hf + (1 : Int32)) * yo).toInt) : zHA po ro yo ol ca hf tp₉ ot us ws at₉ ow di kr kd wd := by
  obtain ⟨a1, a2, a3, a4, a5⟩ := h.2 hp
  rw [mul1_B3 h1 h2 h3 h4] at he
  exact ⟨fun z => by omega, fun _ => ⟨a1, ⟨by omega, by omega, by omega⟩, a3, a4, a5⟩⟩
theorem PL_3y (h : zHA po ro yo ol ca hf tp ot us ws at₉ ow di kr kd wd) (hp : po.toInt = 3) (h3 : 0 ≤ yo.toInt) (h0 : 0 ≤ v.toInt) (h1 : v.toInt + nw.toInt ≤ 4600) (hv : v = tp) (ht : tp₉.toInt = tp.toInt + nw.toInt) : zPL po ro yo ol hf tp₉ ot si rg us ws at₉ ow v nw := by
  obtain ⟨a1, a2, a3, a4, a5⟩ := h.2 hp
  have b := zB3_le (hf := hf) (ol := ol) (yo := yo) h3
  rw [hv] at h0 h1 ⊢
  exact Or.inr ⟨h0, h1, fun z => by omega, fun _ => Or.inl ⟨by omega, by omega⟩, fun z => by omega⟩
theorem HA_ot (h : zHA po ro yo ol ca hf tp ot us ws at₉ ow di kr kd wd) (hp : po.toInt = 3) (h1 : ot.toInt ≤ ot₉.toInt) (h2 : ot₉.toInt ≤ ol.toInt) : zHA po ro yo ol ca hf tp ot₉ us ws at₉ ow di kr kd wd := by
  obtain ⟨a1, a2, a3, a4, a5⟩ := h.2 hp
  exact ⟨fun z => by omega, fun _ => ⟨a1, a2, h2, PK_mono a4 h1, a5⟩⟩
theorem PL_3o (h : zHA po ro yo ol ca hf tp ot us ws at₉ ow di kr kd wd) (hp : po.toInt = 3) (h0 : 0 ≤ v.toInt) (h1 : v.toInt + nw.toInt ≤ 4600) (hv : v = ot) (ht : ot₉.toInt = ot.toInt + nw.toInt) : zPL po ro yo ol hf tp ot₉ si rg us ws at₉ ow v nw := by
  obtain ⟨a1, a2, a3, a4, a5⟩ := h.2 hp
  rw [hv] at h0 h1 ⊢
  exact Or.inr ⟨h0, h1, fun z => by omega, fun _ => Or.inr ⟨by omega, a4⟩, fun z => by omega⟩
theorem PL_no (hv : v.toInt = -1) : zPL po ro yo ol hf tp ot si rg us ws at₉ ow v nw := Or.inl hv
theorem PL_o (h0 : -1 ≤ v.toInt) (h1 : v.toInt + nw.toInt ≤ 4600) (h2 : po.toInt ≠ 2) (h3 : po.toInt ≠ 3) (h6 : po.toInt ≠ 6) : zPL po ro yo ol hf tp ot si rg us ws at₉ ow v nw := by
  by_cases z : v.toInt = -1
  · exact Or.inl z
  · exact Or.inr ⟨by omega, h1, fun q => absurd q h2, fun q => absurd q h3, fun q => absurd q h6⟩
theorem PL_6 (h : v.toInt = -1 ∨ (0 ≤ v.toInt ∧ v.toInt + nw.toInt ≤ rg.toInt * si.toInt ∧ nw.toInt ≤ si.toInt)) (h1 : v.toInt + nw.toInt ≤ 4600) (h2 : 0 < nw.toInt) (h6 : po.toInt = 6) : zPL po ro yo ol hf tp ot si rg us ws at₉ ow v nw := by
  rcases h with h | h
  · exact Or.inl h
  · exact Or.inr ⟨h.1, h1, fun q => by omega, fun q => by omega, fun _ => ⟨by omega, h.2.2⟩⟩
/-- a slot that is free is found -/
theorem AU_room {l : Int32} (h : ∀ j : Nat, (j : Int) < l.toInt → us j ≠ 0) (hg : zGU T nu us) (h1 : l.toInt ≤ 3100) : l.toInt ≤ 3000 := by
  have key : ∀ n : Nat, n ≤ 3100 → (∀ j, j < n → us j ≠ 0) → n ≤ cnt us 3100 := by
    intro n hn hj
    have e := cnt_all hj
    have : ∀ k : Nat, cnt us n ≤ cnt us (n + k) := by
      intro k
      induction k with
      | zero => exact Nat.le_refl _
      | succ k ih =>
        rw [← Nat.add_assoc]
        conv => rhs; unfold cnt
        omega
    have t := this (3100 - n)
    rw [show n + (3100 - n) = 3100 by omega] at t
    omega
  by_cases z : 0 ≤ l.toInt
  · have := key l.toInt.toNat (by omega) (fun j hj => h j (by omega))
    have := hg.1
    have := hg.2.1
    have := hg.2.2
    omega
  · omega
theorem AU_step {l l2 : Int32} (h : ∀ j : Nat, (j : Int) < l.toInt → us j ≠ 0) (h0 : 0 ≤ l.toInt) (hu : us l.toNatClampNeg ≠ 0) (e : l2.toInt = l.toInt + 1) : ∀ j : Nat, (j : Int) < l2.toInt → us j ≠ 0 := by
  intro j hj
  by_cases z : j = l.toNatClampNeg
  · rw [z]; exact hu
  · exact h j (by rw [tn_eq] at z; omega)
theorem zmk_ne {t : Nat} (h : zmk us s t ≠ 0) : t ≠ s ∧ us t ≠ 0 := by
  unfold zmk at h
  by_cases z : t = s
  · rw [if_pos z] at h; exact absurd rfl h
  · rw [if_neg z] at h; exact ⟨z, h⟩
theorem zrf_kd {t i : Nat} (h : kd₉ t = kd t) : zrf kr kd₉ wd t i = zrf kr kd wd t i := by
  unfold zrf
  rw [h]
theorem Ow_new {p : Int32} (h : zOw us at₉ ow) (h0 : us s = 0) (hu : ∀ t, t ≠ s → us₉ t = us t) (hs : us₉ s ≠ 0) (ha : ∀ t, t ≠ s → at2 t = at₉ t) (hp : at2 s = p) (hp0 : 0 ≤ p.toInt) (ho : ∀ q, q ≠ p.toNatClampNeg → ow2 q = ow q) (hop : (ow2 p.toNatClampNeg).toNatClampNeg = s) : zOw us₉ at2 ow2 := by
  intro q hq hq0
  by_cases z : q = p.toNatClampNeg
  · rw [z, hop]
    exact ⟨hs, by rw [hp, tn_cast hp0]⟩
  · rw [ho q z] at hq0 ⊢
    have a := h q hq hq0
    have ne : (ow q).toNatClampNeg ≠ s := fun y => a.1 (by rw [y]; exact h0)
    rw [hu _ ne, ha _ ne]
    exact a
theorem Wn_0 (h : zW ks kr kd ws wd) (hk : ∀ t, t ≠ s → kd₉ t = kd t) (hw : ∀ t, t ≠ s → ws₉ t = ws t) (hs : 16 ≤ (kd₉ s).toInt ∨ (kd₉ s).toInt < ks.toInt) {i0 : Nat} (hi : i0 = 0) : zWn ks kr kd₉ ws₉ wd s i0 := by
  refine ⟨fun t ht hn => ?_, fun i₉ z => by omega, hs⟩
  rw [hw t hn, hk t hn]
  refine ⟨fun i hi => ?_, (h t ht).2⟩
  rw [zrf_kd (hk t hn)]
  exact (h t ht).1 i hi
theorem Wn_put {i2 : Nat} (h : zWn ks kr kd ws wd s i) (he : ∀ t i₉ : Nat, t ≠ s → t < 3100 → (i₉ : Int) < (ws t).toInt → zrf kr kd wd₉ t i₉ = zrf kr kd wd t i₉) (hs : ∀ i₉, i₉ < i → zrf kr kd wd₉ s i₉ = zrf kr kd wd s i₉) (hx : (zrf kr kd wd₉ s i).toInt = -1) (e : i2 = i + 1) : zWn ks kr kd ws wd₉ s i2 := by
  refine ⟨fun t ht hn => ⟨fun i₉ hi => ?_, (h.1 t ht hn).2⟩, fun i₉ hi => ?_, h.2.2⟩
  · rw [he t i₉ hn ht hi]; exact (h.1 t ht hn).1 i₉ hi
  · by_cases z : i₉ = i
    · rw [z]; exact hx
    · rw [hs i₉ (by omega)]; exact h.2.1 i₉ (by omega)
theorem Wn_end (h : zWn ks kr kd ws wd s i) (hi : (ws s).toInt ≤ (i : Int)) : zW ks kr kd ws wd := by
  intro t ht
  by_cases z : t = s
  · rw [z]
    refine ⟨fun i₉ hi₉ => ?_, Or.inr h.2.2⟩
    have := h.2.1 i₉ (by omega)
    omega
  · exact h.1 t ht z
theorem DXn_0 (h : zDX po us rt wk wi wm kr kd ws wd) (h0 : us s = 0) (hu : ∀ t, t ≠ s → us₉ t = us t) (hk : ∀ t, t ≠ s → kd₉ t = kd t) (hw : ∀ t, t ≠ s → ws₉ t = ws t) : zDX po (zmk us₉ s) rt wk wi wm kr kd₉ ws₉ wd := by
  have e : zmk us₉ s = us := by
    funext t
    unfold zmk
    by_cases z : t = s
    · rw [if_pos z, z, h0]
    · rw [if_neg z]; exact hu t z
  rw [e]
  intro hp
  obtain ⟨a1, a2, a3, a4⟩ := h hp
  refine ⟨a1, a2, a3, fun t ht hut i hi => ?_⟩
  have z : t ≠ s := fun z => hut (by rw [z]; exact h0)
  rw [hw t z] at hi
  unfold zcl
  rw [zrf_kd (hk t z)]
  exact a4 t ht hut i hi
theorem DXn_put (h : zDX po (zmk us s) rt wk wi wm kr kd ws wd) (he : ∀ t i₉ : Nat, t ≠ s → t < 3100 → (i₉ : Int) < (ws t).toInt → zrf kr kd wd₉ t i₉ = zrf kr kd wd t i₉) : zDX po (zmk us s) rt wk wi wm kr kd ws wd₉ := by
  intro hp
  obtain ⟨a1, a2, a3, a4⟩ := h hp
  refine ⟨a1, a2, a3, fun t ht hut i hi => ?_⟩
  unfold zcl
  rw [he t i (zmk_ne hut).1 ht hi]
  exact a4 t ht hut i hi
theorem DXn_end (h : zDX po (zmk us s) rt wk wi wm kr kd ws wd) (hW : zWn ks kr kd ws wd s i) (hi : (ws s).toInt ≤ (i : Int)) : zDX po us rt wk wi wm kr kd ws wd := by
  intro hp
  obtain ⟨a1, a2, a3, a4⟩ := h hp
  have c1 : ∀ {r : Nat → Int32} {n : Int}, zcov (zmk us s) r n → zcov us r n := fun q k hk => (q k hk).imp id (fun z => (zmk_ne z).2)
  refine ⟨c1 a1, c1 a2, c1 a3, fun t ht hut i₉ hi₉ => ?_⟩
  by_cases z : t = s
  · rw [z] at hi₉ ⊢
    have := hW.2.1 i₉ (by omega)
    exact Or.inl (by omega)
  · refine (a4 t ht ?_ i₉ hi₉).imp id (fun y => (zmk_ne y).2)
    unfold zmk
    rw [if_neg z]; exact hut
theorem sm_new {b b₉ : Nat → Bool} {ws ws₉ : Nat → Int32} {n : Nat} (hs : s < n) (h0 : b s = false) (h1 : b₉ s = true) (hb : ∀ t, t ≠ s → b₉ t = b t) (hw : ∀ t, t ≠ s → ws₉ t = ws t) : sm b₉ ws₉ n = sm b ws n + ((ws₉ s).toInt + 1) := by
  have e1 : sm b ws₉ n = sm b ws n := by
    have key : ∀ k, sm b ws₉ k = sm b ws k := by
      intro k
      induction k with
      | zero => rfl
      | succ k ih =>
        unfold sm
        rw [ih]
        by_cases z : k = s
        · rw [z, h0]; simp
        · rw [hw k z]
    exact key n
  have e2 := sm_out (b := b₉) (b₉ := b) (ws := ws₉) hs h1 h0 (fun t _ hn => (hb t hn).symm)
  omega
theorem sm_old {b b₉ : Nat → Bool} {ws ws₉ : Nat → Int32} {n : Nat} (h0 : b s = false) (h1 : b₉ s = false) (hb : ∀ t, t ≠ s → b₉ t = b t) (hw : ∀ t, t ≠ s → ws₉ t = ws t) : sm b₉ ws₉ n = sm b ws n := by
  induction n with
  | zero => rfl
  | succ k ih =>
    unfold sm
    rw [ih]
    by_cases z : k = s
    · rw [z, h0, h1]; simp
    · rw [hw k z, hb k z]
theorem HAs_new {p : Int32} (h : zHA po ro yo ol ca hf tp ot us ws at₉ ow di kr kd wd) (hl : zPL po ro yo ol hf tp ot si rg us ws at₉ ow p nw) (hp0 : 0 ≤ p.toInt) (h0 : us s = 0) (hs3 : s < 3100) (hu : ∀ t, t ≠ s → us₉ t = us t) (hs : us₉ s ≠ 0) (hw : ∀ t, t ≠ s → ws₉ t = ws t) (hws : (ws₉ s).toInt + 1 = nw.toInt) (hws0 : 0 ≤ (ws₉ s).toInt) (ha : ∀ t, t ≠ s → at2 t = at₉ t) (hp : at2 s = p) (ho : ∀ q, q ≠ p.toNatClampNeg → ow2 q = ow q) (hop : (ow2 p.toNatClampNeg).toNatClampNeg = s) (hop0 : 0 ≤ (ow2 p.toNatClampNeg).toInt) (hb : ∀ t, t < 3100 → 0 ≤ (at₉ t).toInt) (hwn : ∀ t, t < 3100 → 0 ≤ (ws t).toInt) : zHAs po ro yo ol ca hf tp ot us₉ ws₉ at2 ow2 := by
  rcases hl with hl | ⟨l0, l1, l2, l3, _⟩
  · omega
  · refine ⟨fun e => ?_, fun e => ?_⟩
    · have a := h.1 e
      have b := l2 e
      have q := sm_new (b := zbU us) (b₉ := zbU us₉) (ws := ws) (ws₉ := ws₉) hs3 (by unfold zbU; exact decide_eq_false (fun z => z h0)) (by unfold zbU; exact decide_eq_true hs) (fun t ht => by unfold zbU; rw [hu t ht]) hw
      omega
    · obtain ⟨a1, a2, a3, a4, a5⟩ := h.2 e
      have f0 : zbY ol.toInt us at₉ s = false := by unfold zbY; exact decide_eq_false (fun z => z.1 h0)
      have fo : ∀ t, t ≠ s → zbY ol.toInt us₉ at2 t = zbY ol.toInt us at₉ t := fun t ht => by unfold zbY; rw [hu t ht, ha t ht]
      rcases l3 e with ⟨b1, b2⟩ | ⟨b1, b2⟩
      · have q := sm_new (b := zbY ol.toInt us at₉) (b₉ := zbY ol.toInt us₉ at2) (ws := ws) (ws₉ := ws₉) hs3 f0 (by unfold zbY; exact decide_eq_true ⟨hs, by rw [hp]; exact b1⟩) fo hw
        refine ⟨a1, ⟨by omega, by omega, by omega⟩, a3, fun t t1 t2 t3 => ?_⟩
        have z : t ≠ s := fun z => by rw [z, hp] at t3; omega
        rw [hu t z] at t2
        rw [ha t z] at t3 ⊢
        obtain ⟨c1, c2, c3, c4⟩ := a4 t t1 t2 t3
        have hbt := hb t t1
        have ne : (at₉ t).toNatClampNeg ≠ p.toNatClampNeg := by rw [tn_eq, tn_eq]; omega
        rw [ho _ ne, hw t z]
        refine ⟨c1, c2, c3, fun t₉ u1 u2 u3 u4 => ?_⟩
        have z₉ : t₉ ≠ s := fun z => by rw [z, hp] at u4; omega
        rw [hu t₉ z₉] at u2
        rw [ha t₉ z₉] at u3 u4 ⊢
        exact c4 t₉ u1 u2 u3 u4
      · have q := sm_old (b := zbY ol.toInt us at₉) (b₉ := zbY ol.toInt us₉ at2) (ws := ws) (ws₉ := ws₉) (n := 3100) f0 (by unfold zbY; exact decide_eq_false (fun z => by have := z.2; rw [hp] at this; omega)) fo hw
        refine ⟨a1, ⟨by omega, by omega, by omega⟩, a3, fun t t1 t2 t3 => ?_⟩
        by_cases z : t = s
        · rw [z, hp, hop]
          refine ⟨rfl, hop0, by omega, fun t₉ u1 u2 u3 u4 => ?_⟩
          by_cases z₉ : t₉ = s
          · rw [z₉, hp] at u3; omega
          · rw [ha t₉ z₉] at u3 u4
            rw [hu t₉ z₉] at u2
            have := (b2 t₉ u1 u2 u4).2.2.1
            have := hwn t₉ u1
            omega
        · rw [hu t z] at t2
          rw [ha t z] at t3 ⊢
          obtain ⟨c1, c2, c3, c4⟩ := b2 t t1 t2 t3
          have hbt := hb t t1
          have hwt := hwn t t1
          have ne : (at₉ t).toNatClampNeg ≠ p.toNatClampNeg := by rw [tn_eq, tn_eq]; omega
          rw [ho _ ne, hw t z]
          refine ⟨c1, c2, by omega, fun t₉ u1 u2 u3 u4 => ?_⟩
          by_cases z₉ : t₉ = s
          · rw [z₉, hp]; exact c3
          · rw [hu t₉ z₉] at u2
            rw [ha t₉ z₉] at u3 u4 ⊢
            exact c4 t₉ u1 u2 u3 u4
theorem DCn_0 (h : zHA po ro yo ol ca hf tp ot us ws at₉ ow di kr kd wd) (hD : zDX po us rt wk wi wm kr kd ws wd) (h0 : us s = 0) (hu : ∀ t, t ≠ s → us₉ t = us t) (hk : ∀ t, t ≠ s → kd₉ t = kd t) (hw : ∀ t, t ≠ s → ws₉ t = ws t) (ha : ∀ t, t ≠ s → at2 t = at₉ t) : po.toInt = 3 → zDC ol.toInt ca.toInt (zmk us₉ s) at2 ws₉ kr kd₉ wd di := by
  intro hp t ht hut hat i hi
  obtain ⟨z, hu2⟩ := zmk_ne hut
  rw [hu t z] at hu2
  rw [ha t z] at hat
  rw [hw t z] at hi
  rw [zrf_kd (hk t z), ha t z]
  rcases (hD (Or.inr hp)).2.2.2 t ht hu2 i hi with q | q
  · exact Or.inl q
  · have z2 : (zrf kr kd wd t i).toNatClampNeg ≠ s := fun y => q (by rw [y]; exact h0)
    rw [ha _ z2]
    exact (h.2 hp).2.2.2.2 t ht hu2 hat i hi
theorem DCn_put (h : po.toInt = 3 → zDC ol.toInt ca.toInt (zmk us s) at₉ ws kr kd wd di) (he : ∀ t i₉ : Nat, t ≠ s → t < 3100 → (i₉ : Int) < (ws t).toInt → zrf kr kd wd₉ t i₉ = zrf kr kd wd t i₉) : po.toInt = 3 → zDC ol.toInt ca.toInt (zmk us s) at₉ ws kr kd wd₉ di := by
  intro hp t ht hut hat i hi
  rw [he t i (zmk_ne hut).1 ht hi]
  exact h hp t ht hut hat i hi
theorem HA_end (h : zHAs po ro yo ol ca hf tp ot us ws at₉ ow) (hD : po.toInt = 3 → zDC ol.toInt ca.toInt (zmk us s) at₉ ws kr kd wd di) (hW : zWn ks kr kd ws wd s i) (hi : (ws s).toInt ≤ (i : Int)) : zHA po ro yo ol ca hf tp ot us ws at₉ ow di kr kd wd := by
  refine ⟨h.1, fun hp => ?_⟩
  obtain ⟨a1, a2, a3, a4⟩ := h.2 hp
  refine ⟨a1, a2, a3, a4, fun t ht hut hat i₉ hi₉ => ?_⟩
  by_cases z : t = s
  · rw [z] at hi₉ ⊢
    have := hW.2.1 i₉ (by omega)
    exact Or.inl (by omega)
  · exact hD hp t ht (by unfold zmk; rw [if_neg z]; exact hut) hat i₉ hi₉
theorem RG_new {p : Int32} (h : zRG po si rg pr us at₉ ws rt) (hl : zPL po ro yo ol hf tp ot si rg us ws at₉ ow p nw) (hp0 : 0 ≤ p.toInt) (hu : ∀ t, t ≠ s → us₉ t = us t) (hw : ∀ t, t ≠ s → ws₉ t = ws t) (hws : (ws₉ s).toInt + 1 = nw.toInt) (ha : ∀ t, t ≠ s → at2 t = at₉ t) (hp : at2 s = p) : zRG po si rg pr us₉ at2 ws₉ rt := by
  intro e
  obtain ⟨a1, a2, a3, a4, a5, a6⟩ := h e
  rcases hl with hl | ⟨l0, l1, _, _, l6⟩
  · omega
  · refine ⟨a1, a2, a3, a4, a5, fun t ht hut => ?_⟩
    by_cases z : t = s
    · rw [z, hp, hws]; exact l6 e
    · rw [hu t z] at hut
      rw [ha t z, hw t z]
      exact a6 t ht hut
theorem GUp_0 {k : Nat} (h : zGU T nu (m c)) (ht : T + 1 ≤ 3000) : zGUp T nu (ma_u m c k x c) := by
  have := cnt_ub (m := m) (c := c) (k := k) (x := x) (n := 3100)
  exact ⟨by have := h.1; omega, h.2.1, ht⟩
theorem GUp_end (h : zGUp T nu us) (e : nu₉.toInt = nu.toInt + 1) : zGU (T + 1) nu₉ us := ⟨by have := h.1; omega, by have := h.2.1; omega, h.2.2⟩
/-- the words of the new one are written one by one -/
theorem zrf_oth {k : Nat} (hk : k = 60 * s + i) (hi : i < 60) (hb : ∀ t, t < 3100 → (ws t).toInt ≤ 60) : ∀ t i₉ : Nat, t ≠ s → t < 3100 → (i₉ : Int) < (ws t).toInt → zrf kr kd (ma_u m c k x c) t i₉ = zrf kr kd (m c) t i₉ := by
  intro t i₉ h1 h2 h3
  have := hb t h2
  exact zrf_ne (by omega)
theorem zrf_bef {k : Nat} (hk : k = 60 * s + i) : ∀ i₉, i₉ < i → zrf kr kd (ma_u m c k x c) s i₉ = zrf kr kd (m c) s i₉ := fun i₉ h => zrf_ne (by omega)
theorem zrf_m1 {k : Nat} (hk : k = 60 * s + i) (hx : x = -1) : (zrf kr kd (ma_u m c k x c) s i).toInt = -1 := by
  unfold zrf
  rw [hk, mu_self, hx]
  split
  · rfl
  · split <;> rfl
theorem zrf_nr {j : Int32} (hj : j.toNatClampNeg = i) (h0 : 0 ≤ j.toInt) (h1 : ¬ kd s = 16) (h2 : ¬ (kd s < 16 ∧ ((kr (kd s).toNatClampNeg >>> (j &&& 31)) &&& 1) = 1)) : (zrf kr kd wd s i).toInt = -1 := by
  rw [← hj]
  rw [zrf_no h1 (by rw [ofNat_tn h0]; exact h2)]
  rfl
end FR1
theorem GU_up {T : Nat} {nu : Int32} {us : Nat → Int32} (h : zGU T nu us) (ht : T + 1 ≤ 3000) : zGU (T + 1) nu us := ⟨h.1, by have := h.2.1; omega, ht⟩
theorem GU_nu {T : Nat} {nu : Int32} {us : Nat → Int32} (h : zGU T nu us) : nu.toInt ≤ (T : Int) := h.2.1
theorem PL_lo {po ro yo ol hf tp ot si rg : Int32} {us ws at₉ ow : Nat → Int32} {v nw : Int32} (h : zPL po ro yo ol hf tp ot si rg us ws at₉ ow v nw) : v.toInt = -1 ∨ (0 ≤ v.toInt ∧ v.toInt + nw.toInt ≤ 4600) := h.imp id (fun z => ⟨z.1, z.2.1⟩)

/-! from 94.490 -/
/-! the reference (written by wip/tools/gen94m.py) -/
set_option maxRecDepth 100000 in
theorem hm_185 : ma_md 185 = some (12, yX12_findInHalf, cX12_findInHalf, 4, (some (FieldType.int))) := rfl
set_option maxRecDepth 100000 in
theorem hm_210 : ma_md 210 = some (12, yX12_findInYoung, cX12_findInYoung, 4, (some (FieldType.int))) := rfl
theorem v_12_445_12 : ma_vl 12 445 12 = some (1, 185, 2) := by decide +kernel
theorem v_12_448_12 : ma_vl 12 448 12 = some (1, 214, 0) := by decide +kernel
theorem dX12_findInYoung_0 : decode cX12_findInYoung 0 = .ok (.iload_n 1, 1) := by decide +kernel
theorem dX12_findInYoung_1 : decode cX12_findInYoung 1 = .ok (.aload_n 0, 1) := by decide +kernel
theorem dX12_findInYoung_5 : decode cX12_findInYoung 5 = .ok (.iconst 2, 1) := by decide +kernel
theorem dX12_findInYoung_6 : decode cX12_findInYoung 6 = .ok (.idiv, 1) := by decide +kernel
theorem dX12_findInYoung_60 : decode cX12_findInYoung 60 = .ok (.aload_n 0, 1) := by decide +kernel
theorem dX12_findInYoung_61 : decode cX12_findInYoung 61 = .ok (.iload_n 1, 1) := by decide +kernel
theorem dX12_findInYoung_62 : decode cX12_findInYoung 62 = .ok (.aload_n 0, 1) := by decide +kernel
theorem dX12_findInYoung_66 : decode cX12_findInYoung 66 = .ok (.aload_n 0, 1) := by decide +kernel
theorem dX12_findInYoung_70 : decode cX12_findInYoung 70 = .ok (.iconst 1, 1) := by decide +kernel
theorem dX12_findInYoung_71 : decode cX12_findInYoung 71 = .ok (.iadd, 1) := by decide +kernel
theorem dX12_findInYoung_72 : decode cX12_findInYoung 72 = .ok (.aload_n 0, 1) := by decide +kernel
theorem dX12_findInYoung_76 : decode cX12_findInYoung 76 = .ok (.imul, 1) := by decide +kernel
theorem dX12_findInYoung_77 : decode cX12_findInYoung 77 = .ok (.iadd, 1) := by decide +kernel
theorem dX12_findInYoung_78 : decode cX12_findInYoung 78 = .ok (.invokevirtual 445, 3) := by decide +kernel
theorem dX12_findInHalf_0 : decode cX12_findInHalf 0 = .ok (.aload_n 0, 1) := by decide +kernel
theorem dX12_findInHalf_4 : decode cX12_findInHalf 4 = .ok (.iload_n 1, 1) := by decide +kernel
theorem dX12_findInHalf_5 : decode cX12_findInHalf 5 = .ok (.iadd, 1) := by decide +kernel
theorem dX12_findInHalf_6 : decode cX12_findInHalf 6 = .ok (.iload_n 2, 1) := by decide +kernel
theorem dX12_findInHalf_12 : decode cX12_findInHalf 12 = .ok (.aload_n 0, 1) := by decide +kernel
theorem dX12_findInHalf_16 : decode cX12_findInHalf 16 = .ok (.istore_n 3, 1) := by decide +kernel
theorem dX12_findInHalf_17 : decode cX12_findInHalf 17 = .ok (.aload_n 0, 1) := by decide +kernel
theorem dX12_findInHalf_18 : decode cX12_findInHalf 18 = .ok (.dup, 1) := by decide +kernel
theorem dX12_findInHalf_22 : decode cX12_findInHalf 22 = .ok (.iload_n 1, 1) := by decide +kernel
theorem dX12_findInHalf_23 : decode cX12_findInHalf 23 = .ok (.iadd, 1) := by decide +kernel
theorem dX12_findInHalf_27 : decode cX12_findInHalf 27 = .ok (.iload_n 3, 1) := by decide +kernel
theorem dX12_findInYoung_81 : decode cX12_findInYoung 81 = .ok (.istore_n 2, 1) := by decide +kernel
theorem dX12_findInYoung_82 : decode cX12_findInYoung 82 = .ok (.iload_n 2, 1) := by decide +kernel
theorem dX12_findInYoung_88 : decode cX12_findInYoung 88 = .ok (.aload_n 0, 1) := by decide +kernel
theorem dX12_findInYoung_89 : decode cX12_findInYoung 89 = .ok (.invokevirtual 448, 3) := by decide +kernel
theorem dX12_findInYoung_92 : decode cX12_findInYoung 92 = .ok (.istore_n 3, 1) := by decide +kernel
theorem dX12_findInYoung_93 : decode cX12_findInYoung 93 = .ok (.aload_n 0, 1) := by decide +kernel
theorem dX12_findInYoung_94 : decode cX12_findInYoung 94 = .ok (.iload_n 1, 1) := by decide +kernel
theorem dX12_findInYoung_95 : decode cX12_findInYoung 95 = .ok (.aload_n 0, 1) := by decide +kernel
theorem dX12_findInYoung_99 : decode cX12_findInYoung 99 = .ok (.aload_n 0, 1) := by decide +kernel
theorem dX12_findInYoung_103 : decode cX12_findInYoung 103 = .ok (.iconst 1, 1) := by decide +kernel
theorem dX12_findInYoung_104 : decode cX12_findInYoung 104 = .ok (.iadd, 1) := by decide +kernel
theorem dX12_findInYoung_105 : decode cX12_findInYoung 105 = .ok (.aload_n 0, 1) := by decide +kernel
theorem dX12_findInYoung_109 : decode cX12_findInYoung 109 = .ok (.imul, 1) := by decide +kernel
theorem dX12_findInYoung_110 : decode cX12_findInYoung 110 = .ok (.iadd, 1) := by decide +kernel
theorem dX12_findInYoung_111 : decode cX12_findInYoung 111 = .ok (.invokevirtual 445, 3) := by decide +kernel
theorem dX12_findInYoung_114 : decode cX12_findInYoung 114 = .ok (.istore_n 2, 1) := by decide +kernel
theorem dX12_findInYoung_115 : decode cX12_findInYoung 115 = .ok (.iload_n 2, 1) := by decide +kernel
theorem dX12_findInYoung_121 : decode cX12_findInYoung 121 = .ok (.aload_n 0, 1) := by decide +kernel
theorem dX12_findInYoung_122 : decode cX12_findInYoung 122 = .ok (.invokevirtual 384, 3) := by decide +kernel
theorem dX12_findInYoung_125 : decode cX12_findInYoung 125 = .ok (.istore_n 3, 1) := by decide +kernel
theorem dX12_findInYoung_126 : decode cX12_findInYoung 126 = .ok (.aload_n 0, 1) := by decide +kernel
theorem dX12_findInYoung_127 : decode cX12_findInYoung 127 = .ok (.invokevirtual 448, 3) := by decide +kernel
theorem dX12_findInYoung_130 : decode cX12_findInYoung 130 = .ok (.istore_n 3, 1) := by decide +kernel
theorem dX12_findInYoung_131 : decode cX12_findInYoung 131 = .ok (.aload_n 0, 1) := by decide +kernel
theorem dX12_findInYoung_132 : decode cX12_findInYoung 132 = .ok (.iload_n 1, 1) := by decide +kernel
theorem dX12_findInYoung_133 : decode cX12_findInYoung 133 = .ok (.aload_n 0, 1) := by decide +kernel
theorem dX12_findInYoung_137 : decode cX12_findInYoung 137 = .ok (.aload_n 0, 1) := by decide +kernel
theorem dX12_findInYoung_141 : decode cX12_findInYoung 141 = .ok (.iconst 1, 1) := by decide +kernel
theorem dX12_findInYoung_142 : decode cX12_findInYoung 142 = .ok (.iadd, 1) := by decide +kernel
theorem dX12_findInYoung_143 : decode cX12_findInYoung 143 = .ok (.aload_n 0, 1) := by decide +kernel
theorem dX12_findInYoung_147 : decode cX12_findInYoung 147 = .ok (.imul, 1) := by decide +kernel
theorem dX12_findInYoung_148 : decode cX12_findInYoung 148 = .ok (.iadd, 1) := by decide +kernel
theorem dX12_findInYoung_149 : decode cX12_findInYoung 149 = .ok (.invokevirtual 445, 3) := by decide +kernel
theorem dX12_findInYoung_152 : decode cX12_findInYoung 152 = .ok (.ireturn, 1) := by decide +kernel
theorem dX12_findInHalf_28 : decode cX12_findInHalf 28 = .ok (.ireturn, 1) := by decide +kernel
theorem dX12_findInHalf_24 : decode cX12_findInHalf 24 = .ok (.putfield 276, 3) := by decide +kernel
theorem dX12_findInHalf_19 : decode cX12_findInHalf 19 = .ok (.getfield 276, 3) := by decide +kernel
theorem dX12_findInHalf_13 : decode cX12_findInHalf 13 = .ok (.getfield 276, 3) := by decide +kernel
theorem dX12_findInHalf_10 : decode cX12_findInHalf 10 = .ok (.iconst (-1), 1) := by decide +kernel
theorem dX12_findInHalf_11 : decode cX12_findInHalf 11 = .ok (.ireturn, 1) := by decide +kernel
theorem dX12_findInHalf_7 : decode cX12_findInHalf 7 = .ok (.if_icmp .le 5, 3) := by decide +kernel
theorem dX12_findInHalf_1 : decode cX12_findInHalf 1 = .ok (.getfield 276, 3) := by decide +kernel
theorem dX12_findInYoung_144 : decode cX12_findInYoung 144 = .ok (.getfield 207, 3) := by decide +kernel
theorem dX12_findInYoung_138 : decode cX12_findInYoung 138 = .ok (.getfield 273, 3) := by decide +kernel
theorem dX12_findInYoung_134 : decode cX12_findInYoung 134 = .ok (.getfield 210, 3) := by decide +kernel
theorem dX12_findInYoung_119 : decode cX12_findInYoung 119 = .ok (.iload_n 2, 1) := by decide +kernel
theorem dX12_findInYoung_120 : decode cX12_findInYoung 120 = .ok (.ireturn, 1) := by decide +kernel
theorem dX12_findInYoung_116 : decode cX12_findInYoung 116 = .ok (.ifCond .lt 5, 3) := by decide +kernel
theorem dX12_findInYoung_106 : decode cX12_findInYoung 106 = .ok (.getfield 207, 3) := by decide +kernel
theorem dX12_findInYoung_100 : decode cX12_findInYoung 100 = .ok (.getfield 273, 3) := by decide +kernel
theorem dX12_findInYoung_96 : decode cX12_findInYoung 96 = .ok (.getfield 210, 3) := by decide +kernel
theorem dX12_findInYoung_86 : decode cX12_findInYoung 86 = .ok (.iload_n 2, 1) := by decide +kernel
theorem dX12_findInYoung_87 : decode cX12_findInYoung 87 = .ok (.ireturn, 1) := by decide +kernel
theorem dX12_findInYoung_83 : decode cX12_findInYoung 83 = .ok (.ifCond .lt 5, 3) := by decide +kernel
theorem dX12_findInYoung_73 : decode cX12_findInYoung 73 = .ok (.getfield 207, 3) := by decide +kernel
theorem dX12_findInYoung_67 : decode cX12_findInYoung 67 = .ok (.getfield 273, 3) := by decide +kernel
theorem dX12_findInYoung_63 : decode cX12_findInYoung 63 = .ok (.getfield 210, 3) := by decide +kernel
theorem dX12_findInYoung_10 : decode cX12_findInYoung 10 = .ok (.aload_n 0, 1) := by decide +kernel
theorem dX12_findInYoung_14 : decode cX12_findInYoung 14 = .ok (.iload_n 1, 1) := by decide +kernel
theorem dX12_findInYoung_15 : decode cX12_findInYoung 15 = .ok (.iadd, 1) := by decide +kernel
theorem dX12_findInYoung_16 : decode cX12_findInYoung 16 = .ok (.aload_n 0, 1) := by decide +kernel
theorem dX12_findInYoung_28 : decode cX12_findInYoung 28 = .ok (.aload_n 0, 1) := by decide +kernel
theorem dX12_findInYoung_32 : decode cX12_findInYoung 32 = .ok (.iload_n 1, 1) := by decide +kernel
theorem dX12_findInYoung_33 : decode cX12_findInYoung 33 = .ok (.iadd, 1) := by decide +kernel
theorem dX12_findInYoung_34 : decode cX12_findInYoung 34 = .ok (.aload_n 0, 1) := by decide +kernel
theorem dX12_findInYoung_43 : decode cX12_findInYoung 43 = .ok (.aload_n 0, 1) := by decide +kernel
theorem dX12_findInYoung_47 : decode cX12_findInYoung 47 = .ok (.istore_n 2, 1) := by decide +kernel
theorem dX12_findInYoung_48 : decode cX12_findInYoung 48 = .ok (.aload_n 0, 1) := by decide +kernel
theorem dX12_findInYoung_49 : decode cX12_findInYoung 49 = .ok (.dup, 1) := by decide +kernel
theorem dX12_findInYoung_53 : decode cX12_findInYoung 53 = .ok (.iload_n 1, 1) := by decide +kernel
theorem dX12_findInYoung_54 : decode cX12_findInYoung 54 = .ok (.iadd, 1) := by decide +kernel
theorem dX12_findInYoung_58 : decode cX12_findInYoung 58 = .ok (.iload_n 2, 1) := by decide +kernel
theorem dX12_findInYoung_59 : decode cX12_findInYoung 59 = .ok (.ireturn, 1) := by decide +kernel
theorem dX12_findInYoung_55 : decode cX12_findInYoung 55 = .ok (.putfield 279, 3) := by decide +kernel
theorem dX12_findInYoung_50 : decode cX12_findInYoung 50 = .ok (.getfield 279, 3) := by decide +kernel
theorem dX12_findInYoung_44 : decode cX12_findInYoung 44 = .ok (.getfield 279, 3) := by decide +kernel
theorem dX12_findInYoung_41 : decode cX12_findInYoung 41 = .ok (.iconst (-1), 1) := by decide +kernel
theorem dX12_findInYoung_42 : decode cX12_findInYoung 42 = .ok (.ireturn, 1) := by decide +kernel
theorem dX12_findInYoung_38 : decode cX12_findInYoung 38 = .ok (.if_icmp .le 5, 3) := by decide +kernel
theorem dX12_findInYoung_35 : decode cX12_findInYoung 35 = .ok (.getfield 210, 3) := by decide +kernel
theorem dX12_findInYoung_29 : decode cX12_findInYoung 29 = .ok (.getfield 279, 3) := by decide +kernel
theorem dX12_findInYoung_23 : decode cX12_findInYoung 23 = .ok (.aload_n 0, 1) := by decide +kernel
theorem dX12_findInYoung_24 : decode cX12_findInYoung 24 = .ok (.invokevirtual 384, 3) := by decide +kernel
theorem dX12_findInYoung_27 : decode cX12_findInYoung 27 = .ok (.istore_n 2, 1) := by decide +kernel
theorem dX12_findInYoung_20 : decode cX12_findInYoung 20 = .ok (.if_icmp .le 8, 3) := by decide +kernel
theorem dX12_findInYoung_17 : decode cX12_findInYoung 17 = .ok (.getfield 210, 3) := by decide +kernel
theorem dX12_findInYoung_11 : decode cX12_findInYoung 11 = .ok (.getfield 279, 3) := by decide +kernel
theorem dX12_findInYoung_7 : decode cX12_findInYoung 7 = .ok (.if_icmp .le 53, 3) := by decide +kernel
theorem dX12_findInYoung_2 : decode cX12_findInYoung 2 = .ok (.getfield 207, 3) := by decide +kernel
def wr_210 (c k : Nat) : Bool := Nat.beq c 99 || Nat.beq c 103 || Nat.beq c 104 || Nat.beq c 105 || Nat.beq c 109 || Nat.beq c 110 || Nat.beq c 111 || Nat.beq c 113 || Nat.beq c 114 || Nat.beq c 117 || Nat.beq c 118 || Nat.beq c 119 || (Nat.beq c 94 && (Nat.beq k 44 || Nat.beq k 45 || Nat.beq k 47 || Nat.beq k 48 || Nat.beq k 49 || Nat.beq k 55 || Nat.beq k 59 || Nat.beq k 60 || Nat.beq k 61 || Nat.beq k 73 || Nat.beq k 75 || Nat.beq k 76 || Nat.beq k 77))
theorem ws_211_210 : ∀ c k, wr_211 c k = true → wr_210 c k = true := by
  intro c k h
  simp only [wr_211, Bool.or_eq_true, Bool.and_eq_true, Nat.beq_eq] at h
  rcases h with (((((((((rfl | rfl) | rfl) | rfl) | rfl) | rfl) | rfl) | rfl) | rfl) | rfl) | ⟨rfl, (((((((rfl | rfl) | rfl) | rfl) | rfl) | rfl) | rfl) | rfl)⟩ <;> rfl
theorem ws_214_210 : ∀ c k, wr_214 c k = true → wr_210 c k = true := by
  intro c k h
  simp only [wr_214, Bool.or_eq_true, Bool.and_eq_true, Nat.beq_eq] at h
  rcases h with (((((((((((rfl | rfl) | rfl) | rfl) | rfl) | rfl) | rfl) | rfl) | rfl) | rfl) | rfl) | rfl) | ⟨rfl, ((((((((((((rfl | rfl) | rfl) | rfl) | rfl) | rfl) | rfl) | rfl) | rfl) | rfl) | rfl) | rfl) | rfl)⟩ <;> rfl
theorem g_210_0 {X : Nat × (Nat → Int32)} {m : Nat → Nat → Int32} {P : Option ma_V → (Nat → Nat → Int32) → Prop} (nw : Int32) (h : if nw ≤ ((m 94 13) / (2 : Int32)) then (if ((m 94 59) + nw) ≤ ((m 94 14) + (((m 94 61) + (1 : Int32)) * (m 94 13))) then (if (m 94 59) < 0 then (zm X 6 129 214 0 [(0, .inr (.inr (some 94)))] (ma_u m 94 59 ((m 94 59) + nw)) (zmi (fun v2 m1 => if ((m1 94 59) + nw) ≤ ((m1 94 14) + (((m1 94 61) + (1 : Int32)) * (m1 94 13))) then (if (m1 94 59) < 0 then (zm X 5 108 211 0 [(0, .inr (.inr (some 94)))] (ma_u m1 94 59 ((m1 94 59) + nw)) (zmi (fun v4 m3 => zm X 6 129 214 0 [(0, .inr (.inr (some 94)))] m3 (zmi (fun v6 m5 => if ((m5 94 59) + nw) ≤ ((m5 94 14) + (((m5 94 61) + (1 : Int32)) * (m5 94 13))) then (P (some (.inl (m5 94 59))) (ma_u m5 94 59 ((m5 94 59) + nw))) else (P (some (.inl (-1 : Int32))) m5)))))) else (P (some (.inl (m1 94 59))) (ma_u m1 94 59 ((m1 94 59) + nw)))) else (zm X 5 108 211 0 [(0, .inr (.inr (some 94)))] m1 (zmi (fun v8 m7 => zm X 6 129 214 0 [(0, .inr (.inr (some 94)))] m7 (zmi (fun v10 m9 => if ((m9 94 59) + nw) ≤ ((m9 94 14) + (((m9 94 61) + (1 : Int32)) * (m9 94 13))) then (P (some (.inl (m9 94 59))) (ma_u m9 94 59 ((m9 94 59) + nw))) else (P (some (.inl (-1 : Int32))) m9))))))))) else (P (some (.inl (m 94 59))) (ma_u m 94 59 ((m 94 59) + nw)))) else (zm X 6 129 214 0 [(0, .inr (.inr (some 94)))] m (zmi (fun v12 m11 => if ((m11 94 59) + nw) ≤ ((m11 94 14) + (((m11 94 61) + (1 : Int32)) * (m11 94 13))) then (if (m11 94 59) < 0 then (zm X 5 108 211 0 [(0, .inr (.inr (some 94)))] (ma_u m11 94 59 ((m11 94 59) + nw)) (zmi (fun v14 m13 => zm X 6 129 214 0 [(0, .inr (.inr (some 94)))] m13 (zmi (fun v16 m15 => if ((m15 94 59) + nw) ≤ ((m15 94 14) + (((m15 94 61) + (1 : Int32)) * (m15 94 13))) then (P (some (.inl (m15 94 59))) (ma_u m15 94 59 ((m15 94 59) + nw))) else (P (some (.inl (-1 : Int32))) m15)))))) else (P (some (.inl (m11 94 59))) (ma_u m11 94 59 ((m11 94 59) + nw)))) else (zm X 5 108 211 0 [(0, .inr (.inr (some 94)))] m11 (zmi (fun v18 m17 => zm X 6 129 214 0 [(0, .inr (.inr (some 94)))] m17 (zmi (fun v20 m19 => if ((m19 94 59) + nw) ≤ ((m19 94 14) + (((m19 94 61) + (1 : Int32)) * (m19 94 13))) then (P (some (.inl (m19 94 59))) (ma_u m19 94 59 ((m19 94 59) + nw))) else (P (some (.inl (-1 : Int32))) m19)))))))))) else (if ((m 94 60) + nw) ≤ (m 94 14) then (if ((m 94 60) + nw) ≤ (m 94 14) then (P (some (.inl (m 94 60))) (ma_u m 94 60 ((m 94 60) + nw))) else (P (some (.inl (-1 : Int32))) m)) else (zm X 5 108 211 0 [(0, .inr (.inr (some 94)))] m (zmi (fun v22 m21 => if ((m21 94 60) + nw) ≤ (m21 94 14) then (P (some (.inl (m21 94 60))) (ma_u m21 94 60 ((m21 94 60) + nw))) else (P (some (.inl (-1 : Int32))) m21)))))) : zm X 7 152 210 0 [(0, .inr (.inr (some 94))), (1, .inl nw)] m P := by
  intro d w S Q hd hw hS hm HQ
  subst hm
  refine zw_push hm_210 dX12_findInYoung_0 (v := .inl nw) rfl ?_
  refine zw_push hm_210 dX12_findInYoung_1 (v := .inr (.inr (some 94))) rfl ?_
  refine zw_gf hm_210 dX12_findInYoung_2 (v := .inl ((mI S) 94 13)) (zT_is hS s_94) (zT_t hS s_94) rfl f_12_207_12 rfl ?_
  refine zw_push hm_210 dX12_findInYoung_5 (v := .inl (2 : Int32)) rfl ?_
  refine zw_stk hm_210 dX12_findInYoung_6 (st₉ := [.inl (((mI S) 94 13) / (2 : Int32)), .inl nw]) rfl rfl ?_
  refine zw_if2 hm_210 dX12_findInYoung_7 (t := 60) rfl zc2_le ?_ ?_
  · intro hc
    rw [if_pos hc] at h
    refine zw_push hm_210 dX12_findInYoung_60 (v := .inr (.inr (some 94))) rfl ?_
    refine zw_push hm_210 dX12_findInYoung_61 (v := .inl nw) rfl ?_
    refine zw_push hm_210 dX12_findInYoung_62 (v := .inr (.inr (some 94))) rfl ?_
    refine zw_gf hm_210 dX12_findInYoung_63 (v := .inl ((mI S) 94 14)) (zT_is hS s_94) (zT_t hS s_94) rfl f_12_210_12 rfl ?_
    refine zw_push hm_210 dX12_findInYoung_66 (v := .inr (.inr (some 94))) rfl ?_
    refine zw_gf hm_210 dX12_findInYoung_67 (v := .inl ((mI S) 94 61)) (zT_is hS s_94) (zT_t hS s_94) rfl f_12_273_12 rfl ?_
    refine zw_push hm_210 dX12_findInYoung_70 (v := .inl (1 : Int32)) rfl ?_
    refine zw_stk hm_210 dX12_findInYoung_71 (st₉ := [.inl (((mI S) 94 61) + (1 : Int32)), .inl ((mI S) 94 14), .inl nw, .inr (.inr (some 94))]) rfl rfl ?_
    refine zw_push hm_210 dX12_findInYoung_72 (v := .inr (.inr (some 94))) rfl ?_
    refine zw_gf hm_210 dX12_findInYoung_73 (v := .inl ((mI S) 94 13)) (zT_is hS s_94) (zT_t hS s_94) rfl f_12_207_12 rfl ?_
    refine zw_stk hm_210 dX12_findInYoung_76 (st₉ := [.inl ((((mI S) 94 61) + (1 : Int32)) * ((mI S) 94 13)), .inl ((mI S) 94 14), .inl nw, .inr (.inr (some 94))]) rfl rfl ?_
    refine zw_stk hm_210 dX12_findInYoung_77 (st₉ := [.inl (((mI S) 94 14) + ((((mI S) 94 61) + (1 : Int32)) * ((mI S) 94 13))), .inl nw, .inr (.inr (some 94))]) rfl rfl ?_
    refine zw_cv hm_210 dX12_findInYoung_78 v_12_445_12 hm_185 [.inl (((mI S) 94 14) + ((((mI S) 94 61) + (1 : Int32)) * ((mI S) 94 13))), .inl nw] [] rfl (zT_rt hS s_94 rfl) ⟨by omega, by omega⟩ rfl ?_
    show ma_wp X (d - 1) (w - 23) 185 0 [(0, .inr (.inr (some 94))), (1, .inl nw), (2, .inl (((mI S) 94 14) + ((((mI S) 94 61) + (1 : Int32)) * ((mI S) 94 13))))] [] S _
    refine zw_push hm_185 dX12_findInHalf_0 (v := .inr (.inr (some 94))) rfl ?_
    refine zw_gf hm_185 dX12_findInHalf_1 (v := .inl ((mI S) 94 59)) (zT_is hS s_94) (zT_t hS s_94) rfl f_12_276_12 rfl ?_
    refine zw_push hm_185 dX12_findInHalf_4 (v := .inl nw) rfl ?_
    refine zw_stk hm_185 dX12_findInHalf_5 (st₉ := [.inl (((mI S) 94 59) + nw)]) rfl rfl ?_
    refine zw_push hm_185 dX12_findInHalf_6 (v := .inl (((mI S) 94 14) + ((((mI S) 94 61) + (1 : Int32)) * ((mI S) 94 13)))) rfl ?_
    refine zw_if2 hm_185 dX12_findInHalf_7 (t := 12) rfl zc2_le ?_ ?_
    · intro hc
      rw [if_pos hc] at h
      refine zw_push hm_185 dX12_findInHalf_12 (v := .inr (.inr (some 94))) rfl ?_
      refine zw_gf hm_185 dX12_findInHalf_13 (v := .inl ((mI S) 94 59)) (zT_is hS s_94) (zT_t hS s_94) rfl f_12_276_12 rfl ?_
      refine zw_sto hm_185 dX12_findInHalf_16 [(3, .inl ((mI S) 94 59)), (0, .inr (.inr (some 94))), (1, .inl nw), (2, .inl (((mI S) 94 14) + ((((mI S) 94 61) + (1 : Int32)) * ((mI S) 94 13))))] rfl rfl rfl ?_
      refine zw_push hm_185 dX12_findInHalf_17 (v := .inr (.inr (some 94))) rfl ?_
      refine zw_stk hm_185 dX12_findInHalf_18 (st₉ := [.inr (.inr (some 94)), .inr (.inr (some 94))]) rfl rfl ?_
      refine zw_gf hm_185 dX12_findInHalf_19 (v := .inl ((mI S) 94 59)) (zT_is hS s_94) (zT_t hS s_94) rfl f_12_276_12 rfl ?_
      refine zw_push hm_185 dX12_findInHalf_22 (v := .inl nw) rfl ?_
      refine zw_stk hm_185 dX12_findInHalf_23 (st₉ := [.inl (((mI S) 94 59) + nw), .inr (.inr (some 94))]) rfl rfl ?_
      refine zw_pf hm_185 dX12_findInHalf_24 (zT_is hS s_94) (zT_t hS s_94) p_12_276_12 zk_int ?_
      refine zw_push hm_185 dX12_findInHalf_27 (v := .inl ((mI S) 94 59)) rfl ?_
      refine zw_iret hm_185 dX12_findInHalf_28 ?_
      show ma_wp X d w 210 81 [(0, .inr (.inr (some 94))), (1, .inl nw)] [.inl ((mI S) 94 59)] (ma_put S 94 59 (.inl (((mI S) 94 59) + nw))) _
      refine zw_sto hm_210 dX12_findInYoung_81 [(2, .inl ((mI S) 94 59)), (0, .inr (.inr (some 94))), (1, .inl nw)] rfl rfl rfl ?_
      refine zw_push hm_210 dX12_findInYoung_82 (v := .inl ((mI S) 94 59)) rfl ?_
      refine zw_if0 hm_210 dX12_findInYoung_83 (t := 88) rfl zc0_lt ?_ ?_
      · intro hc
        rw [if_pos hc] at h
        refine zw_push hm_210 dX12_findInYoung_88 (v := .inr (.inr (some 94))) rfl ?_
        refine zw_cv hm_210 dX12_findInYoung_89 v_12_448_12 hm_214 [] [] rfl (zT_rt (zT_pi hS) s_94 rfl) ⟨by omega, by omega⟩ rfl (h _ _ (ma_put S 94 59 (.inl (((mI S) 94 59) + nw))) _ (by omega) (by omega) (zT_pi hS) rfl (fun o9 m1 hv => ?_))
        obtain ⟨v2, rfl, h⟩ := zmi_of hv
        show ma_wp X d w 210 92 [(2, .inl ((mI S) 94 59)), (0, .inr (.inr (some 94))), (1, .inl nw)] [.inl v2] (zst S m1) _
        refine zw_sto hm_210 dX12_findInYoung_92 [(3, .inl v2), (2, .inl ((mI S) 94 59)), (0, .inr (.inr (some 94))), (1, .inl nw)] rfl rfl rfl ?_
        refine zw_push hm_210 dX12_findInYoung_93 (v := .inr (.inr (some 94))) rfl ?_
        refine zw_push hm_210 dX12_findInYoung_94 (v := .inl nw) rfl ?_
        refine zw_push hm_210 dX12_findInYoung_95 (v := .inr (.inr (some 94))) rfl ?_
        refine zw_gf hm_210 dX12_findInYoung_96 (v := .inl (m1 94 14)) (zT_is (zT_zst hS m1) s_94) (zT_t (zT_zst hS m1) s_94) rfl f_12_210_12 rfl ?_
        refine zw_push hm_210 dX12_findInYoung_99 (v := .inr (.inr (some 94))) rfl ?_
        refine zw_gf hm_210 dX12_findInYoung_100 (v := .inl (m1 94 61)) (zT_is (zT_zst hS m1) s_94) (zT_t (zT_zst hS m1) s_94) rfl f_12_273_12 rfl ?_
        refine zw_push hm_210 dX12_findInYoung_103 (v := .inl (1 : Int32)) rfl ?_
        refine zw_stk hm_210 dX12_findInYoung_104 (st₉ := [.inl ((m1 94 61) + (1 : Int32)), .inl (m1 94 14), .inl nw, .inr (.inr (some 94))]) rfl rfl ?_
        refine zw_push hm_210 dX12_findInYoung_105 (v := .inr (.inr (some 94))) rfl ?_
        refine zw_gf hm_210 dX12_findInYoung_106 (v := .inl (m1 94 13)) (zT_is (zT_zst hS m1) s_94) (zT_t (zT_zst hS m1) s_94) rfl f_12_207_12 rfl ?_
        refine zw_stk hm_210 dX12_findInYoung_109 (st₉ := [.inl (((m1 94 61) + (1 : Int32)) * (m1 94 13)), .inl (m1 94 14), .inl nw, .inr (.inr (some 94))]) rfl rfl ?_
        refine zw_stk hm_210 dX12_findInYoung_110 (st₉ := [.inl ((m1 94 14) + (((m1 94 61) + (1 : Int32)) * (m1 94 13))), .inl nw, .inr (.inr (some 94))]) rfl rfl ?_
        refine zw_cv hm_210 dX12_findInYoung_111 v_12_445_12 hm_185 [.inl ((m1 94 14) + (((m1 94 61) + (1 : Int32)) * (m1 94 13))), .inl nw] [] rfl (zT_rt (zT_zst hS m1) s_94 rfl) ⟨by omega, by omega⟩ rfl ?_
        show ma_wp X (d - 1) (w - 23) 185 0 [(0, .inr (.inr (some 94))), (1, .inl nw), (2, .inl ((m1 94 14) + (((m1 94 61) + (1 : Int32)) * (m1 94 13))))] [] (zst S m1) _
        refine zw_push hm_185 dX12_findInHalf_0 (v := .inr (.inr (some 94))) rfl ?_
        refine zw_gf hm_185 dX12_findInHalf_1 (v := .inl (m1 94 59)) (zT_is (zT_zst hS m1) s_94) (zT_t (zT_zst hS m1) s_94) rfl f_12_276_12 rfl ?_
        refine zw_push hm_185 dX12_findInHalf_4 (v := .inl nw) rfl ?_
        refine zw_stk hm_185 dX12_findInHalf_5 (st₉ := [.inl ((m1 94 59) + nw)]) rfl rfl ?_
        refine zw_push hm_185 dX12_findInHalf_6 (v := .inl ((m1 94 14) + (((m1 94 61) + (1 : Int32)) * (m1 94 13)))) rfl ?_
        refine zw_if2 hm_185 dX12_findInHalf_7 (t := 12) rfl zc2_le ?_ ?_
        · intro hc
          rw [if_pos hc] at h
          refine zw_push hm_185 dX12_findInHalf_12 (v := .inr (.inr (some 94))) rfl ?_
          refine zw_gf hm_185 dX12_findInHalf_13 (v := .inl (m1 94 59)) (zT_is (zT_zst hS m1) s_94) (zT_t (zT_zst hS m1) s_94) rfl f_12_276_12 rfl ?_
          refine zw_sto hm_185 dX12_findInHalf_16 [(3, .inl (m1 94 59)), (0, .inr (.inr (some 94))), (1, .inl nw), (2, .inl ((m1 94 14) + (((m1 94 61) + (1 : Int32)) * (m1 94 13))))] rfl rfl rfl ?_
          refine zw_push hm_185 dX12_findInHalf_17 (v := .inr (.inr (some 94))) rfl ?_
          refine zw_stk hm_185 dX12_findInHalf_18 (st₉ := [.inr (.inr (some 94)), .inr (.inr (some 94))]) rfl rfl ?_
          refine zw_gf hm_185 dX12_findInHalf_19 (v := .inl (m1 94 59)) (zT_is (zT_zst hS m1) s_94) (zT_t (zT_zst hS m1) s_94) rfl f_12_276_12 rfl ?_
          refine zw_push hm_185 dX12_findInHalf_22 (v := .inl nw) rfl ?_
          refine zw_stk hm_185 dX12_findInHalf_23 (st₉ := [.inl ((m1 94 59) + nw), .inr (.inr (some 94))]) rfl rfl ?_
          refine zw_pf hm_185 dX12_findInHalf_24 (zT_is (zT_zst hS m1) s_94) (zT_t (zT_zst hS m1) s_94) p_12_276_12 zk_int ?_
          refine zw_push hm_185 dX12_findInHalf_27 (v := .inl (m1 94 59)) rfl ?_
          refine zw_iret hm_185 dX12_findInHalf_28 ?_
          show ma_wp X d w 210 114 [(3, .inl v2), (2, .inl ((mI S) 94 59)), (0, .inr (.inr (some 94))), (1, .inl nw)] [.inl (m1 94 59)] (ma_put (zst S m1) 94 59 (.inl ((m1 94 59) + nw))) _
          refine zw_sto hm_210 dX12_findInYoung_114 [(2, .inl (m1 94 59)), (3, .inl v2), (0, .inr (.inr (some 94))), (1, .inl nw)] rfl rfl rfl ?_
          refine zw_push hm_210 dX12_findInYoung_115 (v := .inl (m1 94 59)) rfl ?_
          refine zw_if0 hm_210 dX12_findInYoung_116 (t := 121) rfl zc0_lt ?_ ?_
          · intro hc
            rw [if_pos hc] at h
            refine zw_push hm_210 dX12_findInYoung_121 (v := .inr (.inr (some 94))) rfl ?_
            refine zw_cv hm_210 dX12_findInYoung_122 v_12_384_12 hm_211 [] [] rfl (zT_rt (zT_pi (zT_zst hS m1)) s_94 rfl) ⟨by omega, by omega⟩ rfl (h _ _ (ma_put (zst S m1) 94 59 (.inl ((m1 94 59) + nw))) _ (by omega) (by omega) (zT_pi (zT_zst hS m1)) rfl (fun o9 m3 hv => ?_))
            obtain ⟨v4, rfl, h⟩ := zmi_of hv
            show ma_wp X d w 210 125 [(2, .inl (m1 94 59)), (3, .inl v2), (0, .inr (.inr (some 94))), (1, .inl nw)] [.inl v4] (zst S m3) _
            refine zw_sto hm_210 dX12_findInYoung_125 [(3, .inl v4), (2, .inl (m1 94 59)), (0, .inr (.inr (some 94))), (1, .inl nw)] rfl rfl rfl ?_
            refine zw_push hm_210 dX12_findInYoung_126 (v := .inr (.inr (some 94))) rfl ?_
            refine zw_cv hm_210 dX12_findInYoung_127 v_12_448_12 hm_214 [] [] rfl (zT_rt (zT_zst hS m3) s_94 rfl) ⟨by omega, by omega⟩ rfl (h _ _ (zst S m3) _ (by omega) (by omega) (zT_zst hS m3) rfl (fun o9 m5 hv => ?_))
            obtain ⟨v6, rfl, h⟩ := zmi_of hv
            show ma_wp X d w 210 130 [(3, .inl v4), (2, .inl (m1 94 59)), (0, .inr (.inr (some 94))), (1, .inl nw)] [.inl v6] (zst S m5) _
            refine zw_sto hm_210 dX12_findInYoung_130 [(3, .inl v6), (2, .inl (m1 94 59)), (0, .inr (.inr (some 94))), (1, .inl nw)] rfl rfl rfl ?_
            refine zw_push hm_210 dX12_findInYoung_131 (v := .inr (.inr (some 94))) rfl ?_
            refine zw_push hm_210 dX12_findInYoung_132 (v := .inl nw) rfl ?_
            refine zw_push hm_210 dX12_findInYoung_133 (v := .inr (.inr (some 94))) rfl ?_
            refine zw_gf hm_210 dX12_findInYoung_134 (v := .inl (m5 94 14)) (zT_is (zT_zst hS m5) s_94) (zT_t (zT_zst hS m5) s_94) rfl f_12_210_12 rfl ?_
            refine zw_push hm_210 dX12_findInYoung_137 (v := .inr (.inr (some 94))) rfl ?_
            refine zw_gf hm_210 dX12_findInYoung_138 (v := .inl (m5 94 61)) (zT_is (zT_zst hS m5) s_94) (zT_t (zT_zst hS m5) s_94) rfl f_12_273_12 rfl ?_
            refine zw_push hm_210 dX12_findInYoung_141 (v := .inl (1 : Int32)) rfl ?_
            refine zw_stk hm_210 dX12_findInYoung_142 (st₉ := [.inl ((m5 94 61) + (1 : Int32)), .inl (m5 94 14), .inl nw, .inr (.inr (some 94))]) rfl rfl ?_
            refine zw_push hm_210 dX12_findInYoung_143 (v := .inr (.inr (some 94))) rfl ?_
            refine zw_gf hm_210 dX12_findInYoung_144 (v := .inl (m5 94 13)) (zT_is (zT_zst hS m5) s_94) (zT_t (zT_zst hS m5) s_94) rfl f_12_207_12 rfl ?_
            refine zw_stk hm_210 dX12_findInYoung_147 (st₉ := [.inl (((m5 94 61) + (1 : Int32)) * (m5 94 13)), .inl (m5 94 14), .inl nw, .inr (.inr (some 94))]) rfl rfl ?_
            refine zw_stk hm_210 dX12_findInYoung_148 (st₉ := [.inl ((m5 94 14) + (((m5 94 61) + (1 : Int32)) * (m5 94 13))), .inl nw, .inr (.inr (some 94))]) rfl rfl ?_
            refine zw_cv hm_210 dX12_findInYoung_149 v_12_445_12 hm_185 [.inl ((m5 94 14) + (((m5 94 61) + (1 : Int32)) * (m5 94 13))), .inl nw] [] rfl (zT_rt (zT_zst hS m5) s_94 rfl) ⟨by omega, by omega⟩ rfl ?_
            show ma_wp X (d - 1) (w - 23) 185 0 [(0, .inr (.inr (some 94))), (1, .inl nw), (2, .inl ((m5 94 14) + (((m5 94 61) + (1 : Int32)) * (m5 94 13))))] [] (zst S m5) _
            refine zw_push hm_185 dX12_findInHalf_0 (v := .inr (.inr (some 94))) rfl ?_
            refine zw_gf hm_185 dX12_findInHalf_1 (v := .inl (m5 94 59)) (zT_is (zT_zst hS m5) s_94) (zT_t (zT_zst hS m5) s_94) rfl f_12_276_12 rfl ?_
            refine zw_push hm_185 dX12_findInHalf_4 (v := .inl nw) rfl ?_
            refine zw_stk hm_185 dX12_findInHalf_5 (st₉ := [.inl ((m5 94 59) + nw)]) rfl rfl ?_
            refine zw_push hm_185 dX12_findInHalf_6 (v := .inl ((m5 94 14) + (((m5 94 61) + (1 : Int32)) * (m5 94 13)))) rfl ?_
            refine zw_if2 hm_185 dX12_findInHalf_7 (t := 12) rfl zc2_le ?_ ?_
            · intro hc
              rw [if_pos hc] at h
              refine zw_push hm_185 dX12_findInHalf_12 (v := .inr (.inr (some 94))) rfl ?_
              refine zw_gf hm_185 dX12_findInHalf_13 (v := .inl (m5 94 59)) (zT_is (zT_zst hS m5) s_94) (zT_t (zT_zst hS m5) s_94) rfl f_12_276_12 rfl ?_
              refine zw_sto hm_185 dX12_findInHalf_16 [(3, .inl (m5 94 59)), (0, .inr (.inr (some 94))), (1, .inl nw), (2, .inl ((m5 94 14) + (((m5 94 61) + (1 : Int32)) * (m5 94 13))))] rfl rfl rfl ?_
              refine zw_push hm_185 dX12_findInHalf_17 (v := .inr (.inr (some 94))) rfl ?_
              refine zw_stk hm_185 dX12_findInHalf_18 (st₉ := [.inr (.inr (some 94)), .inr (.inr (some 94))]) rfl rfl ?_
              refine zw_gf hm_185 dX12_findInHalf_19 (v := .inl (m5 94 59)) (zT_is (zT_zst hS m5) s_94) (zT_t (zT_zst hS m5) s_94) rfl f_12_276_12 rfl ?_
              refine zw_push hm_185 dX12_findInHalf_22 (v := .inl nw) rfl ?_
              refine zw_stk hm_185 dX12_findInHalf_23 (st₉ := [.inl ((m5 94 59) + nw), .inr (.inr (some 94))]) rfl rfl ?_
              refine zw_pf hm_185 dX12_findInHalf_24 (zT_is (zT_zst hS m5) s_94) (zT_t (zT_zst hS m5) s_94) p_12_276_12 zk_int ?_
              refine zw_push hm_185 dX12_findInHalf_27 (v := .inl (m5 94 59)) rfl ?_
              refine zw_iret hm_185 dX12_findInHalf_28 ?_
              show ma_wp X d w 210 152 [(3, .inl v6), (2, .inl (m1 94 59)), (0, .inr (.inr (some 94))), (1, .inl nw)] [.inl (m5 94 59)] (ma_put (zst S m5) 94 59 (.inl ((m5 94 59) + nw))) _
              exact zw_iret hm_210 dX12_findInYoung_152 (HQ _ _ h)
            · intro hc
              rw [if_neg hc] at h
              refine zw_push hm_185 dX12_findInHalf_10 (v := .inl (-1 : Int32)) rfl ?_
              refine zw_iret hm_185 dX12_findInHalf_11 ?_
              show ma_wp X d w 210 152 [(3, .inl v6), (2, .inl (m1 94 59)), (0, .inr (.inr (some 94))), (1, .inl nw)] [.inl (-1 : Int32)] (zst S m5) _
              exact zw_iret hm_210 dX12_findInYoung_152 (HQ _ _ h)
          · intro hc
            rw [if_neg hc] at h
            refine zw_push hm_210 dX12_findInYoung_119 (v := .inl (m1 94 59)) rfl ?_
            exact zw_iret hm_210 dX12_findInYoung_120 (HQ _ _ h)
        · intro hc
          rw [if_neg hc] at h
          refine zw_push hm_185 dX12_findInHalf_10 (v := .inl (-1 : Int32)) rfl ?_
          refine zw_iret hm_185 dX12_findInHalf_11 ?_
          show ma_wp X d w 210 114 [(3, .inl v2), (2, .inl ((mI S) 94 59)), (0, .inr (.inr (some 94))), (1, .inl nw)] [.inl (-1 : Int32)] (zst S m1) _
          refine zw_sto hm_210 dX12_findInYoung_114 [(2, .inl (-1 : Int32)), (3, .inl v2), (0, .inr (.inr (some 94))), (1, .inl nw)] rfl rfl rfl ?_
          refine zw_push hm_210 dX12_findInYoung_115 (v := .inl (-1 : Int32)) rfl ?_
          refine zw_if0 hm_210 dX12_findInYoung_116 (t := 121) rfl zc0_lt (fun _ => ?_) (fun hc => absurd (by decide) hc)
          refine zw_push hm_210 dX12_findInYoung_121 (v := .inr (.inr (some 94))) rfl ?_
          refine zw_cv hm_210 dX12_findInYoung_122 v_12_384_12 hm_211 [] [] rfl (zT_rt (zT_zst hS m1) s_94 rfl) ⟨by omega, by omega⟩ rfl (h _ _ (zst S m1) _ (by omega) (by omega) (zT_zst hS m1) rfl (fun o9 m7 hv => ?_))
          obtain ⟨v8, rfl, h⟩ := zmi_of hv
          show ma_wp X d w 210 125 [(2, .inl (-1 : Int32)), (3, .inl v2), (0, .inr (.inr (some 94))), (1, .inl nw)] [.inl v8] (zst S m7) _
          refine zw_sto hm_210 dX12_findInYoung_125 [(3, .inl v8), (2, .inl (-1 : Int32)), (0, .inr (.inr (some 94))), (1, .inl nw)] rfl rfl rfl ?_
          refine zw_push hm_210 dX12_findInYoung_126 (v := .inr (.inr (some 94))) rfl ?_
          refine zw_cv hm_210 dX12_findInYoung_127 v_12_448_12 hm_214 [] [] rfl (zT_rt (zT_zst hS m7) s_94 rfl) ⟨by omega, by omega⟩ rfl (h _ _ (zst S m7) _ (by omega) (by omega) (zT_zst hS m7) rfl (fun o9 m9 hv => ?_))
          obtain ⟨v10, rfl, h⟩ := zmi_of hv
          show ma_wp X d w 210 130 [(3, .inl v8), (2, .inl (-1 : Int32)), (0, .inr (.inr (some 94))), (1, .inl nw)] [.inl v10] (zst S m9) _
          refine zw_sto hm_210 dX12_findInYoung_130 [(3, .inl v10), (2, .inl (-1 : Int32)), (0, .inr (.inr (some 94))), (1, .inl nw)] rfl rfl rfl ?_
          refine zw_push hm_210 dX12_findInYoung_131 (v := .inr (.inr (some 94))) rfl ?_
          refine zw_push hm_210 dX12_findInYoung_132 (v := .inl nw) rfl ?_
          refine zw_push hm_210 dX12_findInYoung_133 (v := .inr (.inr (some 94))) rfl ?_
          refine zw_gf hm_210 dX12_findInYoung_134 (v := .inl (m9 94 14)) (zT_is (zT_zst hS m9) s_94) (zT_t (zT_zst hS m9) s_94) rfl f_12_210_12 rfl ?_
          refine zw_push hm_210 dX12_findInYoung_137 (v := .inr (.inr (some 94))) rfl ?_
          refine zw_gf hm_210 dX12_findInYoung_138 (v := .inl (m9 94 61)) (zT_is (zT_zst hS m9) s_94) (zT_t (zT_zst hS m9) s_94) rfl f_12_273_12 rfl ?_
          refine zw_push hm_210 dX12_findInYoung_141 (v := .inl (1 : Int32)) rfl ?_
          refine zw_stk hm_210 dX12_findInYoung_142 (st₉ := [.inl ((m9 94 61) + (1 : Int32)), .inl (m9 94 14), .inl nw, .inr (.inr (some 94))]) rfl rfl ?_
          refine zw_push hm_210 dX12_findInYoung_143 (v := .inr (.inr (some 94))) rfl ?_
          refine zw_gf hm_210 dX12_findInYoung_144 (v := .inl (m9 94 13)) (zT_is (zT_zst hS m9) s_94) (zT_t (zT_zst hS m9) s_94) rfl f_12_207_12 rfl ?_
          refine zw_stk hm_210 dX12_findInYoung_147 (st₉ := [.inl (((m9 94 61) + (1 : Int32)) * (m9 94 13)), .inl (m9 94 14), .inl nw, .inr (.inr (some 94))]) rfl rfl ?_
          refine zw_stk hm_210 dX12_findInYoung_148 (st₉ := [.inl ((m9 94 14) + (((m9 94 61) + (1 : Int32)) * (m9 94 13))), .inl nw, .inr (.inr (some 94))]) rfl rfl ?_
          refine zw_cv hm_210 dX12_findInYoung_149 v_12_445_12 hm_185 [.inl ((m9 94 14) + (((m9 94 61) + (1 : Int32)) * (m9 94 13))), .inl nw] [] rfl (zT_rt (zT_zst hS m9) s_94 rfl) ⟨by omega, by omega⟩ rfl ?_
          show ma_wp X (d - 1) (w - 23) 185 0 [(0, .inr (.inr (some 94))), (1, .inl nw), (2, .inl ((m9 94 14) + (((m9 94 61) + (1 : Int32)) * (m9 94 13))))] [] (zst S m9) _
          refine zw_push hm_185 dX12_findInHalf_0 (v := .inr (.inr (some 94))) rfl ?_
          refine zw_gf hm_185 dX12_findInHalf_1 (v := .inl (m9 94 59)) (zT_is (zT_zst hS m9) s_94) (zT_t (zT_zst hS m9) s_94) rfl f_12_276_12 rfl ?_
          refine zw_push hm_185 dX12_findInHalf_4 (v := .inl nw) rfl ?_
          refine zw_stk hm_185 dX12_findInHalf_5 (st₉ := [.inl ((m9 94 59) + nw)]) rfl rfl ?_
          refine zw_push hm_185 dX12_findInHalf_6 (v := .inl ((m9 94 14) + (((m9 94 61) + (1 : Int32)) * (m9 94 13)))) rfl ?_
          refine zw_if2 hm_185 dX12_findInHalf_7 (t := 12) rfl zc2_le ?_ ?_
          · intro hc
            rw [if_pos hc] at h
            refine zw_push hm_185 dX12_findInHalf_12 (v := .inr (.inr (some 94))) rfl ?_
            refine zw_gf hm_185 dX12_findInHalf_13 (v := .inl (m9 94 59)) (zT_is (zT_zst hS m9) s_94) (zT_t (zT_zst hS m9) s_94) rfl f_12_276_12 rfl ?_
            refine zw_sto hm_185 dX12_findInHalf_16 [(3, .inl (m9 94 59)), (0, .inr (.inr (some 94))), (1, .inl nw), (2, .inl ((m9 94 14) + (((m9 94 61) + (1 : Int32)) * (m9 94 13))))] rfl rfl rfl ?_
            refine zw_push hm_185 dX12_findInHalf_17 (v := .inr (.inr (some 94))) rfl ?_
            refine zw_stk hm_185 dX12_findInHalf_18 (st₉ := [.inr (.inr (some 94)), .inr (.inr (some 94))]) rfl rfl ?_
            refine zw_gf hm_185 dX12_findInHalf_19 (v := .inl (m9 94 59)) (zT_is (zT_zst hS m9) s_94) (zT_t (zT_zst hS m9) s_94) rfl f_12_276_12 rfl ?_
            refine zw_push hm_185 dX12_findInHalf_22 (v := .inl nw) rfl ?_
            refine zw_stk hm_185 dX12_findInHalf_23 (st₉ := [.inl ((m9 94 59) + nw), .inr (.inr (some 94))]) rfl rfl ?_
            refine zw_pf hm_185 dX12_findInHalf_24 (zT_is (zT_zst hS m9) s_94) (zT_t (zT_zst hS m9) s_94) p_12_276_12 zk_int ?_
            refine zw_push hm_185 dX12_findInHalf_27 (v := .inl (m9 94 59)) rfl ?_
            refine zw_iret hm_185 dX12_findInHalf_28 ?_
            show ma_wp X d w 210 152 [(3, .inl v10), (2, .inl (-1 : Int32)), (0, .inr (.inr (some 94))), (1, .inl nw)] [.inl (m9 94 59)] (ma_put (zst S m9) 94 59 (.inl ((m9 94 59) + nw))) _
            exact zw_iret hm_210 dX12_findInYoung_152 (HQ _ _ h)
          · intro hc
            rw [if_neg hc] at h
            refine zw_push hm_185 dX12_findInHalf_10 (v := .inl (-1 : Int32)) rfl ?_
            refine zw_iret hm_185 dX12_findInHalf_11 ?_
            show ma_wp X d w 210 152 [(3, .inl v10), (2, .inl (-1 : Int32)), (0, .inr (.inr (some 94))), (1, .inl nw)] [.inl (-1 : Int32)] (zst S m9) _
            exact zw_iret hm_210 dX12_findInYoung_152 (HQ _ _ h)
      · intro hc
        rw [if_neg hc] at h
        refine zw_push hm_210 dX12_findInYoung_86 (v := .inl ((mI S) 94 59)) rfl ?_
        exact zw_iret hm_210 dX12_findInYoung_87 (HQ _ _ h)
    · intro hc
      rw [if_neg hc] at h
      refine zw_push hm_185 dX12_findInHalf_10 (v := .inl (-1 : Int32)) rfl ?_
      refine zw_iret hm_185 dX12_findInHalf_11 ?_
      show ma_wp X d w 210 81 [(0, .inr (.inr (some 94))), (1, .inl nw)] [.inl (-1 : Int32)] S _
      refine zw_sto hm_210 dX12_findInYoung_81 [(2, .inl (-1 : Int32)), (0, .inr (.inr (some 94))), (1, .inl nw)] rfl rfl rfl ?_
      refine zw_push hm_210 dX12_findInYoung_82 (v := .inl (-1 : Int32)) rfl ?_
      refine zw_if0 hm_210 dX12_findInYoung_83 (t := 88) rfl zc0_lt (fun _ => ?_) (fun hc => absurd (by decide) hc)
      refine zw_push hm_210 dX12_findInYoung_88 (v := .inr (.inr (some 94))) rfl ?_
      refine zw_cv hm_210 dX12_findInYoung_89 v_12_448_12 hm_214 [] [] rfl (zT_rt hS s_94 rfl) ⟨by omega, by omega⟩ rfl (h _ _ S _ (by omega) (by omega) hS rfl (fun o9 m11 hv => ?_))
      obtain ⟨v12, rfl, h⟩ := zmi_of hv
      show ma_wp X d w 210 92 [(2, .inl (-1 : Int32)), (0, .inr (.inr (some 94))), (1, .inl nw)] [.inl v12] (zst S m11) _
      refine zw_sto hm_210 dX12_findInYoung_92 [(3, .inl v12), (2, .inl (-1 : Int32)), (0, .inr (.inr (some 94))), (1, .inl nw)] rfl rfl rfl ?_
      refine zw_push hm_210 dX12_findInYoung_93 (v := .inr (.inr (some 94))) rfl ?_
      refine zw_push hm_210 dX12_findInYoung_94 (v := .inl nw) rfl ?_
      refine zw_push hm_210 dX12_findInYoung_95 (v := .inr (.inr (some 94))) rfl ?_
      refine zw_gf hm_210 dX12_findInYoung_96 (v := .inl (m11 94 14)) (zT_is (zT_zst hS m11) s_94) (zT_t (zT_zst hS m11) s_94) rfl f_12_210_12 rfl ?_
      refine zw_push hm_210 dX12_findInYoung_99 (v := .inr (.inr (some 94))) rfl ?_
      refine zw_gf hm_210 dX12_findInYoung_100 (v := .inl (m11 94 61)) (zT_is (zT_zst hS m11) s_94) (zT_t (zT_zst hS m11) s_94) rfl f_12_273_12 rfl ?_
      refine zw_push hm_210 dX12_findInYoung_103 (v := .inl (1 : Int32)) rfl ?_
      refine zw_stk hm_210 dX12_findInYoung_104 (st₉ := [.inl ((m11 94 61) + (1 : Int32)), .inl (m11 94 14), .inl nw, .inr (.inr (some 94))]) rfl rfl ?_
      refine zw_push hm_210 dX12_findInYoung_105 (v := .inr (.inr (some 94))) rfl ?_
      refine zw_gf hm_210 dX12_findInYoung_106 (v := .inl (m11 94 13)) (zT_is (zT_zst hS m11) s_94) (zT_t (zT_zst hS m11) s_94) rfl f_12_207_12 rfl ?_
      refine zw_stk hm_210 dX12_findInYoung_109 (st₉ := [.inl (((m11 94 61) + (1 : Int32)) * (m11 94 13)), .inl (m11 94 14), .inl nw, .inr (.inr (some 94))]) rfl rfl ?_
      refine zw_stk hm_210 dX12_findInYoung_110 (st₉ := [.inl ((m11 94 14) + (((m11 94 61) + (1 : Int32)) * (m11 94 13))), .inl nw, .inr (.inr (some 94))]) rfl rfl ?_
      refine zw_cv hm_210 dX12_findInYoung_111 v_12_445_12 hm_185 [.inl ((m11 94 14) + (((m11 94 61) + (1 : Int32)) * (m11 94 13))), .inl nw] [] rfl (zT_rt (zT_zst hS m11) s_94 rfl) ⟨by omega, by omega⟩ rfl ?_
      show ma_wp X (d - 1) (w - 23) 185 0 [(0, .inr (.inr (some 94))), (1, .inl nw), (2, .inl ((m11 94 14) + (((m11 94 61) + (1 : Int32)) * (m11 94 13))))] [] (zst S m11) _
      refine zw_push hm_185 dX12_findInHalf_0 (v := .inr (.inr (some 94))) rfl ?_
      refine zw_gf hm_185 dX12_findInHalf_1 (v := .inl (m11 94 59)) (zT_is (zT_zst hS m11) s_94) (zT_t (zT_zst hS m11) s_94) rfl f_12_276_12 rfl ?_
      refine zw_push hm_185 dX12_findInHalf_4 (v := .inl nw) rfl ?_
      refine zw_stk hm_185 dX12_findInHalf_5 (st₉ := [.inl ((m11 94 59) + nw)]) rfl rfl ?_
      refine zw_push hm_185 dX12_findInHalf_6 (v := .inl ((m11 94 14) + (((m11 94 61) + (1 : Int32)) * (m11 94 13)))) rfl ?_
      refine zw_if2 hm_185 dX12_findInHalf_7 (t := 12) rfl zc2_le ?_ ?_
      · intro hc
        rw [if_pos hc] at h
        refine zw_push hm_185 dX12_findInHalf_12 (v := .inr (.inr (some 94))) rfl ?_
        refine zw_gf hm_185 dX12_findInHalf_13 (v := .inl (m11 94 59)) (zT_is (zT_zst hS m11) s_94) (zT_t (zT_zst hS m11) s_94) rfl f_12_276_12 rfl ?_
        refine zw_sto hm_185 dX12_findInHalf_16 [(3, .inl (m11 94 59)), (0, .inr (.inr (some 94))), (1, .inl nw), (2, .inl ((m11 94 14) + (((m11 94 61) + (1 : Int32)) * (m11 94 13))))] rfl rfl rfl ?_
        refine zw_push hm_185 dX12_findInHalf_17 (v := .inr (.inr (some 94))) rfl ?_
        refine zw_stk hm_185 dX12_findInHalf_18 (st₉ := [.inr (.inr (some 94)), .inr (.inr (some 94))]) rfl rfl ?_
        refine zw_gf hm_185 dX12_findInHalf_19 (v := .inl (m11 94 59)) (zT_is (zT_zst hS m11) s_94) (zT_t (zT_zst hS m11) s_94) rfl f_12_276_12 rfl ?_
        refine zw_push hm_185 dX12_findInHalf_22 (v := .inl nw) rfl ?_
        refine zw_stk hm_185 dX12_findInHalf_23 (st₉ := [.inl ((m11 94 59) + nw), .inr (.inr (some 94))]) rfl rfl ?_
        refine zw_pf hm_185 dX12_findInHalf_24 (zT_is (zT_zst hS m11) s_94) (zT_t (zT_zst hS m11) s_94) p_12_276_12 zk_int ?_
        refine zw_push hm_185 dX12_findInHalf_27 (v := .inl (m11 94 59)) rfl ?_
        refine zw_iret hm_185 dX12_findInHalf_28 ?_
        show ma_wp X d w 210 114 [(3, .inl v12), (2, .inl (-1 : Int32)), (0, .inr (.inr (some 94))), (1, .inl nw)] [.inl (m11 94 59)] (ma_put (zst S m11) 94 59 (.inl ((m11 94 59) + nw))) _
        refine zw_sto hm_210 dX12_findInYoung_114 [(2, .inl (m11 94 59)), (3, .inl v12), (0, .inr (.inr (some 94))), (1, .inl nw)] rfl rfl rfl ?_
        refine zw_push hm_210 dX12_findInYoung_115 (v := .inl (m11 94 59)) rfl ?_
        refine zw_if0 hm_210 dX12_findInYoung_116 (t := 121) rfl zc0_lt ?_ ?_
        · intro hc
          rw [if_pos hc] at h
          refine zw_push hm_210 dX12_findInYoung_121 (v := .inr (.inr (some 94))) rfl ?_
          refine zw_cv hm_210 dX12_findInYoung_122 v_12_384_12 hm_211 [] [] rfl (zT_rt (zT_pi (zT_zst hS m11)) s_94 rfl) ⟨by omega, by omega⟩ rfl (h _ _ (ma_put (zst S m11) 94 59 (.inl ((m11 94 59) + nw))) _ (by omega) (by omega) (zT_pi (zT_zst hS m11)) rfl (fun o9 m13 hv => ?_))
          obtain ⟨v14, rfl, h⟩ := zmi_of hv
          show ma_wp X d w 210 125 [(2, .inl (m11 94 59)), (3, .inl v12), (0, .inr (.inr (some 94))), (1, .inl nw)] [.inl v14] (zst S m13) _
          refine zw_sto hm_210 dX12_findInYoung_125 [(3, .inl v14), (2, .inl (m11 94 59)), (0, .inr (.inr (some 94))), (1, .inl nw)] rfl rfl rfl ?_
          refine zw_push hm_210 dX12_findInYoung_126 (v := .inr (.inr (some 94))) rfl ?_
          refine zw_cv hm_210 dX12_findInYoung_127 v_12_448_12 hm_214 [] [] rfl (zT_rt (zT_zst hS m13) s_94 rfl) ⟨by omega, by omega⟩ rfl (h _ _ (zst S m13) _ (by omega) (by omega) (zT_zst hS m13) rfl (fun o9 m15 hv => ?_))
          obtain ⟨v16, rfl, h⟩ := zmi_of hv
          show ma_wp X d w 210 130 [(3, .inl v14), (2, .inl (m11 94 59)), (0, .inr (.inr (some 94))), (1, .inl nw)] [.inl v16] (zst S m15) _
          refine zw_sto hm_210 dX12_findInYoung_130 [(3, .inl v16), (2, .inl (m11 94 59)), (0, .inr (.inr (some 94))), (1, .inl nw)] rfl rfl rfl ?_
          refine zw_push hm_210 dX12_findInYoung_131 (v := .inr (.inr (some 94))) rfl ?_
          refine zw_push hm_210 dX12_findInYoung_132 (v := .inl nw) rfl ?_
          refine zw_push hm_210 dX12_findInYoung_133 (v := .inr (.inr (some 94))) rfl ?_
          refine zw_gf hm_210 dX12_findInYoung_134 (v := .inl (m15 94 14)) (zT_is (zT_zst hS m15) s_94) (zT_t (zT_zst hS m15) s_94) rfl f_12_210_12 rfl ?_
          refine zw_push hm_210 dX12_findInYoung_137 (v := .inr (.inr (some 94))) rfl ?_
          refine zw_gf hm_210 dX12_findInYoung_138 (v := .inl (m15 94 61)) (zT_is (zT_zst hS m15) s_94) (zT_t (zT_zst hS m15) s_94) rfl f_12_273_12 rfl ?_
          refine zw_push hm_210 dX12_findInYoung_141 (v := .inl (1 : Int32)) rfl ?_
          refine zw_stk hm_210 dX12_findInYoung_142 (st₉ := [.inl ((m15 94 61) + (1 : Int32)), .inl (m15 94 14), .inl nw, .inr (.inr (some 94))]) rfl rfl ?_
          refine zw_push hm_210 dX12_findInYoung_143 (v := .inr (.inr (some 94))) rfl ?_
          refine zw_gf hm_210 dX12_findInYoung_144 (v := .inl (m15 94 13)) (zT_is (zT_zst hS m15) s_94) (zT_t (zT_zst hS m15) s_94) rfl f_12_207_12 rfl ?_
          refine zw_stk hm_210 dX12_findInYoung_147 (st₉ := [.inl (((m15 94 61) + (1 : Int32)) * (m15 94 13)), .inl (m15 94 14), .inl nw, .inr (.inr (some 94))]) rfl rfl ?_
          refine zw_stk hm_210 dX12_findInYoung_148 (st₉ := [.inl ((m15 94 14) + (((m15 94 61) + (1 : Int32)) * (m15 94 13))), .inl nw, .inr (.inr (some 94))]) rfl rfl ?_
          refine zw_cv hm_210 dX12_findInYoung_149 v_12_445_12 hm_185 [.inl ((m15 94 14) + (((m15 94 61) + (1 : Int32)) * (m15 94 13))), .inl nw] [] rfl (zT_rt (zT_zst hS m15) s_94 rfl) ⟨by omega, by omega⟩ rfl ?_
          show ma_wp X (d - 1) (w - 23) 185 0 [(0, .inr (.inr (some 94))), (1, .inl nw), (2, .inl ((m15 94 14) + (((m15 94 61) + (1 : Int32)) * (m15 94 13))))] [] (zst S m15) _
          refine zw_push hm_185 dX12_findInHalf_0 (v := .inr (.inr (some 94))) rfl ?_
          refine zw_gf hm_185 dX12_findInHalf_1 (v := .inl (m15 94 59)) (zT_is (zT_zst hS m15) s_94) (zT_t (zT_zst hS m15) s_94) rfl f_12_276_12 rfl ?_
          refine zw_push hm_185 dX12_findInHalf_4 (v := .inl nw) rfl ?_
          refine zw_stk hm_185 dX12_findInHalf_5 (st₉ := [.inl ((m15 94 59) + nw)]) rfl rfl ?_
          refine zw_push hm_185 dX12_findInHalf_6 (v := .inl ((m15 94 14) + (((m15 94 61) + (1 : Int32)) * (m15 94 13)))) rfl ?_
          refine zw_if2 hm_185 dX12_findInHalf_7 (t := 12) rfl zc2_le ?_ ?_
          · intro hc
            rw [if_pos hc] at h
            refine zw_push hm_185 dX12_findInHalf_12 (v := .inr (.inr (some 94))) rfl ?_
            refine zw_gf hm_185 dX12_findInHalf_13 (v := .inl (m15 94 59)) (zT_is (zT_zst hS m15) s_94) (zT_t (zT_zst hS m15) s_94) rfl f_12_276_12 rfl ?_
            refine zw_sto hm_185 dX12_findInHalf_16 [(3, .inl (m15 94 59)), (0, .inr (.inr (some 94))), (1, .inl nw), (2, .inl ((m15 94 14) + (((m15 94 61) + (1 : Int32)) * (m15 94 13))))] rfl rfl rfl ?_
            refine zw_push hm_185 dX12_findInHalf_17 (v := .inr (.inr (some 94))) rfl ?_
            refine zw_stk hm_185 dX12_findInHalf_18 (st₉ := [.inr (.inr (some 94)), .inr (.inr (some 94))]) rfl rfl ?_
            refine zw_gf hm_185 dX12_findInHalf_19 (v := .inl (m15 94 59)) (zT_is (zT_zst hS m15) s_94) (zT_t (zT_zst hS m15) s_94) rfl f_12_276_12 rfl ?_
            refine zw_push hm_185 dX12_findInHalf_22 (v := .inl nw) rfl ?_
            refine zw_stk hm_185 dX12_findInHalf_23 (st₉ := [.inl ((m15 94 59) + nw), .inr (.inr (some 94))]) rfl rfl ?_
            refine zw_pf hm_185 dX12_findInHalf_24 (zT_is (zT_zst hS m15) s_94) (zT_t (zT_zst hS m15) s_94) p_12_276_12 zk_int ?_
            refine zw_push hm_185 dX12_findInHalf_27 (v := .inl (m15 94 59)) rfl ?_
            refine zw_iret hm_185 dX12_findInHalf_28 ?_
            show ma_wp X d w 210 152 [(3, .inl v16), (2, .inl (m11 94 59)), (0, .inr (.inr (some 94))), (1, .inl nw)] [.inl (m15 94 59)] (ma_put (zst S m15) 94 59 (.inl ((m15 94 59) + nw))) _
            exact zw_iret hm_210 dX12_findInYoung_152 (HQ _ _ h)
          · intro hc
            rw [if_neg hc] at h
            refine zw_push hm_185 dX12_findInHalf_10 (v := .inl (-1 : Int32)) rfl ?_
            refine zw_iret hm_185 dX12_findInHalf_11 ?_
            show ma_wp X d w 210 152 [(3, .inl v16), (2, .inl (m11 94 59)), (0, .inr (.inr (some 94))), (1, .inl nw)] [.inl (-1 : Int32)] (zst S m15) _
            exact zw_iret hm_210 dX12_findInYoung_152 (HQ _ _ h)
        · intro hc
          rw [if_neg hc] at h
          refine zw_push hm_210 dX12_findInYoung_119 (v := .inl (m11 94 59)) rfl ?_
          exact zw_iret hm_210 dX12_findInYoung_120 (HQ _ _ h)
      · intro hc
        rw [if_neg hc] at h
        refine zw_push hm_185 dX12_findInHalf_10 (v := .inl (-1 : Int32)) rfl ?_
        refine zw_iret hm_185 dX12_findInHalf_11 ?_
        show ma_wp X d w 210 114 [(3, .inl v12), (2, .inl (-1 : Int32)), (0, .inr (.inr (some 94))), (1, .inl nw)] [.inl (-1 : Int32)] (zst S m11) _
        refine zw_sto hm_210 dX12_findInYoung_114 [(2, .inl (-1 : Int32)), (3, .inl v12), (0, .inr (.inr (some 94))), (1, .inl nw)] rfl rfl rfl ?_
        refine zw_push hm_210 dX12_findInYoung_115 (v := .inl (-1 : Int32)) rfl ?_
        refine zw_if0 hm_210 dX12_findInYoung_116 (t := 121) rfl zc0_lt (fun _ => ?_) (fun hc => absurd (by decide) hc)
        refine zw_push hm_210 dX12_findInYoung_121 (v := .inr (.inr (some 94))) rfl ?_
        refine zw_cv hm_210 dX12_findInYoung_122 v_12_384_12 hm_211 [] [] rfl (zT_rt (zT_zst hS m11) s_94 rfl) ⟨by omega, by omega⟩ rfl (h _ _ (zst S m11) _ (by omega) (by omega) (zT_zst hS m11) rfl (fun o9 m17 hv => ?_))
        obtain ⟨v18, rfl, h⟩ := zmi_of hv
        show ma_wp X d w 210 125 [(2, .inl (-1 : Int32)), (3, .inl v12), (0, .inr (.inr (some 94))), (1, .inl nw)] [.inl v18] (zst S m17) _
        refine zw_sto hm_210 dX12_findInYoung_125 [(3, .inl v18), (2, .inl (-1 : Int32)), (0, .inr (.inr (some 94))), (1, .inl nw)] rfl rfl rfl ?_
        refine zw_push hm_210 dX12_findInYoung_126 (v := .inr (.inr (some 94))) rfl ?_
        refine zw_cv hm_210 dX12_findInYoung_127 v_12_448_12 hm_214 [] [] rfl (zT_rt (zT_zst hS m17) s_94 rfl) ⟨by omega, by omega⟩ rfl (h _ _ (zst S m17) _ (by omega) (by omega) (zT_zst hS m17) rfl (fun o9 m19 hv => ?_))
        obtain ⟨v20, rfl, h⟩ := zmi_of hv
        show ma_wp X d w 210 130 [(3, .inl v18), (2, .inl (-1 : Int32)), (0, .inr (.inr (some 94))), (1, .inl nw)] [.inl v20] (zst S m19) _
        refine zw_sto hm_210 dX12_findInYoung_130 [(3, .inl v20), (2, .inl (-1 : Int32)), (0, .inr (.inr (some 94))), (1, .inl nw)] rfl rfl rfl ?_
        refine zw_push hm_210 dX12_findInYoung_131 (v := .inr (.inr (some 94))) rfl ?_
        refine zw_push hm_210 dX12_findInYoung_132 (v := .inl nw) rfl ?_
        refine zw_push hm_210 dX12_findInYoung_133 (v := .inr (.inr (some 94))) rfl ?_
        refine zw_gf hm_210 dX12_findInYoung_134 (v := .inl (m19 94 14)) (zT_is (zT_zst hS m19) s_94) (zT_t (zT_zst hS m19) s_94) rfl f_12_210_12 rfl ?_
        refine zw_push hm_210 dX12_findInYoung_137 (v := .inr (.inr (some 94))) rfl ?_
        refine zw_gf hm_210 dX12_findInYoung_138 (v := .inl (m19 94 61)) (zT_is (zT_zst hS m19) s_94) (zT_t (zT_zst hS m19) s_94) rfl f_12_273_12 rfl ?_
        refine zw_push hm_210 dX12_findInYoung_141 (v := .inl (1 : Int32)) rfl ?_
        refine zw_stk hm_210 dX12_findInYoung_142 (st₉ := [.inl ((m19 94 61) + (1 : Int32)), .inl (m19 94 14), .inl nw, .inr (.inr (some 94))]) rfl rfl ?_
        refine zw_push hm_210 dX12_findInYoung_143 (v := .inr (.inr (some 94))) rfl ?_
        refine zw_gf hm_210 dX12_findInYoung_144 (v := .inl (m19 94 13)) (zT_is (zT_zst hS m19) s_94) (zT_t (zT_zst hS m19) s_94) rfl f_12_207_12 rfl ?_
        refine zw_stk hm_210 dX12_findInYoung_147 (st₉ := [.inl (((m19 94 61) + (1 : Int32)) * (m19 94 13)), .inl (m19 94 14), .inl nw, .inr (.inr (some 94))]) rfl rfl ?_
        refine zw_stk hm_210 dX12_findInYoung_148 (st₉ := [.inl ((m19 94 14) + (((m19 94 61) + (1 : Int32)) * (m19 94 13))), .inl nw, .inr (.inr (some 94))]) rfl rfl ?_
        refine zw_cv hm_210 dX12_findInYoung_149 v_12_445_12 hm_185 [.inl ((m19 94 14) + (((m19 94 61) + (1 : Int32)) * (m19 94 13))), .inl nw] [] rfl (zT_rt (zT_zst hS m19) s_94 rfl) ⟨by omega, by omega⟩ rfl ?_
        show ma_wp X (d - 1) (w - 23) 185 0 [(0, .inr (.inr (some 94))), (1, .inl nw), (2, .inl ((m19 94 14) + (((m19 94 61) + (1 : Int32)) * (m19 94 13))))] [] (zst S m19) _
        refine zw_push hm_185 dX12_findInHalf_0 (v := .inr (.inr (some 94))) rfl ?_
        refine zw_gf hm_185 dX12_findInHalf_1 (v := .inl (m19 94 59)) (zT_is (zT_zst hS m19) s_94) (zT_t (zT_zst hS m19) s_94) rfl f_12_276_12 rfl ?_
        refine zw_push hm_185 dX12_findInHalf_4 (v := .inl nw) rfl ?_
        refine zw_stk hm_185 dX12_findInHalf_5 (st₉ := [.inl ((m19 94 59) + nw)]) rfl rfl ?_
        refine zw_push hm_185 dX12_findInHalf_6 (v := .inl ((m19 94 14) + (((m19 94 61) + (1 : Int32)) * (m19 94 13)))) rfl ?_
        refine zw_if2 hm_185 dX12_findInHalf_7 (t := 12) rfl zc2_le ?_ ?_
        · intro hc
          rw [if_pos hc] at h
          refine zw_push hm_185 dX12_findInHalf_12 (v := .inr (.inr (some 94))) rfl ?_
          refine zw_gf hm_185 dX12_findInHalf_13 (v := .inl (m19 94 59)) (zT_is (zT_zst hS m19) s_94) (zT_t (zT_zst hS m19) s_94) rfl f_12_276_12 rfl ?_
          refine zw_sto hm_185 dX12_findInHalf_16 [(3, .inl (m19 94 59)), (0, .inr (.inr (some 94))), (1, .inl nw), (2, .inl ((m19 94 14) + (((m19 94 61) + (1 : Int32)) * (m19 94 13))))] rfl rfl rfl ?_
          refine zw_push hm_185 dX12_findInHalf_17 (v := .inr (.inr (some 94))) rfl ?_
          refine zw_stk hm_185 dX12_findInHalf_18 (st₉ := [.inr (.inr (some 94)), .inr (.inr (some 94))]) rfl rfl ?_
          refine zw_gf hm_185 dX12_findInHalf_19 (v := .inl (m19 94 59)) (zT_is (zT_zst hS m19) s_94) (zT_t (zT_zst hS m19) s_94) rfl f_12_276_12 rfl ?_
          refine zw_push hm_185 dX12_findInHalf_22 (v := .inl nw) rfl ?_
          refine zw_stk hm_185 dX12_findInHalf_23 (st₉ := [.inl ((m19 94 59) + nw), .inr (.inr (some 94))]) rfl rfl ?_
          refine zw_pf hm_185 dX12_findInHalf_24 (zT_is (zT_zst hS m19) s_94) (zT_t (zT_zst hS m19) s_94) p_12_276_12 zk_int ?_
          refine zw_push hm_185 dX12_findInHalf_27 (v := .inl (m19 94 59)) rfl ?_
          refine zw_iret hm_185 dX12_findInHalf_28 ?_
          show ma_wp X d w 210 152 [(3, .inl v20), (2, .inl (-1 : Int32)), (0, .inr (.inr (some 94))), (1, .inl nw)] [.inl (m19 94 59)] (ma_put (zst S m19) 94 59 (.inl ((m19 94 59) + nw))) _
          exact zw_iret hm_210 dX12_findInYoung_152 (HQ _ _ h)
        · intro hc
          rw [if_neg hc] at h
          refine zw_push hm_185 dX12_findInHalf_10 (v := .inl (-1 : Int32)) rfl ?_
          refine zw_iret hm_185 dX12_findInHalf_11 ?_
          show ma_wp X d w 210 152 [(3, .inl v20), (2, .inl (-1 : Int32)), (0, .inr (.inr (some 94))), (1, .inl nw)] [.inl (-1 : Int32)] (zst S m19) _
          exact zw_iret hm_210 dX12_findInYoung_152 (HQ _ _ h)
  · intro hc
    rw [if_neg hc] at h
    refine zw_push hm_210 dX12_findInYoung_10 (v := .inr (.inr (some 94))) rfl ?_
    refine zw_gf hm_210 dX12_findInYoung_11 (v := .inl ((mI S) 94 60)) (zT_is hS s_94) (zT_t hS s_94) rfl f_12_279_12 rfl ?_
    refine zw_push hm_210 dX12_findInYoung_14 (v := .inl nw) rfl ?_
    refine zw_stk hm_210 dX12_findInYoung_15 (st₉ := [.inl (((mI S) 94 60) + nw)]) rfl rfl ?_
    refine zw_push hm_210 dX12_findInYoung_16 (v := .inr (.inr (some 94))) rfl ?_
    refine zw_gf hm_210 dX12_findInYoung_17 (v := .inl ((mI S) 94 14)) (zT_is hS s_94) (zT_t hS s_94) rfl f_12_210_12 rfl ?_
    refine zw_if2 hm_210 dX12_findInYoung_20 (t := 28) rfl zc2_le ?_ ?_
    · intro hc
      rw [if_pos hc] at h
      refine zw_push hm_210 dX12_findInYoung_28 (v := .inr (.inr (some 94))) rfl ?_
      refine zw_gf hm_210 dX12_findInYoung_29 (v := .inl ((mI S) 94 60)) (zT_is hS s_94) (zT_t hS s_94) rfl f_12_279_12 rfl ?_
      refine zw_push hm_210 dX12_findInYoung_32 (v := .inl nw) rfl ?_
      refine zw_stk hm_210 dX12_findInYoung_33 (st₉ := [.inl (((mI S) 94 60) + nw)]) rfl rfl ?_
      refine zw_push hm_210 dX12_findInYoung_34 (v := .inr (.inr (some 94))) rfl ?_
      refine zw_gf hm_210 dX12_findInYoung_35 (v := .inl ((mI S) 94 14)) (zT_is hS s_94) (zT_t hS s_94) rfl f_12_210_12 rfl ?_
      refine zw_if2 hm_210 dX12_findInYoung_38 (t := 43) rfl zc2_le ?_ ?_
      · intro hc
        rw [if_pos hc] at h
        refine zw_push hm_210 dX12_findInYoung_43 (v := .inr (.inr (some 94))) rfl ?_
        refine zw_gf hm_210 dX12_findInYoung_44 (v := .inl ((mI S) 94 60)) (zT_is hS s_94) (zT_t hS s_94) rfl f_12_279_12 rfl ?_
        refine zw_sto hm_210 dX12_findInYoung_47 [(2, .inl ((mI S) 94 60)), (0, .inr (.inr (some 94))), (1, .inl nw)] rfl rfl rfl ?_
        refine zw_push hm_210 dX12_findInYoung_48 (v := .inr (.inr (some 94))) rfl ?_
        refine zw_stk hm_210 dX12_findInYoung_49 (st₉ := [.inr (.inr (some 94)), .inr (.inr (some 94))]) rfl rfl ?_
        refine zw_gf hm_210 dX12_findInYoung_50 (v := .inl ((mI S) 94 60)) (zT_is hS s_94) (zT_t hS s_94) rfl f_12_279_12 rfl ?_
        refine zw_push hm_210 dX12_findInYoung_53 (v := .inl nw) rfl ?_
        refine zw_stk hm_210 dX12_findInYoung_54 (st₉ := [.inl (((mI S) 94 60) + nw), .inr (.inr (some 94))]) rfl rfl ?_
        refine zw_pf hm_210 dX12_findInYoung_55 (zT_is hS s_94) (zT_t hS s_94) p_12_279_12 zk_int ?_
        refine zw_push hm_210 dX12_findInYoung_58 (v := .inl ((mI S) 94 60)) rfl ?_
        exact zw_iret hm_210 dX12_findInYoung_59 (HQ _ _ h)
      · intro hc
        rw [if_neg hc] at h
        refine zw_push hm_210 dX12_findInYoung_41 (v := .inl (-1 : Int32)) rfl ?_
        exact zw_iret hm_210 dX12_findInYoung_42 (HQ _ _ h)
    · intro hc
      rw [if_neg hc] at h
      refine zw_push hm_210 dX12_findInYoung_23 (v := .inr (.inr (some 94))) rfl ?_
      refine zw_cv hm_210 dX12_findInYoung_24 v_12_384_12 hm_211 [] [] rfl (zT_rt hS s_94 rfl) ⟨by omega, by omega⟩ rfl (h _ _ S _ (by omega) (by omega) hS rfl (fun o9 m21 hv => ?_))
      obtain ⟨v22, rfl, h⟩ := zmi_of hv
      show ma_wp X d w 210 27 [(0, .inr (.inr (some 94))), (1, .inl nw)] [.inl v22] (zst S m21) _
      refine zw_sto hm_210 dX12_findInYoung_27 [(2, .inl v22), (0, .inr (.inr (some 94))), (1, .inl nw)] rfl rfl rfl ?_
      refine zw_push hm_210 dX12_findInYoung_28 (v := .inr (.inr (some 94))) rfl ?_
      refine zw_gf hm_210 dX12_findInYoung_29 (v := .inl (m21 94 60)) (zT_is (zT_zst hS m21) s_94) (zT_t (zT_zst hS m21) s_94) rfl f_12_279_12 rfl ?_
      refine zw_push hm_210 dX12_findInYoung_32 (v := .inl nw) rfl ?_
      refine zw_stk hm_210 dX12_findInYoung_33 (st₉ := [.inl ((m21 94 60) + nw)]) rfl rfl ?_
      refine zw_push hm_210 dX12_findInYoung_34 (v := .inr (.inr (some 94))) rfl ?_
      refine zw_gf hm_210 dX12_findInYoung_35 (v := .inl (m21 94 14)) (zT_is (zT_zst hS m21) s_94) (zT_t (zT_zst hS m21) s_94) rfl f_12_210_12 rfl ?_
      refine zw_if2 hm_210 dX12_findInYoung_38 (t := 43) rfl zc2_le ?_ ?_
      · intro hc
        rw [if_pos hc] at h
        refine zw_push hm_210 dX12_findInYoung_43 (v := .inr (.inr (some 94))) rfl ?_
        refine zw_gf hm_210 dX12_findInYoung_44 (v := .inl (m21 94 60)) (zT_is (zT_zst hS m21) s_94) (zT_t (zT_zst hS m21) s_94) rfl f_12_279_12 rfl ?_
        refine zw_sto hm_210 dX12_findInYoung_47 [(2, .inl (m21 94 60)), (0, .inr (.inr (some 94))), (1, .inl nw)] rfl rfl rfl ?_
        refine zw_push hm_210 dX12_findInYoung_48 (v := .inr (.inr (some 94))) rfl ?_
        refine zw_stk hm_210 dX12_findInYoung_49 (st₉ := [.inr (.inr (some 94)), .inr (.inr (some 94))]) rfl rfl ?_
        refine zw_gf hm_210 dX12_findInYoung_50 (v := .inl (m21 94 60)) (zT_is (zT_zst hS m21) s_94) (zT_t (zT_zst hS m21) s_94) rfl f_12_279_12 rfl ?_
        refine zw_push hm_210 dX12_findInYoung_53 (v := .inl nw) rfl ?_
        refine zw_stk hm_210 dX12_findInYoung_54 (st₉ := [.inl ((m21 94 60) + nw), .inr (.inr (some 94))]) rfl rfl ?_
        refine zw_pf hm_210 dX12_findInYoung_55 (zT_is (zT_zst hS m21) s_94) (zT_t (zT_zst hS m21) s_94) p_12_279_12 zk_int ?_
        refine zw_push hm_210 dX12_findInYoung_58 (v := .inl (m21 94 60)) rfl ?_
        exact zw_iret hm_210 dX12_findInYoung_59 (HQ _ _ h)
      · intro hc
        rw [if_neg hc] at h
        refine zw_push hm_210 dX12_findInYoung_41 (v := .inl (-1 : Int32)) rfl ?_
        exact zw_iret hm_210 dX12_findInYoung_42 (HQ _ _ h)
set_option maxHeartbeats 8000000 in
theorem sp_210 {X : Nat × (Nat → Int32)} {P : Option ma_V → (Nat → Nat → Int32) → Prop} {T : Nat} {m : Nat → Nat → Int32} (nw : Int32) (hV : zV m) (hpre0 : 1 ≤ nw.toInt) (hpre1 : nw.toInt ≤ 61) (r_W : zW (m 94 7) (m 98) (m 101) (m 102) (m 108)) (r_GW : zGW T (m 94 55) (m 109)) (r_GU : zGU T (m 94 46) (m 99)) (r_OW : zOw (m 99) (m 103) (m 111)) (r_DX : zDX (m 94 10) (m 99) (m 112) (m 113) (m 114) (m 94 55) (m 98) (m 101) (m 102) (m 108)) (r_HA : zHA (m 94 10) (m 94 11) (m 94 13) (m 94 14) (m 94 16) (m 94 61) (m 94 59) (m 94 60) (m 99) (m 102) (m 103) (m 111) (m 117) (m 98) (m 101) (m 108)) (hpre8 : (m 94 10).toInt = 3) (KZ : ∀ v m₉, zV (zov wr_210 m m₉) → (zGW T (m₉ 94 55) (m₉ 109)) → (zGU T (m 94 46) (m₉ 99)) → (zOw (m₉ 99) (m₉ 103) (m₉ 111)) → (zDX (m 94 10) (m₉ 99) (m 112) (m₉ 113) (m₉ 114) (m₉ 94 55) (m 98) (m 101) (m 102) (m 108)) → (zHA (m 94 10) (m 94 11) (m 94 13) (m 94 14) (m 94 16) (m₉ 94 61) (m₉ 94 59) (m₉ 94 60) (m₉ 99) (m 102) (m₉ 103) (m₉ 111) (m₉ 117) (m 98) (m 101) (m 108)) → (zPL (m 94 10) (m 94 11) (m 94 13) (m 94 14) (m₉ 94 61) (m₉ 94 59) (m₉ 94 60) (m 94 18) (m 94 64) (m₉ 99) (m 102) (m₉ 103) (m₉ 111) v nw) → P (some (.inl v)) (zov wr_210 m m₉)) : zm X 7 152 210 0 [(0, .inr (.inr (some 94))), (1, .inl nw)] m P := by
  have K : ∀ v m₉, zF wr_210 m m₉ → zV m₉ → (zGW T (m₉ 94 55) (m₉ 109)) → (zGU T (m₉ 94 46) (m₉ 99)) → (zOw (m₉ 99) (m₉ 103) (m₉ 111)) → (zDX (m₉ 94 10) (m₉ 99) (m₉ 112) (m₉ 113) (m₉ 114) (m₉ 94 55) (m₉ 98) (m₉ 101) (m₉ 102) (m₉ 108)) → (zHA (m₉ 94 10) (m₉ 94 11) (m₉ 94 13) (m₉ 94 14) (m₉ 94 16) (m₉ 94 61) (m₉ 94 59) (m₉ 94 60) (m₉ 99) (m₉ 102) (m₉ 103) (m₉ 111) (m₉ 117) (m₉ 98) (m₉ 101) (m₉ 108)) → (zPL (m₉ 94 10) (m₉ 94 11) (m₉ 94 13) (m₉ 94 14) (m₉ 94 61) (m₉ 94 59) (m₉ 94 60) (m₉ 94 18) (m₉ 94 64) (m₉ 99) (m₉ 102) (m₉ 103) (m₉ 111) v nw) → P (some (.inl v)) m₉ := by
    intro v m₉ hf z q0 q1 q2 q3 q4 q5
    have e := zov_eq hf
    rw [e] at z ⊢
    try rw [e] at q0
    try rw [e] at q1
    try rw [e] at q2
    try rw [e] at q3
    try rw [e] at q4
    try rw [e] at q5
    exact KZ v m₉ z q0 q1 q2 q3 q4 q5
  refine g_210_0 nw ?_
  have f1 : 0 ≤ (m 94 10).toInt ∧ (m 94 10).toInt ≤ 6 := rs_94_10 (m := m) hV
  have b2 := i_bd nw
  have f3 : 0 ≤ (m 94 13).toInt ∧ (m 94 13).toInt ≤ 1500 := rs_94_13 (m := m) hV
  have li4 : (2 : Int32).toInt = 2 := rfl
  first | have f5 := i_div (x := (m 94 13)) (y := (2 : Int32)) (by omega) (by omega) | have b6 := i_bd ((m 94 13) / (2 : Int32))
  try have f7 : (((m 94 13) / (2 : Int32))).toInt = (m 94 13).toInt / 2 := (i_div (x := (m 94 13)) (y := (2 : Int32)) (by omega) (by omega)).2.2.1
  refine zd (fun (h8 : nw ≤ ((m 94 13) / (2 : Int32))) => ?_) (fun (h8 : ¬ nw ≤ ((m 94 13) / (2 : Int32))) => ?_)
  · skip
    have g9 := i_le h8
    have f10 : 0 ≤ (m 94 59).toInt ∧ (m 94 59).toInt ≤ 4600 := rs_94_59 (m := m) hV
    first | have e11 : ((m 94 59) + nw).toInt = (m 94 59).toInt + nw.toInt := i_add (by omega) (by omega) | have b12 := i_bd ((m 94 59) + nw)
    have f13 : 0 ≤ (m 94 14).toInt ∧ (m 94 14).toInt ≤ 1500 := rs_94_14 (m := m) hV
    have f14 : 0 ≤ (m 94 61).toInt ∧ (m 94 61).toInt ≤ 1 := rs_94_61 (m := m) hV
    first | have e15 : ((m 94 61) + (1 : Int32)).toInt = (m 94 61).toInt + (1) := i_addk rfl (by omega) (by omega) | have b16 := i_bd ((m 94 61) + (1 : Int32))
    first | have f17 := i_mul01 (x := ((m 94 61) + (1 : Int32))) (y := (m 94 13)) (by omega) (by omega) (by omega) (by omega) | have b18 := i_bd (((m 94 61) + (1 : Int32)) * (m 94 13))
    first | have e19 : ((m 94 14) + (((m 94 61) + (1 : Int32)) * (m 94 13))).toInt = (m 94 14).toInt + (((m 94 61) + (1 : Int32)) * (m 94 13)).toInt := i_add (by omega) (by omega) | have b20 := i_bd ((m 94 14) + (((m 94 61) + (1 : Int32)) * (m 94 13)))
    refine zd (fun (h21 : ((m 94 59) + nw) ≤ ((m 94 14) + (((m 94 61) + (1 : Int32)) * (m 94 13)))) => ?_) (fun (h21 : ¬ ((m 94 59) + nw) ≤ ((m 94 14) + (((m 94 61) + (1 : Int32)) * (m 94 13)))) => ?_)
    · skip
      have g22 := i_le h21
      have li23 : (0 : Int32).toInt = 0 := rfl
      refine zd (fun (h24 : (m 94 59) < (0 : Int32)) => ?_) (fun (h24 : ¬ (m 94 59) < (0 : Int32)) => ?_)
      · skip
        have g25 := i_lt h24
        have hV26 : zV (ma_u m 94 59 ((m 94 59) + nw)) := us_94_59 hV (by omega) (by omega)
        refine sp_214  hV26 r_W r_GW r_GU r_OW r_DX (show zHA (m 94 10) (m 94 11) (m 94 13) (m 94 14) (m 94 16) (m 94 61) ((m 94 59) + nw) (m 94 60) (m 99) (m 102) (m 103) (m 111) (m 117) (m 98) (m 101) (m 108) from by first | (exact HA_up3 r_HA (by omega) (by omega) (by omega) (by omega) (by omega) (by omega) (by omega)) | (exact HA_ot r_HA (by omega) (by omega) (by omega)) | (exfalso; omega; done) | (exfalso; contradiction; done)) (show (m 94 10).toInt = 3 from by omega) (fun v2 m1 hV_m1 p0_m1 p1_m1 p2_m1 p3_m1 p4_m1 => zmi_n ?_)
        have p0_m1 : zGW T (m1 94 55) (m1 109) := p0_m1
        have p1_m1 : zGU T (m 94 46) (m1 99) := p1_m1
        have p2_m1 : zOw (m1 99) (m1 103) (m1 111) := p2_m1
        have p3_m1 : zDX (m 94 10) (m1 99) (m 112) (m1 113) (m1 114) (m1 94 55) (m 98) (m 101) (m 102) (m 108) := p3_m1
        have p4_m1 : zHA (m 94 10) (m 94 11) (m 94 13) (m 94 14) (m 94 16) (m1 94 61) (m1 94 59) (m1 94 60) (m1 99) (m 102) (m1 103) (m1 111) (m1 117) (m 98) (m 101) (m 108) := p4_m1
        have f27 : 0 ≤ (m1 94 59).toInt ∧ (m1 94 59).toInt ≤ 4600 := rs_94_59 (m := (zov wr_214 (ma_u m 94 59 ((m 94 59) + nw)) m1)) hV_m1
        first | have e28 : ((m1 94 59) + nw).toInt = (m1 94 59).toInt + nw.toInt := i_add (by omega) (by omega) | have b29 := i_bd ((m1 94 59) + nw)
        have f30 : 0 ≤ (m1 94 61).toInt ∧ (m1 94 61).toInt ≤ 1 := rs_94_61 (m := (zov wr_214 (ma_u m 94 59 ((m 94 59) + nw)) m1)) hV_m1
        first | have e31 : ((m1 94 61) + (1 : Int32)).toInt = (m1 94 61).toInt + (1) := i_addk rfl (by omega) (by omega) | have b32 := i_bd ((m1 94 61) + (1 : Int32))
        first | have f33 := i_mul01 (x := ((m1 94 61) + (1 : Int32))) (y := (m 94 13)) (by omega) (by omega) (by omega) (by omega) | have b34 := i_bd (((m1 94 61) + (1 : Int32)) * (m 94 13))
        first | have e35 : ((m 94 14) + (((m1 94 61) + (1 : Int32)) * (m 94 13))).toInt = (m 94 14).toInt + (((m1 94 61) + (1 : Int32)) * (m 94 13)).toInt := i_add (by omega) (by omega) | have b36 := i_bd ((m 94 14) + (((m1 94 61) + (1 : Int32)) * (m 94 13)))
        refine zd (fun (h37 : ((m1 94 59) + nw) ≤ ((m 94 14) + (((m1 94 61) + (1 : Int32)) * (m 94 13)))) => ?_) (fun (h37 : ¬ ((m1 94 59) + nw) ≤ ((m 94 14) + (((m1 94 61) + (1 : Int32)) * (m 94 13)))) => ?_)
        · skip
          have g38 := i_le h37
          refine zd (fun (h39 : (m1 94 59) < (0 : Int32)) => ?_) (fun (h39 : ¬ (m1 94 59) < (0 : Int32)) => ?_)
          · skip
            have g40 := i_lt h39
            have hV41 : zV (ma_u (zov wr_214 (ma_u m 94 59 ((m 94 59) + nw)) m1) 94 59 ((m1 94 59) + nw)) := us_94_59 hV_m1 (by omega) (by omega)
            refine sp_211  hV41 r_W p0_m1 p1_m1 p2_m1 p3_m1 (show zHA (m 94 10) (m 94 11) (m 94 13) (m 94 14) (m 94 16) (m1 94 61) ((m1 94 59) + nw) (m1 94 60) (m1 99) (m 102) (m1 103) (m1 111) (m1 117) (m 98) (m 101) (m 108) from by first | (exact HA_up3 p4_m1 (by omega) (by omega) (by omega) (by omega) (by omega) (by omega) (by omega)) | (exact HA_ot p4_m1 (by omega) (by omega) (by omega)) | (exfalso; omega; done) | (exfalso; contradiction; done)) (show (m 94 10).toInt = 3 from by omega) (fun v4 m3 hV_m3 p0_m3 p1_m3 p2_m3 p3_m3 p4_m3 => zmi_n ?_)
            have p0_m3 : zGW T (m3 94 55) (m3 109) := p0_m3
            have p1_m3 : zGU T (m 94 46) (m3 99) := p1_m3
            have p2_m3 : zOw (m3 99) (m3 103) (m3 111) := p2_m3
            have p3_m3 : zDX (m 94 10) (m3 99) (m 112) (m3 113) (m3 114) (m3 94 55) (m 98) (m 101) (m 102) (m 108) := p3_m3
            have p4_m3 : zHA (m 94 10) (m 94 11) (m 94 13) (m 94 14) (m 94 16) (m1 94 61) ((m1 94 59) + nw) (m3 94 60) (m3 99) (m 102) (m3 103) (m3 111) (m3 117) (m 98) (m 101) (m 108) := p4_m3
            refine sp_214  hV_m3 r_W p0_m3 p1_m3 p2_m3 p3_m3 p4_m3 (show (m 94 10).toInt = 3 from by omega) (fun v6 m5 hV_m5 p0_m5 p1_m5 p2_m5 p3_m5 p4_m5 => zmi_n ?_)
            have p0_m5 : zGW T (m5 94 55) (m5 109) := p0_m5
            have p1_m5 : zGU T (m 94 46) (m5 99) := p1_m5
            have p2_m5 : zOw (m5 99) (m5 103) (m5 111) := p2_m5
            have p3_m5 : zDX (m 94 10) (m5 99) (m 112) (m5 113) (m5 114) (m5 94 55) (m 98) (m 101) (m 102) (m 108) := p3_m5
            have p4_m5 : zHA (m 94 10) (m 94 11) (m 94 13) (m 94 14) (m 94 16) (m5 94 61) (m5 94 59) (m5 94 60) (m5 99) (m 102) (m5 103) (m5 111) (m5 117) (m 98) (m 101) (m 108) := p4_m5
            have f42 : 0 ≤ (m5 94 59).toInt ∧ (m5 94 59).toInt ≤ 4600 := rs_94_59 (m := (zov wr_214 (zov wr_211 (ma_u (zov wr_214 (ma_u m 94 59 ((m 94 59) + nw)) m1) 94 59 ((m1 94 59) + nw)) m3) m5)) hV_m5
            first | have e43 : ((m5 94 59) + nw).toInt = (m5 94 59).toInt + nw.toInt := i_add (by omega) (by omega) | have b44 := i_bd ((m5 94 59) + nw)
            have f45 : 0 ≤ (m5 94 61).toInt ∧ (m5 94 61).toInt ≤ 1 := rs_94_61 (m := (zov wr_214 (zov wr_211 (ma_u (zov wr_214 (ma_u m 94 59 ((m 94 59) + nw)) m1) 94 59 ((m1 94 59) + nw)) m3) m5)) hV_m5
            first | have e46 : ((m5 94 61) + (1 : Int32)).toInt = (m5 94 61).toInt + (1) := i_addk rfl (by omega) (by omega) | have b47 := i_bd ((m5 94 61) + (1 : Int32))
            first | have f48 := i_mul01 (x := ((m5 94 61) + (1 : Int32))) (y := (m 94 13)) (by omega) (by omega) (by omega) (by omega) | have b49 := i_bd (((m5 94 61) + (1 : Int32)) * (m 94 13))
            first | have e50 : ((m 94 14) + (((m5 94 61) + (1 : Int32)) * (m 94 13))).toInt = (m 94 14).toInt + (((m5 94 61) + (1 : Int32)) * (m 94 13)).toInt := i_add (by omega) (by omega) | have b51 := i_bd ((m 94 14) + (((m5 94 61) + (1 : Int32)) * (m 94 13)))
            refine zd (fun (h52 : ((m5 94 59) + nw) ≤ ((m 94 14) + (((m5 94 61) + (1 : Int32)) * (m 94 13)))) => ?_) (fun (h52 : ¬ ((m5 94 59) + nw) ≤ ((m 94 14) + (((m5 94 61) + (1 : Int32)) * (m 94 13)))) => ?_)
            · skip
              have g53 := i_le h52
              have hV54 : zV (ma_u (zov wr_214 (zov wr_211 (ma_u (zov wr_214 (ma_u m 94 59 ((m 94 59) + nw)) m1) 94 59 ((m1 94 59) + nw)) m3) m5) 94 59 ((m5 94 59) + nw)) := us_94_59 hV_m5 (by omega) (by omega)
              exact K ((m5 94 59)) _ (zF_u (zF_zov (zF_zov (zF_u (zF_zov (zF_u zF_rfl rfl) ws_214_210) rfl) ws_211_210) ws_214_210) rfl) hV54 p0_m5 p1_m5 p2_m5 p3_m5 (show zHA (m 94 10) (m 94 11) (m 94 13) (m 94 14) (m 94 16) (m5 94 61) ((m5 94 59) + nw) (m5 94 60) (m5 99) (m 102) (m5 103) (m5 111) (m5 117) (m 98) (m 101) (m 108) from by first | (exact HA_up3 p4_m5 (by omega) (by omega) (by omega) (by omega) (by omega) (by omega) (by omega)) | (exact HA_ot p4_m5 (by omega) (by omega) (by omega)) | (exfalso; omega; done) | (exfalso; contradiction; done)) (show zPL (m 94 10) (m 94 11) (m 94 13) (m 94 14) (m5 94 61) ((m5 94 59) + nw) (m5 94 60) (m 94 18) (m 94 64) (m5 99) (m 102) (m5 103) (m5 111) (m5 94 59) nw from by first | (exact PL_3y p4_m5 (by omega) (by omega) (by omega) (by omega) rfl (by omega)) | (exact PL_no (by decide)) | (exact PL_3o p4_m5 (by omega) (by omega) (by omega) rfl (by omega)) | (exfalso; omega; done) | (exfalso; contradiction; done))
            · skip
              have g55 := i_nle h52
              have li56 : (-1 : Int32).toInt = -1 := rfl
              exact K ((-1 : Int32)) _ (zF_zov (zF_zov (zF_u (zF_zov (zF_u zF_rfl rfl) ws_214_210) rfl) ws_211_210) ws_214_210) hV_m5 p0_m5 p1_m5 p2_m5 p3_m5 p4_m5 (show zPL (m 94 10) (m 94 11) (m 94 13) (m 94 14) (m5 94 61) (m5 94 59) (m5 94 60) (m 94 18) (m 94 64) (m5 99) (m 102) (m5 103) (m5 111) (-1 : Int32) nw from by first | (exact PL_no (by decide)) | (exact PL_3o p4_m5 (by omega) (by omega) (by omega) rfl (by omega)) | (exact PL_3y p4_m5 (by omega) (by omega) (by omega) (by omega) rfl (by omega)) | (exfalso; omega; done) | (exfalso; contradiction; done))
          · skip
            have g57 := i_nlt h39
            have hV58 : zV (ma_u (zov wr_214 (ma_u m 94 59 ((m 94 59) + nw)) m1) 94 59 ((m1 94 59) + nw)) := us_94_59 hV_m1 (by omega) (by omega)
            exact K ((m1 94 59)) _ (zF_u (zF_zov (zF_u zF_rfl rfl) ws_214_210) rfl) hV58 p0_m1 p1_m1 p2_m1 p3_m1 (show zHA (m 94 10) (m 94 11) (m 94 13) (m 94 14) (m 94 16) (m1 94 61) ((m1 94 59) + nw) (m1 94 60) (m1 99) (m 102) (m1 103) (m1 111) (m1 117) (m 98) (m 101) (m 108) from by first | (exact HA_up3 p4_m1 (by omega) (by omega) (by omega) (by omega) (by omega) (by omega) (by omega)) | (exact HA_ot p4_m1 (by omega) (by omega) (by omega)) | (exfalso; omega; done) | (exfalso; contradiction; done)) (show zPL (m 94 10) (m 94 11) (m 94 13) (m 94 14) (m1 94 61) ((m1 94 59) + nw) (m1 94 60) (m 94 18) (m 94 64) (m1 99) (m 102) (m1 103) (m1 111) (m1 94 59) nw from by first | (exact PL_3y p4_m1 (by omega) (by omega) (by omega) (by omega) rfl (by omega)) | (exact PL_no (by decide)) | (exact PL_3o p4_m1 (by omega) (by omega) (by omega) rfl (by omega)) | (exfalso; omega; done) | (exfalso; contradiction; done))
        · skip
          have g59 := i_nle h37
          refine sp_211  hV_m1 r_W p0_m1 p1_m1 p2_m1 p3_m1 p4_m1 (show (m 94 10).toInt = 3 from by omega) (fun v8 m7 hV_m7 p0_m7 p1_m7 p2_m7 p3_m7 p4_m7 => zmi_n ?_)
          have p0_m7 : zGW T (m7 94 55) (m7 109) := p0_m7
          have p1_m7 : zGU T (m 94 46) (m7 99) := p1_m7
          have p2_m7 : zOw (m7 99) (m7 103) (m7 111) := p2_m7
          have p3_m7 : zDX (m 94 10) (m7 99) (m 112) (m7 113) (m7 114) (m7 94 55) (m 98) (m 101) (m 102) (m 108) := p3_m7
          have p4_m7 : zHA (m 94 10) (m 94 11) (m 94 13) (m 94 14) (m 94 16) (m1 94 61) (m1 94 59) (m7 94 60) (m7 99) (m 102) (m7 103) (m7 111) (m7 117) (m 98) (m 101) (m 108) := p4_m7
          refine sp_214  hV_m7 r_W p0_m7 p1_m7 p2_m7 p3_m7 p4_m7 (show (m 94 10).toInt = 3 from by omega) (fun v10 m9 hV_m9 p0_m9 p1_m9 p2_m9 p3_m9 p4_m9 => zmi_n ?_)
          have p0_m9 : zGW T (m9 94 55) (m9 109) := p0_m9
          have p1_m9 : zGU T (m 94 46) (m9 99) := p1_m9
          have p2_m9 : zOw (m9 99) (m9 103) (m9 111) := p2_m9
          have p3_m9 : zDX (m 94 10) (m9 99) (m 112) (m9 113) (m9 114) (m9 94 55) (m 98) (m 101) (m 102) (m 108) := p3_m9
          have p4_m9 : zHA (m 94 10) (m 94 11) (m 94 13) (m 94 14) (m 94 16) (m9 94 61) (m9 94 59) (m9 94 60) (m9 99) (m 102) (m9 103) (m9 111) (m9 117) (m 98) (m 101) (m 108) := p4_m9
          have f60 : 0 ≤ (m9 94 59).toInt ∧ (m9 94 59).toInt ≤ 4600 := rs_94_59 (m := (zov wr_214 (zov wr_211 (zov wr_214 (ma_u m 94 59 ((m 94 59) + nw)) m1) m7) m9)) hV_m9
          first | have e61 : ((m9 94 59) + nw).toInt = (m9 94 59).toInt + nw.toInt := i_add (by omega) (by omega) | have b62 := i_bd ((m9 94 59) + nw)
          have f63 : 0 ≤ (m9 94 61).toInt ∧ (m9 94 61).toInt ≤ 1 := rs_94_61 (m := (zov wr_214 (zov wr_211 (zov wr_214 (ma_u m 94 59 ((m 94 59) + nw)) m1) m7) m9)) hV_m9
          first | have e64 : ((m9 94 61) + (1 : Int32)).toInt = (m9 94 61).toInt + (1) := i_addk rfl (by omega) (by omega) | have b65 := i_bd ((m9 94 61) + (1 : Int32))
          first | have f66 := i_mul01 (x := ((m9 94 61) + (1 : Int32))) (y := (m 94 13)) (by omega) (by omega) (by omega) (by omega) | have b67 := i_bd (((m9 94 61) + (1 : Int32)) * (m 94 13))
          first | have e68 : ((m 94 14) + (((m9 94 61) + (1 : Int32)) * (m 94 13))).toInt = (m 94 14).toInt + (((m9 94 61) + (1 : Int32)) * (m 94 13)).toInt := i_add (by omega) (by omega) | have b69 := i_bd ((m 94 14) + (((m9 94 61) + (1 : Int32)) * (m 94 13)))
          refine zd (fun (h70 : ((m9 94 59) + nw) ≤ ((m 94 14) + (((m9 94 61) + (1 : Int32)) * (m 94 13)))) => ?_) (fun (h70 : ¬ ((m9 94 59) + nw) ≤ ((m 94 14) + (((m9 94 61) + (1 : Int32)) * (m 94 13)))) => ?_)
          · skip
            have g71 := i_le h70
            have hV72 : zV (ma_u (zov wr_214 (zov wr_211 (zov wr_214 (ma_u m 94 59 ((m 94 59) + nw)) m1) m7) m9) 94 59 ((m9 94 59) + nw)) := us_94_59 hV_m9 (by omega) (by omega)
            exact K ((m9 94 59)) _ (zF_u (zF_zov (zF_zov (zF_zov (zF_u zF_rfl rfl) ws_214_210) ws_211_210) ws_214_210) rfl) hV72 p0_m9 p1_m9 p2_m9 p3_m9 (show zHA (m 94 10) (m 94 11) (m 94 13) (m 94 14) (m 94 16) (m9 94 61) ((m9 94 59) + nw) (m9 94 60) (m9 99) (m 102) (m9 103) (m9 111) (m9 117) (m 98) (m 101) (m 108) from by first | (exact HA_up3 p4_m9 (by omega) (by omega) (by omega) (by omega) (by omega) (by omega) (by omega)) | (exact HA_ot p4_m9 (by omega) (by omega) (by omega)) | (exfalso; omega; done) | (exfalso; contradiction; done)) (show zPL (m 94 10) (m 94 11) (m 94 13) (m 94 14) (m9 94 61) ((m9 94 59) + nw) (m9 94 60) (m 94 18) (m 94 64) (m9 99) (m 102) (m9 103) (m9 111) (m9 94 59) nw from by first | (exact PL_3y p4_m9 (by omega) (by omega) (by omega) (by omega) rfl (by omega)) | (exact PL_no (by decide)) | (exact PL_3o p4_m9 (by omega) (by omega) (by omega) rfl (by omega)) | (exfalso; omega; done) | (exfalso; contradiction; done))
          · skip
            have g73 := i_nle h70
            have li74 : (-1 : Int32).toInt = -1 := rfl
            exact K ((-1 : Int32)) _ (zF_zov (zF_zov (zF_zov (zF_u zF_rfl rfl) ws_214_210) ws_211_210) ws_214_210) hV_m9 p0_m9 p1_m9 p2_m9 p3_m9 p4_m9 (show zPL (m 94 10) (m 94 11) (m 94 13) (m 94 14) (m9 94 61) (m9 94 59) (m9 94 60) (m 94 18) (m 94 64) (m9 99) (m 102) (m9 103) (m9 111) (-1 : Int32) nw from by first | (exact PL_no (by decide)) | (exact PL_3o p4_m9 (by omega) (by omega) (by omega) rfl (by omega)) | (exact PL_3y p4_m9 (by omega) (by omega) (by omega) (by omega) rfl (by omega)) | (exfalso; omega; done) | (exfalso; contradiction; done))
      · skip
        have g75 := i_nlt h24
        have hV76 : zV (ma_u m 94 59 ((m 94 59) + nw)) := us_94_59 hV (by omega) (by omega)
        exact K ((m 94 59)) _ (zF_u zF_rfl rfl) hV76 r_GW r_GU r_OW r_DX (show zHA (m 94 10) (m 94 11) (m 94 13) (m 94 14) (m 94 16) (m 94 61) ((m 94 59) + nw) (m 94 60) (m 99) (m 102) (m 103) (m 111) (m 117) (m 98) (m 101) (m 108) from by first | (exact HA_up3 r_HA (by omega) (by omega) (by omega) (by omega) (by omega) (by omega) (by omega)) | (exact HA_ot r_HA (by omega) (by omega) (by omega)) | (exfalso; omega; done) | (exfalso; contradiction; done)) (show zPL (m 94 10) (m 94 11) (m 94 13) (m 94 14) (m 94 61) ((m 94 59) + nw) (m 94 60) (m 94 18) (m 94 64) (m 99) (m 102) (m 103) (m 111) (m 94 59) nw from by first | (exact PL_3y r_HA (by omega) (by omega) (by omega) (by omega) rfl (by omega)) | (exact PL_no (by decide)) | (exact PL_3o r_HA (by omega) (by omega) (by omega) rfl (by omega)) | (exfalso; omega; done) | (exfalso; contradiction; done))
    · skip
      have g77 := i_nle h21
      refine sp_214  hV r_W r_GW r_GU r_OW r_DX r_HA (show (m 94 10).toInt = 3 from by omega) (fun v12 m11 hV_m11 p0_m11 p1_m11 p2_m11 p3_m11 p4_m11 => zmi_n ?_)
      have p0_m11 : zGW T (m11 94 55) (m11 109) := p0_m11
      have p1_m11 : zGU T (m 94 46) (m11 99) := p1_m11
      have p2_m11 : zOw (m11 99) (m11 103) (m11 111) := p2_m11
      have p3_m11 : zDX (m 94 10) (m11 99) (m 112) (m11 113) (m11 114) (m11 94 55) (m 98) (m 101) (m 102) (m 108) := p3_m11
      have p4_m11 : zHA (m 94 10) (m 94 11) (m 94 13) (m 94 14) (m 94 16) (m11 94 61) (m11 94 59) (m11 94 60) (m11 99) (m 102) (m11 103) (m11 111) (m11 117) (m 98) (m 101) (m 108) := p4_m11
      have f78 : 0 ≤ (m11 94 59).toInt ∧ (m11 94 59).toInt ≤ 4600 := rs_94_59 (m := (zov wr_214 m m11)) hV_m11
      first | have e79 : ((m11 94 59) + nw).toInt = (m11 94 59).toInt + nw.toInt := i_add (by omega) (by omega) | have b80 := i_bd ((m11 94 59) + nw)
      have f81 : 0 ≤ (m11 94 61).toInt ∧ (m11 94 61).toInt ≤ 1 := rs_94_61 (m := (zov wr_214 m m11)) hV_m11
      first | have e82 : ((m11 94 61) + (1 : Int32)).toInt = (m11 94 61).toInt + (1) := i_addk rfl (by omega) (by omega) | have b83 := i_bd ((m11 94 61) + (1 : Int32))
      first | have f84 := i_mul01 (x := ((m11 94 61) + (1 : Int32))) (y := (m 94 13)) (by omega) (by omega) (by omega) (by omega) | have b85 := i_bd (((m11 94 61) + (1 : Int32)) * (m 94 13))
      first | have e86 : ((m 94 14) + (((m11 94 61) + (1 : Int32)) * (m 94 13))).toInt = (m 94 14).toInt + (((m11 94 61) + (1 : Int32)) * (m 94 13)).toInt := i_add (by omega) (by omega) | have b87 := i_bd ((m 94 14) + (((m11 94 61) + (1 : Int32)) * (m 94 13)))
      refine zd (fun (h88 : ((m11 94 59) + nw) ≤ ((m 94 14) + (((m11 94 61) + (1 : Int32)) * (m 94 13)))) => ?_) (fun (h88 : ¬ ((m11 94 59) + nw) ≤ ((m 94 14) + (((m11 94 61) + (1 : Int32)) * (m 94 13)))) => ?_)
      · skip
        have g89 := i_le h88
        have li90 : (0 : Int32).toInt = 0 := rfl
        refine zd (fun (h91 : (m11 94 59) < (0 : Int32)) => ?_) (fun (h91 : ¬ (m11 94 59) < (0 : Int32)) => ?_)
        · skip
          have g92 := i_lt h91
          have hV93 : zV (ma_u (zov wr_214 m m11) 94 59 ((m11 94 59) + nw)) := us_94_59 hV_m11 (by omega) (by omega)
          refine sp_211  hV93 r_W p0_m11 p1_m11 p2_m11 p3_m11 (show zHA (m 94 10) (m 94 11) (m 94 13) (m 94 14) (m 94 16) (m11 94 61) ((m11 94 59) + nw) (m11 94 60) (m11 99) (m 102) (m11 103) (m11 111) (m11 117) (m 98) (m 101) (m 108) from by first | (exact HA_up3 p4_m11 (by omega) (by omega) (by omega) (by omega) (by omega) (by omega) (by omega)) | (exact HA_ot p4_m11 (by omega) (by omega) (by omega)) | (exfalso; omega; done) | (exfalso; contradiction; done)) (show (m 94 10).toInt = 3 from by omega) (fun v14 m13 hV_m13 p0_m13 p1_m13 p2_m13 p3_m13 p4_m13 => zmi_n ?_)
          have p0_m13 : zGW T (m13 94 55) (m13 109) := p0_m13
          have p1_m13 : zGU T (m 94 46) (m13 99) := p1_m13
          have p2_m13 : zOw (m13 99) (m13 103) (m13 111) := p2_m13
          have p3_m13 : zDX (m 94 10) (m13 99) (m 112) (m13 113) (m13 114) (m13 94 55) (m 98) (m 101) (m 102) (m 108) := p3_m13
          have p4_m13 : zHA (m 94 10) (m 94 11) (m 94 13) (m 94 14) (m 94 16) (m11 94 61) ((m11 94 59) + nw) (m13 94 60) (m13 99) (m 102) (m13 103) (m13 111) (m13 117) (m 98) (m 101) (m 108) := p4_m13
          refine sp_214  hV_m13 r_W p0_m13 p1_m13 p2_m13 p3_m13 p4_m13 (show (m 94 10).toInt = 3 from by omega) (fun v16 m15 hV_m15 p0_m15 p1_m15 p2_m15 p3_m15 p4_m15 => zmi_n ?_)
          have p0_m15 : zGW T (m15 94 55) (m15 109) := p0_m15
          have p1_m15 : zGU T (m 94 46) (m15 99) := p1_m15
          have p2_m15 : zOw (m15 99) (m15 103) (m15 111) := p2_m15
          have p3_m15 : zDX (m 94 10) (m15 99) (m 112) (m15 113) (m15 114) (m15 94 55) (m 98) (m 101) (m 102) (m 108) := p3_m15
          have p4_m15 : zHA (m 94 10) (m 94 11) (m 94 13) (m 94 14) (m 94 16) (m15 94 61) (m15 94 59) (m15 94 60) (m15 99) (m 102) (m15 103) (m15 111) (m15 117) (m 98) (m 101) (m 108) := p4_m15
          have f94 : 0 ≤ (m15 94 59).toInt ∧ (m15 94 59).toInt ≤ 4600 := rs_94_59 (m := (zov wr_214 (zov wr_211 (ma_u (zov wr_214 m m11) 94 59 ((m11 94 59) + nw)) m13) m15)) hV_m15
          first | have e95 : ((m15 94 59) + nw).toInt = (m15 94 59).toInt + nw.toInt := i_add (by omega) (by omega) | have b96 := i_bd ((m15 94 59) + nw)
          have f97 : 0 ≤ (m15 94 61).toInt ∧ (m15 94 61).toInt ≤ 1 := rs_94_61 (m := (zov wr_214 (zov wr_211 (ma_u (zov wr_214 m m11) 94 59 ((m11 94 59) + nw)) m13) m15)) hV_m15
          first | have e98 : ((m15 94 61) + (1 : Int32)).toInt = (m15 94 61).toInt + (1) := i_addk rfl (by omega) (by omega) | have b99 := i_bd ((m15 94 61) + (1 : Int32))
          first | have f100 := i_mul01 (x := ((m15 94 61) + (1 : Int32))) (y := (m 94 13)) (by omega) (by omega) (by omega) (by omega) | have b101 := i_bd (((m15 94 61) + (1 : Int32)) * (m 94 13))
          first | have e102 : ((m 94 14) + (((m15 94 61) + (1 : Int32)) * (m 94 13))).toInt = (m 94 14).toInt + (((m15 94 61) + (1 : Int32)) * (m 94 13)).toInt := i_add (by omega) (by omega) | have b103 := i_bd ((m 94 14) + (((m15 94 61) + (1 : Int32)) * (m 94 13)))
          refine zd (fun (h104 : ((m15 94 59) + nw) ≤ ((m 94 14) + (((m15 94 61) + (1 : Int32)) * (m 94 13)))) => ?_) (fun (h104 : ¬ ((m15 94 59) + nw) ≤ ((m 94 14) + (((m15 94 61) + (1 : Int32)) * (m 94 13)))) => ?_)
          · skip
            have g105 := i_le h104
            have hV106 : zV (ma_u (zov wr_214 (zov wr_211 (ma_u (zov wr_214 m m11) 94 59 ((m11 94 59) + nw)) m13) m15) 94 59 ((m15 94 59) + nw)) := us_94_59 hV_m15 (by omega) (by omega)
            exact K ((m15 94 59)) _ (zF_u (zF_zov (zF_zov (zF_u (zF_zov zF_rfl ws_214_210) rfl) ws_211_210) ws_214_210) rfl) hV106 p0_m15 p1_m15 p2_m15 p3_m15 (show zHA (m 94 10) (m 94 11) (m 94 13) (m 94 14) (m 94 16) (m15 94 61) ((m15 94 59) + nw) (m15 94 60) (m15 99) (m 102) (m15 103) (m15 111) (m15 117) (m 98) (m 101) (m 108) from by first | (exact HA_up3 p4_m15 (by omega) (by omega) (by omega) (by omega) (by omega) (by omega) (by omega)) | (exact HA_ot p4_m15 (by omega) (by omega) (by omega)) | (exfalso; omega; done) | (exfalso; contradiction; done)) (show zPL (m 94 10) (m 94 11) (m 94 13) (m 94 14) (m15 94 61) ((m15 94 59) + nw) (m15 94 60) (m 94 18) (m 94 64) (m15 99) (m 102) (m15 103) (m15 111) (m15 94 59) nw from by first | (exact PL_3y p4_m15 (by omega) (by omega) (by omega) (by omega) rfl (by omega)) | (exact PL_no (by decide)) | (exact PL_3o p4_m15 (by omega) (by omega) (by omega) rfl (by omega)) | (exfalso; omega; done) | (exfalso; contradiction; done))
          · skip
            have g107 := i_nle h104
            have li108 : (-1 : Int32).toInt = -1 := rfl
            exact K ((-1 : Int32)) _ (zF_zov (zF_zov (zF_u (zF_zov zF_rfl ws_214_210) rfl) ws_211_210) ws_214_210) hV_m15 p0_m15 p1_m15 p2_m15 p3_m15 p4_m15 (show zPL (m 94 10) (m 94 11) (m 94 13) (m 94 14) (m15 94 61) (m15 94 59) (m15 94 60) (m 94 18) (m 94 64) (m15 99) (m 102) (m15 103) (m15 111) (-1 : Int32) nw from by first | (exact PL_no (by decide)) | (exact PL_3o p4_m15 (by omega) (by omega) (by omega) rfl (by omega)) | (exact PL_3y p4_m15 (by omega) (by omega) (by omega) (by omega) rfl (by omega)) | (exfalso; omega; done) | (exfalso; contradiction; done))
        · skip
          have g109 := i_nlt h91
          have hV110 : zV (ma_u (zov wr_214 m m11) 94 59 ((m11 94 59) + nw)) := us_94_59 hV_m11 (by omega) (by omega)
          exact K ((m11 94 59)) _ (zF_u (zF_zov zF_rfl ws_214_210) rfl) hV110 p0_m11 p1_m11 p2_m11 p3_m11 (show zHA (m 94 10) (m 94 11) (m 94 13) (m 94 14) (m 94 16) (m11 94 61) ((m11 94 59) + nw) (m11 94 60) (m11 99) (m 102) (m11 103) (m11 111) (m11 117) (m 98) (m 101) (m 108) from by first | (exact HA_up3 p4_m11 (by omega) (by omega) (by omega) (by omega) (by omega) (by omega) (by omega)) | (exact HA_ot p4_m11 (by omega) (by omega) (by omega)) | (exfalso; omega; done) | (exfalso; contradiction; done)) (show zPL (m 94 10) (m 94 11) (m 94 13) (m 94 14) (m11 94 61) ((m11 94 59) + nw) (m11 94 60) (m 94 18) (m 94 64) (m11 99) (m 102) (m11 103) (m11 111) (m11 94 59) nw from by first | (exact PL_3y p4_m11 (by omega) (by omega) (by omega) (by omega) rfl (by omega)) | (exact PL_no (by decide)) | (exact PL_3o p4_m11 (by omega) (by omega) (by omega) rfl (by omega)) | (exfalso; omega; done) | (exfalso; contradiction; done))
      · skip
        have g111 := i_nle h88
        refine sp_211  hV_m11 r_W p0_m11 p1_m11 p2_m11 p3_m11 p4_m11 (show (m 94 10).toInt = 3 from by omega) (fun v18 m17 hV_m17 p0_m17 p1_m17 p2_m17 p3_m17 p4_m17 => zmi_n ?_)
        have p0_m17 : zGW T (m17 94 55) (m17 109) := p0_m17
        have p1_m17 : zGU T (m 94 46) (m17 99) := p1_m17
        have p2_m17 : zOw (m17 99) (m17 103) (m17 111) := p2_m17
        have p3_m17 : zDX (m 94 10) (m17 99) (m 112) (m17 113) (m17 114) (m17 94 55) (m 98) (m 101) (m 102) (m 108) := p3_m17
        have p4_m17 : zHA (m 94 10) (m 94 11) (m 94 13) (m 94 14) (m 94 16) (m11 94 61) (m11 94 59) (m17 94 60) (m17 99) (m 102) (m17 103) (m17 111) (m17 117) (m 98) (m 101) (m 108) := p4_m17
        refine sp_214  hV_m17 r_W p0_m17 p1_m17 p2_m17 p3_m17 p4_m17 (show (m 94 10).toInt = 3 from by omega) (fun v20 m19 hV_m19 p0_m19 p1_m19 p2_m19 p3_m19 p4_m19 => zmi_n ?_)
        have p0_m19 : zGW T (m19 94 55) (m19 109) := p0_m19
        have p1_m19 : zGU T (m 94 46) (m19 99) := p1_m19
        have p2_m19 : zOw (m19 99) (m19 103) (m19 111) := p2_m19
        have p3_m19 : zDX (m 94 10) (m19 99) (m 112) (m19 113) (m19 114) (m19 94 55) (m 98) (m 101) (m 102) (m 108) := p3_m19
        have p4_m19 : zHA (m 94 10) (m 94 11) (m 94 13) (m 94 14) (m 94 16) (m19 94 61) (m19 94 59) (m19 94 60) (m19 99) (m 102) (m19 103) (m19 111) (m19 117) (m 98) (m 101) (m 108) := p4_m19
        have f112 : 0 ≤ (m19 94 59).toInt ∧ (m19 94 59).toInt ≤ 4600 := rs_94_59 (m := (zov wr_214 (zov wr_211 (zov wr_214 m m11) m17) m19)) hV_m19
        first | have e113 : ((m19 94 59) + nw).toInt = (m19 94 59).toInt + nw.toInt := i_add (by omega) (by omega) | have b114 := i_bd ((m19 94 59) + nw)
        have f115 : 0 ≤ (m19 94 61).toInt ∧ (m19 94 61).toInt ≤ 1 := rs_94_61 (m := (zov wr_214 (zov wr_211 (zov wr_214 m m11) m17) m19)) hV_m19
        first | have e116 : ((m19 94 61) + (1 : Int32)).toInt = (m19 94 61).toInt + (1) := i_addk rfl (by omega) (by omega) | have b117 := i_bd ((m19 94 61) + (1 : Int32))
        first | have f118 := i_mul01 (x := ((m19 94 61) + (1 : Int32))) (y := (m 94 13)) (by omega) (by omega) (by omega) (by omega) | have b119 := i_bd (((m19 94 61) + (1 : Int32)) * (m 94 13))
        first | have e120 : ((m 94 14) + (((m19 94 61) + (1 : Int32)) * (m 94 13))).toInt = (m 94 14).toInt + (((m19 94 61) + (1 : Int32)) * (m 94 13)).toInt := i_add (by omega) (by omega) | have b121 := i_bd ((m 94 14) + (((m19 94 61) + (1 : Int32)) * (m 94 13)))
        refine zd (fun (h122 : ((m19 94 59) + nw) ≤ ((m 94 14) + (((m19 94 61) + (1 : Int32)) * (m 94 13)))) => ?_) (fun (h122 : ¬ ((m19 94 59) + nw) ≤ ((m 94 14) + (((m19 94 61) + (1 : Int32)) * (m 94 13)))) => ?_)
        · skip
          have g123 := i_le h122
          have hV124 : zV (ma_u (zov wr_214 (zov wr_211 (zov wr_214 m m11) m17) m19) 94 59 ((m19 94 59) + nw)) := us_94_59 hV_m19 (by omega) (by omega)
          exact K ((m19 94 59)) _ (zF_u (zF_zov (zF_zov (zF_zov zF_rfl ws_214_210) ws_211_210) ws_214_210) rfl) hV124 p0_m19 p1_m19 p2_m19 p3_m19 (show zHA (m 94 10) (m 94 11) (m 94 13) (m 94 14) (m 94 16) (m19 94 61) ((m19 94 59) + nw) (m19 94 60) (m19 99) (m 102) (m19 103) (m19 111) (m19 117) (m 98) (m 101) (m 108) from by first | (exact HA_up3 p4_m19 (by omega) (by omega) (by omega) (by omega) (by omega) (by omega) (by omega)) | (exact HA_ot p4_m19 (by omega) (by omega) (by omega)) | (exfalso; omega; done) | (exfalso; contradiction; done)) (show zPL (m 94 10) (m 94 11) (m 94 13) (m 94 14) (m19 94 61) ((m19 94 59) + nw) (m19 94 60) (m 94 18) (m 94 64) (m19 99) (m 102) (m19 103) (m19 111) (m19 94 59) nw from by first | (exact PL_3y p4_m19 (by omega) (by omega) (by omega) (by omega) rfl (by omega)) | (exact PL_no (by decide)) | (exact PL_3o p4_m19 (by omega) (by omega) (by omega) rfl (by omega)) | (exfalso; omega; done) | (exfalso; contradiction; done))
        · skip
          have g125 := i_nle h122
          have li126 : (-1 : Int32).toInt = -1 := rfl
          exact K ((-1 : Int32)) _ (zF_zov (zF_zov (zF_zov zF_rfl ws_214_210) ws_211_210) ws_214_210) hV_m19 p0_m19 p1_m19 p2_m19 p3_m19 p4_m19 (show zPL (m 94 10) (m 94 11) (m 94 13) (m 94 14) (m19 94 61) (m19 94 59) (m19 94 60) (m 94 18) (m 94 64) (m19 99) (m 102) (m19 103) (m19 111) (-1 : Int32) nw from by first | (exact PL_no (by decide)) | (exact PL_3o p4_m19 (by omega) (by omega) (by omega) rfl (by omega)) | (exact PL_3y p4_m19 (by omega) (by omega) (by omega) (by omega) rfl (by omega)) | (exfalso; omega; done) | (exfalso; contradiction; done))
  · skip
    have g127 := i_nle h8
    have f128 : 0 ≤ (m 94 60).toInt ∧ (m 94 60).toInt ≤ 1600 := rs_94_60 (m := m) hV
    first | have e129 : ((m 94 60) + nw).toInt = (m 94 60).toInt + nw.toInt := i_add (by omega) (by omega) | have b130 := i_bd ((m 94 60) + nw)
    have f131 : 0 ≤ (m 94 14).toInt ∧ (m 94 14).toInt ≤ 1500 := rs_94_14 (m := m) hV
    refine zd (fun (h132 : ((m 94 60) + nw) ≤ (m 94 14)) => ?_) (fun (h132 : ¬ ((m 94 60) + nw) ≤ (m 94 14)) => ?_)
    · skip
      have g133 := i_le h132
      refine zd (fun (h134 : ((m 94 60) + nw) ≤ (m 94 14)) => ?_) (fun (h134 : ¬ ((m 94 60) + nw) ≤ (m 94 14)) => ?_)
      · skip
        have g135 := i_le h134
        have hV136 : zV (ma_u m 94 60 ((m 94 60) + nw)) := us_94_60 hV (by omega) (by omega)
        exact K ((m 94 60)) _ (zF_u zF_rfl rfl) hV136 r_GW r_GU r_OW r_DX (show zHA (m 94 10) (m 94 11) (m 94 13) (m 94 14) (m 94 16) (m 94 61) (m 94 59) ((m 94 60) + nw) (m 99) (m 102) (m 103) (m 111) (m 117) (m 98) (m 101) (m 108) from by first | (exact HA_ot r_HA (by omega) (by omega) (by omega)) | (exact HA_up3 r_HA (by omega) (by omega) (by omega) (by omega) (by omega) (by omega) (by omega)) | (exfalso; omega; done) | (exfalso; contradiction; done)) (show zPL (m 94 10) (m 94 11) (m 94 13) (m 94 14) (m 94 61) (m 94 59) ((m 94 60) + nw) (m 94 18) (m 94 64) (m 99) (m 102) (m 103) (m 111) (m 94 60) nw from by first | (exact PL_3o r_HA (by omega) (by omega) (by omega) rfl (by omega)) | (exact PL_no (by decide)) | (exact PL_3y r_HA (by omega) (by omega) (by omega) (by omega) rfl (by omega)) | (exfalso; omega; done) | (exfalso; contradiction; done))
      · skip
        have g137 := i_nle h134
        have li138 : (-1 : Int32).toInt = -1 := rfl
        exact K ((-1 : Int32)) _ zF_rfl hV r_GW r_GU r_OW r_DX r_HA (show zPL (m 94 10) (m 94 11) (m 94 13) (m 94 14) (m 94 61) (m 94 59) (m 94 60) (m 94 18) (m 94 64) (m 99) (m 102) (m 103) (m 111) (-1 : Int32) nw from by first | (exact PL_no (by decide)) | (exact PL_3o r_HA (by omega) (by omega) (by omega) rfl (by omega)) | (exact PL_3y r_HA (by omega) (by omega) (by omega) (by omega) rfl (by omega)) | (exfalso; omega; done) | (exfalso; contradiction; done))
    · skip
      have g139 := i_nle h132
      refine sp_211  hV r_W r_GW r_GU r_OW r_DX r_HA (show (m 94 10).toInt = 3 from by omega) (fun v22 m21 hV_m21 p0_m21 p1_m21 p2_m21 p3_m21 p4_m21 => zmi_n ?_)
      have p0_m21 : zGW T (m21 94 55) (m21 109) := p0_m21
      have p1_m21 : zGU T (m 94 46) (m21 99) := p1_m21
      have p2_m21 : zOw (m21 99) (m21 103) (m21 111) := p2_m21
      have p3_m21 : zDX (m 94 10) (m21 99) (m 112) (m21 113) (m21 114) (m21 94 55) (m 98) (m 101) (m 102) (m 108) := p3_m21
      have p4_m21 : zHA (m 94 10) (m 94 11) (m 94 13) (m 94 14) (m 94 16) (m 94 61) (m 94 59) (m21 94 60) (m21 99) (m 102) (m21 103) (m21 111) (m21 117) (m 98) (m 101) (m 108) := p4_m21
      have f140 : 0 ≤ (m21 94 60).toInt ∧ (m21 94 60).toInt ≤ 1600 := rs_94_60 (m := (zov wr_211 m m21)) hV_m21
      first | have e141 : ((m21 94 60) + nw).toInt = (m21 94 60).toInt + nw.toInt := i_add (by omega) (by omega) | have b142 := i_bd ((m21 94 60) + nw)
      refine zd (fun (h143 : ((m21 94 60) + nw) ≤ (m 94 14)) => ?_) (fun (h143 : ¬ ((m21 94 60) + nw) ≤ (m 94 14)) => ?_)
      · skip
        have g144 := i_le h143
        have hV145 : zV (ma_u (zov wr_211 m m21) 94 60 ((m21 94 60) + nw)) := us_94_60 hV_m21 (by omega) (by omega)
        exact K ((m21 94 60)) _ (zF_u (zF_zov zF_rfl ws_211_210) rfl) hV145 p0_m21 p1_m21 p2_m21 p3_m21 (show zHA (m 94 10) (m 94 11) (m 94 13) (m 94 14) (m 94 16) (m 94 61) (m 94 59) ((m21 94 60) + nw) (m21 99) (m 102) (m21 103) (m21 111) (m21 117) (m 98) (m 101) (m 108) from by first | (exact HA_ot p4_m21 (by omega) (by omega) (by omega)) | (exact HA_up3 p4_m21 (by omega) (by omega) (by omega) (by omega) (by omega) (by omega) (by omega)) | (exfalso; omega; done) | (exfalso; contradiction; done)) (show zPL (m 94 10) (m 94 11) (m 94 13) (m 94 14) (m 94 61) (m 94 59) ((m21 94 60) + nw) (m 94 18) (m 94 64) (m21 99) (m 102) (m21 103) (m21 111) (m21 94 60) nw from by first | (exact PL_3o p4_m21 (by omega) (by omega) (by omega) rfl (by omega)) | (exact PL_no (by decide)) | (exact PL_3y p4_m21 (by omega) (by omega) (by omega) (by omega) rfl (by omega)) | (exfalso; omega; done) | (exfalso; contradiction; done))
      · skip
        have g146 := i_nle h143
        have li147 : (-1 : Int32).toInt = -1 := rfl
        exact K ((-1 : Int32)) _ (zF_zov zF_rfl ws_211_210) hV_m21 p0_m21 p1_m21 p2_m21 p3_m21 p4_m21 (show zPL (m 94 10) (m 94 11) (m 94 13) (m 94 14) (m 94 61) (m 94 59) (m21 94 60) (m 94 18) (m 94 64) (m21 99) (m 102) (m21 103) (m21 111) (-1 : Int32) nw from by first | (exact PL_no (by decide)) | (exact PL_3o p4_m21 (by omega) (by omega) (by omega) rfl (by omega)) | (exact PL_3y p4_m21 (by omega) (by omega) (by omega) (by omega) rfl (by omega)) | (exfalso; omega; done) | (exfalso; contradiction; done))

/-! from 94.491 -/
/-! the reference (written by wip/tools/gen94m.py) -/
set_option maxRecDepth 100000 in
theorem hm_184 : ma_md 184 = some (12, yX12_findRoom, cX12_findRoom, 4, (some (FieldType.int))) := rfl
theorem v_12_460_12 : ma_vl 12 460 12 = some (1, 186, 0) := by decide +kernel
theorem v_12_463_12 : ma_vl 12 463 12 = some (1, 206, 0) := by decide +kernel
theorem v_12_466_12 : ma_vl 12 466 12 = some (1, 210, 1) := by decide +kernel
theorem v_12_469_12 : ma_vl 12 469 12 = some (1, 217, 1) := by decide +kernel
theorem v_12_472_12 : ma_vl 12 472 12 = some (1, 231, 1) := by decide +kernel
theorem v_12_475_12 : ma_vl 12 475 12 = some (1, 237, 1) := by decide +kernel
theorem dX12_findRoom_0 : decode cX12_findRoom 0 = .ok (.aload_n 0, 1) := by decide +kernel
theorem dX12_findRoom_44 : decode cX12_findRoom 44 = .ok (.aload_n 0, 1) := by decide +kernel
theorem dX12_findRoom_45 : decode cX12_findRoom 45 = .ok (.iload_n 1, 1) := by decide +kernel
theorem dX12_findRoom_46 : decode cX12_findRoom 46 = .ok (.aload_n 0, 1) := by decide +kernel
theorem dX12_findRoom_50 : decode cX12_findRoom 50 = .ok (.invokevirtual 445, 3) := by decide +kernel
theorem dX12_findRoom_53 : decode cX12_findRoom 53 = .ok (.istore_n 2, 1) := by decide +kernel
theorem dX12_findRoom_54 : decode cX12_findRoom 54 = .ok (.iload_n 2, 1) := by decide +kernel
theorem dX12_findRoom_60 : decode cX12_findRoom 60 = .ok (.aload_n 0, 1) := by decide +kernel
theorem dX12_findRoom_61 : decode cX12_findRoom 61 = .ok (.invokevirtual 460, 3) := by decide +kernel
theorem dX12_findRoom_64 : decode cX12_findRoom 64 = .ok (.istore_n 3, 1) := by decide +kernel
theorem dX12_findRoom_65 : decode cX12_findRoom 65 = .ok (.aload_n 0, 1) := by decide +kernel
theorem dX12_findRoom_66 : decode cX12_findRoom 66 = .ok (.iload_n 1, 1) := by decide +kernel
theorem dX12_findRoom_67 : decode cX12_findRoom 67 = .ok (.aload_n 0, 1) := by decide +kernel
theorem dX12_findRoom_71 : decode cX12_findRoom 71 = .ok (.invokevirtual 445, 3) := by decide +kernel
theorem dX12_findRoom_74 : decode cX12_findRoom 74 = .ok (.ireturn, 1) := by decide +kernel
theorem dX12_findRoom_68 : decode cX12_findRoom 68 = .ok (.getfield 202, 3) := by decide +kernel
theorem dX12_findRoom_58 : decode cX12_findRoom 58 = .ok (.iload_n 2, 1) := by decide +kernel
theorem dX12_findRoom_59 : decode cX12_findRoom 59 = .ok (.ireturn, 1) := by decide +kernel
theorem dX12_findRoom_55 : decode cX12_findRoom 55 = .ok (.ifCond .lt 5, 3) := by decide +kernel
theorem dX12_findRoom_47 : decode cX12_findRoom 47 = .ok (.getfield 202, 3) := by decide +kernel
theorem dX12_findRoom_4 : decode cX12_findRoom 4 = .ok (.tableswitch 134 1 6 #[40, 71, 116, 134, 122, 128], 40) := by decide +kernel
theorem dX12_findRoom_75 : decode cX12_findRoom 75 = .ok (.aload_n 0, 1) := by decide +kernel
theorem dX12_findRoom_76 : decode cX12_findRoom 76 = .ok (.iload_n 1, 1) := by decide +kernel
theorem dX12_findRoom_77 : decode cX12_findRoom 77 = .ok (.aload_n 0, 1) := by decide +kernel
theorem dX12_findRoom_81 : decode cX12_findRoom 81 = .ok (.iconst 1, 1) := by decide +kernel
theorem dX12_findRoom_82 : decode cX12_findRoom 82 = .ok (.iadd, 1) := by decide +kernel
theorem dX12_findRoom_83 : decode cX12_findRoom 83 = .ok (.aload_n 0, 1) := by decide +kernel
theorem dX12_findRoom_87 : decode cX12_findRoom 87 = .ok (.imul, 1) := by decide +kernel
theorem dX12_findRoom_88 : decode cX12_findRoom 88 = .ok (.invokevirtual 445, 3) := by decide +kernel
theorem dX12_findRoom_91 : decode cX12_findRoom 91 = .ok (.istore_n 2, 1) := by decide +kernel
theorem dX12_findRoom_92 : decode cX12_findRoom 92 = .ok (.iload_n 2, 1) := by decide +kernel
theorem dX12_findRoom_98 : decode cX12_findRoom 98 = .ok (.aload_n 0, 1) := by decide +kernel
theorem dX12_findRoom_99 : decode cX12_findRoom 99 = .ok (.invokevirtual 463, 3) := by decide +kernel
theorem dX12_findRoom_102 : decode cX12_findRoom 102 = .ok (.istore_n 3, 1) := by decide +kernel
theorem dX12_findRoom_103 : decode cX12_findRoom 103 = .ok (.aload_n 0, 1) := by decide +kernel
theorem dX12_findRoom_104 : decode cX12_findRoom 104 = .ok (.iload_n 1, 1) := by decide +kernel
theorem dX12_findRoom_105 : decode cX12_findRoom 105 = .ok (.aload_n 0, 1) := by decide +kernel
theorem dX12_findRoom_109 : decode cX12_findRoom 109 = .ok (.iconst 1, 1) := by decide +kernel
theorem dX12_findRoom_110 : decode cX12_findRoom 110 = .ok (.iadd, 1) := by decide +kernel
theorem dX12_findRoom_111 : decode cX12_findRoom 111 = .ok (.aload_n 0, 1) := by decide +kernel
theorem dX12_findRoom_115 : decode cX12_findRoom 115 = .ok (.imul, 1) := by decide +kernel
theorem dX12_findRoom_116 : decode cX12_findRoom 116 = .ok (.invokevirtual 445, 3) := by decide +kernel
theorem dX12_findRoom_119 : decode cX12_findRoom 119 = .ok (.ireturn, 1) := by decide +kernel
theorem dX12_findRoom_112 : decode cX12_findRoom 112 = .ok (.getfield 202, 3) := by decide +kernel
theorem dX12_findRoom_106 : decode cX12_findRoom 106 = .ok (.getfield 273, 3) := by decide +kernel
theorem dX12_findRoom_96 : decode cX12_findRoom 96 = .ok (.iload_n 2, 1) := by decide +kernel
theorem dX12_findRoom_97 : decode cX12_findRoom 97 = .ok (.ireturn, 1) := by decide +kernel
theorem dX12_findRoom_93 : decode cX12_findRoom 93 = .ok (.ifCond .lt 5, 3) := by decide +kernel
theorem dX12_findRoom_84 : decode cX12_findRoom 84 = .ok (.getfield 202, 3) := by decide +kernel
theorem dX12_findRoom_78 : decode cX12_findRoom 78 = .ok (.getfield 273, 3) := by decide +kernel
theorem dX12_findRoom_120 : decode cX12_findRoom 120 = .ok (.aload_n 0, 1) := by decide +kernel
theorem dX12_findRoom_121 : decode cX12_findRoom 121 = .ok (.iload_n 1, 1) := by decide +kernel
theorem dX12_findRoom_122 : decode cX12_findRoom 122 = .ok (.invokevirtual 466, 3) := by decide +kernel
theorem dX12_findRoom_125 : decode cX12_findRoom 125 = .ok (.ireturn, 1) := by decide +kernel
theorem dX12_findRoom_138 : decode cX12_findRoom 138 = .ok (.aload_n 0, 1) := by decide +kernel
theorem dX12_findRoom_139 : decode cX12_findRoom 139 = .ok (.iload_n 1, 1) := by decide +kernel
theorem dX12_findRoom_140 : decode cX12_findRoom 140 = .ok (.invokevirtual 475, 3) := by decide +kernel
theorem dX12_findRoom_143 : decode cX12_findRoom 143 = .ok (.ireturn, 1) := by decide +kernel
theorem dX12_findRoom_126 : decode cX12_findRoom 126 = .ok (.aload_n 0, 1) := by decide +kernel
theorem dX12_findRoom_127 : decode cX12_findRoom 127 = .ok (.iload_n 1, 1) := by decide +kernel
theorem dX12_findRoom_128 : decode cX12_findRoom 128 = .ok (.invokevirtual 469, 3) := by decide +kernel
theorem dX12_findRoom_131 : decode cX12_findRoom 131 = .ok (.ireturn, 1) := by decide +kernel
theorem dX12_findRoom_132 : decode cX12_findRoom 132 = .ok (.aload_n 0, 1) := by decide +kernel
theorem dX12_findRoom_133 : decode cX12_findRoom 133 = .ok (.iload_n 1, 1) := by decide +kernel
theorem dX12_findRoom_134 : decode cX12_findRoom 134 = .ok (.invokevirtual 472, 3) := by decide +kernel
theorem dX12_findRoom_137 : decode cX12_findRoom 137 = .ok (.ireturn, 1) := by decide +kernel
theorem dX12_findRoom_1 : decode cX12_findRoom 1 = .ok (.getfield 199, 3) := by decide +kernel
def wr_184 (c k : Nat) : Bool := Nat.beq c 99 || Nat.beq c 103 || Nat.beq c 104 || Nat.beq c 105 || Nat.beq c 106 || Nat.beq c 109 || Nat.beq c 110 || Nat.beq c 111 || Nat.beq c 113 || Nat.beq c 114 || Nat.beq c 115 || Nat.beq c 116 || Nat.beq c 117 || Nat.beq c 118 || Nat.beq c 119 || Nat.beq c 122 || Nat.beq c 123 || Nat.beq c 124 || (Nat.beq c 94 && (Nat.beq k 44 || Nat.beq k 45 || Nat.beq k 47 || Nat.beq k 48 || Nat.beq k 49 || Nat.beq k 50 || Nat.beq k 55 || Nat.beq k 56 || Nat.beq k 57 || Nat.beq k 58 || Nat.beq k 59 || Nat.beq k 60 || Nat.beq k 61 || Nat.beq k 63 || Nat.beq k 73 || Nat.beq k 75 || Nat.beq k 76 || Nat.beq k 77 || Nat.beq k 84))
theorem ws_186_184 : ∀ c k, wr_186 c k = true → wr_184 c k = true := by
  intro c k h
  simp only [wr_186, Bool.or_eq_true, Bool.and_eq_true, Nat.beq_eq] at h
  rcases h with ((((((((rfl | rfl) | rfl) | rfl) | rfl) | rfl) | rfl) | rfl) | rfl) | ⟨rfl, (((((((rfl | rfl) | rfl) | rfl) | rfl) | rfl) | rfl) | rfl)⟩ <;> rfl
theorem ws_206_184 : ∀ c k, wr_206 c k = true → wr_184 c k = true := by
  intro c k h
  simp only [wr_206, Bool.or_eq_true, Bool.and_eq_true, Nat.beq_eq] at h
  rcases h with (((((((((rfl | rfl) | rfl) | rfl) | rfl) | rfl) | rfl) | rfl) | rfl) | rfl) | ⟨rfl, (((((((((((rfl | rfl) | rfl) | rfl) | rfl) | rfl) | rfl) | rfl) | rfl) | rfl) | rfl) | rfl)⟩ <;> rfl
theorem ws_210_184 : ∀ c k, wr_210 c k = true → wr_184 c k = true := by
  intro c k h
  simp only [wr_210, Bool.or_eq_true, Bool.and_eq_true, Nat.beq_eq] at h
  rcases h with (((((((((((rfl | rfl) | rfl) | rfl) | rfl) | rfl) | rfl) | rfl) | rfl) | rfl) | rfl) | rfl) | ⟨rfl, ((((((((((((rfl | rfl) | rfl) | rfl) | rfl) | rfl) | rfl) | rfl) | rfl) | rfl) | rfl) | rfl) | rfl)⟩ <;> rfl
theorem ws_217_184 : ∀ c k, wr_217 c k = true → wr_184 c k = true := by
  intro c k h
  simp only [wr_217, Bool.or_eq_true, Bool.and_eq_true, Nat.beq_eq] at h
  rcases h with (((((((((rfl | rfl) | rfl) | rfl) | rfl) | rfl) | rfl) | rfl) | rfl) | rfl) | ⟨rfl, ((((((((((rfl | rfl) | rfl) | rfl) | rfl) | rfl) | rfl) | rfl) | rfl) | rfl) | rfl)⟩ <;> rfl
theorem ws_231_184 : ∀ c k, wr_231 c k = true → wr_184 c k = true := by
  intro c k h
  simp only [wr_231, Bool.or_eq_true, Bool.and_eq_true, Nat.beq_eq] at h
  rcases h with ((((((((((((rfl | rfl) | rfl) | rfl) | rfl) | rfl) | rfl) | rfl) | rfl) | rfl) | rfl) | rfl) | rfl) | ⟨rfl, (((((((rfl | rfl) | rfl) | rfl) | rfl) | rfl) | rfl) | rfl)⟩ <;> rfl
theorem ws_237_184 : ∀ c k, wr_237 c k = true → wr_184 c k = true := by
  intro c k h
  simp only [wr_237, Bool.or_eq_true, Bool.and_eq_true, Nat.beq_eq] at h
  rcases h with (((((((rfl | rfl) | rfl) | rfl) | rfl) | rfl) | rfl) | rfl) | ⟨rfl, (((((((rfl | rfl) | rfl) | rfl) | rfl) | rfl) | rfl) | rfl)⟩ <;> rfl
theorem g_184_0 {X : Nat × (Nat → Int32)} {m : Nat → Nat → Int32} {P : Option ma_V → (Nat → Nat → Int32) → Prop} (nw : Int32) (h : if (m 94 10) = (1 : Int32) then (if ((m 94 59) + nw) ≤ (m 94 11) then (if (m 94 59) < 0 then (zm X 5 108 186 0 [(0, .inr (.inr (some 94)))] (ma_u m 94 59 ((m 94 59) + nw)) (zmi (fun v2 m1 => if ((m1 94 59) + nw) ≤ (m1 94 11) then (P (some (.inl (m1 94 59))) (ma_u m1 94 59 ((m1 94 59) + nw))) else (P (some (.inl (-1 : Int32))) m1)))) else (P (some (.inl (m 94 59))) (ma_u m 94 59 ((m 94 59) + nw)))) else (zm X 5 108 186 0 [(0, .inr (.inr (some 94)))] m (zmi (fun v4 m3 => if ((m3 94 59) + nw) ≤ (m3 94 11) then (P (some (.inl (m3 94 59))) (ma_u m3 94 59 ((m3 94 59) + nw))) else (P (some (.inl (-1 : Int32))) m3))))) else (if (m 94 10) = (2 : Int32) then (if ((m 94 59) + nw) ≤ (((m 94 61) + (1 : Int32)) * (m 94 11)) then (if (m 94 59) < 0 then (zm X 5 109 206 0 [(0, .inr (.inr (some 94)))] (ma_u m 94 59 ((m 94 59) + nw)) (zmi (fun v6 m5 => if ((m5 94 59) + nw) ≤ (((m5 94 61) + (1 : Int32)) * (m5 94 11)) then (P (some (.inl (m5 94 59))) (ma_u m5 94 59 ((m5 94 59) + nw))) else (P (some (.inl (-1 : Int32))) m5)))) else (P (some (.inl (m 94 59))) (ma_u m 94 59 ((m 94 59) + nw)))) else (zm X 5 109 206 0 [(0, .inr (.inr (some 94)))] m (zmi (fun v8 m7 => if ((m7 94 59) + nw) ≤ (((m7 94 61) + (1 : Int32)) * (m7 94 11)) then (P (some (.inl (m7 94 59))) (ma_u m7 94 59 ((m7 94 59) + nw))) else (P (some (.inl (-1 : Int32))) m7))))) else (if (m 94 10) = (3 : Int32) then (zm X 7 152 210 0 [(0, .inr (.inr (some 94))), (1, .inl nw)] m (zmi (fun v10 m9 => P (some (.inl v10)) m9))) else (if (m 94 10) = (4 : Int32) then (zm X 5 108 237 0 [(0, .inr (.inr (some 94))), (1, .inl nw)] m (zmi (fun v12 m11 => P (some (.inl v12)) m11))) else (if (m 94 10) = (5 : Int32) then (zm X 7 151 217 0 [(0, .inr (.inr (some 94))), (1, .inl nw)] m (zmi (fun v14 m13 => P (some (.inl v14)) m13))) else (if (m 94 10) = (6 : Int32) then (zm X 6 137 231 0 [(0, .inr (.inr (some 94))), (1, .inl nw)] m (zmi (fun v16 m15 => P (some (.inl v16)) m15))) else (zm X 5 108 237 0 [(0, .inr (.inr (some 94))), (1, .inl nw)] m (zmi (fun v18 m17 => P (some (.inl v18)) m17))))))))) : zm X 8 175 184 0 [(0, .inr (.inr (some 94))), (1, .inl nw)] m P := by
  intro d w S Q hd hw hS hm HQ
  subst hm
  refine zw_push hm_184 dX12_findRoom_0 (v := .inr (.inr (some 94))) rfl ?_
  refine zw_gf hm_184 dX12_findRoom_1 (v := .inl ((mI S) 94 10)) (zT_is hS s_94) (zT_t hS s_94) rfl f_12_199_12 rfl ?_
  by_cases hc0 : ((mI S) 94 10) = (1 : Int32)
  · rw [if_pos hc0] at h
    refine zw_jmp hm_184 dX12_findRoom_4 (t := 44) (st₉ := []) rfl rfl rfl (ma_jmp_tab (by rw [hc0]; decide +kernel)) ?_
    refine zw_push hm_184 dX12_findRoom_44 (v := .inr (.inr (some 94))) rfl ?_
    refine zw_push hm_184 dX12_findRoom_45 (v := .inl nw) rfl ?_
    refine zw_push hm_184 dX12_findRoom_46 (v := .inr (.inr (some 94))) rfl ?_
    refine zw_gf hm_184 dX12_findRoom_47 (v := .inl ((mI S) 94 11)) (zT_is hS s_94) (zT_t hS s_94) rfl f_12_202_12 rfl ?_
    refine zw_cv hm_184 dX12_findRoom_50 v_12_445_12 hm_185 [.inl ((mI S) 94 11), .inl nw] [] rfl (zT_rt hS s_94 rfl) ⟨by omega, by omega⟩ rfl ?_
    show ma_wp X (d - 1) (w - 23) 185 0 [(0, .inr (.inr (some 94))), (1, .inl nw), (2, .inl ((mI S) 94 11))] [] S _
    refine zw_push hm_185 dX12_findInHalf_0 (v := .inr (.inr (some 94))) rfl ?_
    refine zw_gf hm_185 dX12_findInHalf_1 (v := .inl ((mI S) 94 59)) (zT_is hS s_94) (zT_t hS s_94) rfl f_12_276_12 rfl ?_
    refine zw_push hm_185 dX12_findInHalf_4 (v := .inl nw) rfl ?_
    refine zw_stk hm_185 dX12_findInHalf_5 (st₉ := [.inl (((mI S) 94 59) + nw)]) rfl rfl ?_
    refine zw_push hm_185 dX12_findInHalf_6 (v := .inl ((mI S) 94 11)) rfl ?_
    refine zw_if2 hm_185 dX12_findInHalf_7 (t := 12) rfl zc2_le ?_ ?_
    · intro hc
      rw [if_pos hc] at h
      refine zw_push hm_185 dX12_findInHalf_12 (v := .inr (.inr (some 94))) rfl ?_
      refine zw_gf hm_185 dX12_findInHalf_13 (v := .inl ((mI S) 94 59)) (zT_is hS s_94) (zT_t hS s_94) rfl f_12_276_12 rfl ?_
      refine zw_sto hm_185 dX12_findInHalf_16 [(3, .inl ((mI S) 94 59)), (0, .inr (.inr (some 94))), (1, .inl nw), (2, .inl ((mI S) 94 11))] rfl rfl rfl ?_
      refine zw_push hm_185 dX12_findInHalf_17 (v := .inr (.inr (some 94))) rfl ?_
      refine zw_stk hm_185 dX12_findInHalf_18 (st₉ := [.inr (.inr (some 94)), .inr (.inr (some 94))]) rfl rfl ?_
      refine zw_gf hm_185 dX12_findInHalf_19 (v := .inl ((mI S) 94 59)) (zT_is hS s_94) (zT_t hS s_94) rfl f_12_276_12 rfl ?_
      refine zw_push hm_185 dX12_findInHalf_22 (v := .inl nw) rfl ?_
      refine zw_stk hm_185 dX12_findInHalf_23 (st₉ := [.inl (((mI S) 94 59) + nw), .inr (.inr (some 94))]) rfl rfl ?_
      refine zw_pf hm_185 dX12_findInHalf_24 (zT_is hS s_94) (zT_t hS s_94) p_12_276_12 zk_int ?_
      refine zw_push hm_185 dX12_findInHalf_27 (v := .inl ((mI S) 94 59)) rfl ?_
      refine zw_iret hm_185 dX12_findInHalf_28 ?_
      show ma_wp X d w 184 53 [(0, .inr (.inr (some 94))), (1, .inl nw)] [.inl ((mI S) 94 59)] (ma_put S 94 59 (.inl (((mI S) 94 59) + nw))) _
      refine zw_sto hm_184 dX12_findRoom_53 [(2, .inl ((mI S) 94 59)), (0, .inr (.inr (some 94))), (1, .inl nw)] rfl rfl rfl ?_
      refine zw_push hm_184 dX12_findRoom_54 (v := .inl ((mI S) 94 59)) rfl ?_
      refine zw_if0 hm_184 dX12_findRoom_55 (t := 60) rfl zc0_lt ?_ ?_
      · intro hc
        rw [if_pos hc] at h
        refine zw_push hm_184 dX12_findRoom_60 (v := .inr (.inr (some 94))) rfl ?_
        refine zw_cv hm_184 dX12_findRoom_61 v_12_460_12 hm_186 [] [] rfl (zT_rt (zT_pi hS) s_94 rfl) ⟨by omega, by omega⟩ rfl (h _ _ (ma_put S 94 59 (.inl (((mI S) 94 59) + nw))) _ (by omega) (by omega) (zT_pi hS) rfl (fun o9 m1 hv => ?_))
        obtain ⟨v2, rfl, h⟩ := zmi_of hv
        show ma_wp X d w 184 64 [(2, .inl ((mI S) 94 59)), (0, .inr (.inr (some 94))), (1, .inl nw)] [.inl v2] (zst S m1) _
        refine zw_sto hm_184 dX12_findRoom_64 [(3, .inl v2), (2, .inl ((mI S) 94 59)), (0, .inr (.inr (some 94))), (1, .inl nw)] rfl rfl rfl ?_
        refine zw_push hm_184 dX12_findRoom_65 (v := .inr (.inr (some 94))) rfl ?_
        refine zw_push hm_184 dX12_findRoom_66 (v := .inl nw) rfl ?_
        refine zw_push hm_184 dX12_findRoom_67 (v := .inr (.inr (some 94))) rfl ?_
        refine zw_gf hm_184 dX12_findRoom_68 (v := .inl (m1 94 11)) (zT_is (zT_zst hS m1) s_94) (zT_t (zT_zst hS m1) s_94) rfl f_12_202_12 rfl ?_
        refine zw_cv hm_184 dX12_findRoom_71 v_12_445_12 hm_185 [.inl (m1 94 11), .inl nw] [] rfl (zT_rt (zT_zst hS m1) s_94 rfl) ⟨by omega, by omega⟩ rfl ?_
        show ma_wp X (d - 1) (w - 23) 185 0 [(0, .inr (.inr (some 94))), (1, .inl nw), (2, .inl (m1 94 11))] [] (zst S m1) _
        refine zw_push hm_185 dX12_findInHalf_0 (v := .inr (.inr (some 94))) rfl ?_
        refine zw_gf hm_185 dX12_findInHalf_1 (v := .inl (m1 94 59)) (zT_is (zT_zst hS m1) s_94) (zT_t (zT_zst hS m1) s_94) rfl f_12_276_12 rfl ?_
        refine zw_push hm_185 dX12_findInHalf_4 (v := .inl nw) rfl ?_
        refine zw_stk hm_185 dX12_findInHalf_5 (st₉ := [.inl ((m1 94 59) + nw)]) rfl rfl ?_
        refine zw_push hm_185 dX12_findInHalf_6 (v := .inl (m1 94 11)) rfl ?_
        refine zw_if2 hm_185 dX12_findInHalf_7 (t := 12) rfl zc2_le ?_ ?_
        · intro hc
          rw [if_pos hc] at h
          refine zw_push hm_185 dX12_findInHalf_12 (v := .inr (.inr (some 94))) rfl ?_
          refine zw_gf hm_185 dX12_findInHalf_13 (v := .inl (m1 94 59)) (zT_is (zT_zst hS m1) s_94) (zT_t (zT_zst hS m1) s_94) rfl f_12_276_12 rfl ?_
          refine zw_sto hm_185 dX12_findInHalf_16 [(3, .inl (m1 94 59)), (0, .inr (.inr (some 94))), (1, .inl nw), (2, .inl (m1 94 11))] rfl rfl rfl ?_
          refine zw_push hm_185 dX12_findInHalf_17 (v := .inr (.inr (some 94))) rfl ?_
          refine zw_stk hm_185 dX12_findInHalf_18 (st₉ := [.inr (.inr (some 94)), .inr (.inr (some 94))]) rfl rfl ?_
          refine zw_gf hm_185 dX12_findInHalf_19 (v := .inl (m1 94 59)) (zT_is (zT_zst hS m1) s_94) (zT_t (zT_zst hS m1) s_94) rfl f_12_276_12 rfl ?_
          refine zw_push hm_185 dX12_findInHalf_22 (v := .inl nw) rfl ?_
          refine zw_stk hm_185 dX12_findInHalf_23 (st₉ := [.inl ((m1 94 59) + nw), .inr (.inr (some 94))]) rfl rfl ?_
          refine zw_pf hm_185 dX12_findInHalf_24 (zT_is (zT_zst hS m1) s_94) (zT_t (zT_zst hS m1) s_94) p_12_276_12 zk_int ?_
          refine zw_push hm_185 dX12_findInHalf_27 (v := .inl (m1 94 59)) rfl ?_
          refine zw_iret hm_185 dX12_findInHalf_28 ?_
          show ma_wp X d w 184 74 [(3, .inl v2), (2, .inl ((mI S) 94 59)), (0, .inr (.inr (some 94))), (1, .inl nw)] [.inl (m1 94 59)] (ma_put (zst S m1) 94 59 (.inl ((m1 94 59) + nw))) _
          exact zw_iret hm_184 dX12_findRoom_74 (HQ _ _ h)
        · intro hc
          rw [if_neg hc] at h
          refine zw_push hm_185 dX12_findInHalf_10 (v := .inl (-1 : Int32)) rfl ?_
          refine zw_iret hm_185 dX12_findInHalf_11 ?_
          show ma_wp X d w 184 74 [(3, .inl v2), (2, .inl ((mI S) 94 59)), (0, .inr (.inr (some 94))), (1, .inl nw)] [.inl (-1 : Int32)] (zst S m1) _
          exact zw_iret hm_184 dX12_findRoom_74 (HQ _ _ h)
      · intro hc
        rw [if_neg hc] at h
        refine zw_push hm_184 dX12_findRoom_58 (v := .inl ((mI S) 94 59)) rfl ?_
        exact zw_iret hm_184 dX12_findRoom_59 (HQ _ _ h)
    · intro hc
      rw [if_neg hc] at h
      refine zw_push hm_185 dX12_findInHalf_10 (v := .inl (-1 : Int32)) rfl ?_
      refine zw_iret hm_185 dX12_findInHalf_11 ?_
      show ma_wp X d w 184 53 [(0, .inr (.inr (some 94))), (1, .inl nw)] [.inl (-1 : Int32)] S _
      refine zw_sto hm_184 dX12_findRoom_53 [(2, .inl (-1 : Int32)), (0, .inr (.inr (some 94))), (1, .inl nw)] rfl rfl rfl ?_
      refine zw_push hm_184 dX12_findRoom_54 (v := .inl (-1 : Int32)) rfl ?_
      refine zw_if0 hm_184 dX12_findRoom_55 (t := 60) rfl zc0_lt (fun _ => ?_) (fun hc => absurd (by decide) hc)
      refine zw_push hm_184 dX12_findRoom_60 (v := .inr (.inr (some 94))) rfl ?_
      refine zw_cv hm_184 dX12_findRoom_61 v_12_460_12 hm_186 [] [] rfl (zT_rt hS s_94 rfl) ⟨by omega, by omega⟩ rfl (h _ _ S _ (by omega) (by omega) hS rfl (fun o9 m3 hv => ?_))
      obtain ⟨v4, rfl, h⟩ := zmi_of hv
      show ma_wp X d w 184 64 [(2, .inl (-1 : Int32)), (0, .inr (.inr (some 94))), (1, .inl nw)] [.inl v4] (zst S m3) _
      refine zw_sto hm_184 dX12_findRoom_64 [(3, .inl v4), (2, .inl (-1 : Int32)), (0, .inr (.inr (some 94))), (1, .inl nw)] rfl rfl rfl ?_
      refine zw_push hm_184 dX12_findRoom_65 (v := .inr (.inr (some 94))) rfl ?_
      refine zw_push hm_184 dX12_findRoom_66 (v := .inl nw) rfl ?_
      refine zw_push hm_184 dX12_findRoom_67 (v := .inr (.inr (some 94))) rfl ?_
      refine zw_gf hm_184 dX12_findRoom_68 (v := .inl (m3 94 11)) (zT_is (zT_zst hS m3) s_94) (zT_t (zT_zst hS m3) s_94) rfl f_12_202_12 rfl ?_
      refine zw_cv hm_184 dX12_findRoom_71 v_12_445_12 hm_185 [.inl (m3 94 11), .inl nw] [] rfl (zT_rt (zT_zst hS m3) s_94 rfl) ⟨by omega, by omega⟩ rfl ?_
      show ma_wp X (d - 1) (w - 23) 185 0 [(0, .inr (.inr (some 94))), (1, .inl nw), (2, .inl (m3 94 11))] [] (zst S m3) _
      refine zw_push hm_185 dX12_findInHalf_0 (v := .inr (.inr (some 94))) rfl ?_
      refine zw_gf hm_185 dX12_findInHalf_1 (v := .inl (m3 94 59)) (zT_is (zT_zst hS m3) s_94) (zT_t (zT_zst hS m3) s_94) rfl f_12_276_12 rfl ?_
      refine zw_push hm_185 dX12_findInHalf_4 (v := .inl nw) rfl ?_
      refine zw_stk hm_185 dX12_findInHalf_5 (st₉ := [.inl ((m3 94 59) + nw)]) rfl rfl ?_
      refine zw_push hm_185 dX12_findInHalf_6 (v := .inl (m3 94 11)) rfl ?_
      refine zw_if2 hm_185 dX12_findInHalf_7 (t := 12) rfl zc2_le ?_ ?_
      · intro hc
        rw [if_pos hc] at h
        refine zw_push hm_185 dX12_findInHalf_12 (v := .inr (.inr (some 94))) rfl ?_
        refine zw_gf hm_185 dX12_findInHalf_13 (v := .inl (m3 94 59)) (zT_is (zT_zst hS m3) s_94) (zT_t (zT_zst hS m3) s_94) rfl f_12_276_12 rfl ?_
        refine zw_sto hm_185 dX12_findInHalf_16 [(3, .inl (m3 94 59)), (0, .inr (.inr (some 94))), (1, .inl nw), (2, .inl (m3 94 11))] rfl rfl rfl ?_
        refine zw_push hm_185 dX12_findInHalf_17 (v := .inr (.inr (some 94))) rfl ?_
        refine zw_stk hm_185 dX12_findInHalf_18 (st₉ := [.inr (.inr (some 94)), .inr (.inr (some 94))]) rfl rfl ?_
        refine zw_gf hm_185 dX12_findInHalf_19 (v := .inl (m3 94 59)) (zT_is (zT_zst hS m3) s_94) (zT_t (zT_zst hS m3) s_94) rfl f_12_276_12 rfl ?_
        refine zw_push hm_185 dX12_findInHalf_22 (v := .inl nw) rfl ?_
        refine zw_stk hm_185 dX12_findInHalf_23 (st₉ := [.inl ((m3 94 59) + nw), .inr (.inr (some 94))]) rfl rfl ?_
        refine zw_pf hm_185 dX12_findInHalf_24 (zT_is (zT_zst hS m3) s_94) (zT_t (zT_zst hS m3) s_94) p_12_276_12 zk_int ?_
        refine zw_push hm_185 dX12_findInHalf_27 (v := .inl (m3 94 59)) rfl ?_
        refine zw_iret hm_185 dX12_findInHalf_28 ?_
        show ma_wp X d w 184 74 [(3, .inl v4), (2, .inl (-1 : Int32)), (0, .inr (.inr (some 94))), (1, .inl nw)] [.inl (m3 94 59)] (ma_put (zst S m3) 94 59 (.inl ((m3 94 59) + nw))) _
        exact zw_iret hm_184 dX12_findRoom_74 (HQ _ _ h)
      · intro hc
        rw [if_neg hc] at h
        refine zw_push hm_185 dX12_findInHalf_10 (v := .inl (-1 : Int32)) rfl ?_
        refine zw_iret hm_185 dX12_findInHalf_11 ?_
        show ma_wp X d w 184 74 [(3, .inl v4), (2, .inl (-1 : Int32)), (0, .inr (.inr (some 94))), (1, .inl nw)] [.inl (-1 : Int32)] (zst S m3) _
        exact zw_iret hm_184 dX12_findRoom_74 (HQ _ _ h)
  rw [if_neg hc0] at h
  by_cases hc1 : ((mI S) 94 10) = (2 : Int32)
  · rw [if_pos hc1] at h
    refine zw_jmp hm_184 dX12_findRoom_4 (t := 75) (st₉ := []) rfl rfl rfl (ma_jmp_tab (by rw [hc1]; decide +kernel)) ?_
    refine zw_push hm_184 dX12_findRoom_75 (v := .inr (.inr (some 94))) rfl ?_
    refine zw_push hm_184 dX12_findRoom_76 (v := .inl nw) rfl ?_
    refine zw_push hm_184 dX12_findRoom_77 (v := .inr (.inr (some 94))) rfl ?_
    refine zw_gf hm_184 dX12_findRoom_78 (v := .inl ((mI S) 94 61)) (zT_is hS s_94) (zT_t hS s_94) rfl f_12_273_12 rfl ?_
    refine zw_push hm_184 dX12_findRoom_81 (v := .inl (1 : Int32)) rfl ?_
    refine zw_stk hm_184 dX12_findRoom_82 (st₉ := [.inl (((mI S) 94 61) + (1 : Int32)), .inl nw, .inr (.inr (some 94))]) rfl rfl ?_
    refine zw_push hm_184 dX12_findRoom_83 (v := .inr (.inr (some 94))) rfl ?_
    refine zw_gf hm_184 dX12_findRoom_84 (v := .inl ((mI S) 94 11)) (zT_is hS s_94) (zT_t hS s_94) rfl f_12_202_12 rfl ?_
    refine zw_stk hm_184 dX12_findRoom_87 (st₉ := [.inl ((((mI S) 94 61) + (1 : Int32)) * ((mI S) 94 11)), .inl nw, .inr (.inr (some 94))]) rfl rfl ?_
    refine zw_cv hm_184 dX12_findRoom_88 v_12_445_12 hm_185 [.inl ((((mI S) 94 61) + (1 : Int32)) * ((mI S) 94 11)), .inl nw] [] rfl (zT_rt hS s_94 rfl) ⟨by omega, by omega⟩ rfl ?_
    show ma_wp X (d - 1) (w - 23) 185 0 [(0, .inr (.inr (some 94))), (1, .inl nw), (2, .inl ((((mI S) 94 61) + (1 : Int32)) * ((mI S) 94 11)))] [] S _
    refine zw_push hm_185 dX12_findInHalf_0 (v := .inr (.inr (some 94))) rfl ?_
    refine zw_gf hm_185 dX12_findInHalf_1 (v := .inl ((mI S) 94 59)) (zT_is hS s_94) (zT_t hS s_94) rfl f_12_276_12 rfl ?_
    refine zw_push hm_185 dX12_findInHalf_4 (v := .inl nw) rfl ?_
    refine zw_stk hm_185 dX12_findInHalf_5 (st₉ := [.inl (((mI S) 94 59) + nw)]) rfl rfl ?_
    refine zw_push hm_185 dX12_findInHalf_6 (v := .inl ((((mI S) 94 61) + (1 : Int32)) * ((mI S) 94 11))) rfl ?_
    refine zw_if2 hm_185 dX12_findInHalf_7 (t := 12) rfl zc2_le ?_ ?_
    · intro hc
      rw [if_pos hc] at h
      refine zw_push hm_185 dX12_findInHalf_12 (v := .inr (.inr (some 94))) rfl ?_
      refine zw_gf hm_185 dX12_findInHalf_13 (v := .inl ((mI S) 94 59)) (zT_is hS s_94) (zT_t hS s_94) rfl f_12_276_12 rfl ?_
      refine zw_sto hm_185 dX12_findInHalf_16 [(3, .inl ((mI S) 94 59)), (0, .inr (.inr (some 94))), (1, .inl nw), (2, .inl ((((mI S) 94 61) + (1 : Int32)) * ((mI S) 94 11)))] rfl rfl rfl ?_
      refine zw_push hm_185 dX12_findInHalf_17 (v := .inr (.inr (some 94))) rfl ?_
      refine zw_stk hm_185 dX12_findInHalf_18 (st₉ := [.inr (.inr (some 94)), .inr (.inr (some 94))]) rfl rfl ?_
      refine zw_gf hm_185 dX12_findInHalf_19 (v := .inl ((mI S) 94 59)) (zT_is hS s_94) (zT_t hS s_94) rfl f_12_276_12 rfl ?_
      refine zw_push hm_185 dX12_findInHalf_22 (v := .inl nw) rfl ?_
      refine zw_stk hm_185 dX12_findInHalf_23 (st₉ := [.inl (((mI S) 94 59) + nw), .inr (.inr (some 94))]) rfl rfl ?_
      refine zw_pf hm_185 dX12_findInHalf_24 (zT_is hS s_94) (zT_t hS s_94) p_12_276_12 zk_int ?_
      refine zw_push hm_185 dX12_findInHalf_27 (v := .inl ((mI S) 94 59)) rfl ?_
      refine zw_iret hm_185 dX12_findInHalf_28 ?_
      show ma_wp X d w 184 91 [(0, .inr (.inr (some 94))), (1, .inl nw)] [.inl ((mI S) 94 59)] (ma_put S 94 59 (.inl (((mI S) 94 59) + nw))) _
      refine zw_sto hm_184 dX12_findRoom_91 [(2, .inl ((mI S) 94 59)), (0, .inr (.inr (some 94))), (1, .inl nw)] rfl rfl rfl ?_
      refine zw_push hm_184 dX12_findRoom_92 (v := .inl ((mI S) 94 59)) rfl ?_
      refine zw_if0 hm_184 dX12_findRoom_93 (t := 98) rfl zc0_lt ?_ ?_
      · intro hc
        rw [if_pos hc] at h
        refine zw_push hm_184 dX12_findRoom_98 (v := .inr (.inr (some 94))) rfl ?_
        refine zw_cv hm_184 dX12_findRoom_99 v_12_463_12 hm_206 [] [] rfl (zT_rt (zT_pi hS) s_94 rfl) ⟨by omega, by omega⟩ rfl (h _ _ (ma_put S 94 59 (.inl (((mI S) 94 59) + nw))) _ (by omega) (by omega) (zT_pi hS) rfl (fun o9 m5 hv => ?_))
        obtain ⟨v6, rfl, h⟩ := zmi_of hv
        show ma_wp X d w 184 102 [(2, .inl ((mI S) 94 59)), (0, .inr (.inr (some 94))), (1, .inl nw)] [.inl v6] (zst S m5) _
        refine zw_sto hm_184 dX12_findRoom_102 [(3, .inl v6), (2, .inl ((mI S) 94 59)), (0, .inr (.inr (some 94))), (1, .inl nw)] rfl rfl rfl ?_
        refine zw_push hm_184 dX12_findRoom_103 (v := .inr (.inr (some 94))) rfl ?_
        refine zw_push hm_184 dX12_findRoom_104 (v := .inl nw) rfl ?_
        refine zw_push hm_184 dX12_findRoom_105 (v := .inr (.inr (some 94))) rfl ?_
        refine zw_gf hm_184 dX12_findRoom_106 (v := .inl (m5 94 61)) (zT_is (zT_zst hS m5) s_94) (zT_t (zT_zst hS m5) s_94) rfl f_12_273_12 rfl ?_
        refine zw_push hm_184 dX12_findRoom_109 (v := .inl (1 : Int32)) rfl ?_
        refine zw_stk hm_184 dX12_findRoom_110 (st₉ := [.inl ((m5 94 61) + (1 : Int32)), .inl nw, .inr (.inr (some 94))]) rfl rfl ?_
        refine zw_push hm_184 dX12_findRoom_111 (v := .inr (.inr (some 94))) rfl ?_
        refine zw_gf hm_184 dX12_findRoom_112 (v := .inl (m5 94 11)) (zT_is (zT_zst hS m5) s_94) (zT_t (zT_zst hS m5) s_94) rfl f_12_202_12 rfl ?_
        refine zw_stk hm_184 dX12_findRoom_115 (st₉ := [.inl (((m5 94 61) + (1 : Int32)) * (m5 94 11)), .inl nw, .inr (.inr (some 94))]) rfl rfl ?_
        refine zw_cv hm_184 dX12_findRoom_116 v_12_445_12 hm_185 [.inl (((m5 94 61) + (1 : Int32)) * (m5 94 11)), .inl nw] [] rfl (zT_rt (zT_zst hS m5) s_94 rfl) ⟨by omega, by omega⟩ rfl ?_
        show ma_wp X (d - 1) (w - 23) 185 0 [(0, .inr (.inr (some 94))), (1, .inl nw), (2, .inl (((m5 94 61) + (1 : Int32)) * (m5 94 11)))] [] (zst S m5) _
        refine zw_push hm_185 dX12_findInHalf_0 (v := .inr (.inr (some 94))) rfl ?_
        refine zw_gf hm_185 dX12_findInHalf_1 (v := .inl (m5 94 59)) (zT_is (zT_zst hS m5) s_94) (zT_t (zT_zst hS m5) s_94) rfl f_12_276_12 rfl ?_
        refine zw_push hm_185 dX12_findInHalf_4 (v := .inl nw) rfl ?_
        refine zw_stk hm_185 dX12_findInHalf_5 (st₉ := [.inl ((m5 94 59) + nw)]) rfl rfl ?_
        refine zw_push hm_185 dX12_findInHalf_6 (v := .inl (((m5 94 61) + (1 : Int32)) * (m5 94 11))) rfl ?_
        refine zw_if2 hm_185 dX12_findInHalf_7 (t := 12) rfl zc2_le ?_ ?_
        · intro hc
          rw [if_pos hc] at h
          refine zw_push hm_185 dX12_findInHalf_12 (v := .inr (.inr (some 94))) rfl ?_
          refine zw_gf hm_185 dX12_findInHalf_13 (v := .inl (m5 94 59)) (zT_is (zT_zst hS m5) s_94) (zT_t (zT_zst hS m5) s_94) rfl f_12_276_12 rfl ?_
          refine zw_sto hm_185 dX12_findInHalf_16 [(3, .inl (m5 94 59)), (0, .inr (.inr (some 94))), (1, .inl nw), (2, .inl (((m5 94 61) + (1 : Int32)) * (m5 94 11)))] rfl rfl rfl ?_
          refine zw_push hm_185 dX12_findInHalf_17 (v := .inr (.inr (some 94))) rfl ?_
          refine zw_stk hm_185 dX12_findInHalf_18 (st₉ := [.inr (.inr (some 94)), .inr (.inr (some 94))]) rfl rfl ?_
          refine zw_gf hm_185 dX12_findInHalf_19 (v := .inl (m5 94 59)) (zT_is (zT_zst hS m5) s_94) (zT_t (zT_zst hS m5) s_94) rfl f_12_276_12 rfl ?_
          refine zw_push hm_185 dX12_findInHalf_22 (v := .inl nw) rfl ?_
          refine zw_stk hm_185 dX12_findInHalf_23 (st₉ := [.inl ((m5 94 59) + nw), .inr (.inr (some 94))]) rfl rfl ?_
          refine zw_pf hm_185 dX12_findInHalf_24 (zT_is (zT_zst hS m5) s_94) (zT_t (zT_zst hS m5) s_94) p_12_276_12 zk_int ?_
          refine zw_push hm_185 dX12_findInHalf_27 (v := .inl (m5 94 59)) rfl ?_
          refine zw_iret hm_185 dX12_findInHalf_28 ?_
          show ma_wp X d w 184 119 [(3, .inl v6), (2, .inl ((mI S) 94 59)), (0, .inr (.inr (some 94))), (1, .inl nw)] [.inl (m5 94 59)] (ma_put (zst S m5) 94 59 (.inl ((m5 94 59) + nw))) _
          exact zw_iret hm_184 dX12_findRoom_119 (HQ _ _ h)
        · intro hc
          rw [if_neg hc] at h
          refine zw_push hm_185 dX12_findInHalf_10 (v := .inl (-1 : Int32)) rfl ?_
          refine zw_iret hm_185 dX12_findInHalf_11 ?_
          show ma_wp X d w 184 119 [(3, .inl v6), (2, .inl ((mI S) 94 59)), (0, .inr (.inr (some 94))), (1, .inl nw)] [.inl (-1 : Int32)] (zst S m5) _
          exact zw_iret hm_184 dX12_findRoom_119 (HQ _ _ h)
      · intro hc
        rw [if_neg hc] at h
        refine zw_push hm_184 dX12_findRoom_96 (v := .inl ((mI S) 94 59)) rfl ?_
        exact zw_iret hm_184 dX12_findRoom_97 (HQ _ _ h)
    · intro hc
      rw [if_neg hc] at h
      refine zw_push hm_185 dX12_findInHalf_10 (v := .inl (-1 : Int32)) rfl ?_
      refine zw_iret hm_185 dX12_findInHalf_11 ?_
      show ma_wp X d w 184 91 [(0, .inr (.inr (some 94))), (1, .inl nw)] [.inl (-1 : Int32)] S _
      refine zw_sto hm_184 dX12_findRoom_91 [(2, .inl (-1 : Int32)), (0, .inr (.inr (some 94))), (1, .inl nw)] rfl rfl rfl ?_
      refine zw_push hm_184 dX12_findRoom_92 (v := .inl (-1 : Int32)) rfl ?_
      refine zw_if0 hm_184 dX12_findRoom_93 (t := 98) rfl zc0_lt (fun _ => ?_) (fun hc => absurd (by decide) hc)
      refine zw_push hm_184 dX12_findRoom_98 (v := .inr (.inr (some 94))) rfl ?_
      refine zw_cv hm_184 dX12_findRoom_99 v_12_463_12 hm_206 [] [] rfl (zT_rt hS s_94 rfl) ⟨by omega, by omega⟩ rfl (h _ _ S _ (by omega) (by omega) hS rfl (fun o9 m7 hv => ?_))
      obtain ⟨v8, rfl, h⟩ := zmi_of hv
      show ma_wp X d w 184 102 [(2, .inl (-1 : Int32)), (0, .inr (.inr (some 94))), (1, .inl nw)] [.inl v8] (zst S m7) _
      refine zw_sto hm_184 dX12_findRoom_102 [(3, .inl v8), (2, .inl (-1 : Int32)), (0, .inr (.inr (some 94))), (1, .inl nw)] rfl rfl rfl ?_
      refine zw_push hm_184 dX12_findRoom_103 (v := .inr (.inr (some 94))) rfl ?_
      refine zw_push hm_184 dX12_findRoom_104 (v := .inl nw) rfl ?_
      refine zw_push hm_184 dX12_findRoom_105 (v := .inr (.inr (some 94))) rfl ?_
      refine zw_gf hm_184 dX12_findRoom_106 (v := .inl (m7 94 61)) (zT_is (zT_zst hS m7) s_94) (zT_t (zT_zst hS m7) s_94) rfl f_12_273_12 rfl ?_
      refine zw_push hm_184 dX12_findRoom_109 (v := .inl (1 : Int32)) rfl ?_
      refine zw_stk hm_184 dX12_findRoom_110 (st₉ := [.inl ((m7 94 61) + (1 : Int32)), .inl nw, .inr (.inr (some 94))]) rfl rfl ?_
      refine zw_push hm_184 dX12_findRoom_111 (v := .inr (.inr (some 94))) rfl ?_
      refine zw_gf hm_184 dX12_findRoom_112 (v := .inl (m7 94 11)) (zT_is (zT_zst hS m7) s_94) (zT_t (zT_zst hS m7) s_94) rfl f_12_202_12 rfl ?_
      refine zw_stk hm_184 dX12_findRoom_115 (st₉ := [.inl (((m7 94 61) + (1 : Int32)) * (m7 94 11)), .inl nw, .inr (.inr (some 94))]) rfl rfl ?_
      refine zw_cv hm_184 dX12_findRoom_116 v_12_445_12 hm_185 [.inl (((m7 94 61) + (1 : Int32)) * (m7 94 11)), .inl nw] [] rfl (zT_rt (zT_zst hS m7) s_94 rfl) ⟨by omega, by omega⟩ rfl ?_
      show ma_wp X (d - 1) (w - 23) 185 0 [(0, .inr (.inr (some 94))), (1, .inl nw), (2, .inl (((m7 94 61) + (1 : Int32)) * (m7 94 11)))] [] (zst S m7) _
      refine zw_push hm_185 dX12_findInHalf_0 (v := .inr (.inr (some 94))) rfl ?_
      refine zw_gf hm_185 dX12_findInHalf_1 (v := .inl (m7 94 59)) (zT_is (zT_zst hS m7) s_94) (zT_t (zT_zst hS m7) s_94) rfl f_12_276_12 rfl ?_
      refine zw_push hm_185 dX12_findInHalf_4 (v := .inl nw) rfl ?_
      refine zw_stk hm_185 dX12_findInHalf_5 (st₉ := [.inl ((m7 94 59) + nw)]) rfl rfl ?_
      refine zw_push hm_185 dX12_findInHalf_6 (v := .inl (((m7 94 61) + (1 : Int32)) * (m7 94 11))) rfl ?_
      refine zw_if2 hm_185 dX12_findInHalf_7 (t := 12) rfl zc2_le ?_ ?_
      · intro hc
        rw [if_pos hc] at h
        refine zw_push hm_185 dX12_findInHalf_12 (v := .inr (.inr (some 94))) rfl ?_
        refine zw_gf hm_185 dX12_findInHalf_13 (v := .inl (m7 94 59)) (zT_is (zT_zst hS m7) s_94) (zT_t (zT_zst hS m7) s_94) rfl f_12_276_12 rfl ?_
        refine zw_sto hm_185 dX12_findInHalf_16 [(3, .inl (m7 94 59)), (0, .inr (.inr (some 94))), (1, .inl nw), (2, .inl (((m7 94 61) + (1 : Int32)) * (m7 94 11)))] rfl rfl rfl ?_
        refine zw_push hm_185 dX12_findInHalf_17 (v := .inr (.inr (some 94))) rfl ?_
        refine zw_stk hm_185 dX12_findInHalf_18 (st₉ := [.inr (.inr (some 94)), .inr (.inr (some 94))]) rfl rfl ?_
        refine zw_gf hm_185 dX12_findInHalf_19 (v := .inl (m7 94 59)) (zT_is (zT_zst hS m7) s_94) (zT_t (zT_zst hS m7) s_94) rfl f_12_276_12 rfl ?_
        refine zw_push hm_185 dX12_findInHalf_22 (v := .inl nw) rfl ?_
        refine zw_stk hm_185 dX12_findInHalf_23 (st₉ := [.inl ((m7 94 59) + nw), .inr (.inr (some 94))]) rfl rfl ?_
        refine zw_pf hm_185 dX12_findInHalf_24 (zT_is (zT_zst hS m7) s_94) (zT_t (zT_zst hS m7) s_94) p_12_276_12 zk_int ?_
        refine zw_push hm_185 dX12_findInHalf_27 (v := .inl (m7 94 59)) rfl ?_
        refine zw_iret hm_185 dX12_findInHalf_28 ?_
        show ma_wp X d w 184 119 [(3, .inl v8), (2, .inl (-1 : Int32)), (0, .inr (.inr (some 94))), (1, .inl nw)] [.inl (m7 94 59)] (ma_put (zst S m7) 94 59 (.inl ((m7 94 59) + nw))) _
        exact zw_iret hm_184 dX12_findRoom_119 (HQ _ _ h)
      · intro hc
        rw [if_neg hc] at h
        refine zw_push hm_185 dX12_findInHalf_10 (v := .inl (-1 : Int32)) rfl ?_
        refine zw_iret hm_185 dX12_findInHalf_11 ?_
        show ma_wp X d w 184 119 [(3, .inl v8), (2, .inl (-1 : Int32)), (0, .inr (.inr (some 94))), (1, .inl nw)] [.inl (-1 : Int32)] (zst S m7) _
        exact zw_iret hm_184 dX12_findRoom_119 (HQ _ _ h)
  rw [if_neg hc1] at h
  by_cases hc2 : ((mI S) 94 10) = (3 : Int32)
  · rw [if_pos hc2] at h
    refine zw_jmp hm_184 dX12_findRoom_4 (t := 120) (st₉ := []) rfl rfl rfl (ma_jmp_tab (by rw [hc2]; decide +kernel)) ?_
    refine zw_push hm_184 dX12_findRoom_120 (v := .inr (.inr (some 94))) rfl ?_
    refine zw_push hm_184 dX12_findRoom_121 (v := .inl nw) rfl ?_
    refine zw_cv hm_184 dX12_findRoom_122 v_12_466_12 hm_210 [.inl nw] [] rfl (zT_rt hS s_94 rfl) ⟨by omega, by omega⟩ rfl (h _ _ S _ (by omega) (by omega) hS rfl (fun o9 m9 hv => ?_))
    obtain ⟨v10, rfl, h⟩ := zmi_of hv
    show ma_wp X d w 184 125 [(0, .inr (.inr (some 94))), (1, .inl nw)] [.inl v10] (zst S m9) _
    exact zw_iret hm_184 dX12_findRoom_125 (HQ _ _ h)
  rw [if_neg hc2] at h
  by_cases hc3 : ((mI S) 94 10) = (4 : Int32)
  · rw [if_pos hc3] at h
    refine zw_jmp hm_184 dX12_findRoom_4 (t := 138) (st₉ := []) rfl rfl rfl (ma_jmp_tab (by rw [hc3]; decide +kernel)) ?_
    refine zw_push hm_184 dX12_findRoom_138 (v := .inr (.inr (some 94))) rfl ?_
    refine zw_push hm_184 dX12_findRoom_139 (v := .inl nw) rfl ?_
    refine zw_cv hm_184 dX12_findRoom_140 v_12_475_12 hm_237 [.inl nw] [] rfl (zT_rt hS s_94 rfl) ⟨by omega, by omega⟩ rfl (h _ _ S _ (by omega) (by omega) hS rfl (fun o9 m11 hv => ?_))
    obtain ⟨v12, rfl, h⟩ := zmi_of hv
    show ma_wp X d w 184 143 [(0, .inr (.inr (some 94))), (1, .inl nw)] [.inl v12] (zst S m11) _
    exact zw_iret hm_184 dX12_findRoom_143 (HQ _ _ h)
  rw [if_neg hc3] at h
  by_cases hc4 : ((mI S) 94 10) = (5 : Int32)
  · rw [if_pos hc4] at h
    refine zw_jmp hm_184 dX12_findRoom_4 (t := 126) (st₉ := []) rfl rfl rfl (ma_jmp_tab (by rw [hc4]; decide +kernel)) ?_
    refine zw_push hm_184 dX12_findRoom_126 (v := .inr (.inr (some 94))) rfl ?_
    refine zw_push hm_184 dX12_findRoom_127 (v := .inl nw) rfl ?_
    refine zw_cv hm_184 dX12_findRoom_128 v_12_469_12 hm_217 [.inl nw] [] rfl (zT_rt hS s_94 rfl) ⟨by omega, by omega⟩ rfl (h _ _ S _ (by omega) (by omega) hS rfl (fun o9 m13 hv => ?_))
    obtain ⟨v14, rfl, h⟩ := zmi_of hv
    show ma_wp X d w 184 131 [(0, .inr (.inr (some 94))), (1, .inl nw)] [.inl v14] (zst S m13) _
    exact zw_iret hm_184 dX12_findRoom_131 (HQ _ _ h)
  rw [if_neg hc4] at h
  by_cases hc5 : ((mI S) 94 10) = (6 : Int32)
  · rw [if_pos hc5] at h
    refine zw_jmp hm_184 dX12_findRoom_4 (t := 132) (st₉ := []) rfl rfl rfl (ma_jmp_tab (by rw [hc5]; decide +kernel)) ?_
    refine zw_push hm_184 dX12_findRoom_132 (v := .inr (.inr (some 94))) rfl ?_
    refine zw_push hm_184 dX12_findRoom_133 (v := .inl nw) rfl ?_
    refine zw_cv hm_184 dX12_findRoom_134 v_12_472_12 hm_231 [.inl nw] [] rfl (zT_rt hS s_94 rfl) ⟨by omega, by omega⟩ rfl (h _ _ S _ (by omega) (by omega) hS rfl (fun o9 m15 hv => ?_))
    obtain ⟨v16, rfl, h⟩ := zmi_of hv
    show ma_wp X d w 184 137 [(0, .inr (.inr (some 94))), (1, .inl nw)] [.inl v16] (zst S m15) _
    exact zw_iret hm_184 dX12_findRoom_137 (HQ _ _ h)
  rw [if_neg hc5] at h
  refine zw_jmp hm_184 dX12_findRoom_4 (t := 138) (st₉ := []) rfl rfl rfl (ma_jmp_def (m := 6) (by decide) (fun j hj => by
      have hj2 : j = 0 ∨ j = 1 ∨ j = 2 ∨ j = 3 ∨ j = 4 ∨ j = 5 := by omega
      rcases hj2 with rfl | rfl | rfl | rfl | rfl | rfl
      · exact hc0
      · exact hc1
      · exact hc2
      · exact hc3
      · exact hc4
      · exact hc5
      ) rfl) ?_
  refine zw_push hm_184 dX12_findRoom_138 (v := .inr (.inr (some 94))) rfl ?_
  refine zw_push hm_184 dX12_findRoom_139 (v := .inl nw) rfl ?_
  refine zw_cv hm_184 dX12_findRoom_140 v_12_475_12 hm_237 [.inl nw] [] rfl (zT_rt hS s_94 rfl) ⟨by omega, by omega⟩ rfl (h _ _ S _ (by omega) (by omega) hS rfl (fun o9 m17 hv => ?_))
  obtain ⟨v18, rfl, h⟩ := zmi_of hv
  show ma_wp X d w 184 143 [(0, .inr (.inr (some 94))), (1, .inl nw)] [.inl v18] (zst S m17) _
  exact zw_iret hm_184 dX12_findRoom_143 (HQ _ _ h)
set_option maxHeartbeats 8000000 in
theorem sp_184 {X : Nat × (Nat → Int32)} {P : Option ma_V → (Nat → Nat → Int32) → Prop} {T : Nat} {m : Nat → Nat → Int32} (nw : Int32) (hV : zV m) (hpre0 : 1 ≤ nw.toInt) (hpre1 : nw.toInt ≤ 61) (r_W : zW (m 94 7) (m 98) (m 101) (m 102) (m 108)) (r_GW : zGW T (m 94 55) (m 109)) (r_GU : zGU T (m 94 46) (m 99)) (r_OW : zOw (m 99) (m 103) (m 111)) (r_DX : zDX (m 94 10) (m 99) (m 112) (m 113) (m 114) (m 94 55) (m 98) (m 101) (m 102) (m 108)) (r_GG : zGG (m 94 58) (m 94 56) (m 94 57) (m 106)) (r_HA : zHA (m 94 10) (m 94 11) (m 94 13) (m 94 14) (m 94 16) (m 94 61) (m 94 59) (m 94 60) (m 99) (m 102) (m 103) (m 111) (m 117) (m 98) (m 101) (m 108)) (r_RGc : zRG (m 94 10) (m 94 18) (m 94 64) (m 94 63) (m 99) (m 103) (m 102) (m 116)) (hpre10 : (m 94 58).toInt = 0 ∨ (m 94 10).toInt = 5) (KZ : ∀ v m₉, zV (zov wr_184 m m₉) → (zGW T (m₉ 94 55) (m₉ 109)) → (zGU T (m 94 46) (m₉ 99)) → (zOw (m₉ 99) (m₉ 103) (m₉ 111)) → (zDX (m 94 10) (m₉ 99) (m 112) (m₉ 113) (m₉ 114) (m₉ 94 55) (m 98) (m 101) (m 102) (m 108)) → (zGG (m₉ 94 58) (m₉ 94 56) (m₉ 94 57) (m₉ 106)) → (zHA (m 94 10) (m 94 11) (m 94 13) (m 94 14) (m 94 16) (m₉ 94 61) (m₉ 94 59) (m₉ 94 60) (m₉ 99) (m 102) (m₉ 103) (m₉ 111) (m₉ 117) (m 98) (m 101) (m 108)) → (zRG (m 94 10) (m 94 18) (m 94 64) (m₉ 94 63) (m₉ 99) (m₉ 103) (m 102) (m₉ 116)) → ((m₉ 94 58).toInt = 0 ∨ (m 94 10).toInt = 5) → (zPL (m 94 10) (m 94 11) (m 94 13) (m 94 14) (m₉ 94 61) (m₉ 94 59) (m₉ 94 60) (m 94 18) (m 94 64) (m₉ 99) (m 102) (m₉ 103) (m₉ 111) v nw) → P (some (.inl v)) (zov wr_184 m m₉)) : zm X 8 175 184 0 [(0, .inr (.inr (some 94))), (1, .inl nw)] m P := by
  have K : ∀ v m₉, zF wr_184 m m₉ → zV m₉ → (zGW T (m₉ 94 55) (m₉ 109)) → (zGU T (m₉ 94 46) (m₉ 99)) → (zOw (m₉ 99) (m₉ 103) (m₉ 111)) → (zDX (m₉ 94 10) (m₉ 99) (m₉ 112) (m₉ 113) (m₉ 114) (m₉ 94 55) (m₉ 98) (m₉ 101) (m₉ 102) (m₉ 108)) → (zGG (m₉ 94 58) (m₉ 94 56) (m₉ 94 57) (m₉ 106)) → (zHA (m₉ 94 10) (m₉ 94 11) (m₉ 94 13) (m₉ 94 14) (m₉ 94 16) (m₉ 94 61) (m₉ 94 59) (m₉ 94 60) (m₉ 99) (m₉ 102) (m₉ 103) (m₉ 111) (m₉ 117) (m₉ 98) (m₉ 101) (m₉ 108)) → (zRG (m₉ 94 10) (m₉ 94 18) (m₉ 94 64) (m₉ 94 63) (m₉ 99) (m₉ 103) (m₉ 102) (m₉ 116)) → ((m₉ 94 58).toInt = 0 ∨ (m₉ 94 10).toInt = 5) → (zPL (m₉ 94 10) (m₉ 94 11) (m₉ 94 13) (m₉ 94 14) (m₉ 94 61) (m₉ 94 59) (m₉ 94 60) (m₉ 94 18) (m₉ 94 64) (m₉ 99) (m₉ 102) (m₉ 103) (m₉ 111) v nw) → P (some (.inl v)) m₉ := by
    intro v m₉ hf z q0 q1 q2 q3 q4 q5 q6 q7 q8
    have e := zov_eq hf
    rw [e] at z ⊢
    try rw [e] at q0
    try rw [e] at q1
    try rw [e] at q2
    try rw [e] at q3
    try rw [e] at q4
    try rw [e] at q5
    try rw [e] at q6
    try rw [e] at q7
    try rw [e] at q8
    exact KZ v m₉ z q0 q1 q2 q3 q4 q5 q6 q7 q8
  refine g_184_0 nw ?_
  have f1 : 0 ≤ (m 94 58).toInt ∧ (m 94 58).toInt ≤ 1 := rs_94_58 (m := m) hV
  have f2 : 0 ≤ (m 94 10).toInt ∧ (m 94 10).toInt ≤ 6 := rs_94_10 (m := m) hV
  have li3 : (1 : Int32).toInt = 1 := rfl
  refine zd (fun (h4 : (m 94 10) = (1 : Int32)) => ?_) (fun (h4 : ¬ (m 94 10) = (1 : Int32)) => ?_)
  · skip
    have g5 := i_eq h4
    have f6 : 0 ≤ (m 94 59).toInt ∧ (m 94 59).toInt ≤ 4600 := rs_94_59 (m := m) hV
    have b7 := i_bd nw
    first | have e8 : ((m 94 59) + nw).toInt = (m 94 59).toInt + nw.toInt := i_add (by omega) (by omega) | have b9 := i_bd ((m 94 59) + nw)
    have f10 : 0 ≤ (m 94 11).toInt ∧ (m 94 11).toInt ≤ 1500 := rs_94_11 (m := m) hV
    refine zd (fun (h11 : ((m 94 59) + nw) ≤ (m 94 11)) => ?_) (fun (h11 : ¬ ((m 94 59) + nw) ≤ (m 94 11)) => ?_)
    · skip
      have g12 := i_le h11
      have li13 : (0 : Int32).toInt = 0 := rfl
      refine zd (fun (h14 : (m 94 59) < (0 : Int32)) => ?_) (fun (h14 : ¬ (m 94 59) < (0 : Int32)) => ?_)
      · skip
        have g15 := i_lt h14
        have hV16 : zV (ma_u m 94 59 ((m 94 59) + nw)) := us_94_59 hV (by omega) (by omega)
        refine sp_186  hV16 r_W r_GW r_GU r_OW r_DX (fun v2 m1 hV_m1 p0_m1 p1_m1 p2_m1 p3_m1 => zmi_n ?_)
        have p0_m1 : zGW T (m1 94 55) (m1 109) := p0_m1
        have p1_m1 : zGU T (m 94 46) (m1 99) := p1_m1
        have p2_m1 : zOw (m1 99) (m1 103) (m1 111) := p2_m1
        have p3_m1 : zDX (m 94 10) (m1 99) (m 112) (m1 113) (m1 114) (m1 94 55) (m 98) (m 101) (m 102) (m 108) := p3_m1
        have f17 : 0 ≤ (m1 94 59).toInt ∧ (m1 94 59).toInt ≤ 4600 := rs_94_59 (m := (zov wr_186 (ma_u m 94 59 ((m 94 59) + nw)) m1)) hV_m1
        first | have e18 : ((m1 94 59) + nw).toInt = (m1 94 59).toInt + nw.toInt := i_add (by omega) (by omega) | have b19 := i_bd ((m1 94 59) + nw)
        refine zd (fun (h20 : ((m1 94 59) + nw) ≤ (m 94 11)) => ?_) (fun (h20 : ¬ ((m1 94 59) + nw) ≤ (m 94 11)) => ?_)
        · skip
          have g21 := i_le h20
          have hV22 : zV (ma_u (zov wr_186 (ma_u m 94 59 ((m 94 59) + nw)) m1) 94 59 ((m1 94 59) + nw)) := us_94_59 hV_m1 (by omega) (by omega)
          exact K ((m1 94 59)) _ (zF_u (zF_zov (zF_u zF_rfl rfl) ws_186_184) rfl) hV22 p0_m1 p1_m1 p2_m1 p3_m1 r_GG (show zHA (m 94 10) (m 94 11) (m 94 13) (m 94 14) (m 94 16) (m 94 61) ((m1 94 59) + nw) (m 94 60) (m1 99) (m 102) (m1 103) (m1 111) (m 117) (m 98) (m 101) (m 108) from by first | (exact ⟨fun z => absurd z (by omega), fun z => absurd z (by omega)⟩) | (exact HA_up2 r_HA (by omega) (by omega) (by omega) (by omega) (by omega) (by omega) (by omega)) | (exfalso; omega; done) | (exfalso; contradiction; done)) (show zRG (m 94 10) (m 94 18) (m 94 64) (m 94 63) (m1 99) (m1 103) (m 102) (m 116) from by first | (exact fun z => absurd z (by omega)) | (exfalso; omega; done) | (exfalso; contradiction; done)) (show (m 94 58).toInt = 0 ∨ (m 94 10).toInt = 5 from by omega) (show zPL (m 94 10) (m 94 11) (m 94 13) (m 94 14) (m 94 61) ((m1 94 59) + nw) (m 94 60) (m 94 18) (m 94 64) (m1 99) (m 102) (m1 103) (m1 111) (m1 94 59) nw from by first | (exact PL_o (by omega) (by omega) (by omega) (by omega) (by omega)) | (exact PL_no (by decide)) | (exact PL_2 r_HA (by omega) (by omega) (by omega) (by omega)) | (exfalso; omega; done) | (exfalso; contradiction; done))
        · skip
          have g23 := i_nle h20
          have li24 : (-1 : Int32).toInt = -1 := rfl
          exact K ((-1 : Int32)) _ (zF_zov (zF_u zF_rfl rfl) ws_186_184) hV_m1 p0_m1 p1_m1 p2_m1 p3_m1 r_GG (show zHA (m 94 10) (m 94 11) (m 94 13) (m 94 14) (m 94 16) (m 94 61) (m1 94 59) (m 94 60) (m1 99) (m 102) (m1 103) (m1 111) (m 117) (m 98) (m 101) (m 108) from by first | (exact ⟨fun z => absurd z (by omega), fun z => absurd z (by omega)⟩) | (exact HA_up2 r_HA (by omega) (by omega) (by omega) (by omega) (by omega) (by omega) (by omega)) | (exfalso; omega; done) | (exfalso; contradiction; done)) (show zRG (m 94 10) (m 94 18) (m 94 64) (m 94 63) (m1 99) (m1 103) (m 102) (m 116) from by first | (exact fun z => absurd z (by omega)) | (exfalso; omega; done) | (exfalso; contradiction; done)) (show (m 94 58).toInt = 0 ∨ (m 94 10).toInt = 5 from by omega) (show zPL (m 94 10) (m 94 11) (m 94 13) (m 94 14) (m 94 61) (m1 94 59) (m 94 60) (m 94 18) (m 94 64) (m1 99) (m 102) (m1 103) (m1 111) (-1 : Int32) nw from by first | (exact PL_no (by decide)) | (exact PL_o (by omega) (by omega) (by omega) (by omega) (by omega)) | (exact PL_2 r_HA (by omega) (by omega) (by omega) (by omega)) | (exfalso; omega; done) | (exfalso; contradiction; done))
      · skip
        have g25 := i_nlt h14
        have hV26 : zV (ma_u m 94 59 ((m 94 59) + nw)) := us_94_59 hV (by omega) (by omega)
        exact K ((m 94 59)) _ (zF_u zF_rfl rfl) hV26 r_GW r_GU r_OW r_DX r_GG (show zHA (m 94 10) (m 94 11) (m 94 13) (m 94 14) (m 94 16) (m 94 61) ((m 94 59) + nw) (m 94 60) (m 99) (m 102) (m 103) (m 111) (m 117) (m 98) (m 101) (m 108) from by first | (exact ⟨fun z => absurd z (by omega), fun z => absurd z (by omega)⟩) | (exact HA_up2 r_HA (by omega) (by omega) (by omega) (by omega) (by omega) (by omega) (by omega)) | (exfalso; omega; done) | (exfalso; contradiction; done)) r_RGc (show (m 94 58).toInt = 0 ∨ (m 94 10).toInt = 5 from by omega) (show zPL (m 94 10) (m 94 11) (m 94 13) (m 94 14) (m 94 61) ((m 94 59) + nw) (m 94 60) (m 94 18) (m 94 64) (m 99) (m 102) (m 103) (m 111) (m 94 59) nw from by first | (exact PL_o (by omega) (by omega) (by omega) (by omega) (by omega)) | (exact PL_no (by decide)) | (exact PL_2 r_HA (by omega) (by omega) (by omega) (by omega)) | (exfalso; omega; done) | (exfalso; contradiction; done))
    · skip
      have g27 := i_nle h11
      refine sp_186  hV r_W r_GW r_GU r_OW r_DX (fun v4 m3 hV_m3 p0_m3 p1_m3 p2_m3 p3_m3 => zmi_n ?_)
      have p0_m3 : zGW T (m3 94 55) (m3 109) := p0_m3
      have p1_m3 : zGU T (m 94 46) (m3 99) := p1_m3
      have p2_m3 : zOw (m3 99) (m3 103) (m3 111) := p2_m3
      have p3_m3 : zDX (m 94 10) (m3 99) (m 112) (m3 113) (m3 114) (m3 94 55) (m 98) (m 101) (m 102) (m 108) := p3_m3
      have f28 : 0 ≤ (m3 94 59).toInt ∧ (m3 94 59).toInt ≤ 4600 := rs_94_59 (m := (zov wr_186 m m3)) hV_m3
      first | have e29 : ((m3 94 59) + nw).toInt = (m3 94 59).toInt + nw.toInt := i_add (by omega) (by omega) | have b30 := i_bd ((m3 94 59) + nw)
      refine zd (fun (h31 : ((m3 94 59) + nw) ≤ (m 94 11)) => ?_) (fun (h31 : ¬ ((m3 94 59) + nw) ≤ (m 94 11)) => ?_)
      · skip
        have g32 := i_le h31
        have hV33 : zV (ma_u (zov wr_186 m m3) 94 59 ((m3 94 59) + nw)) := us_94_59 hV_m3 (by omega) (by omega)
        exact K ((m3 94 59)) _ (zF_u (zF_zov zF_rfl ws_186_184) rfl) hV33 p0_m3 p1_m3 p2_m3 p3_m3 r_GG (show zHA (m 94 10) (m 94 11) (m 94 13) (m 94 14) (m 94 16) (m 94 61) ((m3 94 59) + nw) (m 94 60) (m3 99) (m 102) (m3 103) (m3 111) (m 117) (m 98) (m 101) (m 108) from by first | (exact ⟨fun z => absurd z (by omega), fun z => absurd z (by omega)⟩) | (exact HA_up2 r_HA (by omega) (by omega) (by omega) (by omega) (by omega) (by omega) (by omega)) | (exfalso; omega; done) | (exfalso; contradiction; done)) (show zRG (m 94 10) (m 94 18) (m 94 64) (m 94 63) (m3 99) (m3 103) (m 102) (m 116) from by first | (exact fun z => absurd z (by omega)) | (exfalso; omega; done) | (exfalso; contradiction; done)) (show (m 94 58).toInt = 0 ∨ (m 94 10).toInt = 5 from by omega) (show zPL (m 94 10) (m 94 11) (m 94 13) (m 94 14) (m 94 61) ((m3 94 59) + nw) (m 94 60) (m 94 18) (m 94 64) (m3 99) (m 102) (m3 103) (m3 111) (m3 94 59) nw from by first | (exact PL_o (by omega) (by omega) (by omega) (by omega) (by omega)) | (exact PL_no (by decide)) | (exact PL_2 r_HA (by omega) (by omega) (by omega) (by omega)) | (exfalso; omega; done) | (exfalso; contradiction; done))
      · skip
        have g34 := i_nle h31
        have li35 : (-1 : Int32).toInt = -1 := rfl
        exact K ((-1 : Int32)) _ (zF_zov zF_rfl ws_186_184) hV_m3 p0_m3 p1_m3 p2_m3 p3_m3 r_GG (show zHA (m 94 10) (m 94 11) (m 94 13) (m 94 14) (m 94 16) (m 94 61) (m3 94 59) (m 94 60) (m3 99) (m 102) (m3 103) (m3 111) (m 117) (m 98) (m 101) (m 108) from by first | (exact ⟨fun z => absurd z (by omega), fun z => absurd z (by omega)⟩) | (exact HA_up2 r_HA (by omega) (by omega) (by omega) (by omega) (by omega) (by omega) (by omega)) | (exfalso; omega; done) | (exfalso; contradiction; done)) (show zRG (m 94 10) (m 94 18) (m 94 64) (m 94 63) (m3 99) (m3 103) (m 102) (m 116) from by first | (exact fun z => absurd z (by omega)) | (exfalso; omega; done) | (exfalso; contradiction; done)) (show (m 94 58).toInt = 0 ∨ (m 94 10).toInt = 5 from by omega) (show zPL (m 94 10) (m 94 11) (m 94 13) (m 94 14) (m 94 61) (m3 94 59) (m 94 60) (m 94 18) (m 94 64) (m3 99) (m 102) (m3 103) (m3 111) (-1 : Int32) nw from by first | (exact PL_no (by decide)) | (exact PL_o (by omega) (by omega) (by omega) (by omega) (by omega)) | (exact PL_2 r_HA (by omega) (by omega) (by omega) (by omega)) | (exfalso; omega; done) | (exfalso; contradiction; done))
  · skip
    have g36 := i_ne h4
    have li37 : (2 : Int32).toInt = 2 := rfl
    refine zd (fun (h38 : (m 94 10) = (2 : Int32)) => ?_) (fun (h38 : ¬ (m 94 10) = (2 : Int32)) => ?_)
    · skip
      have g39 := i_eq h38
      have f40 : 0 ≤ (m 94 59).toInt ∧ (m 94 59).toInt ≤ 4600 := rs_94_59 (m := m) hV
      have b41 := i_bd nw
      first | have e42 : ((m 94 59) + nw).toInt = (m 94 59).toInt + nw.toInt := i_add (by omega) (by omega) | have b43 := i_bd ((m 94 59) + nw)
      have f44 : 0 ≤ (m 94 61).toInt ∧ (m 94 61).toInt ≤ 1 := rs_94_61 (m := m) hV
      first | have e45 : ((m 94 61) + (1 : Int32)).toInt = (m 94 61).toInt + (1) := i_addk rfl (by omega) (by omega) | have b46 := i_bd ((m 94 61) + (1 : Int32))
      have f47 : 0 ≤ (m 94 11).toInt ∧ (m 94 11).toInt ≤ 1500 := rs_94_11 (m := m) hV
      first | have f48 := i_mul01 (x := ((m 94 61) + (1 : Int32))) (y := (m 94 11)) (by omega) (by omega) (by omega) (by omega) | have b49 := i_bd (((m 94 61) + (1 : Int32)) * (m 94 11))
      refine zd (fun (h50 : ((m 94 59) + nw) ≤ (((m 94 61) + (1 : Int32)) * (m 94 11))) => ?_) (fun (h50 : ¬ ((m 94 59) + nw) ≤ (((m 94 61) + (1 : Int32)) * (m 94 11))) => ?_)
      · skip
        have g51 := i_le h50
        have li52 : (0 : Int32).toInt = 0 := rfl
        refine zd (fun (h53 : (m 94 59) < (0 : Int32)) => ?_) (fun (h53 : ¬ (m 94 59) < (0 : Int32)) => ?_)
        · skip
          have g54 := i_lt h53
          have hV55 : zV (ma_u m 94 59 ((m 94 59) + nw)) := us_94_59 hV (by omega) (by omega)
          refine sp_206  hV55 r_W r_GW r_GU r_OW r_DX (show zHA (m 94 10) (m 94 11) (m 94 13) (m 94 14) (m 94 16) (m 94 61) ((m 94 59) + nw) (m 94 60) (m 99) (m 102) (m 103) (m 111) (m 117) (m 98) (m 101) (m 108) from by first | (exact ⟨fun z => absurd z (by omega), fun z => absurd z (by omega)⟩) | (exact HA_up2 r_HA (by omega) (by omega) (by omega) (by omega) (by omega) (by omega) (by omega)) | (exfalso; omega; done) | (exfalso; contradiction; done)) (show (m 94 10).toInt = 2 from by omega) (fun v6 m5 hV_m5 p0_m5 p1_m5 p2_m5 p3_m5 p4_m5 => zmi_n ?_)
          have p0_m5 : zGW T (m5 94 55) (m5 109) := p0_m5
          have p1_m5 : zGU T (m 94 46) (m5 99) := p1_m5
          have p2_m5 : zOw (m5 99) (m5 103) (m5 111) := p2_m5
          have p3_m5 : zDX (m 94 10) (m5 99) (m 112) (m5 113) (m5 114) (m5 94 55) (m 98) (m 101) (m 102) (m 108) := p3_m5
          have p4_m5 : zHA (m 94 10) (m 94 11) (m 94 13) (m 94 14) (m 94 16) (m5 94 61) (m5 94 59) (m5 94 60) (m5 99) (m 102) (m5 103) (m5 111) (m 117) (m 98) (m 101) (m 108) := p4_m5
          have f56 : 0 ≤ (m5 94 59).toInt ∧ (m5 94 59).toInt ≤ 4600 := rs_94_59 (m := (zov wr_206 (ma_u m 94 59 ((m 94 59) + nw)) m5)) hV_m5
          first | have e57 : ((m5 94 59) + nw).toInt = (m5 94 59).toInt + nw.toInt := i_add (by omega) (by omega) | have b58 := i_bd ((m5 94 59) + nw)
          have f59 : 0 ≤ (m5 94 61).toInt ∧ (m5 94 61).toInt ≤ 1 := rs_94_61 (m := (zov wr_206 (ma_u m 94 59 ((m 94 59) + nw)) m5)) hV_m5
          first | have e60 : ((m5 94 61) + (1 : Int32)).toInt = (m5 94 61).toInt + (1) := i_addk rfl (by omega) (by omega) | have b61 := i_bd ((m5 94 61) + (1 : Int32))
          first | have f62 := i_mul01 (x := ((m5 94 61) + (1 : Int32))) (y := (m 94 11)) (by omega) (by omega) (by omega) (by omega) | have b63 := i_bd (((m5 94 61) + (1 : Int32)) * (m 94 11))
          refine zd (fun (h64 : ((m5 94 59) + nw) ≤ (((m5 94 61) + (1 : Int32)) * (m 94 11))) => ?_) (fun (h64 : ¬ ((m5 94 59) + nw) ≤ (((m5 94 61) + (1 : Int32)) * (m 94 11))) => ?_)
          · skip
            have g65 := i_le h64
            have hV66 : zV (ma_u (zov wr_206 (ma_u m 94 59 ((m 94 59) + nw)) m5) 94 59 ((m5 94 59) + nw)) := us_94_59 hV_m5 (by omega) (by omega)
            exact K ((m5 94 59)) _ (zF_u (zF_zov (zF_u zF_rfl rfl) ws_206_184) rfl) hV66 p0_m5 p1_m5 p2_m5 p3_m5 r_GG (show zHA (m 94 10) (m 94 11) (m 94 13) (m 94 14) (m 94 16) (m5 94 61) ((m5 94 59) + nw) (m5 94 60) (m5 99) (m 102) (m5 103) (m5 111) (m 117) (m 98) (m 101) (m 108) from by first | (exact ⟨fun z => absurd z (by omega), fun z => absurd z (by omega)⟩) | (exact HA_up2 p4_m5 (by omega) (by omega) (by omega) (by omega) (by omega) (by omega) (by omega)) | (exfalso; omega; done) | (exfalso; contradiction; done)) (show zRG (m 94 10) (m 94 18) (m 94 64) (m 94 63) (m5 99) (m5 103) (m 102) (m 116) from by first | (exact fun z => absurd z (by omega)) | (exfalso; omega; done) | (exfalso; contradiction; done)) (show (m 94 58).toInt = 0 ∨ (m 94 10).toInt = 5 from by omega) (show zPL (m 94 10) (m 94 11) (m 94 13) (m 94 14) (m5 94 61) ((m5 94 59) + nw) (m5 94 60) (m 94 18) (m 94 64) (m5 99) (m 102) (m5 103) (m5 111) (m5 94 59) nw from by first | (exact PL_o (by omega) (by omega) (by omega) (by omega) (by omega)) | (exact PL_no (by decide)) | (exact PL_2 p4_m5 (by omega) (by omega) (by omega) (by omega)) | (exfalso; omega; done) | (exfalso; contradiction; done))
          · skip
            have g67 := i_nle h64
            have li68 : (-1 : Int32).toInt = -1 := rfl
            exact K ((-1 : Int32)) _ (zF_zov (zF_u zF_rfl rfl) ws_206_184) hV_m5 p0_m5 p1_m5 p2_m5 p3_m5 r_GG p4_m5 (show zRG (m 94 10) (m 94 18) (m 94 64) (m 94 63) (m5 99) (m5 103) (m 102) (m 116) from by first | (exact fun z => absurd z (by omega)) | (exfalso; omega; done) | (exfalso; contradiction; done)) (show (m 94 58).toInt = 0 ∨ (m 94 10).toInt = 5 from by omega) (show zPL (m 94 10) (m 94 11) (m 94 13) (m 94 14) (m5 94 61) (m5 94 59) (m5 94 60) (m 94 18) (m 94 64) (m5 99) (m 102) (m5 103) (m5 111) (-1 : Int32) nw from by first | (exact PL_no (by decide)) | (exact PL_o (by omega) (by omega) (by omega) (by omega) (by omega)) | (exact PL_2 p4_m5 (by omega) (by omega) (by omega) (by omega)) | (exfalso; omega; done) | (exfalso; contradiction; done))
        · skip
          have g69 := i_nlt h53
          have hV70 : zV (ma_u m 94 59 ((m 94 59) + nw)) := us_94_59 hV (by omega) (by omega)
          exact K ((m 94 59)) _ (zF_u zF_rfl rfl) hV70 r_GW r_GU r_OW r_DX r_GG (show zHA (m 94 10) (m 94 11) (m 94 13) (m 94 14) (m 94 16) (m 94 61) ((m 94 59) + nw) (m 94 60) (m 99) (m 102) (m 103) (m 111) (m 117) (m 98) (m 101) (m 108) from by first | (exact HA_up2 r_HA (by omega) (by omega) (by omega) (by omega) (by omega) (by omega) (by omega)) | (exact ⟨fun z => absurd z (by omega), fun z => absurd z (by omega)⟩) | (exfalso; omega; done) | (exfalso; contradiction; done)) r_RGc (show (m 94 58).toInt = 0 ∨ (m 94 10).toInt = 5 from by omega) (show zPL (m 94 10) (m 94 11) (m 94 13) (m 94 14) (m 94 61) ((m 94 59) + nw) (m 94 60) (m 94 18) (m 94 64) (m 99) (m 102) (m 103) (m 111) (m 94 59) nw from by first | (exact PL_2 r_HA (by omega) (by omega) (by omega) (by omega)) | (exact PL_no (by decide)) | (exact PL_o (by omega) (by omega) (by omega) (by omega) (by omega)) | (exfalso; omega; done) | (exfalso; contradiction; done))
      · skip
        have g71 := i_nle h50
        refine sp_206  hV r_W r_GW r_GU r_OW r_DX r_HA (show (m 94 10).toInt = 2 from by omega) (fun v8 m7 hV_m7 p0_m7 p1_m7 p2_m7 p3_m7 p4_m7 => zmi_n ?_)
        have p0_m7 : zGW T (m7 94 55) (m7 109) := p0_m7
        have p1_m7 : zGU T (m 94 46) (m7 99) := p1_m7
        have p2_m7 : zOw (m7 99) (m7 103) (m7 111) := p2_m7
        have p3_m7 : zDX (m 94 10) (m7 99) (m 112) (m7 113) (m7 114) (m7 94 55) (m 98) (m 101) (m 102) (m 108) := p3_m7
        have p4_m7 : zHA (m 94 10) (m 94 11) (m 94 13) (m 94 14) (m 94 16) (m7 94 61) (m7 94 59) (m7 94 60) (m7 99) (m 102) (m7 103) (m7 111) (m 117) (m 98) (m 101) (m 108) := p4_m7
        have f72 : 0 ≤ (m7 94 59).toInt ∧ (m7 94 59).toInt ≤ 4600 := rs_94_59 (m := (zov wr_206 m m7)) hV_m7
        first | have e73 : ((m7 94 59) + nw).toInt = (m7 94 59).toInt + nw.toInt := i_add (by omega) (by omega) | have b74 := i_bd ((m7 94 59) + nw)
        have f75 : 0 ≤ (m7 94 61).toInt ∧ (m7 94 61).toInt ≤ 1 := rs_94_61 (m := (zov wr_206 m m7)) hV_m7
        first | have e76 : ((m7 94 61) + (1 : Int32)).toInt = (m7 94 61).toInt + (1) := i_addk rfl (by omega) (by omega) | have b77 := i_bd ((m7 94 61) + (1 : Int32))
        first | have f78 := i_mul01 (x := ((m7 94 61) + (1 : Int32))) (y := (m 94 11)) (by omega) (by omega) (by omega) (by omega) | have b79 := i_bd (((m7 94 61) + (1 : Int32)) * (m 94 11))
        refine zd (fun (h80 : ((m7 94 59) + nw) ≤ (((m7 94 61) + (1 : Int32)) * (m 94 11))) => ?_) (fun (h80 : ¬ ((m7 94 59) + nw) ≤ (((m7 94 61) + (1 : Int32)) * (m 94 11))) => ?_)
        · skip
          have g81 := i_le h80
          have hV82 : zV (ma_u (zov wr_206 m m7) 94 59 ((m7 94 59) + nw)) := us_94_59 hV_m7 (by omega) (by omega)
          exact K ((m7 94 59)) _ (zF_u (zF_zov zF_rfl ws_206_184) rfl) hV82 p0_m7 p1_m7 p2_m7 p3_m7 r_GG (show zHA (m 94 10) (m 94 11) (m 94 13) (m 94 14) (m 94 16) (m7 94 61) ((m7 94 59) + nw) (m7 94 60) (m7 99) (m 102) (m7 103) (m7 111) (m 117) (m 98) (m 101) (m 108) from by first | (exact HA_up2 p4_m7 (by omega) (by omega) (by omega) (by omega) (by omega) (by omega) (by omega)) | (exact ⟨fun z => absurd z (by omega), fun z => absurd z (by omega)⟩) | (exfalso; omega; done) | (exfalso; contradiction; done)) (show zRG (m 94 10) (m 94 18) (m 94 64) (m 94 63) (m7 99) (m7 103) (m 102) (m 116) from by first | (exact fun z => absurd z (by omega)) | (exfalso; omega; done) | (exfalso; contradiction; done)) (show (m 94 58).toInt = 0 ∨ (m 94 10).toInt = 5 from by omega) (show zPL (m 94 10) (m 94 11) (m 94 13) (m 94 14) (m7 94 61) ((m7 94 59) + nw) (m7 94 60) (m 94 18) (m 94 64) (m7 99) (m 102) (m7 103) (m7 111) (m7 94 59) nw from by first | (exact PL_2 p4_m7 (by omega) (by omega) (by omega) (by omega)) | (exact PL_no (by decide)) | (exact PL_o (by omega) (by omega) (by omega) (by omega) (by omega)) | (exfalso; omega; done) | (exfalso; contradiction; done))
        · skip
          have g83 := i_nle h80
          have li84 : (-1 : Int32).toInt = -1 := rfl
          exact K ((-1 : Int32)) _ (zF_zov zF_rfl ws_206_184) hV_m7 p0_m7 p1_m7 p2_m7 p3_m7 r_GG p4_m7 (show zRG (m 94 10) (m 94 18) (m 94 64) (m 94 63) (m7 99) (m7 103) (m 102) (m 116) from by first | (exact fun z => absurd z (by omega)) | (exfalso; omega; done) | (exfalso; contradiction; done)) (show (m 94 58).toInt = 0 ∨ (m 94 10).toInt = 5 from by omega) (show zPL (m 94 10) (m 94 11) (m 94 13) (m 94 14) (m7 94 61) (m7 94 59) (m7 94 60) (m 94 18) (m 94 64) (m7 99) (m 102) (m7 103) (m7 111) (-1 : Int32) nw from by first | (exact PL_no (by decide)) | (exact PL_o (by omega) (by omega) (by omega) (by omega) (by omega)) | (exact PL_2 p4_m7 (by omega) (by omega) (by omega) (by omega)) | (exfalso; omega; done) | (exfalso; contradiction; done))
    · skip
      have g85 := i_ne h38
      have li86 : (3 : Int32).toInt = 3 := rfl
      refine zd (fun (h87 : (m 94 10) = (3 : Int32)) => ?_) (fun (h87 : ¬ (m 94 10) = (3 : Int32)) => ?_)
      · skip
        have g88 := i_eq h87
        have b89 := i_bd nw
        refine sp_210 (nw) hV (by omega) (by omega) r_W r_GW r_GU r_OW r_DX r_HA (show (m 94 10).toInt = 3 from by omega) (fun v10 m9 hV_m9 p0_m9 p1_m9 p2_m9 p3_m9 p4_m9 p5_m9 => zmi_n ?_)
        have p0_m9 : zGW T (m9 94 55) (m9 109) := p0_m9
        have p1_m9 : zGU T (m 94 46) (m9 99) := p1_m9
        have p2_m9 : zOw (m9 99) (m9 103) (m9 111) := p2_m9
        have p3_m9 : zDX (m 94 10) (m9 99) (m 112) (m9 113) (m9 114) (m9 94 55) (m 98) (m 101) (m 102) (m 108) := p3_m9
        have p4_m9 : zHA (m 94 10) (m 94 11) (m 94 13) (m 94 14) (m 94 16) (m9 94 61) (m9 94 59) (m9 94 60) (m9 99) (m 102) (m9 103) (m9 111) (m9 117) (m 98) (m 101) (m 108) := p4_m9
        have p5_m9 : zPL (m 94 10) (m 94 11) (m 94 13) (m 94 14) (m9 94 61) (m9 94 59) (m9 94 60) (m 94 18) (m 94 64) (m9 99) (m 102) (m9 103) (m9 111) v10 nw := p5_m9
        have b90 := i_bd v10
        exact K (v10) _ (zF_zov zF_rfl ws_210_184) hV_m9 p0_m9 p1_m9 p2_m9 p3_m9 r_GG p4_m9 (show zRG (m 94 10) (m 94 18) (m 94 64) (m 94 63) (m9 99) (m9 103) (m 102) (m 116) from by first | (exact fun z => absurd z (by omega)) | (exfalso; omega; done) | (exfalso; contradiction; done)) (show (m 94 58).toInt = 0 ∨ (m 94 10).toInt = 5 from by omega) p5_m9
      · skip
        have g91 := i_ne h87
        have li92 : (4 : Int32).toInt = 4 := rfl
        refine zd (fun (h93 : (m 94 10) = (4 : Int32)) => ?_) (fun (h93 : ¬ (m 94 10) = (4 : Int32)) => ?_)
        · skip
          have g94 := i_eq h93
          have b95 := i_bd nw
          refine sp_237 (nw) hV r_W r_GW r_GU r_OW r_DX (fun v12 m11 hV_m11 p0_m11 p1_m11 p2_m11 p3_m11 p4_m11 => zmi_n ?_)
          have p0_m11 : zGW T (m11 94 55) (m11 109) := p0_m11
          have p1_m11 : zGU T (m 94 46) (m11 99) := p1_m11
          have p2_m11 : zOw (m11 99) (m 103) (m11 111) := p2_m11
          have p3_m11 : zDX (m 94 10) (m11 99) (m 112) (m11 113) (m11 114) (m11 94 55) (m 98) (m 101) (m 102) (m 108) := p3_m11
          have p4_m11 : -1 ≤ v12.toInt ∧ v12.toInt ≤ 1500 := p4_m11
          have b96 := i_bd v12
          exact K (v12) _ (zF_zov zF_rfl ws_237_184) hV_m11 p0_m11 p1_m11 p2_m11 p3_m11 r_GG (show zHA (m 94 10) (m 94 11) (m 94 13) (m 94 14) (m 94 16) (m 94 61) (m 94 59) (m 94 60) (m11 99) (m 102) (m 103) (m11 111) (m 117) (m 98) (m 101) (m 108) from by first | (exact ⟨fun z => absurd z (by omega), fun z => absurd z (by omega)⟩) | (exact HA_up2 r_HA (by omega) (by omega) (by omega) (by omega) (by omega) (by omega) (by omega)) | (exfalso; omega; done) | (exfalso; contradiction; done)) (show zRG (m 94 10) (m 94 18) (m 94 64) (m 94 63) (m11 99) (m 103) (m 102) (m 116) from by first | (exact fun z => absurd z (by omega)) | (exfalso; omega; done) | (exfalso; contradiction; done)) (show (m 94 58).toInt = 0 ∨ (m 94 10).toInt = 5 from by omega) (show zPL (m 94 10) (m 94 11) (m 94 13) (m 94 14) (m 94 61) (m 94 59) (m 94 60) (m 94 18) (m 94 64) (m11 99) (m 102) (m 103) (m11 111) v12 nw from by first | (exact PL_o (by omega) (by omega) (by omega) (by omega) (by omega)) | (exact PL_no (by decide)) | (exact PL_2 r_HA (by omega) (by omega) (by omega) (by omega)) | (exfalso; omega; done) | (exfalso; contradiction; done))
        · skip
          have g97 := i_ne h93
          have li98 : (5 : Int32).toInt = 5 := rfl
          refine zd (fun (h99 : (m 94 10) = (5 : Int32)) => ?_) (fun (h99 : ¬ (m 94 10) = (5 : Int32)) => ?_)
          · skip
            have g100 := i_eq h99
            have b101 := i_bd nw
            refine sp_217 (nw) hV r_W r_GW r_GU r_OW r_DX r_GG (show (m 94 10).toInt = 5 from by omega) (fun v14 m13 hV_m13 p0_m13 p1_m13 p2_m13 p3_m13 p4_m13 p5_m13 => zmi_n ?_)
            have p0_m13 : zGW T (m13 94 55) (m13 109) := p0_m13
            have p1_m13 : zGU T (m 94 46) (m13 99) := p1_m13
            have p2_m13 : zOw (m13 99) (m 103) (m13 111) := p2_m13
            have p3_m13 : zDX (m 94 10) (m13 99) (m 112) (m13 113) (m13 114) (m13 94 55) (m 98) (m 101) (m 102) (m 108) := p3_m13
            have p4_m13 : zGG (m13 94 58) (m13 94 56) (m13 94 57) (m13 106) := p4_m13
            have p5_m13 : -1 ≤ v14.toInt ∧ v14.toInt ≤ 1500 := p5_m13
            have b102 := i_bd v14
            have f103 : 0 ≤ (m13 94 58).toInt ∧ (m13 94 58).toInt ≤ 1 := rs_94_58 (m := (zov wr_217 m m13)) hV_m13
            exact K (v14) _ (zF_zov zF_rfl ws_217_184) hV_m13 p0_m13 p1_m13 p2_m13 p3_m13 p4_m13 (show zHA (m 94 10) (m 94 11) (m 94 13) (m 94 14) (m 94 16) (m 94 61) (m 94 59) (m 94 60) (m13 99) (m 102) (m 103) (m13 111) (m 117) (m 98) (m 101) (m 108) from by first | (exact ⟨fun z => absurd z (by omega), fun z => absurd z (by omega)⟩) | (exact HA_up2 r_HA (by omega) (by omega) (by omega) (by omega) (by omega) (by omega) (by omega)) | (exfalso; omega; done) | (exfalso; contradiction; done)) (show zRG (m 94 10) (m 94 18) (m 94 64) (m 94 63) (m13 99) (m 103) (m 102) (m 116) from by first | (exact fun z => absurd z (by omega)) | (exfalso; omega; done) | (exfalso; contradiction; done)) (show (m13 94 58).toInt = 0 ∨ (m 94 10).toInt = 5 from by omega) (show zPL (m 94 10) (m 94 11) (m 94 13) (m 94 14) (m 94 61) (m 94 59) (m 94 60) (m 94 18) (m 94 64) (m13 99) (m 102) (m 103) (m13 111) v14 nw from by first | (exact PL_o (by omega) (by omega) (by omega) (by omega) (by omega)) | (exact PL_no (by decide)) | (exact PL_2 r_HA (by omega) (by omega) (by omega) (by omega)) | (exfalso; omega; done) | (exfalso; contradiction; done))
          · skip
            have g104 := i_ne h99
            have li105 : (6 : Int32).toInt = 6 := rfl
            refine zd (fun (h106 : (m 94 10) = (6 : Int32)) => ?_) (fun (h106 : ¬ (m 94 10) = (6 : Int32)) => ?_)
            · skip
              have g107 := i_eq h106
              have b108 := i_bd nw
              refine sp_231 (nw) hV (by omega) (by omega) r_W r_GW r_GU r_OW r_DX (show zRG1 (m 94 18) (m 94 64) (m 94 63) (m 99) (m 103) (m 102) (m 116) from by first | (exact r_RGc (by omega)) | (exfalso; omega; done) | (exfalso; contradiction; done)) (show (m 94 10).toInt = 6 from by omega) (fun v16 m15 hV_m15 p0_m15 p1_m15 p2_m15 p3_m15 p4_m15 p5_m15 p6_m15 => zmi_n ?_)
              have p0_m15 : zGW T (m15 94 55) (m15 109) := p0_m15
              have p1_m15 : zGU T (m 94 46) (m15 99) := p1_m15
              have p2_m15 : zOw (m15 99) (m15 103) (m15 111) := p2_m15
              have p3_m15 : zDX (m 94 10) (m15 99) (m 112) (m15 113) (m15 114) (m15 94 55) (m 98) (m 101) (m 102) (m 108) := p3_m15
              have p4_m15 : zRG1 (m 94 18) (m 94 64) (m15 94 63) (m15 99) (m15 103) (m 102) (m15 116) := p4_m15
              have p5_m15 : v16.toInt = -1 ∨ (0 ≤ v16.toInt ∧ v16.toInt + nw.toInt ≤ (m 94 64).toInt * (m 94 18).toInt ∧ nw.toInt ≤ (m 94 18).toInt) := p5_m15
              have p6_m15 : -1 ≤ v16.toInt ∧ v16.toInt ≤ 1500 := p6_m15
              have b109 := i_bd v16
              exact K (v16) _ (zF_zov zF_rfl ws_231_184) hV_m15 p0_m15 p1_m15 p2_m15 p3_m15 r_GG (show zHA (m 94 10) (m 94 11) (m 94 13) (m 94 14) (m 94 16) (m 94 61) (m 94 59) (m 94 60) (m15 99) (m 102) (m15 103) (m15 111) (m 117) (m 98) (m 101) (m 108) from by first | (exact ⟨fun z => absurd z (by omega), fun z => absurd z (by omega)⟩) | (exact HA_up2 r_HA (by omega) (by omega) (by omega) (by omega) (by omega) (by omega) (by omega)) | (exfalso; omega; done) | (exfalso; contradiction; done)) (show zRG (m 94 10) (m 94 18) (m 94 64) (m15 94 63) (m15 99) (m15 103) (m 102) (m15 116) from by first | (exact fun _ => p4_m15) | (exact fun z => absurd z (by omega)) | (exfalso; omega; done) | (exfalso; contradiction; done)) (show (m 94 58).toInt = 0 ∨ (m 94 10).toInt = 5 from by omega) (show zPL (m 94 10) (m 94 11) (m 94 13) (m 94 14) (m 94 61) (m 94 59) (m 94 60) (m 94 18) (m 94 64) (m15 99) (m 102) (m15 103) (m15 111) v16 nw from by first | (exact PL_6 p5_m15 (by omega) (by omega) (by omega)) | (exact PL_no (by decide)) | (exact PL_o (by omega) (by omega) (by omega) (by omega) (by omega)) | (exact PL_2 r_HA (by omega) (by omega) (by omega) (by omega)) | (exfalso; omega; done) | (exfalso; contradiction; done))
            · skip
              have g110 := i_ne h106
              have b111 := i_bd nw
              refine sp_237 (nw) hV r_W r_GW r_GU r_OW r_DX (fun v18 m17 hV_m17 p0_m17 p1_m17 p2_m17 p3_m17 p4_m17 => zmi_n ?_)
              have p0_m17 : zGW T (m17 94 55) (m17 109) := p0_m17
              have p1_m17 : zGU T (m 94 46) (m17 99) := p1_m17
              have p2_m17 : zOw (m17 99) (m 103) (m17 111) := p2_m17
              have p3_m17 : zDX (m 94 10) (m17 99) (m 112) (m17 113) (m17 114) (m17 94 55) (m 98) (m 101) (m 102) (m 108) := p3_m17
              have p4_m17 : -1 ≤ v18.toInt ∧ v18.toInt ≤ 1500 := p4_m17
              have b112 := i_bd v18
              exact K (v18) _ (zF_zov zF_rfl ws_237_184) hV_m17 p0_m17 p1_m17 p2_m17 p3_m17 r_GG (show zHA (m 94 10) (m 94 11) (m 94 13) (m 94 14) (m 94 16) (m 94 61) (m 94 59) (m 94 60) (m17 99) (m 102) (m 103) (m17 111) (m 117) (m 98) (m 101) (m 108) from by first | (exact ⟨fun z => absurd z (by omega), fun z => absurd z (by omega)⟩) | (exact HA_up2 r_HA (by omega) (by omega) (by omega) (by omega) (by omega) (by omega) (by omega)) | (exfalso; omega; done) | (exfalso; contradiction; done)) (show zRG (m 94 10) (m 94 18) (m 94 64) (m 94 63) (m17 99) (m 103) (m 102) (m 116) from by first | (exact fun z => absurd z (by omega)) | (exfalso; omega; done) | (exfalso; contradiction; done)) (show (m 94 58).toInt = 0 ∨ (m 94 10).toInt = 5 from by omega) (show zPL (m 94 10) (m 94 11) (m 94 13) (m 94 14) (m 94 61) (m 94 59) (m 94 60) (m 94 18) (m 94 64) (m17 99) (m 102) (m 103) (m17 111) v18 nw from by first | (exact PL_o (by omega) (by omega) (by omega) (by omega) (by omega)) | (exact PL_no (by decide)) | (exact PL_2 r_HA (by omega) (by omega) (by omega) (by omega)) | (exfalso; omega; done) | (exfalso; contradiction; done))

