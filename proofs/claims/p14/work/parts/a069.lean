/-! from 94.495 -/
/-! the reference (written by wip/tools/gen94m.py) -/
set_option maxRecDepth 100000 in
theorem hm_256 : ma_md 256 = some (12, yX12_clean, cX12_clean, 2, (some (FieldType.int))) := rfl
theorem dX12_clean_0 : decode cX12_clean 0 = .ok (.aload_n 0, 1) := by decide +kernel
theorem dX12_clean_1 : decode cX12_clean 1 = .ok (.aload_n 0, 1) := by decide +kernel
theorem dX12_clean_12 : decode cX12_clean 12 = .ok (.iconst 0, 1) := by decide +kernel
theorem dX12_clean_13 : decode cX12_clean 13 = .ok (.invokevirtual 110, 3) := by decide +kernel
theorem dX12_clean_16 : decode cX12_clean 16 = .ok (.ifCond .eq 5, 3) := by decide +kernel
theorem dX12_clean_21 : decode cX12_clean 21 = .ok (.aload_n 0, 1) := by decide +kernel
theorem dX12_clean_64 : decode cX12_clean 64 = .ok (.aload_n 0, 1) := by decide +kernel
theorem dX12_clean_65 : decode cX12_clean 65 = .ok (.invokevirtual 460, 3) := by decide +kernel
theorem dX12_clean_68 : decode cX12_clean 68 = .ok (.ireturn, 1) := by decide +kernel
theorem dX12_clean_25 : decode cX12_clean 25 = .ok (.tableswitch 82 1 6 #[39, 44, 49, 82, 61, 77], 39) := by decide +kernel
theorem dX12_clean_69 : decode cX12_clean 69 = .ok (.aload_n 0, 1) := by decide +kernel
theorem dX12_clean_70 : decode cX12_clean 70 = .ok (.invokevirtual 463, 3) := by decide +kernel
theorem dX12_clean_73 : decode cX12_clean 73 = .ok (.ireturn, 1) := by decide +kernel
theorem dX12_clean_74 : decode cX12_clean 74 = .ok (.aload_n 0, 1) := by decide +kernel
theorem dX12_clean_75 : decode cX12_clean 75 = .ok (.invokevirtual 384, 3) := by decide +kernel
theorem dX12_clean_78 : decode cX12_clean 78 = .ok (.istore_n 1, 1) := by decide +kernel
theorem dX12_clean_79 : decode cX12_clean 79 = .ok (.iload_n 1, 1) := by decide +kernel
theorem dX12_clean_80 : decode cX12_clean 80 = .ok (.aload_n 0, 1) := by decide +kernel
theorem dX12_clean_81 : decode cX12_clean 81 = .ok (.invokevirtual 448, 3) := by decide +kernel
theorem dX12_clean_84 : decode cX12_clean 84 = .ok (.iadd, 1) := by decide +kernel
theorem dX12_clean_85 : decode cX12_clean 85 = .ok (.ireturn, 1) := by decide +kernel
theorem dX12_clean_107 : decode cX12_clean 107 = .ok (.aload_n 0, 1) := by decide +kernel
theorem dX12_clean_108 : decode cX12_clean 108 = .ok (.invokevirtual 346, 3) := by decide +kernel
theorem dX12_clean_111 : decode cX12_clean 111 = .ok (.ireturn, 1) := by decide +kernel
theorem dX12_clean_86 : decode cX12_clean 86 = .ok (.aload_n 0, 1) := by decide +kernel
theorem dX12_clean_97 : decode cX12_clean 97 = .ok (.aload_n 0, 1) := by decide +kernel
theorem dX12_clean_98 : decode cX12_clean 98 = .ok (.invokevirtual 411, 3) := by decide +kernel
theorem dX12_clean_101 : decode cX12_clean 101 = .ok (.ireturn, 1) := by decide +kernel
theorem dX12_clean_93 : decode cX12_clean 93 = .ok (.aload_n 0, 1) := by decide +kernel
theorem dX12_clean_94 : decode cX12_clean 94 = .ok (.invokevirtual 408, 3) := by decide +kernel
theorem dX12_clean_90 : decode cX12_clean 90 = .ok (.ifCond .ne 7, 3) := by decide +kernel
theorem dX12_clean_87 : decode cX12_clean 87 = .ok (.getfield 270, 3) := by decide +kernel
theorem dX12_clean_102 : decode cX12_clean 102 = .ok (.aload_n 0, 1) := by decide +kernel
theorem dX12_clean_103 : decode cX12_clean 103 = .ok (.invokevirtual 457, 3) := by decide +kernel
theorem dX12_clean_106 : decode cX12_clean 106 = .ok (.ireturn, 1) := by decide +kernel
theorem dX12_clean_22 : decode cX12_clean 22 = .ok (.getfield 199, 3) := by decide +kernel
theorem dX12_clean_8 : decode cX12_clean 8 = .ok (.iconst 1, 1) := by decide +kernel
theorem dX12_clean_9 : decode cX12_clean 9 = .ok (.goto 4, 3) := by decide +kernel
theorem dX12_clean_19 : decode cX12_clean 19 = .ok (.iconst 0, 1) := by decide +kernel
theorem dX12_clean_20 : decode cX12_clean 20 = .ok (.ireturn, 1) := by decide +kernel
theorem dX12_clean_5 : decode cX12_clean 5 = .ok (.ifCond .ne 7, 3) := by decide +kernel
theorem dX12_clean_2 : decode cX12_clean 2 = .ok (.getfield 237, 3) := by decide +kernel
def wr_256 (c k : Nat) : Bool := Nat.beq c 99 || Nat.beq c 103 || Nat.beq c 104 || Nat.beq c 105 || Nat.beq c 106 || Nat.beq c 109 || Nat.beq c 110 || Nat.beq c 111 || Nat.beq c 113 || Nat.beq c 114 || Nat.beq c 115 || Nat.beq c 116 || Nat.beq c 117 || Nat.beq c 118 || Nat.beq c 119 || Nat.beq c 122 || Nat.beq c 123 || Nat.beq c 124 || (Nat.beq c 94 && (Nat.beq k 0 || Nat.beq k 44 || Nat.beq k 45 || Nat.beq k 47 || Nat.beq k 48 || Nat.beq k 49 || Nat.beq k 55 || Nat.beq k 56 || Nat.beq k 57 || Nat.beq k 58 || Nat.beq k 59 || Nat.beq k 60 || Nat.beq k 61 || Nat.beq k 63 || Nat.beq k 73 || Nat.beq k 75 || Nat.beq k 76 || Nat.beq k 77))
theorem ws_186_256 : ∀ c k, wr_186 c k = true → wr_256 c k = true := by
  intro c k h
  simp only [wr_186, wr_256, Bool.or_eq_true, Bool.and_eq_true, Nat.beq_eq] at h ⊢
  omega
theorem ws_187_256 : ∀ c k, wr_187 c k = true → wr_256 c k = true := by
  intro c k h
  simp only [wr_187, wr_256, Bool.or_eq_true, Bool.and_eq_true, Nat.beq_eq] at h ⊢
  omega
theorem ws_206_256 : ∀ c k, wr_206 c k = true → wr_256 c k = true := by
  intro c k h
  simp only [wr_206, wr_256, Bool.or_eq_true, Bool.and_eq_true, Nat.beq_eq] at h ⊢
  omega
theorem ws_211_256 : ∀ c k, wr_211 c k = true → wr_256 c k = true := by
  intro c k h
  simp only [wr_211, wr_256, Bool.or_eq_true, Bool.and_eq_true, Nat.beq_eq] at h ⊢
  omega
theorem ws_214_256 : ∀ c k, wr_214 c k = true → wr_256 c k = true := by
  intro c k h
  simp only [wr_214, wr_256, Bool.or_eq_true, Bool.and_eq_true, Nat.beq_eq] at h ⊢
  omega
theorem ws_219_256 : ∀ c k, wr_219 c k = true → wr_256 c k = true := by
  intro c k h
  simp only [wr_219, wr_256, Bool.or_eq_true, Bool.and_eq_true, Nat.beq_eq] at h ⊢
  omega
theorem ws_230_256 : ∀ c k, wr_230 c k = true → wr_256 c k = true := by
  intro c k h
  simp only [wr_230, wr_256, Bool.or_eq_true, Bool.and_eq_true, Nat.beq_eq] at h ⊢
  omega
theorem ws_235_256 : ∀ c k, wr_235 c k = true → wr_256 c k = true := by
  intro c k h
  simp only [wr_235, wr_256, Bool.or_eq_true, Bool.and_eq_true, Nat.beq_eq] at h ⊢
  omega
theorem g_256_0 {X : Nat × (Nat → Int32)} {m : Nat → Nat → Int32} {P : Option ma_V → (Nat → Nat → Int32) → Prop}  (h : if (m 94 8) = 0 then (P (some (.inl (0 : Int32))) (ma_u m 94 0 (1 : Int32))) else (if (m 94 10) = (1 : Int32) then (zm X 5 108 186 0 [(0, .inr (.inr (some 94)))] (ma_u m 94 0 (0 : Int32)) (zmi (fun v2 m1 => P (some (.inl v2)) m1))) else (if (m 94 10) = (2 : Int32) then (zm X 5 109 206 0 [(0, .inr (.inr (some 94)))] (ma_u m 94 0 (0 : Int32)) (zmi (fun v4 m3 => P (some (.inl v4)) m3))) else (if (m 94 10) = (3 : Int32) then (zm X 5 108 211 0 [(0, .inr (.inr (some 94)))] (ma_u m 94 0 (0 : Int32)) (zmi (fun v6 m5 => zm X 6 129 214 0 [(0, .inr (.inr (some 94)))] m5 (zmi (fun v8 m7 => P (some (.inl (v6 + v8))) m7))))) else (if (m 94 10) = (4 : Int32) then (zm X 4 88 187 0 [(0, .inr (.inr (some 94)))] (ma_u m 94 0 (0 : Int32)) (zmi (fun v10 m9 => P (some (.inl v10)) m9))) else (if (m 94 10) = (5 : Int32) then (if (m 94 58) = 0 then (zm X 2 44 219 0 [(0, .inr (.inr (some 94)))] (ma_u m 94 0 (0 : Int32)) (zmv (fun m13 => zm X 5 109 230 0 [(0, .inr (.inr (some 94)))] m13 (zmi (fun v16 m15 => P (some (.inl v16)) m15))))) else (zm X 5 109 230 0 [(0, .inr (.inr (some 94)))] (ma_u m 94 0 (0 : Int32)) (zmi (fun v12 m11 => P (some (.inl v12)) m11)))) else (if (m 94 10) = (6 : Int32) then (zm X 5 108 235 0 [(0, .inr (.inr (some 94)))] (ma_u m 94 0 (0 : Int32)) (zmi (fun v18 m17 => P (some (.inl v18)) m17))) else (zm X 4 88 187 0 [(0, .inr (.inr (some 94)))] (ma_u m 94 0 (0 : Int32)) (zmi (fun v20 m19 => P (some (.inl v20)) m19)))))))))) : zm X 7 152 256 0 [(0, .inr (.inr (some 94)))] m P := by
  intro d w S Q hd hw hS hm HQ
  subst hm
  refine zw_push hm_256 dX12_clean_0 (v := .inr (.inr (some 94))) rfl ?_
  refine zw_push hm_256 dX12_clean_1 (v := .inr (.inr (some 94))) rfl ?_
  refine zw_gf hm_256 dX12_clean_2 (v := .inl ((mI S) 94 8)) (zT_is hS s_94) (zT_t hS s_94) rfl f_12_237_12 rfl ?_
  refine zw_if0 hm_256 dX12_clean_5 (t := 12) rfl zc0_ne ?_ ?_
  · intro hc
    rw [if_neg hc] at h
    refine zw_push hm_256 dX12_clean_12 (v := .inl (0 : Int32)) rfl ?_
    refine zw_cv hm_256 dX12_clean_13 v_12_110_12 hm_167 [.inl (0 : Int32)] [] rfl (zT_rt hS s_94 rfl) ⟨by omega, by omega⟩ rfl ?_
    show ma_wp X (d - 1) (w - 21) 167 0 [(0, .inr (.inr (some 94))), (1, .inl (0 : Int32))] [] S _
    refine zw_push hm_167 dX12_fails_0 (v := .inr (.inr (some 94))) rfl ?_
    refine zw_push hm_167 dX12_fails_1 (v := .inl (0 : Int32)) rfl ?_
    refine zw_pf hm_167 dX12_fails_2 (zT_is hS s_94) (zT_t hS s_94) p_12_1_12 zk_int ?_
    refine zw_push hm_167 dX12_fails_5 (v := .inl (0 : Int32)) rfl ?_
    refine zw_if0 hm_167 dX12_fails_6 (t := 13) rfl zc0_eq (fun _ => ?_) (fun hc => absurd (by decide) hc)
    refine zw_push hm_167 dX12_fails_13 (v := .inl (0 : Int32)) rfl ?_
    refine zw_bret hm_167 dX12_fails_14 (by decide) ?_
    show ma_wp X d w 256 16 [(0, .inr (.inr (some 94)))] [.inl (0 : Int32)] (ma_put S 94 0 (.inl (0 : Int32))) _
    refine zw_if0 hm_256 dX12_clean_16 (t := 21) rfl zc0_eq (fun _ => ?_) (fun hc => absurd (by decide) hc)
    refine zw_push hm_256 dX12_clean_21 (v := .inr (.inr (some 94))) rfl ?_
    refine zw_gf hm_256 dX12_clean_22 (v := .inl ((mI S) 94 10)) (zT_is (zT_pi hS) s_94) (zT_t (zT_pi hS) s_94) rfl f_12_199_12 rfl ?_
    by_cases hc0 : ((mI S) 94 10) = (1 : Int32)
    · rw [if_pos hc0] at h
      refine zw_jmp hm_256 dX12_clean_25 (t := 64) (st₉ := []) rfl rfl rfl (ma_jmp_tab (by rw [hc0]; decide +kernel)) ?_
      refine zw_push hm_256 dX12_clean_64 (v := .inr (.inr (some 94))) rfl ?_
      refine zw_cv hm_256 dX12_clean_65 v_12_460_12 hm_186 [] [] rfl (zT_rt (zT_pi hS) s_94 rfl) ⟨by omega, by omega⟩ rfl (h _ _ (ma_put S 94 0 (.inl (0 : Int32))) _ (by omega) (by omega) (zT_pi hS) rfl (fun o9 m1 hv => ?_))
      obtain ⟨v2, rfl, h⟩ := zmi_of hv
      show ma_wp X d w 256 68 [(0, .inr (.inr (some 94)))] [.inl v2] (zst S m1) _
      exact zw_iret hm_256 dX12_clean_68 (HQ _ _ h)
    rw [if_neg hc0] at h
    by_cases hc1 : ((mI S) 94 10) = (2 : Int32)
    · rw [if_pos hc1] at h
      refine zw_jmp hm_256 dX12_clean_25 (t := 69) (st₉ := []) rfl rfl rfl (ma_jmp_tab (by rw [hc1]; decide +kernel)) ?_
      refine zw_push hm_256 dX12_clean_69 (v := .inr (.inr (some 94))) rfl ?_
      refine zw_cv hm_256 dX12_clean_70 v_12_463_12 hm_206 [] [] rfl (zT_rt (zT_pi hS) s_94 rfl) ⟨by omega, by omega⟩ rfl (h _ _ (ma_put S 94 0 (.inl (0 : Int32))) _ (by omega) (by omega) (zT_pi hS) rfl (fun o9 m3 hv => ?_))
      obtain ⟨v4, rfl, h⟩ := zmi_of hv
      show ma_wp X d w 256 73 [(0, .inr (.inr (some 94)))] [.inl v4] (zst S m3) _
      exact zw_iret hm_256 dX12_clean_73 (HQ _ _ h)
    rw [if_neg hc1] at h
    by_cases hc2 : ((mI S) 94 10) = (3 : Int32)
    · rw [if_pos hc2] at h
      refine zw_jmp hm_256 dX12_clean_25 (t := 74) (st₉ := []) rfl rfl rfl (ma_jmp_tab (by rw [hc2]; decide +kernel)) ?_
      refine zw_push hm_256 dX12_clean_74 (v := .inr (.inr (some 94))) rfl ?_
      refine zw_cv hm_256 dX12_clean_75 v_12_384_12 hm_211 [] [] rfl (zT_rt (zT_pi hS) s_94 rfl) ⟨by omega, by omega⟩ rfl (h _ _ (ma_put S 94 0 (.inl (0 : Int32))) _ (by omega) (by omega) (zT_pi hS) rfl (fun o9 m5 hv => ?_))
      obtain ⟨v6, rfl, h⟩ := zmi_of hv
      show ma_wp X d w 256 78 [(0, .inr (.inr (some 94)))] [.inl v6] (zst S m5) _
      refine zw_sto hm_256 dX12_clean_78 [(1, .inl v6), (0, .inr (.inr (some 94)))] rfl rfl rfl ?_
      refine zw_push hm_256 dX12_clean_79 (v := .inl v6) rfl ?_
      refine zw_push hm_256 dX12_clean_80 (v := .inr (.inr (some 94))) rfl ?_
      refine zw_cv hm_256 dX12_clean_81 v_12_448_12 hm_214 [] [.inl v6] rfl (zT_rt (zT_zst hS m5) s_94 rfl) ⟨by omega, by omega⟩ rfl (h _ _ (zst S m5) _ (by omega) (by omega) (zT_zst hS m5) rfl (fun o9 m7 hv => ?_))
      obtain ⟨v8, rfl, h⟩ := zmi_of hv
      show ma_wp X d w 256 84 [(1, .inl v6), (0, .inr (.inr (some 94)))] [.inl v8, .inl v6] (zst S m7) _
      refine zw_stk hm_256 dX12_clean_84 (st₉ := [.inl (v6 + v8)]) rfl rfl ?_
      exact zw_iret hm_256 dX12_clean_85 (HQ _ _ h)
    rw [if_neg hc2] at h
    by_cases hc3 : ((mI S) 94 10) = (4 : Int32)
    · rw [if_pos hc3] at h
      refine zw_jmp hm_256 dX12_clean_25 (t := 107) (st₉ := []) rfl rfl rfl (ma_jmp_tab (by rw [hc3]; decide +kernel)) ?_
      refine zw_push hm_256 dX12_clean_107 (v := .inr (.inr (some 94))) rfl ?_
      refine zw_cv hm_256 dX12_clean_108 v_12_346_12 hm_187 [] [] rfl (zT_rt (zT_pi hS) s_94 rfl) ⟨by omega, by omega⟩ rfl (h _ _ (ma_put S 94 0 (.inl (0 : Int32))) _ (by omega) (by omega) (zT_pi hS) rfl (fun o9 m9 hv => ?_))
      obtain ⟨v10, rfl, h⟩ := zmi_of hv
      show ma_wp X d w 256 111 [(0, .inr (.inr (some 94)))] [.inl v10] (zst S m9) _
      exact zw_iret hm_256 dX12_clean_111 (HQ _ _ h)
    rw [if_neg hc3] at h
    by_cases hc4 : ((mI S) 94 10) = (5 : Int32)
    · rw [if_pos hc4] at h
      refine zw_jmp hm_256 dX12_clean_25 (t := 86) (st₉ := []) rfl rfl rfl (ma_jmp_tab (by rw [hc4]; decide +kernel)) ?_
      refine zw_push hm_256 dX12_clean_86 (v := .inr (.inr (some 94))) rfl ?_
      refine zw_gf hm_256 dX12_clean_87 (v := .inl ((mI S) 94 58)) (zT_is (zT_pi hS) s_94) (zT_t (zT_pi hS) s_94) rfl f_12_270_12 rfl ?_
      refine zw_if0 hm_256 dX12_clean_90 (t := 97) rfl zc0_ne ?_ ?_
      · intro hc
        rw [if_neg hc] at h
        refine zw_push hm_256 dX12_clean_97 (v := .inr (.inr (some 94))) rfl ?_
        refine zw_cv hm_256 dX12_clean_98 v_12_411_12 hm_230 [] [] rfl (zT_rt (zT_pi hS) s_94 rfl) ⟨by omega, by omega⟩ rfl (h _ _ (ma_put S 94 0 (.inl (0 : Int32))) _ (by omega) (by omega) (zT_pi hS) rfl (fun o9 m11 hv => ?_))
        obtain ⟨v12, rfl, h⟩ := zmi_of hv
        show ma_wp X d w 256 101 [(0, .inr (.inr (some 94)))] [.inl v12] (zst S m11) _
        exact zw_iret hm_256 dX12_clean_101 (HQ _ _ h)
      · intro hc
        rw [if_pos (Classical.not_not.mp hc)] at h
        refine zw_push hm_256 dX12_clean_93 (v := .inr (.inr (some 94))) rfl ?_
        refine zw_cv hm_256 dX12_clean_94 v_12_408_12 hm_219 [] [] rfl (zT_rt (zT_pi hS) s_94 rfl) ⟨by omega, by omega⟩ rfl (h _ _ (ma_put S 94 0 (.inl (0 : Int32))) _ (by omega) (by omega) (zT_pi hS) rfl (fun o9 m13 hv => ?_))
        obtain ⟨rfl, h⟩ := zmv_of hv
        show ma_wp X d w 256 97 [(0, .inr (.inr (some 94)))] [] (zst S m13) _
        refine zw_push hm_256 dX12_clean_97 (v := .inr (.inr (some 94))) rfl ?_
        refine zw_cv hm_256 dX12_clean_98 v_12_411_12 hm_230 [] [] rfl (zT_rt (zT_zst hS m13) s_94 rfl) ⟨by omega, by omega⟩ rfl (h _ _ (zst S m13) _ (by omega) (by omega) (zT_zst hS m13) rfl (fun o9 m15 hv => ?_))
        obtain ⟨v16, rfl, h⟩ := zmi_of hv
        show ma_wp X d w 256 101 [(0, .inr (.inr (some 94)))] [.inl v16] (zst S m15) _
        exact zw_iret hm_256 dX12_clean_101 (HQ _ _ h)
    rw [if_neg hc4] at h
    by_cases hc5 : ((mI S) 94 10) = (6 : Int32)
    · rw [if_pos hc5] at h
      refine zw_jmp hm_256 dX12_clean_25 (t := 102) (st₉ := []) rfl rfl rfl (ma_jmp_tab (by rw [hc5]; decide +kernel)) ?_
      refine zw_push hm_256 dX12_clean_102 (v := .inr (.inr (some 94))) rfl ?_
      refine zw_cv hm_256 dX12_clean_103 v_12_457_12 hm_235 [] [] rfl (zT_rt (zT_pi hS) s_94 rfl) ⟨by omega, by omega⟩ rfl (h _ _ (ma_put S 94 0 (.inl (0 : Int32))) _ (by omega) (by omega) (zT_pi hS) rfl (fun o9 m17 hv => ?_))
      obtain ⟨v18, rfl, h⟩ := zmi_of hv
      show ma_wp X d w 256 106 [(0, .inr (.inr (some 94)))] [.inl v18] (zst S m17) _
      exact zw_iret hm_256 dX12_clean_106 (HQ _ _ h)
    rw [if_neg hc5] at h
    refine zw_jmp hm_256 dX12_clean_25 (t := 107) (st₉ := []) rfl rfl rfl (ma_jmp_def (m := 6) (by decide) (fun j hj => by
        have hj2 : j = 0 ∨ j = 1 ∨ j = 2 ∨ j = 3 ∨ j = 4 ∨ j = 5 := by omega
        rcases hj2 with rfl | rfl | rfl | rfl | rfl | rfl
        · exact hc0
        · exact hc1
        · exact hc2
        · exact hc3
        · exact hc4
        · exact hc5
        ) rfl) ?_
    refine zw_push hm_256 dX12_clean_107 (v := .inr (.inr (some 94))) rfl ?_
    refine zw_cv hm_256 dX12_clean_108 v_12_346_12 hm_187 [] [] rfl (zT_rt (zT_pi hS) s_94 rfl) ⟨by omega, by omega⟩ rfl (h _ _ (ma_put S 94 0 (.inl (0 : Int32))) _ (by omega) (by omega) (zT_pi hS) rfl (fun o9 m19 hv => ?_))
    obtain ⟨v20, rfl, h⟩ := zmi_of hv
    show ma_wp X d w 256 111 [(0, .inr (.inr (some 94)))] [.inl v20] (zst S m19) _
    exact zw_iret hm_256 dX12_clean_111 (HQ _ _ h)
  · intro hc
    rw [if_pos (Classical.not_not.mp hc)] at h
    refine zw_push hm_256 dX12_clean_8 (v := .inl (1 : Int32)) rfl ?_
    refine zw_goto hm_256 dX12_clean_9 (t := 13) rfl ?_
    refine zw_cv hm_256 dX12_clean_13 v_12_110_12 hm_167 [.inl (1 : Int32)] [] rfl (zT_rt hS s_94 rfl) ⟨by omega, by omega⟩ rfl ?_
    show ma_wp X (d - 1) (w - 21) 167 0 [(0, .inr (.inr (some 94))), (1, .inl (1 : Int32))] [] S _
    refine zw_push hm_167 dX12_fails_0 (v := .inr (.inr (some 94))) rfl ?_
    refine zw_push hm_167 dX12_fails_1 (v := .inl (1 : Int32)) rfl ?_
    refine zw_pf hm_167 dX12_fails_2 (zT_is hS s_94) (zT_t hS s_94) p_12_1_12 zk_int ?_
    refine zw_push hm_167 dX12_fails_5 (v := .inl (1 : Int32)) rfl ?_
    refine zw_if0 hm_167 dX12_fails_6 (t := 13) rfl zc0_eq (fun hc => absurd hc (by decide)) (fun _ => ?_)
    refine zw_push hm_167 dX12_fails_9 (v := .inl (1 : Int32)) rfl ?_
    refine zw_goto hm_167 dX12_fails_10 (t := 14) rfl ?_
    refine zw_bret hm_167 dX12_fails_14 (by decide) ?_
    show ma_wp X d w 256 16 [(0, .inr (.inr (some 94)))] [.inl (1 : Int32)] (ma_put S 94 0 (.inl (1 : Int32))) _
    refine zw_if0 hm_256 dX12_clean_16 (t := 21) rfl zc0_eq (fun hc => absurd hc (by decide)) (fun _ => ?_)
    refine zw_push hm_256 dX12_clean_19 (v := .inl (0 : Int32)) rfl ?_
    exact zw_iret hm_256 dX12_clean_20 (HQ _ _ h)
set_option maxHeartbeats 8000000 in
theorem sp_256 {X : Nat × (Nat → Int32)} {P : Option ma_V → (Nat → Nat → Int32) → Prop} {T : Nat} {m : Nat → Nat → Int32}  (hV : zV m) (r_W : zW (m 94 7) (m 98) (m 101) (m 102) (m 108)) (r_GW : zGW T (m 94 55) (m 109)) (r_GU : zGU T (m 94 46) (m 99)) (r_OW : zOw (m 99) (m 103) (m 111)) (r_DX : zDX (m 94 10) (m 99) (m 112) (m 113) (m 114) (m 94 55) (m 98) (m 101) (m 102) (m 108)) (r_GG : zGG (m 94 58) (m 94 56) (m 94 57) (m 106)) (r_HA : zHA (m 94 10) (m 94 11) (m 94 13) (m 94 14) (m 94 16) (m 94 61) (m 94 59) (m 94 60) (m 99) (m 102) (m 103) (m 111) (m 117) (m 98) (m 101) (m 108)) (r_RGc : zRG (m 94 10) (m 94 18) (m 94 64) (m 94 63) (m 99) (m 103) (m 102) (m 116)) (hpre8 : (m 94 58).toInt = 0 ∨ (m 94 10).toInt = 5) (KZ : ∀ v m₉, zV (zov wr_256 m m₉) → (zW (m 94 7) (m 98) (m 101) (m 102) (m 108)) → (zGW T (m₉ 94 55) (m₉ 109)) → (zGU T (m 94 46) (m₉ 99)) → (zOw (m₉ 99) (m₉ 103) (m₉ 111)) → (zDX (m 94 10) (m₉ 99) (m 112) (m₉ 113) (m₉ 114) (m₉ 94 55) (m 98) (m 101) (m 102) (m 108)) → (zGG (m₉ 94 58) (m₉ 94 56) (m₉ 94 57) (m₉ 106)) → (zHA (m 94 10) (m 94 11) (m 94 13) (m 94 14) (m 94 16) (m₉ 94 61) (m₉ 94 59) (m₉ 94 60) (m₉ 99) (m 102) (m₉ 103) (m₉ 111) (m₉ 117) (m 98) (m 101) (m 108)) → (zRG (m 94 10) (m 94 18) (m 94 64) (m₉ 94 63) (m₉ 99) (m₉ 103) (m 102) (m₉ 116)) → ((m₉ 94 58).toInt = 0 ∨ (m 94 10).toInt = 5) → P (some (.inl v)) (zov wr_256 m m₉)) : zm X 7 152 256 0 [(0, .inr (.inr (some 94)))] m P := by
  have K : ∀ v m₉, zF wr_256 m m₉ → zV m₉ → (zW (m₉ 94 7) (m₉ 98) (m₉ 101) (m₉ 102) (m₉ 108)) → (zGW T (m₉ 94 55) (m₉ 109)) → (zGU T (m₉ 94 46) (m₉ 99)) → (zOw (m₉ 99) (m₉ 103) (m₉ 111)) → (zDX (m₉ 94 10) (m₉ 99) (m₉ 112) (m₉ 113) (m₉ 114) (m₉ 94 55) (m₉ 98) (m₉ 101) (m₉ 102) (m₉ 108)) → (zGG (m₉ 94 58) (m₉ 94 56) (m₉ 94 57) (m₉ 106)) → (zHA (m₉ 94 10) (m₉ 94 11) (m₉ 94 13) (m₉ 94 14) (m₉ 94 16) (m₉ 94 61) (m₉ 94 59) (m₉ 94 60) (m₉ 99) (m₉ 102) (m₉ 103) (m₉ 111) (m₉ 117) (m₉ 98) (m₉ 101) (m₉ 108)) → (zRG (m₉ 94 10) (m₉ 94 18) (m₉ 94 64) (m₉ 94 63) (m₉ 99) (m₉ 103) (m₉ 102) (m₉ 116)) → ((m₉ 94 58).toInt = 0 ∨ (m₉ 94 10).toInt = 5) → P (some (.inl v)) m₉ := by
    intro v m₉ hf z q0 q1 q2 q3 q4 q5 q6 q7 q8
    have e := zov_eq hf
    rw [e] at z ⊢
    try rw [e] at q0
    try rw [e] at q1
    try rw [e] at q2
    try rw [e] at q3
    try rw [e] at q4
    try rw [e] at q5
    try rw [e] at q6
    try rw [e] at q7
    try rw [e] at q8
    exact KZ v m₉ z q0 q1 q2 q3 q4 q5 q6 q7 q8
  refine g_256_0  ?_
  have f1 : 0 ≤ (m 94 58).toInt ∧ (m 94 58).toInt ≤ 1 := rs_94_58 (m := m) hV
  have f2 : 0 ≤ (m 94 10).toInt ∧ (m 94 10).toInt ≤ 6 := rs_94_10 (m := m) hV
  have f3 : 0 ≤ (m 94 8).toInt ∧ (m 94 8).toInt ≤ 1 := rs_94_8 (m := m) hV
  have li4 : (0 : Int32).toInt = 0 := rfl
  refine zd (fun (h5 : (m 94 8) = (0 : Int32)) => ?_) (fun (h5 : ¬ (m 94 8) = (0 : Int32)) => ?_)
  · skip
    have g6 := i_eq h5
    have hV7 : zV (ma_u m 94 0 (1 : Int32)) := uf_94_0 hV
    exact K ((0 : Int32)) _ (zF_u zF_rfl rfl) hV7 r_W r_GW r_GU r_OW r_DX r_GG r_HA r_RGc (show (m 94 58).toInt = 0 ∨ (m 94 10).toInt = 5 from by omega)
  · skip
    have g8 := i_ne h5
    have li9 : (1 : Int32).toInt = 1 := rfl
    refine zd (fun (h10 : (m 94 10) = (1 : Int32)) => ?_) (fun (h10 : ¬ (m 94 10) = (1 : Int32)) => ?_)
    · skip
      have g11 := i_eq h10
      have hV12 : zV (ma_u m 94 0 (0 : Int32)) := uf_94_0 hV
      refine sp_186  hV12 r_W r_GW r_GU r_OW r_DX (fun v2 m1 hV_m1 p0_m1 p1_m1 p2_m1 p3_m1 => zmi_n ?_)
      have p0_m1 : zGW T (m1 94 55) (m1 109) := p0_m1
      have p1_m1 : zGU T (m 94 46) (m1 99) := p1_m1
      have p2_m1 : zOw (m1 99) (m1 103) (m1 111) := p2_m1
      have p3_m1 : zDX (m 94 10) (m1 99) (m 112) (m1 113) (m1 114) (m1 94 55) (m 98) (m 101) (m 102) (m 108) := p3_m1
      have b13 := i_bd v2
      exact K (v2) _ (zF_zov (zF_u zF_rfl rfl) ws_186_256) hV_m1 r_W p0_m1 p1_m1 p2_m1 p3_m1 r_GG (show zHA (m 94 10) (m 94 11) (m 94 13) (m 94 14) (m 94 16) (m 94 61) (m1 94 59) (m 94 60) (m1 99) (m 102) (m1 103) (m1 111) (m 117) (m 98) (m 101) (m 108) from by first | (exact ⟨fun z => absurd z (by omega), fun z => absurd z (by omega)⟩) | (exfalso; omega; done) | (exfalso; contradiction; done)) (show zRG (m 94 10) (m 94 18) (m 94 64) (m 94 63) (m1 99) (m1 103) (m 102) (m 116) from by first | (exact fun z => absurd z (by omega)) | (exfalso; omega; done) | (exfalso; contradiction; done)) (show (m 94 58).toInt = 0 ∨ (m 94 10).toInt = 5 from by omega)
    · skip
      have g14 := i_ne h10
      have li15 : (2 : Int32).toInt = 2 := rfl
      refine zd (fun (h16 : (m 94 10) = (2 : Int32)) => ?_) (fun (h16 : ¬ (m 94 10) = (2 : Int32)) => ?_)
      · skip
        have g17 := i_eq h16
        have hV18 : zV (ma_u m 94 0 (0 : Int32)) := uf_94_0 hV
        refine sp_206  hV18 r_W r_GW r_GU r_OW r_DX r_HA (show (m 94 10).toInt = 2 from by omega) (fun v4 m3 hV_m3 p0_m3 p1_m3 p2_m3 p3_m3 p4_m3 => zmi_n ?_)
        have p0_m3 : zGW T (m3 94 55) (m3 109) := p0_m3
        have p1_m3 : zGU T (m 94 46) (m3 99) := p1_m3
        have p2_m3 : zOw (m3 99) (m3 103) (m3 111) := p2_m3
        have p3_m3 : zDX (m 94 10) (m3 99) (m 112) (m3 113) (m3 114) (m3 94 55) (m 98) (m 101) (m 102) (m 108) := p3_m3
        have p4_m3 : zHA (m 94 10) (m 94 11) (m 94 13) (m 94 14) (m 94 16) (m3 94 61) (m3 94 59) (m3 94 60) (m3 99) (m 102) (m3 103) (m3 111) (m 117) (m 98) (m 101) (m 108) := p4_m3
        have b19 := i_bd v4
        exact K (v4) _ (zF_zov (zF_u zF_rfl rfl) ws_206_256) hV_m3 r_W p0_m3 p1_m3 p2_m3 p3_m3 r_GG p4_m3 (show zRG (m 94 10) (m 94 18) (m 94 64) (m 94 63) (m3 99) (m3 103) (m 102) (m 116) from by first | (exact fun z => absurd z (by omega)) | (exfalso; omega; done) | (exfalso; contradiction; done)) (show (m 94 58).toInt = 0 ∨ (m 94 10).toInt = 5 from by omega)
      · skip
        have g20 := i_ne h16
        have li21 : (3 : Int32).toInt = 3 := rfl
        refine zd (fun (h22 : (m 94 10) = (3 : Int32)) => ?_) (fun (h22 : ¬ (m 94 10) = (3 : Int32)) => ?_)
        · skip
          have g23 := i_eq h22
          have hV24 : zV (ma_u m 94 0 (0 : Int32)) := uf_94_0 hV
          refine sp_211  hV24 r_W r_GW r_GU r_OW r_DX r_HA (show (m 94 10).toInt = 3 from by omega) (fun v6 m5 hV_m5 p0_m5 p1_m5 p2_m5 p3_m5 p4_m5 => zmi_n ?_)
          have p0_m5 : zGW T (m5 94 55) (m5 109) := p0_m5
          have p1_m5 : zGU T (m 94 46) (m5 99) := p1_m5
          have p2_m5 : zOw (m5 99) (m5 103) (m5 111) := p2_m5
          have p3_m5 : zDX (m 94 10) (m5 99) (m 112) (m5 113) (m5 114) (m5 94 55) (m 98) (m 101) (m 102) (m 108) := p3_m5
          have p4_m5 : zHA (m 94 10) (m 94 11) (m 94 13) (m 94 14) (m 94 16) (m 94 61) (m 94 59) (m5 94 60) (m5 99) (m 102) (m5 103) (m5 111) (m5 117) (m 98) (m 101) (m 108) := p4_m5
          refine sp_214  hV_m5 r_W p0_m5 p1_m5 p2_m5 p3_m5 p4_m5 (show (m 94 10).toInt = 3 from by omega) (fun v8 m7 hV_m7 p0_m7 p1_m7 p2_m7 p3_m7 p4_m7 => zmi_n ?_)
          have p0_m7 : zGW T (m7 94 55) (m7 109) := p0_m7
          have p1_m7 : zGU T (m 94 46) (m7 99) := p1_m7
          have p2_m7 : zOw (m7 99) (m7 103) (m7 111) := p2_m7
          have p3_m7 : zDX (m 94 10) (m7 99) (m 112) (m7 113) (m7 114) (m7 94 55) (m 98) (m 101) (m 102) (m 108) := p3_m7
          have p4_m7 : zHA (m 94 10) (m 94 11) (m 94 13) (m 94 14) (m 94 16) (m7 94 61) (m7 94 59) (m7 94 60) (m7 99) (m 102) (m7 103) (m7 111) (m7 117) (m 98) (m 101) (m 108) := p4_m7
          have b25 := i_bd v6
          have b26 := i_bd v8
          first | have e27 : (v6 + v8).toInt = v6.toInt + v8.toInt := i_add (by omega) (by omega) | have b28 := i_bd (v6 + v8)
          exact K ((v6 + v8)) _ (zF_zov (zF_zov (zF_u zF_rfl rfl) ws_211_256) ws_214_256) hV_m7 r_W p0_m7 p1_m7 p2_m7 p3_m7 r_GG p4_m7 (show zRG (m 94 10) (m 94 18) (m 94 64) (m 94 63) (m7 99) (m7 103) (m 102) (m 116) from by first | (exact fun z => absurd z (by omega)) | (exfalso; omega; done) | (exfalso; contradiction; done)) (show (m 94 58).toInt = 0 ∨ (m 94 10).toInt = 5 from by omega)
        · skip
          have g29 := i_ne h22
          have li30 : (4 : Int32).toInt = 4 := rfl
          refine zd (fun (h31 : (m 94 10) = (4 : Int32)) => ?_) (fun (h31 : ¬ (m 94 10) = (4 : Int32)) => ?_)
          · skip
            have g32 := i_eq h31
            have hV33 : zV (ma_u m 94 0 (0 : Int32)) := uf_94_0 hV
            refine sp_187  hV33 r_W r_GW r_GU r_OW r_DX (fun v10 m9 hV_m9 p0_m9 p1_m9 p2_m9 p3_m9 p4_m9 => zmi_n ?_)
            have p0_m9 : zGW T (m9 94 55) (m9 109) := p0_m9
            have p1_m9 : zGU T (m 94 46) (m9 99) := p1_m9
            have p2_m9 : zOw (m9 99) (m 103) (m9 111) := p2_m9
            have p3_m9 : zDX (m 94 10) (m9 99) (m 112) (m9 113) (m9 114) (m9 94 55) (m 98) (m 101) (m 102) (m 108) := p3_m9
            have p4_m9 : zsw (m 99) (m9 99) (m 111) (m9 111) (m 103) := p4_m9
            have b34 := i_bd v10
            exact K (v10) _ (zF_zov (zF_u zF_rfl rfl) ws_187_256) hV_m9 r_W p0_m9 p1_m9 p2_m9 p3_m9 r_GG (show zHA (m 94 10) (m 94 11) (m 94 13) (m 94 14) (m 94 16) (m 94 61) (m 94 59) (m 94 60) (m9 99) (m 102) (m 103) (m9 111) (m 117) (m 98) (m 101) (m 108) from by first | (exact ⟨fun z => absurd z (by omega), fun z => absurd z (by omega)⟩) | (exfalso; omega; done) | (exfalso; contradiction; done)) (show zRG (m 94 10) (m 94 18) (m 94 64) (m 94 63) (m9 99) (m 103) (m 102) (m 116) from by first | (exact fun z => absurd z (by omega)) | (exfalso; omega; done) | (exfalso; contradiction; done)) (show (m 94 58).toInt = 0 ∨ (m 94 10).toInt = 5 from by omega)
          · skip
            have g35 := i_ne h31
            have li36 : (5 : Int32).toInt = 5 := rfl
            refine zd (fun (h37 : (m 94 10) = (5 : Int32)) => ?_) (fun (h37 : ¬ (m 94 10) = (5 : Int32)) => ?_)
            · skip
              have g38 := i_eq h37
              refine zd (fun (h39 : (m 94 58) = (0 : Int32)) => ?_) (fun (h39 : ¬ (m 94 58) = (0 : Int32)) => ?_)
              · skip
                have g40 := i_eq h39
                have hV41 : zV (ma_u m 94 0 (0 : Int32)) := uf_94_0 hV
                refine sp_219  hV41  (fun m13 hV_m13 p0_m13 p1_m13 => zmv_n ?_)
                have p0_m13 : zG1 (m13 94 56) (m13 94 57) (m13 106) := p0_m13
                have p1_m13 : (m13 94 58).toInt = 1 := p1_m13
                have f42 : 0 ≤ (m13 94 58).toInt ∧ (m13 94 58).toInt ≤ 1 := rs_94_58 (m := (zov wr_219 (ma_u m 94 0 (0 : Int32)) m13)) hV_m13
                refine sp_230  hV_m13 r_W r_GW r_GU r_OW r_DX (show zGG (m13 94 58) (m13 94 56) (m13 94 57) (m13 106) from by first | (exact fun z => absurd z (by omega)) | (exact fun _ => p0_m13) | (exact fun z => absurd z (by decide)) | (exact fun z => absurd z (by omega)) | (exfalso; omega; done) | (exfalso; contradiction; done)) (show (m 94 10).toInt = 5 from by omega) (fun v16 m15 hV_m15 p0_m15 p1_m15 p2_m15 p3_m15 p4_m15 p5_m15 => zmi_n ?_)
                have p0_m15 : zGW T (m15 94 55) (m15 109) := p0_m15
                have p1_m15 : zGU T (m 94 46) (m15 99) := p1_m15
                have p2_m15 : zOw (m15 99) (m 103) (m15 111) := p2_m15
                have p3_m15 : zDX (m 94 10) (m15 99) (m 112) (m15 113) (m15 114) (m15 94 55) (m 98) (m 101) (m 102) (m 108) := p3_m15
                have p4_m15 : zGG (m15 94 58) (m15 94 56) (m15 94 57) (m15 106) := p4_m15
                have p5_m15 : (m15 94 58).toInt = 0 := p5_m15
                have f43 : 0 ≤ (m15 94 58).toInt ∧ (m15 94 58).toInt ≤ 1 := rs_94_58 (m := (zov wr_230 (zov wr_219 (ma_u m 94 0 (0 : Int32)) m13) m15)) hV_m15
                have b44 := i_bd v16
                exact K (v16) _ (zF_zov (zF_zov (zF_u zF_rfl rfl) ws_219_256) ws_230_256) hV_m15 r_W p0_m15 p1_m15 p2_m15 p3_m15 p4_m15 (show zHA (m 94 10) (m 94 11) (m 94 13) (m 94 14) (m 94 16) (m 94 61) (m 94 59) (m 94 60) (m15 99) (m 102) (m 103) (m15 111) (m 117) (m 98) (m 101) (m 108) from by first | (exact ⟨fun z => absurd z (by omega), fun z => absurd z (by omega)⟩) | (exfalso; omega; done) | (exfalso; contradiction; done)) (show zRG (m 94 10) (m 94 18) (m 94 64) (m 94 63) (m15 99) (m 103) (m 102) (m 116) from by first | (exact fun z => absurd z (by omega)) | (exfalso; omega; done) | (exfalso; contradiction; done)) (show (m15 94 58).toInt = 0 ∨ (m 94 10).toInt = 5 from by omega)
              · skip
                have g45 := i_ne h39
                have hV46 : zV (ma_u m 94 0 (0 : Int32)) := uf_94_0 hV
                refine sp_230  hV46 r_W r_GW r_GU r_OW r_DX r_GG (show (m 94 10).toInt = 5 from by omega) (fun v12 m11 hV_m11 p0_m11 p1_m11 p2_m11 p3_m11 p4_m11 p5_m11 => zmi_n ?_)
                have p0_m11 : zGW T (m11 94 55) (m11 109) := p0_m11
                have p1_m11 : zGU T (m 94 46) (m11 99) := p1_m11
                have p2_m11 : zOw (m11 99) (m 103) (m11 111) := p2_m11
                have p3_m11 : zDX (m 94 10) (m11 99) (m 112) (m11 113) (m11 114) (m11 94 55) (m 98) (m 101) (m 102) (m 108) := p3_m11
                have p4_m11 : zGG (m11 94 58) (m11 94 56) (m11 94 57) (m11 106) := p4_m11
                have p5_m11 : (m11 94 58).toInt = 0 := p5_m11
                have f47 : 0 ≤ (m11 94 58).toInt ∧ (m11 94 58).toInt ≤ 1 := rs_94_58 (m := (zov wr_230 (ma_u m 94 0 (0 : Int32)) m11)) hV_m11
                have b48 := i_bd v12
                exact K (v12) _ (zF_zov (zF_u zF_rfl rfl) ws_230_256) hV_m11 r_W p0_m11 p1_m11 p2_m11 p3_m11 p4_m11 (show zHA (m 94 10) (m 94 11) (m 94 13) (m 94 14) (m 94 16) (m 94 61) (m 94 59) (m 94 60) (m11 99) (m 102) (m 103) (m11 111) (m 117) (m 98) (m 101) (m 108) from by first | (exact ⟨fun z => absurd z (by omega), fun z => absurd z (by omega)⟩) | (exfalso; omega; done) | (exfalso; contradiction; done)) (show zRG (m 94 10) (m 94 18) (m 94 64) (m 94 63) (m11 99) (m 103) (m 102) (m 116) from by first | (exact fun z => absurd z (by omega)) | (exfalso; omega; done) | (exfalso; contradiction; done)) (show (m11 94 58).toInt = 0 ∨ (m 94 10).toInt = 5 from by omega)
            · skip
              have g49 := i_ne h37
              have li50 : (6 : Int32).toInt = 6 := rfl
              refine zd (fun (h51 : (m 94 10) = (6 : Int32)) => ?_) (fun (h51 : ¬ (m 94 10) = (6 : Int32)) => ?_)
              · skip
                have g52 := i_eq h51
                have hV53 : zV (ma_u m 94 0 (0 : Int32)) := uf_94_0 hV
                refine sp_235  hV53 r_W r_GW r_GU r_OW r_DX (show zRG1 (m 94 18) (m 94 64) (m 94 63) (m 99) (m 103) (m 102) (m 116) from by first | (exact r_RGc (by omega)) | (exfalso; omega; done) | (exfalso; contradiction; done)) (show (m 94 10).toInt = 6 from by omega) (fun v18 m17 hV_m17 p0_m17 p1_m17 p2_m17 p3_m17 p4_m17 => zmi_n ?_)
                have p0_m17 : zGW T (m17 94 55) (m17 109) := p0_m17
                have p1_m17 : zGU T (m 94 46) (m17 99) := p1_m17
                have p2_m17 : zOw (m17 99) (m17 103) (m17 111) := p2_m17
                have p3_m17 : zDX (m 94 10) (m17 99) (m 112) (m17 113) (m17 114) (m17 94 55) (m 98) (m 101) (m 102) (m 108) := p3_m17
                have p4_m17 : zRG1 (m 94 18) (m 94 64) (m17 94 63) (m17 99) (m17 103) (m 102) (m17 116) := p4_m17
                have b54 := i_bd v18
                exact K (v18) _ (zF_zov (zF_u zF_rfl rfl) ws_235_256) hV_m17 r_W p0_m17 p1_m17 p2_m17 p3_m17 r_GG (show zHA (m 94 10) (m 94 11) (m 94 13) (m 94 14) (m 94 16) (m 94 61) (m 94 59) (m 94 60) (m17 99) (m 102) (m17 103) (m17 111) (m 117) (m 98) (m 101) (m 108) from by first | (exact ⟨fun z => absurd z (by omega), fun z => absurd z (by omega)⟩) | (exfalso; omega; done) | (exfalso; contradiction; done)) (show zRG (m 94 10) (m 94 18) (m 94 64) (m17 94 63) (m17 99) (m17 103) (m 102) (m17 116) from by first | (exact fun z => absurd z (by omega)) | (exact fun _ => p4_m17) | (exfalso; omega; done) | (exfalso; contradiction; done)) (show (m 94 58).toInt = 0 ∨ (m 94 10).toInt = 5 from by omega)
              · skip
                have g55 := i_ne h51
                have hV56 : zV (ma_u m 94 0 (0 : Int32)) := uf_94_0 hV
                refine sp_187  hV56 r_W r_GW r_GU r_OW r_DX (fun v20 m19 hV_m19 p0_m19 p1_m19 p2_m19 p3_m19 p4_m19 => zmi_n ?_)
                have p0_m19 : zGW T (m19 94 55) (m19 109) := p0_m19
                have p1_m19 : zGU T (m 94 46) (m19 99) := p1_m19
                have p2_m19 : zOw (m19 99) (m 103) (m19 111) := p2_m19
                have p3_m19 : zDX (m 94 10) (m19 99) (m 112) (m19 113) (m19 114) (m19 94 55) (m 98) (m 101) (m 102) (m 108) := p3_m19
                have p4_m19 : zsw (m 99) (m19 99) (m 111) (m19 111) (m 103) := p4_m19
                have b57 := i_bd v20
                exact K (v20) _ (zF_zov (zF_u zF_rfl rfl) ws_187_256) hV_m19 r_W p0_m19 p1_m19 p2_m19 p3_m19 r_GG (show zHA (m 94 10) (m 94 11) (m 94 13) (m 94 14) (m 94 16) (m 94 61) (m 94 59) (m 94 60) (m19 99) (m 102) (m 103) (m19 111) (m 117) (m 98) (m 101) (m 108) from by first | (exact ⟨fun z => absurd z (by omega), fun z => absurd z (by omega)⟩) | (exfalso; omega; done) | (exfalso; contradiction; done)) (show zRG (m 94 10) (m 94 18) (m 94 64) (m 94 63) (m19 99) (m 103) (m 102) (m 116) from by first | (exact fun z => absurd z (by omega)) | (exfalso; omega; done) | (exfalso; contradiction; done)) (show (m 94 58).toInt = 0 ∨ (m 94 10).toInt = 5 from by omega)

/-! from 95.a0 -/
/-! the level of the regions -/
def zL91_f (c k : Nat) : Bool := zfz c k && decide (c ≠ 91) && decide (c ≠ 92) && decide (c ≠ 93)
def zL91_s : List (Nat × Nat × Int × Int) := [(69, 5, 0, 512), (69, 6, 0, 512), (75, 3, 0, 512), (75, 4, 0, 512), (88, 3, 0, 512), (88, 4, 0, 512), (91, 2, 0, 1500), (91, 3, 0, 93), (91, 5, 0, 92), (91, 6, -1, 92)]
def zL91_a : List (Nat × Nat × Int × Int) := [(92, 93, 0, 3000)]
def zL91_r : List Nat := [70]
def zL91_x (_ : Nat → Nat → Int32) : Prop := True
abbrev zL91 (f : Nat → Nat → Int32) (r : Nat → Nat → Option Nat) (C Z N : Nat) (S : ma_S) : Prop := zG zL91_f zL91_s zL91_a zL91_r zL91_x f r C Z N S
theorem zL91_dn {f : Nat → Nat → Int32} {r : Nat → Nat → Option Nat} {C Z N : Nat} {S : ma_S} (h : zL91 f r C Z N S) : zI (mI S) (mR S) C Z N S := zG_dn h (by decide) (by decide) (by decide) (fun _ => trivial)
theorem zL91_up {f : Nat → Nat → Int32} {r : Nat → Nat → Option Nat} {C Z N : Nat} {S S1 : ma_S} (h : zL91 f r C Z N S) (h1 : zI (mI S) (mR S) C Z N S1) : zL91 f r C Z N S1 := by
  refine zG_up h h1 (fun c k z => ?_) (by decide) ?_ (by decide) (fun _ _ h => h)
  · unfold zL91_f at z
    unfold zI_f
    simp only [Bool.and_eq_true] at z
    exact z.1.1.1
  · intro q hq
    right
    intro k
    have e : q = (92, 93, 0, 3000) := by
      cases hq with
      | head => rfl
      | tail _ z => cases z
    rw [e]
    rfl

