/-! from 94.491 -/
/-! the reference (written by wip/tools/gen94m.py) -/
set_option maxRecDepth 100000 in
theorem hm_184 : ma_md 184 = some (12, yX12_findRoom, cX12_findRoom, 4, (some (FieldType.int))) := rfl
theorem v_12_460_12 : ma_vl 12 460 12 = some (1, 186, 0) := by decide +kernel
theorem v_12_463_12 : ma_vl 12 463 12 = some (1, 206, 0) := by decide +kernel
theorem v_12_466_12 : ma_vl 12 466 12 = some (1, 210, 1) := by decide +kernel
theorem v_12_469_12 : ma_vl 12 469 12 = some (1, 217, 1) := by decide +kernel
theorem v_12_472_12 : ma_vl 12 472 12 = some (1, 231, 1) := by decide +kernel
theorem v_12_475_12 : ma_vl 12 475 12 = some (1, 237, 1) := by decide +kernel
theorem dX12_findRoom_0 : decode cX12_findRoom 0 = .ok (.aload_n 0, 1) := by decide +kernel
theorem dX12_findRoom_44 : decode cX12_findRoom 44 = .ok (.aload_n 0, 1) := by decide +kernel
theorem dX12_findRoom_45 : decode cX12_findRoom 45 = .ok (.iload_n 1, 1) := by decide +kernel
theorem dX12_findRoom_46 : decode cX12_findRoom 46 = .ok (.aload_n 0, 1) := by decide +kernel
theorem dX12_findRoom_50 : decode cX12_findRoom 50 = .ok (.invokevirtual 445, 3) := by decide +kernel
theorem dX12_findRoom_53 : decode cX12_findRoom 53 = .ok (.istore_n 2, 1) := by decide +kernel
theorem dX12_findRoom_54 : decode cX12_findRoom 54 = .ok (.iload_n 2, 1) := by decide +kernel
theorem dX12_findRoom_60 : decode cX12_findRoom 60 = .ok (.aload_n 0, 1) := by decide +kernel
theorem dX12_findRoom_61 : decode cX12_findRoom 61 = .ok (.invokevirtual 460, 3) := by decide +kernel
theorem dX12_findRoom_64 : decode cX12_findRoom 64 = .ok (.istore_n 3, 1) := by decide +kernel
theorem dX12_findRoom_65 : decode cX12_findRoom 65 = .ok (.aload_n 0, 1) := by decide +kernel
theorem dX12_findRoom_66 : decode cX12_findRoom 66 = .ok (.iload_n 1, 1) := by decide +kernel
theorem dX12_findRoom_67 : decode cX12_findRoom 67 = .ok (.aload_n 0, 1) := by decide +kernel
theorem dX12_findRoom_71 : decode cX12_findRoom 71 = .ok (.invokevirtual 445, 3) := by decide +kernel
theorem dX12_findRoom_74 : decode cX12_findRoom 74 = .ok (.ireturn, 1) := by decide +kernel
theorem dX12_findRoom_68 : decode cX12_findRoom 68 = .ok (.getfield 202, 3) := by decide +kernel
theorem dX12_findRoom_58 : decode cX12_findRoom 58 = .ok (.iload_n 2, 1) := by decide +kernel
theorem dX12_findRoom_59 : decode cX12_findRoom 59 = .ok (.ireturn, 1) := by decide +kernel
theorem dX12_findRoom_55 : decode cX12_findRoom 55 = .ok (.ifCond .lt 5, 3) := by decide +kernel
theorem dX12_findRoom_47 : decode cX12_findRoom 47 = .ok (.getfield 202, 3) := by decide +kernel
theorem dX12_findRoom_4 : decode cX12_findRoom 4 = .ok (.tableswitch 134 1 6 #[40, 71, 116, 134, 122, 128], 40) := by decide +kernel
theorem dX12_findRoom_75 : decode cX12_findRoom 75 = .ok (.aload_n 0, 1) := by decide +kernel
theorem dX12_findRoom_76 : decode cX12_findRoom 76 = .ok (.iload_n 1, 1) := by decide +kernel
theorem dX12_findRoom_77 : decode cX12_findRoom 77 = .ok (.aload_n 0, 1) := by decide +kernel
theorem dX12_findRoom_81 : decode cX12_findRoom 81 = .ok (.iconst 1, 1) := by decide +kernel
theorem dX12_findRoom_82 : decode cX12_findRoom 82 = .ok (.iadd, 1) := by decide +kernel
theorem dX12_findRoom_83 : decode cX12_findRoom 83 = .ok (.aload_n 0, 1) := by decide +kernel
theorem dX12_findRoom_87 : decode cX12_findRoom 87 = .ok (.imul, 1) := by decide +kernel
theorem dX12_findRoom_88 : decode cX12_findRoom 88 = .ok (.invokevirtual 445, 3) := by decide +kernel
theorem dX12_findRoom_91 : decode cX12_findRoom 91 = .ok (.istore_n 2, 1) := by decide +kernel
theorem dX12_findRoom_92 : decode cX12_findRoom 92 = .ok (.iload_n 2, 1) := by decide +kernel
theorem dX12_findRoom_98 : decode cX12_findRoom 98 = .ok (.aload_n 0, 1) := by decide +kernel
theorem dX12_findRoom_99 : decode cX12_findRoom 99 = .ok (.invokevirtual 463, 3) := by decide +kernel
theorem dX12_findRoom_102 : decode cX12_findRoom 102 = .ok (.istore_n 3, 1) := by decide +kernel
theorem dX12_findRoom_103 : decode cX12_findRoom 103 = .ok (.aload_n 0, 1) := by decide +kernel
theorem dX12_findRoom_104 : decode cX12_findRoom 104 = .ok (.iload_n 1, 1) := by decide +kernel
theorem dX12_findRoom_105 : decode cX12_findRoom 105 = .ok (.aload_n 0, 1) := by decide +kernel
theorem dX12_findRoom_109 : decode cX12_findRoom 109 = .ok (.iconst 1, 1) := by decide +kernel
theorem dX12_findRoom_110 : decode cX12_findRoom 110 = .ok (.iadd, 1) := by decide +kernel
theorem dX12_findRoom_111 : decode cX12_findRoom 111 = .ok (.aload_n 0, 1) := by decide +kernel
theorem dX12_findRoom_115 : decode cX12_findRoom 115 = .ok (.imul, 1) := by decide +kernel
theorem dX12_findRoom_116 : decode cX12_findRoom 116 = .ok (.invokevirtual 445, 3) := by decide +kernel
theorem dX12_findRoom_119 : decode cX12_findRoom 119 = .ok (.ireturn, 1) := by decide +kernel
theorem dX12_findRoom_112 : decode cX12_findRoom 112 = .ok (.getfield 202, 3) := by decide +kernel
theorem dX12_findRoom_106 : decode cX12_findRoom 106 = .ok (.getfield 273, 3) := by decide +kernel
theorem dX12_findRoom_96 : decode cX12_findRoom 96 = .ok (.iload_n 2, 1) := by decide +kernel
theorem dX12_findRoom_97 : decode cX12_findRoom 97 = .ok (.ireturn, 1) := by decide +kernel
theorem dX12_findRoom_93 : decode cX12_findRoom 93 = .ok (.ifCond .lt 5, 3) := by decide +kernel
theorem dX12_findRoom_84 : decode cX12_findRoom 84 = .ok (.getfield 202, 3) := by decide +kernel
theorem dX12_findRoom_78 : decode cX12_findRoom 78 = .ok (.getfield 273, 3) := by decide +kernel
theorem dX12_findRoom_120 : decode cX12_findRoom 120 = .ok (.aload_n 0, 1) := by decide +kernel
theorem dX12_findRoom_121 : decode cX12_findRoom 121 = .ok (.iload_n 1, 1) := by decide +kernel
theorem dX12_findRoom_122 : decode cX12_findRoom 122 = .ok (.invokevirtual 466, 3) := by decide +kernel
theorem dX12_findRoom_125 : decode cX12_findRoom 125 = .ok (.ireturn, 1) := by decide +kernel
theorem dX12_findRoom_138 : decode cX12_findRoom 138 = .ok (.aload_n 0, 1) := by decide +kernel
theorem dX12_findRoom_139 : decode cX12_findRoom 139 = .ok (.iload_n 1, 1) := by decide +kernel
theorem dX12_findRoom_140 : decode cX12_findRoom 140 = .ok (.invokevirtual 475, 3) := by decide +kernel
theorem dX12_findRoom_143 : decode cX12_findRoom 143 = .ok (.ireturn, 1) := by decide +kernel
theorem dX12_findRoom_126 : decode cX12_findRoom 126 = .ok (.aload_n 0, 1) := by decide +kernel
theorem dX12_findRoom_127 : decode cX12_findRoom 127 = .ok (.iload_n 1, 1) := by decide +kernel
theorem dX12_findRoom_128 : decode cX12_findRoom 128 = .ok (.invokevirtual 469, 3) := by decide +kernel
theorem dX12_findRoom_131 : decode cX12_findRoom 131 = .ok (.ireturn, 1) := by decide +kernel
theorem dX12_findRoom_132 : decode cX12_findRoom 132 = .ok (.aload_n 0, 1) := by decide +kernel
theorem dX12_findRoom_133 : decode cX12_findRoom 133 = .ok (.iload_n 1, 1) := by decide +kernel
theorem dX12_findRoom_134 : decode cX12_findRoom 134 = .ok (.invokevirtual 472, 3) := by decide +kernel
theorem dX12_findRoom_137 : decode cX12_findRoom 137 = .ok (.ireturn, 1) := by decide +kernel
theorem dX12_findRoom_1 : decode cX12_findRoom 1 = .ok (.getfield 199, 3) := by decide +kernel
def wr_184 (c k : Nat) : Bool := Nat.beq c 99 || Nat.beq c 103 || Nat.beq c 104 || Nat.beq c 105 || Nat.beq c 106 || Nat.beq c 109 || Nat.beq c 110 || Nat.beq c 111 || Nat.beq c 113 || Nat.beq c 114 || Nat.beq c 115 || Nat.beq c 116 || Nat.beq c 117 || Nat.beq c 118 || Nat.beq c 119 || Nat.beq c 122 || Nat.beq c 123 || Nat.beq c 124 || (Nat.beq c 94 && (Nat.beq k 44 || Nat.beq k 45 || Nat.beq k 47 || Nat.beq k 48 || Nat.beq k 49 || Nat.beq k 50 || Nat.beq k 55 || Nat.beq k 56 || Nat.beq k 57 || Nat.beq k 58 || Nat.beq k 59 || Nat.beq k 60 || Nat.beq k 61 || Nat.beq k 63 || Nat.beq k 73 || Nat.beq k 75 || Nat.beq k 76 || Nat.beq k 77 || Nat.beq k 84))
theorem ws_186_184 : ∀ c k, wr_186 c k = true → wr_184 c k = true := by
  intro c k h
  simp only [wr_186, wr_184, Bool.or_eq_true, Bool.and_eq_true, Nat.beq_eq] at h ⊢
  omega
theorem ws_206_184 : ∀ c k, wr_206 c k = true → wr_184 c k = true := by
  intro c k h
  simp only [wr_206, wr_184, Bool.or_eq_true, Bool.and_eq_true, Nat.beq_eq] at h ⊢
  omega
theorem ws_210_184 : ∀ c k, wr_210 c k = true → wr_184 c k = true := by
  intro c k h
  simp only [wr_210, wr_184, Bool.or_eq_true, Bool.and_eq_true, Nat.beq_eq] at h ⊢
  omega
theorem ws_217_184 : ∀ c k, wr_217 c k = true → wr_184 c k = true := by
  intro c k h
  simp only [wr_217, wr_184, Bool.or_eq_true, Bool.and_eq_true, Nat.beq_eq] at h ⊢
  omega
theorem ws_231_184 : ∀ c k, wr_231 c k = true → wr_184 c k = true := by
  intro c k h
  simp only [wr_231, wr_184, Bool.or_eq_true, Bool.and_eq_true, Nat.beq_eq] at h ⊢
  omega
theorem ws_237_184 : ∀ c k, wr_237 c k = true → wr_184 c k = true := by
  intro c k h
  simp only [wr_237, wr_184, Bool.or_eq_true, Bool.and_eq_true, Nat.beq_eq] at h ⊢
  omega
theorem g_184_0 {X : Nat × (Nat → Int32)} {m : Nat → Nat → Int32} {P : Option ma_V → (Nat → Nat → Int32) → Prop} (nw : Int32) (h : if (m 94 10) = (1 : Int32) then (if ((m 94 59) + nw) ≤ (m 94 11) then (if (m 94 59) < 0 then (zm X 5 108 186 0 [(0, .inr (.inr (some 94)))] (ma_u m 94 59 ((m 94 59) + nw)) (zmi (fun v2 m1 => if ((m1 94 59) + nw) ≤ (m1 94 11) then (P (some (.inl (m1 94 59))) (ma_u m1 94 59 ((m1 94 59) + nw))) else (P (some (.inl (-1 : Int32))) m1)))) else (P (some (.inl (m 94 59))) (ma_u m 94 59 ((m 94 59) + nw)))) else (zm X 5 108 186 0 [(0, .inr (.inr (some 94)))] m (zmi (fun v4 m3 => if ((m3 94 59) + nw) ≤ (m3 94 11) then (P (some (.inl (m3 94 59))) (ma_u m3 94 59 ((m3 94 59) + nw))) else (P (some (.inl (-1 : Int32))) m3))))) else (if (m 94 10) = (2 : Int32) then (if ((m 94 59) + nw) ≤ (((m 94 61) + (1 : Int32)) * (m 94 11)) then (if (m 94 59) < 0 then (zm X 5 109 206 0 [(0, .inr (.inr (some 94)))] (ma_u m 94 59 ((m 94 59) + nw)) (zmi (fun v6 m5 => if ((m5 94 59) + nw) ≤ (((m5 94 61) + (1 : Int32)) * (m5 94 11)) then (P (some (.inl (m5 94 59))) (ma_u m5 94 59 ((m5 94 59) + nw))) else (P (some (.inl (-1 : Int32))) m5)))) else (P (some (.inl (m 94 59))) (ma_u m 94 59 ((m 94 59) + nw)))) else (zm X 5 109 206 0 [(0, .inr (.inr (some 94)))] m (zmi (fun v8 m7 => if ((m7 94 59) + nw) ≤ (((m7 94 61) + (1 : Int32)) * (m7 94 11)) then (P (some (.inl (m7 94 59))) (ma_u m7 94 59 ((m7 94 59) + nw))) else (P (some (.inl (-1 : Int32))) m7))))) else (if (m 94 10) = (3 : Int32) then (zm X 7 152 210 0 [(0, .inr (.inr (some 94))), (1, .inl nw)] m (zmi (fun v10 m9 => P (some (.inl v10)) m9))) else (if (m 94 10) = (4 : Int32) then (zm X 5 108 237 0 [(0, .inr (.inr (some 94))), (1, .inl nw)] m (zmi (fun v12 m11 => P (some (.inl v12)) m11))) else (if (m 94 10) = (5 : Int32) then (zm X 7 151 217 0 [(0, .inr (.inr (some 94))), (1, .inl nw)] m (zmi (fun v14 m13 => P (some (.inl v14)) m13))) else (if (m 94 10) = (6 : Int32) then (zm X 6 137 231 0 [(0, .inr (.inr (some 94))), (1, .inl nw)] m (zmi (fun v16 m15 => P (some (.inl v16)) m15))) else (zm X 5 108 237 0 [(0, .inr (.inr (some 94))), (1, .inl nw)] m (zmi (fun v18 m17 => P (some (.inl v18)) m17))))))))) : zm X 8 175 184 0 [(0, .inr (.inr (some 94))), (1, .inl nw)] m P := by
  intro d w S Q hd hw hS hm HQ
  subst hm
  refine zw_push hm_184 dX12_findRoom_0 (v := .inr (.inr (some 94))) rfl ?_
  refine zw_gf hm_184 dX12_findRoom_1 (v := .inl ((mI S) 94 10)) (zT_is hS s_94) (zT_t hS s_94) rfl f_12_199_12 rfl ?_
  by_cases hc0 : ((mI S) 94 10) = (1 : Int32)
  · rw [if_pos hc0] at h
    refine zw_jmp hm_184 dX12_findRoom_4 (t := 44) (st₉ := []) rfl rfl rfl (ma_jmp_tab (by rw [hc0]; decide +kernel)) ?_
    refine zw_push hm_184 dX12_findRoom_44 (v := .inr (.inr (some 94))) rfl ?_
    refine zw_push hm_184 dX12_findRoom_45 (v := .inl nw) rfl ?_
    refine zw_push hm_184 dX12_findRoom_46 (v := .inr (.inr (some 94))) rfl ?_
    refine zw_gf hm_184 dX12_findRoom_47 (v := .inl ((mI S) 94 11)) (zT_is hS s_94) (zT_t hS s_94) rfl f_12_202_12 rfl ?_
    refine zw_cv hm_184 dX12_findRoom_50 v_12_445_12 hm_185 [.inl ((mI S) 94 11), .inl nw] [] rfl (zT_rt hS s_94 rfl) ⟨by omega, by omega⟩ rfl ?_
    show ma_wp X (d - 1) (w - 23) 185 0 [(0, .inr (.inr (some 94))), (1, .inl nw), (2, .inl ((mI S) 94 11))] [] S _
    refine zw_push hm_185 dX12_findInHalf_0 (v := .inr (.inr (some 94))) rfl ?_
    refine zw_gf hm_185 dX12_findInHalf_1 (v := .inl ((mI S) 94 59)) (zT_is hS s_94) (zT_t hS s_94) rfl f_12_276_12 rfl ?_
    refine zw_push hm_185 dX12_findInHalf_4 (v := .inl nw) rfl ?_
    refine zw_stk hm_185 dX12_findInHalf_5 (st₉ := [.inl (((mI S) 94 59) + nw)]) rfl rfl ?_
    refine zw_push hm_185 dX12_findInHalf_6 (v := .inl ((mI S) 94 11)) rfl ?_
    refine zw_if2 hm_185 dX12_findInHalf_7 (t := 12) rfl zc2_le ?_ ?_
    · intro hc
      rw [if_pos hc] at h
      refine zw_push hm_185 dX12_findInHalf_12 (v := .inr (.inr (some 94))) rfl ?_
      refine zw_gf hm_185 dX12_findInHalf_13 (v := .inl ((mI S) 94 59)) (zT_is hS s_94) (zT_t hS s_94) rfl f_12_276_12 rfl ?_
      refine zw_sto hm_185 dX12_findInHalf_16 [(3, .inl ((mI S) 94 59)), (0, .inr (.inr (some 94))), (1, .inl nw), (2, .inl ((mI S) 94 11))] rfl rfl rfl ?_
      refine zw_push hm_185 dX12_findInHalf_17 (v := .inr (.inr (some 94))) rfl ?_
      refine zw_stk hm_185 dX12_findInHalf_18 (st₉ := [.inr (.inr (some 94)), .inr (.inr (some 94))]) rfl rfl ?_
      refine zw_gf hm_185 dX12_findInHalf_19 (v := .inl ((mI S) 94 59)) (zT_is hS s_94) (zT_t hS s_94) rfl f_12_276_12 rfl ?_
      refine zw_push hm_185 dX12_findInHalf_22 (v := .inl nw) rfl ?_
      refine zw_stk hm_185 dX12_findInHalf_23 (st₉ := [.inl (((mI S) 94 59) + nw), .inr (.inr (some 94))]) rfl rfl ?_
      refine zw_pf hm_185 dX12_findInHalf_24 (zT_is hS s_94) (zT_t hS s_94) p_12_276_12 zk_int ?_
      refine zw_push hm_185 dX12_findInHalf_27 (v := .inl ((mI S) 94 59)) rfl ?_
      refine zw_iret hm_185 dX12_findInHalf_28 ?_
      show ma_wp X d w 184 53 [(0, .inr (.inr (some 94))), (1, .inl nw)] [.inl ((mI S) 94 59)] (ma_put S 94 59 (.inl (((mI S) 94 59) + nw))) _
      refine zw_sto hm_184 dX12_findRoom_53 [(2, .inl ((mI S) 94 59)), (0, .inr (.inr (some 94))), (1, .inl nw)] rfl rfl rfl ?_
      refine zw_push hm_184 dX12_findRoom_54 (v := .inl ((mI S) 94 59)) rfl ?_
      refine zw_if0 hm_184 dX12_findRoom_55 (t := 60) rfl zc0_lt ?_ ?_
      · intro hc
        rw [if_pos hc] at h
        refine zw_push hm_184 dX12_findRoom_60 (v := .inr (.inr (some 94))) rfl ?_
        refine zw_cv hm_184 dX12_findRoom_61 v_12_460_12 hm_186 [] [] rfl (zT_rt (zT_pi hS) s_94 rfl) ⟨by omega, by omega⟩ rfl (h _ _ (ma_put S 94 59 (.inl (((mI S) 94 59) + nw))) _ (by omega) (by omega) (zT_pi hS) rfl (fun o9 m1 hv => ?_))
        obtain ⟨v2, rfl, h⟩ := zmi_of hv
        show ma_wp X d w 184 64 [(2, .inl ((mI S) 94 59)), (0, .inr (.inr (some 94))), (1, .inl nw)] [.inl v2] (zst S m1) _
        refine zw_sto hm_184 dX12_findRoom_64 [(3, .inl v2), (2, .inl ((mI S) 94 59)), (0, .inr (.inr (some 94))), (1, .inl nw)] rfl rfl rfl ?_
        refine zw_push hm_184 dX12_findRoom_65 (v := .inr (.inr (some 94))) rfl ?_
        refine zw_push hm_184 dX12_findRoom_66 (v := .inl nw) rfl ?_
        refine zw_push hm_184 dX12_findRoom_67 (v := .inr (.inr (some 94))) rfl ?_
        refine zw_gf hm_184 dX12_findRoom_68 (v := .inl (m1 94 11)) (zT_is (zT_zst hS m1) s_94) (zT_t (zT_zst hS m1) s_94) rfl f_12_202_12 rfl ?_
        refine zw_cv hm_184 dX12_findRoom_71 v_12_445_12 hm_185 [.inl (m1 94 11), .inl nw] [] rfl (zT_rt (zT_zst hS m1) s_94 rfl) ⟨by omega, by omega⟩ rfl ?_
        show ma_wp X (d - 1) (w - 23) 185 0 [(0, .inr (.inr (some 94))), (1, .inl nw), (2, .inl (m1 94 11))] [] (zst S m1) _
        refine zw_push hm_185 dX12_findInHalf_0 (v := .inr (.inr (some 94))) rfl ?_
        refine zw_gf hm_185 dX12_findInHalf_1 (v := .inl (m1 94 59)) (zT_is (zT_zst hS m1) s_94) (zT_t (zT_zst hS m1) s_94) rfl f_12_276_12 rfl ?_
        refine zw_push hm_185 dX12_findInHalf_4 (v := .inl nw) rfl ?_
        refine zw_stk hm_185 dX12_findInHalf_5 (st₉ := [.inl ((m1 94 59) + nw)]) rfl rfl ?_
        refine zw_push hm_185 dX12_findInHalf_6 (v := .inl (m1 94 11)) rfl ?_
        refine zw_if2 hm_185 dX12_findInHalf_7 (t := 12) rfl zc2_le ?_ ?_
        · intro hc
          rw [if_pos hc] at h
          refine zw_push hm_185 dX12_findInHalf_12 (v := .inr (.inr (some 94))) rfl ?_
          refine zw_gf hm_185 dX12_findInHalf_13 (v := .inl (m1 94 59)) (zT_is (zT_zst hS m1) s_94) (zT_t (zT_zst hS m1) s_94) rfl f_12_276_12 rfl ?_
          refine zw_sto hm_185 dX12_findInHalf_16 [(3, .inl (m1 94 59)), (0, .inr (.inr (some 94))), (1, .inl nw), (2, .inl (m1 94 11))] rfl rfl rfl ?_
          refine zw_push hm_185 dX12_findInHalf_17 (v := .inr (.inr (some 94))) rfl ?_
          refine zw_stk hm_185 dX12_findInHalf_18 (st₉ := [.inr (.inr (some 94)), .inr (.inr (some 94))]) rfl rfl ?_
          refine zw_gf hm_185 dX12_findInHalf_19 (v := .inl (m1 94 59)) (zT_is (zT_zst hS m1) s_94) (zT_t (zT_zst hS m1) s_94) rfl f_12_276_12 rfl ?_
          refine zw_push hm_185 dX12_findInHalf_22 (v := .inl nw) rfl ?_
          refine zw_stk hm_185 dX12_findInHalf_23 (st₉ := [.inl ((m1 94 59) + nw), .inr (.inr (some 94))]) rfl rfl ?_
          refine zw_pf hm_185 dX12_findInHalf_24 (zT_is (zT_zst hS m1) s_94) (zT_t (zT_zst hS m1) s_94) p_12_276_12 zk_int ?_
          refine zw_push hm_185 dX12_findInHalf_27 (v := .inl (m1 94 59)) rfl ?_
          refine zw_iret hm_185 dX12_findInHalf_28 ?_
          show ma_wp X d w 184 74 [(3, .inl v2), (2, .inl ((mI S) 94 59)), (0, .inr (.inr (some 94))), (1, .inl nw)] [.inl (m1 94 59)] (ma_put (zst S m1) 94 59 (.inl ((m1 94 59) + nw))) _
          exact zw_iret hm_184 dX12_findRoom_74 (HQ _ _ h)
        · intro hc
          rw [if_neg hc] at h
          refine zw_push hm_185 dX12_findInHalf_10 (v := .inl (-1 : Int32)) rfl ?_
          refine zw_iret hm_185 dX12_findInHalf_11 ?_
          show ma_wp X d w 184 74 [(3, .inl v2), (2, .inl ((mI S) 94 59)), (0, .inr (.inr (some 94))), (1, .inl nw)] [.inl (-1 : Int32)] (zst S m1) _
          exact zw_iret hm_184 dX12_findRoom_74 (HQ _ _ h)
      · intro hc
        rw [if_neg hc] at h
        refine zw_push hm_184 dX12_findRoom_58 (v := .inl ((mI S) 94 59)) rfl ?_
        exact zw_iret hm_184 dX12_findRoom_59 (HQ _ _ h)
    · intro hc
      rw [if_neg hc] at h
      refine zw_push hm_185 dX12_findInHalf_10 (v := .inl (-1 : Int32)) rfl ?_
      refine zw_iret hm_185 dX12_findInHalf_11 ?_
      show ma_wp X d w 184 53 [(0, .inr (.inr (some 94))), (1, .inl nw)] [.inl (-1 : Int32)] S _
      refine zw_sto hm_184 dX12_findRoom_53 [(2, .inl (-1 : Int32)), (0, .inr (.inr (some 94))), (1, .inl nw)] rfl rfl rfl ?_
      refine zw_push hm_184 dX12_findRoom_54 (v := .inl (-1 : Int32)) rfl ?_
      refine zw_if0 hm_184 dX12_findRoom_55 (t := 60) rfl zc0_lt (fun _ => ?_) (fun hc => absurd (by decide) hc)
      refine zw_push hm_184 dX12_findRoom_60 (v := .inr (.inr (some 94))) rfl ?_
      refine zw_cv hm_184 dX12_findRoom_61 v_12_460_12 hm_186 [] [] rfl (zT_rt hS s_94 rfl) ⟨by omega, by omega⟩ rfl (h _ _ S _ (by omega) (by omega) hS rfl (fun o9 m3 hv => ?_))
      obtain ⟨v4, rfl, h⟩ := zmi_of hv
      show ma_wp X d w 184 64 [(2, .inl (-1 : Int32)), (0, .inr (.inr (some 94))), (1, .inl nw)] [.inl v4] (zst S m3) _
      refine zw_sto hm_184 dX12_findRoom_64 [(3, .inl v4), (2, .inl (-1 : Int32)), (0, .inr (.inr (some 94))), (1, .inl nw)] rfl rfl rfl ?_
      refine zw_push hm_184 dX12_findRoom_65 (v := .inr (.inr (some 94))) rfl ?_
      refine zw_push hm_184 dX12_findRoom_66 (v := .inl nw) rfl ?_
      refine zw_push hm_184 dX12_findRoom_67 (v := .inr (.inr (some 94))) rfl ?_
      refine zw_gf hm_184 dX12_findRoom_68 (v := .inl (m3 94 11)) (zT_is (zT_zst hS m3) s_94) (zT_t (zT_zst hS m3) s_94) rfl f_12_202_12 rfl ?_
      refine zw_cv hm_184 dX12_findRoom_71 v_12_445_12 hm_185 [.inl (m3 94 11), .inl nw] [] rfl (zT_rt (zT_zst hS m3) s_94 rfl) ⟨by omega, by omega⟩ rfl ?_
      show ma_wp X (d - 1) (w - 23) 185 0 [(0, .inr (.inr (some 94))), (1, .inl nw), (2, .inl (m3 94 11))] [] (zst S m3) _
      refine zw_push hm_185 dX12_findInHalf_0 (v := .inr (.inr (some 94))) rfl ?_
      refine zw_gf hm_185 dX12_findInHalf_1 (v := .inl (m3 94 59)) (zT_is (zT_zst hS m3) s_94) (zT_t (zT_zst hS m3) s_94) rfl f_12_276_12 rfl ?_
      refine zw_push hm_185 dX12_findInHalf_4 (v := .inl nw) rfl ?_
      refine zw_stk hm_185 dX12_findInHalf_5 (st₉ := [.inl ((m3 94 59) + nw)]) rfl rfl ?_
      refine zw_push hm_185 dX12_findInHalf_6 (v := .inl (m3 94 11)) rfl ?_
      refine zw_if2 hm_185 dX12_findInHalf_7 (t := 12) rfl zc2_le ?_ ?_
      · intro hc
        rw [if_pos hc] at h
        refine zw_push hm_185 dX12_findInHalf_12 (v := .inr (.inr (some 94))) rfl ?_
        refine zw_gf hm_185 dX12_findInHalf_13 (v := .inl (m3 94 59)) (zT_is (zT_zst hS m3) s_94) (zT_t (zT_zst hS m3) s_94) rfl f_12_276_12 rfl ?_
        refine zw_sto hm_185 dX12_findInHalf_16 [(3, .inl (m3 94 59)), (0, .inr (.inr (some 94))), (1, .inl nw), (2, .inl (m3 94 11))] rfl rfl rfl ?_
        refine zw_push hm_185 dX12_findInHalf_17 (v := .inr (.inr (some 94))) rfl ?_
        refine zw_stk hm_185 dX12_findInHalf_18 (st₉ := [.inr (.inr (some 94)), .inr (.inr (some 94))]) rfl rfl ?_
        refine zw_gf hm_185 dX12_findInHalf_19 (v := .inl (m3 94 59)) (zT_is (zT_zst hS m3) s_94) (zT_t (zT_zst hS m3) s_94) rfl f_12_276_12 rfl ?_
        refine zw_push hm_185 dX12_findInHalf_22 (v := .inl nw) rfl ?_
        refine zw_stk hm_185 dX12_findInHalf_23 (st₉ := [.inl ((m3 94 59) + nw), .inr (.inr (some 94))]) rfl rfl ?_
        refine zw_pf hm_185 dX12_findInHalf_24 (zT_is (zT_zst hS m3) s_94) (zT_t (zT_zst hS m3) s_94) p_12_276_12 zk_int ?_
        refine zw_push hm_185 dX12_findInHalf_27 (v := .inl (m3 94 59)) rfl ?_
        refine zw_iret hm_185 dX12_findInHalf_28 ?_
        show ma_wp X d w 184 74 [(3, .inl v4), (2, .inl (-1 : Int32)), (0, .inr (.inr (some 94))), (1, .inl nw)] [.inl (m3 94 59)] (ma_put (zst S m3) 94 59 (.inl ((m3 94 59) + nw))) _
        exact zw_iret hm_184 dX12_findRoom_74 (HQ _ _ h)
      · intro hc
        rw [if_neg hc] at h
        refine zw_push hm_185 dX12_findInHalf_10 (v := .inl (-1 : Int32)) rfl ?_
        refine zw_iret hm_185 dX12_findInHalf_11 ?_
        show ma_wp X d w 184 74 [(3, .inl v4), (2, .inl (-1 : Int32)), (0, .inr (.inr (some 94))), (1, .inl nw)] [.inl (-1 : Int32)] (zst S m3) _
        exact zw_iret hm_184 dX12_findRoom_74 (HQ _ _ h)
  rw [if_neg hc0] at h
  by_cases hc1 : ((mI S) 94 10) = (2 : Int32)
  · rw [if_pos hc1] at h
    refine zw_jmp hm_184 dX12_findRoom_4 (t := 75) (st₉ := []) rfl rfl rfl (ma_jmp_tab (by rw [hc1]; decide +kernel)) ?_
    refine zw_push hm_184 dX12_findRoom_75 (v := .inr (.inr (some 94))) rfl ?_
    refine zw_push hm_184 dX12_findRoom_76 (v := .inl nw) rfl ?_
    refine zw_push hm_184 dX12_findRoom_77 (v := .inr (.inr (some 94))) rfl ?_
    refine zw_gf hm_184 dX12_findRoom_78 (v := .inl ((mI S) 94 61)) (zT_is hS s_94) (zT_t hS s_94) rfl f_12_273_12 rfl ?_
    refine zw_push hm_184 dX12_findRoom_81 (v := .inl (1 : Int32)) rfl ?_
    refine zw_stk hm_184 dX12_findRoom_82 (st₉ := [.inl (((mI S) 94 61) + (1 : Int32)), .inl nw, .inr (.inr (some 94))]) rfl rfl ?_
    refine zw_push hm_184 dX12_findRoom_83 (v := .inr (.inr (some 94))) rfl ?_
    refine zw_gf hm_184 dX12_findRoom_84 (v := .inl ((mI S) 94 11)) (zT_is hS s_94) (zT_t hS s_94) rfl f_12_202_12 rfl ?_
    refine zw_stk hm_184 dX12_findRoom_87 (st₉ := [.inl ((((mI S) 94 61) + (1 : Int32)) * ((mI S) 94 11)), .inl nw, .inr (.inr (some 94))]) rfl rfl ?_
    refine zw_cv hm_184 dX12_findRoom_88 v_12_445_12 hm_185 [.inl ((((mI S) 94 61) + (1 : Int32)) * ((mI S) 94 11)), .inl nw] [] rfl (zT_rt hS s_94 rfl) ⟨by omega, by omega⟩ rfl ?_
    show ma_wp X (d - 1) (w - 23) 185 0 [(0, .inr (.inr (some 94))), (1, .inl nw), (2, .inl ((((mI S) 94 61) + (1 : Int32)) * ((mI S) 94 11)))] [] S _
    refine zw_push hm_185 dX12_findInHalf_0 (v := .inr (.inr (some 94))) rfl ?_
    refine zw_gf hm_185 dX12_findInHalf_1 (v := .inl ((mI S) 94 59)) (zT_is hS s_94) (zT_t hS s_94) rfl f_12_276_12 rfl ?_
    refine zw_push hm_185 dX12_findInHalf_4 (v := .inl nw) rfl ?_
    refine zw_stk hm_185 dX12_findInHalf_5 (st₉ := [.inl (((mI S) 94 59) + nw)]) rfl rfl ?_
    refine zw_push hm_185 dX12_findInHalf_6 (v := .inl ((((mI S) 94 61) + (1 : Int32)) * ((mI S) 94 11))) rfl ?_
    refine zw_if2 hm_185 dX12_findInHalf_7 (t := 12) rfl zc2_le ?_ ?_
    · intro hc
      rw [if_pos hc] at h
      refine zw_push hm_185 dX12_findInHalf_12 (v := .inr (.inr (some 94))) rfl ?_
      refine zw_gf hm_185 dX12_findInHalf_13 (v := .inl ((mI S) 94 59)) (zT_is hS s_94) (zT_t hS s_94) rfl f_12_276_12 rfl ?_
      refine zw_sto hm_185 dX12_findInHalf_16 [(3, .inl ((mI S) 94 59)), (0, .inr (.inr (some 94))), (1, .inl nw), (2, .inl ((((mI S) 94 61) + (1 : Int32)) * ((mI S) 94 11)))] rfl rfl rfl ?_
      refine zw_push hm_185 dX12_findInHalf_17 (v := .inr (.inr (some 94))) rfl ?_
      refine zw_stk hm_185 dX12_findInHalf_18 (st₉ := [.inr (.inr (some 94)), .inr (.inr (some 94))]) rfl rfl ?_
      refine zw_gf hm_185 dX12_findInHalf_19 (v := .inl ((mI S) 94 59)) (zT_is hS s_94) (zT_t hS s_94) rfl f_12_276_12 rfl ?_
      refine zw_push hm_185 dX12_findInHalf_22 (v := .inl nw) rfl ?_
      refine zw_stk hm_185 dX12_findInHalf_23 (st₉ := [.inl (((mI S) 94 59) + nw), .inr (.inr (some 94))]) rfl rfl ?_
      refine zw_pf hm_185 dX12_findInHalf_24 (zT_is hS s_94) (zT_t hS s_94) p_12_276_12 zk_int ?_
      refine zw_push hm_185 dX12_findInHalf_27 (v := .inl ((mI S) 94 59)) rfl ?_
      refine zw_iret hm_185 dX12_findInHalf_28 ?_
      show ma_wp X d w 184 91 [(0, .inr (.inr (some 94))), (1, .inl nw)] [.inl ((mI S) 94 59)] (ma_put S 94 59 (.inl (((mI S) 94 59) + nw))) _
      refine zw_sto hm_184 dX12_findRoom_91 [(2, .inl ((mI S) 94 59)), (0, .inr (.inr (some 94))), (1, .inl nw)] rfl rfl rfl ?_
      refine zw_push hm_184 dX12_findRoom_92 (v := .inl ((mI S) 94 59)) rfl ?_
      refine zw_if0 hm_184 dX12_findRoom_93 (t := 98) rfl zc0_lt ?_ ?_
      · intro hc
        rw [if_pos hc] at h
        refine zw_push hm_184 dX12_findRoom_98 (v := .inr (.inr (some 94))) rfl ?_
        refine zw_cv hm_184 dX12_findRoom_99 v_12_463_12 hm_206 [] [] rfl (zT_rt (zT_pi hS) s_94 rfl) ⟨by omega, by omega⟩ rfl (h _ _ (ma_put S 94 59 (.inl (((mI S) 94 59) + nw))) _ (by omega) (by omega) (zT_pi hS) rfl (fun o9 m5 hv => ?_))
        obtain ⟨v6, rfl, h⟩ := zmi_of hv
        show ma_wp X d w 184 102 [(2, .inl ((mI S) 94 59)), (0, .inr (.inr (some 94))), (1, .inl nw)] [.inl v6] (zst S m5) _
        refine zw_sto hm_184 dX12_findRoom_102 [(3, .inl v6), (2, .inl ((mI S) 94 59)), (0, .inr (.inr (some 94))), (1, .inl nw)] rfl rfl rfl ?_
        refine zw_push hm_184 dX12_findRoom_103 (v := .inr (.inr (some 94))) rfl ?_
        refine zw_push hm_184 dX12_findRoom_104 (v := .inl nw) rfl ?_
        refine zw_push hm_184 dX12_findRoom_105 (v := .inr (.inr (some 94))) rfl ?_
        refine zw_gf hm_184 dX12_findRoom_106 (v := .inl (m5 94 61)) (zT_is (zT_zst hS m5) s_94) (zT_t (zT_zst hS m5) s_94) rfl f_12_273_12 rfl ?_
        refine zw_push hm_184 dX12_findRoom_109 (v := .inl (1 : Int32)) rfl ?_
        refine zw_stk hm_184 dX12_findRoom_110 (st₉ := [.inl ((m5 94 61) + (1 : Int32)), .inl nw, .inr (.inr (some 94))]) rfl rfl ?_
        refine zw_push hm_184 dX12_findRoom_111 (v := .inr (.inr (some 94))) rfl ?_
        refine zw_gf hm_184 dX12_findRoom_112 (v := .inl (m5 94 11)) (zT_is (zT_zst hS m5) s_94) (zT_t (zT_zst hS m5) s_94) rfl f_12_202_12 rfl ?_
        refine zw_stk hm_184 dX12_findRoom_115 (st₉ := [.inl (((m5 94 61) + (1 : Int32)) * (m5 94 11)), .inl nw, .inr (.inr (some 94))]) rfl rfl ?_
        refine zw_cv hm_184 dX12_findRoom_116 v_12_445_12 hm_185 [.inl (((m5 94 61) + (1 : Int32)) * (m5 94 11)), .inl nw] [] rfl (zT_rt (zT_zst hS m5) s_94 rfl) ⟨by omega, by omega⟩ rfl ?_
        show ma_wp X (d - 1) (w - 23) 185 0 [(0, .inr (.inr (some 94))), (1, .inl nw), (2, .inl (((m5 94 61) + (1 : Int32)) * (m5 94 11)))] [] (zst S m5) _
        refine zw_push hm_185 dX12_findInHalf_0 (v := .inr (.inr (some 94))) rfl ?_
        refine zw_gf hm_185 dX12_findInHalf_1 (v := .inl (m5 94 59)) (zT_is (zT_zst hS m5) s_94) (zT_t (zT_zst hS m5) s_94) rfl f_12_276_12 rfl ?_
        refine zw_push hm_185 dX12_findInHalf_4 (v := .inl nw) rfl ?_
        refine zw_stk hm_185 dX12_findInHalf_5 (st₉ := [.inl ((m5 94 59) + nw)]) rfl rfl ?_
        refine zw_push hm_185 dX12_findInHalf_6 (v := .inl (((m5 94 61) + (1 : Int32)) * (m5 94 11))) rfl ?_
        refine zw_if2 hm_185 dX12_findInHalf_7 (t := 12) rfl zc2_le ?_ ?_
        · intro hc
          rw [if_pos hc] at h
          refine zw_push hm_185 dX12_findInHalf_12 (v := .inr (.inr (some 94))) rfl ?_
          refine zw_gf hm_185 dX12_findInHalf_13 (v := .inl (m5 94 59)) (zT_is (zT_zst hS m5) s_94) (zT_t (zT_zst hS m5) s_94) rfl f_12_276_12 rfl ?_
          refine zw_sto hm_185 dX12_findInHalf_16 [(3, .inl (m5 94 59)), (0, .inr (.inr (some 94))), (1, .inl nw), (2, .inl (((m5 94 61) + (1 : Int32)) * (m5 94 11)))] rfl rfl rfl ?_
          refine zw_push hm_185 dX12_findInHalf_17 (v := .inr (.inr (some 94))) rfl ?_
          refine zw_stk hm_185 dX12_findInHalf_18 (st₉ := [.inr (.inr (some 94)), .inr (.inr (some 94))]) rfl rfl ?_
          refine zw_gf hm_185 dX12_findInHalf_19 (v := .inl (m5 94 59)) (zT_is (zT_zst hS m5) s_94) (zT_t (zT_zst hS m5) s_94) rfl f_12_276_12 rfl ?_
          refine zw_push hm_185 dX12_findInHalf_22 (v := .inl nw) rfl ?_
          refine zw_stk hm_185 dX12_findInHalf_23 (st₉ := [.inl ((m5 94 59) + nw), .inr (.inr (some 94))]) rfl rfl ?_
          refine zw_pf hm_185 dX12_findInHalf_24 (zT_is (zT_zst hS m5) s_94) (zT_t (zT_zst hS m5) s_94) p_12_276_12 zk_int ?_
          refine zw_push hm_185 dX12_findInHalf_27 (v := .inl (m5 94 59)) rfl ?_
          refine zw_iret hm_185 dX12_findInHalf_28 ?_
          show ma_wp X d w 184 119 [(3, .inl v6), (2, .inl ((mI S) 94 59)), (0, .inr (.inr (some 94))), (1, .inl nw)] [.inl (m5 94 59)] (ma_put (zst S m5) 94 59 (.inl ((m5 94 59) + nw))) _
          exact zw_iret hm_184 dX12_findRoom_119 (HQ _ _ h)
        · intro hc
          rw [if_neg hc] at h
          refine zw_push hm_185 dX12_findInHalf_10 (v := .inl (-1 : Int32)) rfl ?_
          refine zw_iret hm_185 dX12_findInHalf_11 ?_
          show ma_wp X d w 184 119 [(3, .inl v6), (2, .inl ((mI S) 94 59)), (0, .inr (.inr (some 94))), (1, .inl nw)] [.inl (-1 : Int32)] (zst S m5) _
          exact zw_iret hm_184 dX12_findRoom_119 (HQ _ _ h)
      · intro hc
        rw [if_neg hc] at h
        refine zw_push hm_184 dX12_findRoom_96 (v := .inl ((mI S) 94 59)) rfl ?_
        exact zw_iret hm_184 dX12_findRoom_97 (HQ _ _ h)
    · intro hc
      rw [if_neg hc] at h
      refine zw_push hm_185 dX12_findInHalf_10 (v := .inl (-1 : Int32)) rfl ?_
      refine zw_iret hm_185 dX12_findInHalf_11 ?_
      show ma_wp X d w 184 91 [(0, .inr (.inr (some 94))), (1, .inl nw)] [.inl (-1 : Int32)] S _
      refine zw_sto hm_184 dX12_findRoom_91 [(2, .inl (-1 : Int32)), (0, .inr (.inr (some 94))), (1, .inl nw)] rfl rfl rfl ?_
      refine zw_push hm_184 dX12_findRoom_92 (v := .inl (-1 : Int32)) rfl ?_
      refine zw_if0 hm_184 dX12_findRoom_93 (t := 98) rfl zc0_lt (fun _ => ?_) (fun hc => absurd (by decide) hc)
      refine zw_push hm_184 dX12_findRoom_98 (v := .inr (.inr (some 94))) rfl ?_
      refine zw_cv hm_184 dX12_findRoom_99 v_12_463_12 hm_206 [] [] rfl (zT_rt hS s_94 rfl) ⟨by omega, by omega⟩ rfl (h _ _ S _ (by omega) (by omega) hS rfl (fun o9 m7 hv => ?_))
      obtain ⟨v8, rfl, h⟩ := zmi_of hv
      show ma_wp X d w 184 102 [(2, .inl (-1 : Int32)), (0, .inr (.inr (some 94))), (1, .inl nw)] [.inl v8] (zst S m7) _
      refine zw_sto hm_184 dX12_findRoom_102 [(3, .inl v8), (2, .inl (-1 : Int32)), (0, .inr (.inr (some 94))), (1, .inl nw)] rfl rfl rfl ?_
      refine zw_push hm_184 dX12_findRoom_103 (v := .inr (.inr (some 94))) rfl ?_
      refine zw_push hm_184 dX12_findRoom_104 (v := .inl nw) rfl ?_
      refine zw_push hm_184 dX12_findRoom_105 (v := .inr (.inr (some 94))) rfl ?_
      refine zw_gf hm_184 dX12_findRoom_106 (v := .inl (m7 94 61)) (zT_is (zT_zst hS m7) s_94) (zT_t (zT_zst hS m7) s_94) rfl f_12_273_12 rfl ?_
      refine zw_push hm_184 dX12_findRoom_109 (v := .inl (1 : Int32)) rfl ?_
      refine zw_stk hm_184 dX12_findRoom_110 (st₉ := [.inl ((m7 94 61) + (1 : Int32)), .inl nw, .inr (.inr (some 94))]) rfl rfl ?_
      refine zw_push hm_184 dX12_findRoom_111 (v := .inr (.inr (some 94))) rfl ?_
      refine zw_gf hm_184 dX12_findRoom_112 (v := .inl (m7 94 11)) (zT_is (zT_zst hS m7) s_94) (zT_t (zT_zst hS m7) s_94) rfl f_12_202_12 rfl ?_
      refine zw_stk hm_184 dX12_findRoom_115 (st₉ := [.inl (((m7 94 61) + (1 : Int32)) * (m7 94 11)), .inl nw, .inr (.inr (some 94))]) rfl rfl ?_
      refine zw_cv hm_184 dX12_findRoom_116 v_12_445_12 hm_185 [.inl (((m7 94 61) + (1 : Int32)) * (m7 94 11)), .inl nw] [] rfl (zT_rt (zT_zst hS m7) s_94 rfl) ⟨by omega, by omega⟩ rfl ?_
      show ma_wp X (d - 1) (w - 23) 185 0 [(0, .inr (.inr (some 94))), (1, .inl nw), (2, .inl (((m7 94 61) + (1 : Int32)) * (m7 94 11)))] [] (zst S m7) _
      refine zw_push hm_185 dX12_findInHalf_0 (v := .inr (.inr (some 94))) rfl ?_
      refine zw_gf hm_185 dX12_findInHalf_1 (v := .inl (m7 94 59)) (zT_is (zT_zst hS m7) s_94) (zT_t (zT_zst hS m7) s_94) rfl f_12_276_12 rfl ?_
      refine zw_push hm_185 dX12_findInHalf_4 (v := .inl nw) rfl ?_
      refine zw_stk hm_185 dX12_findInHalf_5 (st₉ := [.inl ((m7 94 59) + nw)]) rfl rfl ?_
      refine zw_push hm_185 dX12_findInHalf_6 (v := .inl (((m7 94 61) + (1 : Int32)) * (m7 94 11))) rfl ?_
      refine zw_if2 hm_185 dX12_findInHalf_7 (t := 12) rfl zc2_le ?_ ?_
      · intro hc
        rw [if_pos hc] at h
        refine zw_push hm_185 dX12_findInHalf_12 (v := .inr (.inr (some 94))) rfl ?_
        refine zw_gf hm_185 dX12_findInHalf_13 (v := .inl (m7 94 59)) (zT_is (zT_zst hS m7) s_94) (zT_t (zT_zst hS m7) s_94) rfl f_12_276_12 rfl ?_
        refine zw_sto hm_185 dX12_findInHalf_16 [(3, .inl (m7 94 59)), (0, .inr (.inr (some 94))), (1, .inl nw), (2, .inl (((m7 94 61) + (1 : Int32)) * (m7 94 11)))] rfl rfl rfl ?_
        refine zw_push hm_185 dX12_findInHalf_17 (v := .inr (.inr (some 94))) rfl ?_
        refine zw_stk hm_185 dX12_findInHalf_18 (st₉ := [.inr (.inr (some 94)), .inr (.inr (some 94))]) rfl rfl ?_
        refine zw_gf hm_185 dX12_findInHalf_19 (v := .inl (m7 94 59)) (zT_is (zT_zst hS m7) s_94) (zT_t (zT_zst hS m7) s_94) rfl f_12_276_12 rfl ?_
        refine zw_push hm_185 dX12_findInHalf_22 (v := .inl nw) rfl ?_
        refine zw_stk hm_185 dX12_findInHalf_23 (st₉ := [.inl ((m7 94 59) + nw), .inr (.inr (some 94))]) rfl rfl ?_
        refine zw_pf hm_185 dX12_findInHalf_24 (zT_is (zT_zst hS m7) s_94) (zT_t (zT_zst hS m7) s_94) p_12_276_12 zk_int ?_
        refine zw_push hm_185 dX12_findInHalf_27 (v := .inl (m7 94 59)) rfl ?_
        refine zw_iret hm_185 dX12_findInHalf_28 ?_
        show ma_wp X d w 184 119 [(3, .inl v8), (2, .inl (-1 : Int32)), (0, .inr (.inr (some 94))), (1, .inl nw)] [.inl (m7 94 59)] (ma_put (zst S m7) 94 59 (.inl ((m7 94 59) + nw))) _
        exact zw_iret hm_184 dX12_findRoom_119 (HQ _ _ h)
      · intro hc
        rw [if_neg hc] at h
        refine zw_push hm_185 dX12_findInHalf_10 (v := .inl (-1 : Int32)) rfl ?_
        refine zw_iret hm_185 dX12_findInHalf_11 ?_
        show ma_wp X d w 184 119 [(3, .inl v8), (2, .inl (-1 : Int32)), (0, .inr (.inr (some 94))), (1, .inl nw)] [.inl (-1 : Int32)] (zst S m7) _
        exact zw_iret hm_184 dX12_findRoom_119 (HQ _ _ h)
  rw [if_neg hc1] at h
  by_cases hc2 : ((mI S) 94 10) = (3 : Int32)
  · rw [if_pos hc2] at h
    refine zw_jmp hm_184 dX12_findRoom_4 (t := 120) (st₉ := []) rfl rfl rfl (ma_jmp_tab (by rw [hc2]; decide +kernel)) ?_
    refine zw_push hm_184 dX12_findRoom_120 (v := .inr (.inr (some 94))) rfl ?_
    refine zw_push hm_184 dX12_findRoom_121 (v := .inl nw) rfl ?_
    refine zw_cv hm_184 dX12_findRoom_122 v_12_466_12 hm_210 [.inl nw] [] rfl (zT_rt hS s_94 rfl) ⟨by omega, by omega⟩ rfl (h _ _ S _ (by omega) (by omega) hS rfl (fun o9 m9 hv => ?_))
    obtain ⟨v10, rfl, h⟩ := zmi_of hv
    show ma_wp X d w 184 125 [(0, .inr (.inr (some 94))), (1, .inl nw)] [.inl v10] (zst S m9) _
    exact zw_iret hm_184 dX12_findRoom_125 (HQ _ _ h)
  rw [if_neg hc2] at h
  by_cases hc3 : ((mI S) 94 10) = (4 : Int32)
  · rw [if_pos hc3] at h
    refine zw_jmp hm_184 dX12_findRoom_4 (t := 138) (st₉ := []) rfl rfl rfl (ma_jmp_tab (by rw [hc3]; decide +kernel)) ?_
    refine zw_push hm_184 dX12_findRoom_138 (v := .inr (.inr (some 94))) rfl ?_
    refine zw_push hm_184 dX12_findRoom_139 (v := .inl nw) rfl ?_
    refine zw_cv hm_184 dX12_findRoom_140 v_12_475_12 hm_237 [.inl nw] [] rfl (zT_rt hS s_94 rfl) ⟨by omega, by omega⟩ rfl (h _ _ S _ (by omega) (by omega) hS rfl (fun o9 m11 hv => ?_))
    obtain ⟨v12, rfl, h⟩ := zmi_of hv
    show ma_wp X d w 184 143 [(0, .inr (.inr (some 94))), (1, .inl nw)] [.inl v12] (zst S m11) _
    exact zw_iret hm_184 dX12_findRoom_143 (HQ _ _ h)
  rw [if_neg hc3] at h
  by_cases hc4 : ((mI S) 94 10) = (5 : Int32)
  · rw [if_pos hc4] at h
    refine zw_jmp hm_184 dX12_findRoom_4 (t := 126) (st₉ := []) rfl rfl rfl (ma_jmp_tab (by rw [hc4]; decide +kernel)) ?_
    refine zw_push hm_184 dX12_findRoom_126 (v := .inr (.inr (some 94))) rfl ?_
    refine zw_push hm_184 dX12_findRoom_127 (v := .inl nw) rfl ?_
    refine zw_cv hm_184 dX12_findRoom_128 v_12_469_12 hm_217 [.inl nw] [] rfl (zT_rt hS s_94 rfl) ⟨by omega, by omega⟩ rfl (h _ _ S _ (by omega) (by omega) hS rfl (fun o9 m13 hv => ?_))
    obtain ⟨v14, rfl, h⟩ := zmi_of hv
    show ma_wp X d w 184 131 [(0, .inr (.inr (some 94))), (1, .inl nw)] [.inl v14] (zst S m13) _
    exact zw_iret hm_184 dX12_findRoom_131 (HQ _ _ h)
  rw [if_neg hc4] at h
  by_cases hc5 : ((mI S) 94 10) = (6 : Int32)
  · rw [if_pos hc5] at h
    refine zw_jmp hm_184 dX12_findRoom_4 (t := 132) (st₉ := []) rfl rfl rfl (ma_jmp_tab (by rw [hc5]; decide +kernel)) ?_
    refine zw_push hm_184 dX12_findRoom_132 (v := .inr (.inr (some 94))) rfl ?_
    refine zw_push hm_184 dX12_findRoom_133 (v := .inl nw) rfl ?_
    refine zw_cv hm_184 dX12_findRoom_134 v_12_472_12 hm_231 [.inl nw] [] rfl (zT_rt hS s_94 rfl) ⟨by omega, by omega⟩ rfl (h _ _ S _ (by omega) (by omega) hS rfl (fun o9 m15 hv => ?_))
    obtain ⟨v16, rfl, h⟩ := zmi_of hv
    show ma_wp X d w 184 137 [(0, .inr (.inr (some 94))), (1, .inl nw)] [.inl v16] (zst S m15) _
    exact zw_iret hm_184 dX12_findRoom_137 (HQ _ _ h)
  rw [if_neg hc5] at h
  refine zw_jmp hm_184 dX12_findRoom_4 (t := 138) (st₉ := []) rfl rfl rfl (ma_jmp_def (m := 6) (by decide) (fun j hj => by
      have hj2 : j = 0 ∨ j = 1 ∨ j = 2 ∨ j = 3 ∨ j = 4 ∨ j = 5 := by omega
      rcases hj2 with rfl | rfl | rfl | rfl | rfl | rfl
      · exact hc0
      · exact hc1
      · exact hc2
      · exact hc3
      · exact hc4
      · exact hc5
      ) rfl) ?_
  refine zw_push hm_184 dX12_findRoom_138 (v := .inr (.inr (some 94))) rfl ?_
  refine zw_push hm_184 dX12_findRoom_139 (v := .inl nw) rfl ?_
  refine zw_cv hm_184 dX12_findRoom_140 v_12_475_12 hm_237 [.inl nw] [] rfl (zT_rt hS s_94 rfl) ⟨by omega, by omega⟩ rfl (h _ _ S _ (by omega) (by omega) hS rfl (fun o9 m17 hv => ?_))
  obtain ⟨v18, rfl, h⟩ := zmi_of hv
  show ma_wp X d w 184 143 [(0, .inr (.inr (some 94))), (1, .inl nw)] [.inl v18] (zst S m17) _
  exact zw_iret hm_184 dX12_findRoom_143 (HQ _ _ h)
set_option maxHeartbeats 8000000 in
theorem sp_184 {X : Nat × (Nat → Int32)} {P : Option ma_V → (Nat → Nat → Int32) → Prop} {T : Nat} {m : Nat → Nat → Int32} (nw : Int32) (hV : zV m) (hpre0 : 1 ≤ nw.toInt) (hpre1 : nw.toInt ≤ 61) (r_W : zW (m 94 7) (m 98) (m 101) (m 102) (m 108)) (r_GW : zGW T (m 94 55) (m 109)) (r_GU : zGU T (m 94 46) (m 99)) (r_OW : zOw (m 99) (m 103) (m 111)) (r_DX : zDX (m 94 10) (m 99) (m 112) (m 113) (m 114) (m 94 55) (m 98) (m 101) (m 102) (m 108)) (r_GG : zGG (m 94 58) (m 94 56) (m 94 57) (m 106)) (r_HA : zHA (m 94 10) (m 94 11) (m 94 13) (m 94 14) (m 94 16) (m 94 61) (m 94 59) (m 94 60) (m 99) (m 102) (m 103) (m 111) (m 117) (m 98) (m 101) (m 108)) (r_RGc : zRG (m 94 10) (m 94 18) (m 94 64) (m 94 63) (m 99) (m 103) (m 102) (m 116)) (hpre10 : (m 94 58).toInt = 0 ∨ (m 94 10).toInt = 5) (KZ : ∀ v m₉, zV (zov wr_184 m m₉) → (zGW T (m₉ 94 55) (m₉ 109)) → (zGU T (m 94 46) (m₉ 99)) → (zOw (m₉ 99) (m₉ 103) (m₉ 111)) → (zDX (m 94 10) (m₉ 99) (m 112) (m₉ 113) (m₉ 114) (m₉ 94 55) (m 98) (m 101) (m 102) (m 108)) → (zGG (m₉ 94 58) (m₉ 94 56) (m₉ 94 57) (m₉ 106)) → (zHA (m 94 10) (m 94 11) (m 94 13) (m 94 14) (m 94 16) (m₉ 94 61) (m₉ 94 59) (m₉ 94 60) (m₉ 99) (m 102) (m₉ 103) (m₉ 111) (m₉ 117) (m 98) (m 101) (m 108)) → (zRG (m 94 10) (m 94 18) (m 94 64) (m₉ 94 63) (m₉ 99) (m₉ 103) (m 102) (m₉ 116)) → ((m₉ 94 58).toInt = 0 ∨ (m 94 10).toInt = 5) → (zPL (m 94 10) (m 94 11) (m 94 13) (m 94 14) (m₉ 94 61) (m₉ 94 59) (m₉ 94 60) (m 94 18) (m 94 64) (m₉ 99) (m 102) (m₉ 103) (m₉ 111) v nw) → P (some (.inl v)) (zov wr_184 m m₉)) : zm X 8 175 184 0 [(0, .inr (.inr (some 94))), (1, .inl nw)] m P := by
  have K : ∀ v m₉, zF wr_184 m m₉ → zV m₉ → (zGW T (m₉ 94 55) (m₉ 109)) → (zGU T (m₉ 94 46) (m₉ 99)) → (zOw (m₉ 99) (m₉ 103) (m₉ 111)) → (zDX (m₉ 94 10) (m₉ 99) (m₉ 112) (m₉ 113) (m₉ 114) (m₉ 94 55) (m₉ 98) (m₉ 101) (m₉ 102) (m₉ 108)) → (zGG (m₉ 94 58) (m₉ 94 56) (m₉ 94 57) (m₉ 106)) → (zHA (m₉ 94 10) (m₉ 94 11) (m₉ 94 13) (m₉ 94 14) (m₉ 94 16) (m₉ 94 61) (m₉ 94 59) (m₉ 94 60) (m₉ 99) (m₉ 102) (m₉ 103) (m₉ 111) (m₉ 117) (m₉ 98) (m₉ 101) (m₉ 108)) → (zRG (m₉ 94 10) (m₉ 94 18) (m₉ 94 64) (m₉ 94 63) (m₉ 99) (m₉ 103) (m₉ 102) (m₉ 116)) → ((m₉ 94 58).toInt = 0 ∨ (m₉ 94 10).toInt = 5) → (zPL (m₉ 94 10) (m₉ 94 11) (m₉ 94 13) (m₉ 94 14) (m₉ 94 61) (m₉ 94 59) (m₉ 94 60) (m₉ 94 18) (m₉ 94 64) (m₉ 99) (m₉ 102) (m₉ 103) (m₉ 111) v nw) → P (some (.inl v)) m₉ := by
    intro v m₉ hf z q0 q1 q2 q3 q4 q5 q6 q7 q8
    have e := zov_eq hf
    rw [e] at z ⊢
    try rw [e] at q0
    try rw [e] at q1
    try rw [e] at q2
    try rw [e] at q3
    try rw [e] at q4
    try rw [e] at q5
    try rw [e] at q6
    try rw [e] at q7
    try rw [e] at q8
    exact KZ v m₉ z q0 q1 q2 q3 q4 q5 q6 q7 q8
  refine g_184_0 nw ?_
  have f1 : 0 ≤ (m 94 58).toInt ∧ (m 94 58).toInt ≤ 1 := rs_94_58 (m := m) hV
  have f2 : 0 ≤ (m 94 10).toInt ∧ (m 94 10).toInt ≤ 6 := rs_94_10 (m := m) hV
  have li3 : (1 : Int32).toInt = 1 := rfl
  refine zd (fun (h4 : (m 94 10) = (1 : Int32)) => ?_) (fun (h4 : ¬ (m 94 10) = (1 : Int32)) => ?_)
  · skip
    have g5 := i_eq h4
    have f6 : 0 ≤ (m 94 59).toInt ∧ (m 94 59).toInt ≤ 4600 := rs_94_59 (m := m) hV
    have b7 := i_bd nw
    first | have e8 : ((m 94 59) + nw).toInt = (m 94 59).toInt + nw.toInt := i_add (by omega) (by omega) | have b9 := i_bd ((m 94 59) + nw)
    have f10 : 0 ≤ (m 94 11).toInt ∧ (m 94 11).toInt ≤ 1500 := rs_94_11 (m := m) hV
    refine zd (fun (h11 : ((m 94 59) + nw) ≤ (m 94 11)) => ?_) (fun (h11 : ¬ ((m 94 59) + nw) ≤ (m 94 11)) => ?_)
    · skip
      have g12 := i_le h11
      have li13 : (0 : Int32).toInt = 0 := rfl
      refine zd (fun (h14 : (m 94 59) < (0 : Int32)) => ?_) (fun (h14 : ¬ (m 94 59) < (0 : Int32)) => ?_)
      · skip
        have g15 := i_lt h14
        have hV16 : zV (ma_u m 94 59 ((m 94 59) + nw)) := us_94_59 hV (by omega) (by omega)
        refine sp_186  hV16 r_W r_GW r_GU r_OW r_DX (fun v2 m1 hV_m1 p0_m1 p1_m1 p2_m1 p3_m1 => zmi_n ?_)
        have p0_m1 : zGW T (m1 94 55) (m1 109) := p0_m1
        have p1_m1 : zGU T (m 94 46) (m1 99) := p1_m1
        have p2_m1 : zOw (m1 99) (m1 103) (m1 111) := p2_m1
        have p3_m1 : zDX (m 94 10) (m1 99) (m 112) (m1 113) (m1 114) (m1 94 55) (m 98) (m 101) (m 102) (m 108) := p3_m1
        have f17 : 0 ≤ (m1 94 59).toInt ∧ (m1 94 59).toInt ≤ 4600 := rs_94_59 (m := (zov wr_186 (ma_u m 94 59 ((m 94 59) + nw)) m1)) hV_m1
        first | have e18 : ((m1 94 59) + nw).toInt = (m1 94 59).toInt + nw.toInt := i_add (by omega) (by omega) | have b19 := i_bd ((m1 94 59) + nw)
        refine zd (fun (h20 : ((m1 94 59) + nw) ≤ (m 94 11)) => ?_) (fun (h20 : ¬ ((m1 94 59) + nw) ≤ (m 94 11)) => ?_)
        · skip
          have g21 := i_le h20
          have hV22 : zV (ma_u (zov wr_186 (ma_u m 94 59 ((m 94 59) + nw)) m1) 94 59 ((m1 94 59) + nw)) := us_94_59 hV_m1 (by omega) (by omega)
          exact K ((m1 94 59)) _ (zF_u (zF_zov (zF_u zF_rfl rfl) ws_186_184) rfl) hV22 p0_m1 p1_m1 p2_m1 p3_m1 r_GG (show zHA (m 94 10) (m 94 11) (m 94 13) (m 94 14) (m 94 16) (m 94 61) ((m1 94 59) + nw) (m 94 60) (m1 99) (m 102) (m1 103) (m1 111) (m 117) (m 98) (m 101) (m 108) from by first | (exact ⟨fun z => absurd z (by omega), fun z => absurd z (by omega)⟩) | (exact HA_up2 r_HA (by omega) (by omega) (by omega) (by omega) (by omega) (by omega) (by omega)) | (exfalso; omega; done) | (exfalso; contradiction; done)) (show zRG (m 94 10) (m 94 18) (m 94 64) (m 94 63) (m1 99) (m1 103) (m 102) (m 116) from by first | (exact fun z => absurd z (by omega)) | (exfalso; omega; done) | (exfalso; contradiction; done)) (show (m 94 58).toInt = 0 ∨ (m 94 10).toInt = 5 from by omega) (show zPL (m 94 10) (m 94 11) (m 94 13) (m 94 14) (m 94 61) ((m1 94 59) + nw) (m 94 60) (m 94 18) (m 94 64) (m1 99) (m 102) (m1 103) (m1 111) (m1 94 59) nw from by first | (exact PL_no (by decide)) | (exact PL_o (by omega) (by omega) (by omega) (by omega) (by omega)) | (exact PL_2 r_HA (by omega) (by omega) (by omega) (by omega)) | (exfalso; omega; done) | (exfalso; contradiction; done))
        · skip
          have g23 := i_nle h20
          have li24 : (-1 : Int32).toInt = -1 := rfl
          exact K ((-1 : Int32)) _ (zF_zov (zF_u zF_rfl rfl) ws_186_184) hV_m1 p0_m1 p1_m1 p2_m1 p3_m1 r_GG (show zHA (m 94 10) (m 94 11) (m 94 13) (m 94 14) (m 94 16) (m 94 61) (m1 94 59) (m 94 60) (m1 99) (m 102) (m1 103) (m1 111) (m 117) (m 98) (m 101) (m 108) from by first | (exact ⟨fun z => absurd z (by omega), fun z => absurd z (by omega)⟩) | (exact HA_up2 r_HA (by omega) (by omega) (by omega) (by omega) (by omega) (by omega) (by omega)) | (exfalso; omega; done) | (exfalso; contradiction; done)) (show zRG (m 94 10) (m 94 18) (m 94 64) (m 94 63) (m1 99) (m1 103) (m 102) (m 116) from by first | (exact fun z => absurd z (by omega)) | (exfalso; omega; done) | (exfalso; contradiction; done)) (show (m 94 58).toInt = 0 ∨ (m 94 10).toInt = 5 from by omega) (show zPL (m 94 10) (m 94 11) (m 94 13) (m 94 14) (m 94 61) (m1 94 59) (m 94 60) (m 94 18) (m 94 64) (m1 99) (m 102) (m1 103) (m1 111) (-1 : Int32) nw from by first | (exact PL_no (by decide)) | (exact PL_o (by omega) (by omega) (by omega) (by omega) (by omega)) | (exact PL_2 r_HA (by omega) (by omega) (by omega) (by omega)) | (exfalso; omega; done) | (exfalso; contradiction; done))
      · skip
        have g25 := i_nlt h14
        have hV26 : zV (ma_u m 94 59 ((m 94 59) + nw)) := us_94_59 hV (by omega) (by omega)
        exact K ((m 94 59)) _ (zF_u zF_rfl rfl) hV26 r_GW r_GU r_OW r_DX r_GG (show zHA (m 94 10) (m 94 11) (m 94 13) (m 94 14) (m 94 16) (m 94 61) ((m 94 59) + nw) (m 94 60) (m 99) (m 102) (m 103) (m 111) (m 117) (m 98) (m 101) (m 108) from by first | (exact ⟨fun z => absurd z (by omega), fun z => absurd z (by omega)⟩) | (exact HA_up2 r_HA (by omega) (by omega) (by omega) (by omega) (by omega) (by omega) (by omega)) | (exfalso; omega; done) | (exfalso; contradiction; done)) r_RGc (show (m 94 58).toInt = 0 ∨ (m 94 10).toInt = 5 from by omega) (show zPL (m 94 10) (m 94 11) (m 94 13) (m 94 14) (m 94 61) ((m 94 59) + nw) (m 94 60) (m 94 18) (m 94 64) (m 99) (m 102) (m 103) (m 111) (m 94 59) nw from by first | (exact PL_no (by decide)) | (exact PL_o (by omega) (by omega) (by omega) (by omega) (by omega)) | (exact PL_2 r_HA (by omega) (by omega) (by omega) (by omega)) | (exfalso; omega; done) | (exfalso; contradiction; done))
    · skip
      have g27 := i_nle h11
      refine sp_186  hV r_W r_GW r_GU r_OW r_DX (fun v4 m3 hV_m3 p0_m3 p1_m3 p2_m3 p3_m3 => zmi_n ?_)
      have p0_m3 : zGW T (m3 94 55) (m3 109) := p0_m3
      have p1_m3 : zGU T (m 94 46) (m3 99) := p1_m3
      have p2_m3 : zOw (m3 99) (m3 103) (m3 111) := p2_m3
      have p3_m3 : zDX (m 94 10) (m3 99) (m 112) (m3 113) (m3 114) (m3 94 55) (m 98) (m 101) (m 102) (m 108) := p3_m3
      have f28 : 0 ≤ (m3 94 59).toInt ∧ (m3 94 59).toInt ≤ 4600 := rs_94_59 (m := (zov wr_186 m m3)) hV_m3
      first | have e29 : ((m3 94 59) + nw).toInt = (m3 94 59).toInt + nw.toInt := i_add (by omega) (by omega) | have b30 := i_bd ((m3 94 59) + nw)
      refine zd (fun (h31 : ((m3 94 59) + nw) ≤ (m 94 11)) => ?_) (fun (h31 : ¬ ((m3 94 59) + nw) ≤ (m 94 11)) => ?_)
      · skip
        have g32 := i_le h31
        have hV33 : zV (ma_u (zov wr_186 m m3) 94 59 ((m3 94 59) + nw)) := us_94_59 hV_m3 (by omega) (by omega)
        exact K ((m3 94 59)) _ (zF_u (zF_zov zF_rfl ws_186_184) rfl) hV33 p0_m3 p1_m3 p2_m3 p3_m3 r_GG (show zHA (m 94 10) (m 94 11) (m 94 13) (m 94 14) (m 94 16) (m 94 61) ((m3 94 59) + nw) (m 94 60) (m3 99) (m 102) (m3 103) (m3 111) (m 117) (m 98) (m 101) (m 108) from by first | (exact ⟨fun z => absurd z (by omega), fun z => absurd z (by omega)⟩) | (exact HA_up2 r_HA (by omega) (by omega) (by omega) (by omega) (by omega) (by omega) (by omega)) | (exfalso; omega; done) | (exfalso; contradiction; done)) (show zRG (m 94 10) (m 94 18) (m 94 64) (m 94 63) (m3 99) (m3 103) (m 102) (m 116) from by first | (exact fun z => absurd z (by omega)) | (exfalso; omega; done) | (exfalso; contradiction; done)) (show (m 94 58).toInt = 0 ∨ (m 94 10).toInt = 5 from by omega) (show zPL (m 94 10) (m 94 11) (m 94 13) (m 94 14) (m 94 61) ((m3 94 59) + nw) (m 94 60) (m 94 18) (m 94 64) (m3 99) (m 102) (m3 103) (m3 111) (m3 94 59) nw from by first | (exact PL_no (by decide)) | (exact PL_o (by omega) (by omega) (by omega) (by omega) (by omega)) | (exact PL_2 r_HA (by omega) (by omega) (by omega) (by omega)) | (exfalso; omega; done) | (exfalso; contradiction; done))
      · skip
        have g34 := i_nle h31
        have li35 : (-1 : Int32).toInt = -1 := rfl
        exact K ((-1 : Int32)) _ (zF_zov zF_rfl ws_186_184) hV_m3 p0_m3 p1_m3 p2_m3 p3_m3 r_GG (show zHA (m 94 10) (m 94 11) (m 94 13) (m 94 14) (m 94 16) (m 94 61) (m3 94 59) (m 94 60) (m3 99) (m 102) (m3 103) (m3 111) (m 117) (m 98) (m 101) (m 108) from by first | (exact ⟨fun z => absurd z (by omega), fun z => absurd z (by omega)⟩) | (exact HA_up2 r_HA (by omega) (by omega) (by omega) (by omega) (by omega) (by omega) (by omega)) | (exfalso; omega; done) | (exfalso; contradiction; done)) (show zRG (m 94 10) (m 94 18) (m 94 64) (m 94 63) (m3 99) (m3 103) (m 102) (m 116) from by first | (exact fun z => absurd z (by omega)) | (exfalso; omega; done) | (exfalso; contradiction; done)) (show (m 94 58).toInt = 0 ∨ (m 94 10).toInt = 5 from by omega) (show zPL (m 94 10) (m 94 11) (m 94 13) (m 94 14) (m 94 61) (m3 94 59) (m 94 60) (m 94 18) (m 94 64) (m3 99) (m 102) (m3 103) (m3 111) (-1 : Int32) nw from by first | (exact PL_no (by decide)) | (exact PL_o (by omega) (by omega) (by omega) (by omega) (by omega)) | (exact PL_2 r_HA (by omega) (by omega) (by omega) (by omega)) | (exfalso; omega; done) | (exfalso; contradiction; done))
  · skip
    have g36 := i_ne h4
    have li37 : (2 : Int32).toInt = 2 := rfl
    refine zd (fun (h38 : (m 94 10) = (2 : Int32)) => ?_) (fun (h38 : ¬ (m 94 10) = (2 : Int32)) => ?_)
    · skip
      have g39 := i_eq h38
      have f40 : 0 ≤ (m 94 59).toInt ∧ (m 94 59).toInt ≤ 4600 := rs_94_59 (m := m) hV
      have b41 := i_bd nw
      first | have e42 : ((m 94 59) + nw).toInt = (m 94 59).toInt + nw.toInt := i_add (by omega) (by omega) | have b43 := i_bd ((m 94 59) + nw)
      have f44 : 0 ≤ (m 94 61).toInt ∧ (m 94 61).toInt ≤ 1 := rs_94_61 (m := m) hV
      first | have e45 : ((m 94 61) + (1 : Int32)).toInt = (m 94 61).toInt + (1) := i_addk rfl (by omega) (by omega) | have b46 := i_bd ((m 94 61) + (1 : Int32))
      have f47 : 0 ≤ (m 94 11).toInt ∧ (m 94 11).toInt ≤ 1500 := rs_94_11 (m := m) hV
      first | have f48 := i_mul01 (x := ((m 94 61) + (1 : Int32))) (y := (m 94 11)) (by omega) (by omega) (by omega) (by omega) | have b49 := i_bd (((m 94 61) + (1 : Int32)) * (m 94 11))
      refine zd (fun (h50 : ((m 94 59) + nw) ≤ (((m 94 61) + (1 : Int32)) * (m 94 11))) => ?_) (fun (h50 : ¬ ((m 94 59) + nw) ≤ (((m 94 61) + (1 : Int32)) * (m 94 11))) => ?_)
      · skip
        have g51 := i_le h50
        have li52 : (0 : Int32).toInt = 0 := rfl
        refine zd (fun (h53 : (m 94 59) < (0 : Int32)) => ?_) (fun (h53 : ¬ (m 94 59) < (0 : Int32)) => ?_)
        · skip
          have g54 := i_lt h53
          have hV55 : zV (ma_u m 94 59 ((m 94 59) + nw)) := us_94_59 hV (by omega) (by omega)
          refine sp_206  hV55 r_W r_GW r_GU r_OW r_DX (show zHA (m 94 10) (m 94 11) (m 94 13) (m 94 14) (m 94 16) (m 94 61) ((m 94 59) + nw) (m 94 60) (m 99) (m 102) (m 103) (m 111) (m 117) (m 98) (m 101) (m 108) from by first | (exact ⟨fun z => absurd z (by omega), fun z => absurd z (by omega)⟩) | (exact HA_up2 r_HA (by omega) (by omega) (by omega) (by omega) (by omega) (by omega) (by omega)) | (exfalso; omega; done) | (exfalso; contradiction; done)) (show (m 94 10).toInt = 2 from by omega) (fun v6 m5 hV_m5 p0_m5 p1_m5 p2_m5 p3_m5 p4_m5 => zmi_n ?_)
          have p0_m5 : zGW T (m5 94 55) (m5 109) := p0_m5
          have p1_m5 : zGU T (m 94 46) (m5 99) := p1_m5
          have p2_m5 : zOw (m5 99) (m5 103) (m5 111) := p2_m5
          have p3_m5 : zDX (m 94 10) (m5 99) (m 112) (m5 113) (m5 114) (m5 94 55) (m 98) (m 101) (m 102) (m 108) := p3_m5
          have p4_m5 : zHA (m 94 10) (m 94 11) (m 94 13) (m 94 14) (m 94 16) (m5 94 61) (m5 94 59) (m5 94 60) (m5 99) (m 102) (m5 103) (m5 111) (m 117) (m 98) (m 101) (m 108) := p4_m5
          have f56 : 0 ≤ (m5 94 59).toInt ∧ (m5 94 59).toInt ≤ 4600 := rs_94_59 (m := (zov wr_206 (ma_u m 94 59 ((m 94 59) + nw)) m5)) hV_m5
          first | have e57 : ((m5 94 59) + nw).toInt = (m5 94 59).toInt + nw.toInt := i_add (by omega) (by omega) | have b58 := i_bd ((m5 94 59) + nw)
          have f59 : 0 ≤ (m5 94 61).toInt ∧ (m5 94 61).toInt ≤ 1 := rs_94_61 (m := (zov wr_206 (ma_u m 94 59 ((m 94 59) + nw)) m5)) hV_m5
          first | have e60 : ((m5 94 61) + (1 : Int32)).toInt = (m5 94 61).toInt + (1) := i_addk rfl (by omega) (by omega) | have b61 := i_bd ((m5 94 61) + (1 : Int32))
          first | have f62 := i_mul01 (x := ((m5 94 61) + (1 : Int32))) (y := (m 94 11)) (by omega) (by omega) (by omega) (by omega) | have b63 := i_bd (((m5 94 61) + (1 : Int32)) * (m 94 11))
          refine zd (fun (h64 : ((m5 94 59) + nw) ≤ (((m5 94 61) + (1 : Int32)) * (m 94 11))) => ?_) (fun (h64 : ¬ ((m5 94 59) + nw) ≤ (((m5 94 61) + (1 : Int32)) * (m 94 11))) => ?_)
          · skip
            have g65 := i_le h64
            have hV66 : zV (ma_u (zov wr_206 (ma_u m 94 59 ((m 94 59) + nw)) m5) 94 59 ((m5 94 59) + nw)) := us_94_59 hV_m5 (by omega) (by omega)
            exact K ((m5 94 59)) _ (zF_u (zF_zov (zF_u zF_rfl rfl) ws_206_184) rfl) hV66 p0_m5 p1_m5 p2_m5 p3_m5 r_GG (show zHA (m 94 10) (m 94 11) (m 94 13) (m 94 14) (m 94 16) (m5 94 61) ((m5 94 59) + nw) (m5 94 60) (m5 99) (m 102) (m5 103) (m5 111) (m 117) (m 98) (m 101) (m 108) from by first | (exact ⟨fun z => absurd z (by omega), fun z => absurd z (by omega)⟩) | (exact HA_up2 p4_m5 (by omega) (by omega) (by omega) (by omega) (by omega) (by omega) (by omega)) | (exfalso; omega; done) | (exfalso; contradiction; done)) (show zRG (m 94 10) (m 94 18) (m 94 64) (m 94 63) (m5 99) (m5 103) (m 102) (m 116) from by first | (exact fun z => absurd z (by omega)) | (exfalso; omega; done) | (exfalso; contradiction; done)) (show (m 94 58).toInt = 0 ∨ (m 94 10).toInt = 5 from by omega) (show zPL (m 94 10) (m 94 11) (m 94 13) (m 94 14) (m5 94 61) ((m5 94 59) + nw) (m5 94 60) (m 94 18) (m 94 64) (m5 99) (m 102) (m5 103) (m5 111) (m5 94 59) nw from by first | (exact PL_no (by decide)) | (exact PL_o (by omega) (by omega) (by omega) (by omega) (by omega)) | (exact PL_2 p4_m5 (by omega) (by omega) (by omega) (by omega)) | (exfalso; omega; done) | (exfalso; contradiction; done))
          · skip
            have g67 := i_nle h64
            have li68 : (-1 : Int32).toInt = -1 := rfl
            exact K ((-1 : Int32)) _ (zF_zov (zF_u zF_rfl rfl) ws_206_184) hV_m5 p0_m5 p1_m5 p2_m5 p3_m5 r_GG p4_m5 (show zRG (m 94 10) (m 94 18) (m 94 64) (m 94 63) (m5 99) (m5 103) (m 102) (m 116) from by first | (exact fun z => absurd z (by omega)) | (exfalso; omega; done) | (exfalso; contradiction; done)) (show (m 94 58).toInt = 0 ∨ (m 94 10).toInt = 5 from by omega) (show zPL (m 94 10) (m 94 11) (m 94 13) (m 94 14) (m5 94 61) (m5 94 59) (m5 94 60) (m 94 18) (m 94 64) (m5 99) (m 102) (m5 103) (m5 111) (-1 : Int32) nw from by first | (exact PL_no (by decide)) | (exact PL_o (by omega) (by omega) (by omega) (by omega) (by omega)) | (exact PL_2 p4_m5 (by omega) (by omega) (by omega) (by omega)) | (exfalso; omega; done) | (exfalso; contradiction; done))
        · skip
          have g69 := i_nlt h53
          have hV70 : zV (ma_u m 94 59 ((m 94 59) + nw)) := us_94_59 hV (by omega) (by omega)
          exact K ((m 94 59)) _ (zF_u zF_rfl rfl) hV70 r_GW r_GU r_OW r_DX r_GG (show zHA (m 94 10) (m 94 11) (m 94 13) (m 94 14) (m 94 16) (m 94 61) ((m 94 59) + nw) (m 94 60) (m 99) (m 102) (m 103) (m 111) (m 117) (m 98) (m 101) (m 108) from by first | (exact ⟨fun z => absurd z (by omega), fun z => absurd z (by omega)⟩) | (exact HA_up2 r_HA (by omega) (by omega) (by omega) (by omega) (by omega) (by omega) (by omega)) | (exfalso; omega; done) | (exfalso; contradiction; done)) r_RGc (show (m 94 58).toInt = 0 ∨ (m 94 10).toInt = 5 from by omega) (show zPL (m 94 10) (m 94 11) (m 94 13) (m 94 14) (m 94 61) ((m 94 59) + nw) (m 94 60) (m 94 18) (m 94 64) (m 99) (m 102) (m 103) (m 111) (m 94 59) nw from by first | (exact PL_no (by decide)) | (exact PL_o (by omega) (by omega) (by omega) (by omega) (by omega)) | (exact PL_2 r_HA (by omega) (by omega) (by omega) (by omega)) | (exfalso; omega; done) | (exfalso; contradiction; done))
      · skip
        have g71 := i_nle h50
        refine sp_206  hV r_W r_GW r_GU r_OW r_DX r_HA (show (m 94 10).toInt = 2 from by omega) (fun v8 m7 hV_m7 p0_m7 p1_m7 p2_m7 p3_m7 p4_m7 => zmi_n ?_)
        have p0_m7 : zGW T (m7 94 55) (m7 109) := p0_m7
        have p1_m7 : zGU T (m 94 46) (m7 99) := p1_m7
        have p2_m7 : zOw (m7 99) (m7 103) (m7 111) := p2_m7
        have p3_m7 : zDX (m 94 10) (m7 99) (m 112) (m7 113) (m7 114) (m7 94 55) (m 98) (m 101) (m 102) (m 108) := p3_m7
        have p4_m7 : zHA (m 94 10) (m 94 11) (m 94 13) (m 94 14) (m 94 16) (m7 94 61) (m7 94 59) (m7 94 60) (m7 99) (m 102) (m7 103) (m7 111) (m 117) (m 98) (m 101) (m 108) := p4_m7
        have f72 : 0 ≤ (m7 94 59).toInt ∧ (m7 94 59).toInt ≤ 4600 := rs_94_59 (m := (zov wr_206 m m7)) hV_m7
        first | have e73 : ((m7 94 59) + nw).toInt = (m7 94 59).toInt + nw.toInt := i_add (by omega) (by omega) | have b74 := i_bd ((m7 94 59) + nw)
        have f75 : 0 ≤ (m7 94 61).toInt ∧ (m7 94 61).toInt ≤ 1 := rs_94_61 (m := (zov wr_206 m m7)) hV_m7
        first | have e76 : ((m7 94 61) + (1 : Int32)).toInt = (m7 94 61).toInt + (1) := i_addk rfl (by omega) (by omega) | have b77 := i_bd ((m7 94 61) + (1 : Int32))
        first | have f78 := i_mul01 (x := ((m7 94 61) + (1 : Int32))) (y := (m 94 11)) (by omega) (by omega) (by omega) (by omega) | have b79 := i_bd (((m7 94 61) + (1 : Int32)) * (m 94 11))
        refine zd (fun (h80 : ((m7 94 59) + nw) ≤ (((m7 94 61) + (1 : Int32)) * (m 94 11))) => ?_) (fun (h80 : ¬ ((m7 94 59) + nw) ≤ (((m7 94 61) + (1 : Int32)) * (m 94 11))) => ?_)
        · skip
          have g81 := i_le h80
          have hV82 : zV (ma_u (zov wr_206 m m7) 94 59 ((m7 94 59) + nw)) := us_94_59 hV_m7 (by omega) (by omega)
          exact K ((m7 94 59)) _ (zF_u (zF_zov zF_rfl ws_206_184) rfl) hV82 p0_m7 p1_m7 p2_m7 p3_m7 r_GG (show zHA (m 94 10) (m 94 11) (m 94 13) (m 94 14) (m 94 16) (m7 94 61) ((m7 94 59) + nw) (m7 94 60) (m7 99) (m 102) (m7 103) (m7 111) (m 117) (m 98) (m 101) (m 108) from by first | (exact ⟨fun z => absurd z (by omega), fun z => absurd z (by omega)⟩) | (exact HA_up2 p4_m7 (by omega) (by omega) (by omega) (by omega) (by omega) (by omega) (by omega)) | (exfalso; omega; done) | (exfalso; contradiction; done)) (show zRG (m 94 10) (m 94 18) (m 94 64) (m 94 63) (m7 99) (m7 103) (m 102) (m 116) from by first | (exact fun z => absurd z (by omega)) | (exfalso; omega; done) | (exfalso; contradiction; done)) (show (m 94 58).toInt = 0 ∨ (m 94 10).toInt = 5 from by omega) (show zPL (m 94 10) (m 94 11) (m 94 13) (m 94 14) (m7 94 61) ((m7 94 59) + nw) (m7 94 60) (m 94 18) (m 94 64) (m7 99) (m 102) (m7 103) (m7 111) (m7 94 59) nw from by first | (exact PL_no (by decide)) | (exact PL_o (by omega) (by omega) (by omega) (by omega) (by omega)) | (exact PL_2 p4_m7 (by omega) (by omega) (by omega) (by omega)) | (exfalso; omega; done) | (exfalso; contradiction; done))
        · skip
          have g83 := i_nle h80
          have li84 : (-1 : Int32).toInt = -1 := rfl
          exact K ((-1 : Int32)) _ (zF_zov zF_rfl ws_206_184) hV_m7 p0_m7 p1_m7 p2_m7 p3_m7 r_GG p4_m7 (show zRG (m 94 10) (m 94 18) (m 94 64) (m 94 63) (m7 99) (m7 103) (m 102) (m 116) from by first | (exact fun z => absurd z (by omega)) | (exfalso; omega; done) | (exfalso; contradiction; done)) (show (m 94 58).toInt = 0 ∨ (m 94 10).toInt = 5 from by omega) (show zPL (m 94 10) (m 94 11) (m 94 13) (m 94 14) (m7 94 61) (m7 94 59) (m7 94 60) (m 94 18) (m 94 64) (m7 99) (m 102) (m7 103) (m7 111) (-1 : Int32) nw from by first | (exact PL_no (by decide)) | (exact PL_o (by omega) (by omega) (by omega) (by omega) (by omega)) | (exact PL_2 p4_m7 (by omega) (by omega) (by omega) (by omega)) | (exfalso; omega; done) | (exfalso; contradiction; done))
    · skip
      have g85 := i_ne h38
      have li86 : (3 : Int32).toInt = 3 := rfl
      refine zd (fun (h87 : (m 94 10) = (3 : Int32)) => ?_) (fun (h87 : ¬ (m 94 10) = (3 : Int32)) => ?_)
      · skip
        have g88 := i_eq h87
        have b89 := i_bd nw
        refine sp_210 (nw) hV (by omega) (by omega) r_W r_GW r_GU r_OW r_DX r_HA (show (m 94 10).toInt = 3 from by omega) (fun v10 m9 hV_m9 p0_m9 p1_m9 p2_m9 p3_m9 p4_m9 p5_m9 => zmi_n ?_)
        have p0_m9 : zGW T (m9 94 55) (m9 109) := p0_m9
        have p1_m9 : zGU T (m 94 46) (m9 99) := p1_m9
        have p2_m9 : zOw (m9 99) (m9 103) (m9 111) := p2_m9
        have p3_m9 : zDX (m 94 10) (m9 99) (m 112) (m9 113) (m9 114) (m9 94 55) (m 98) (m 101) (m 102) (m 108) := p3_m9
        have p4_m9 : zHA (m 94 10) (m 94 11) (m 94 13) (m 94 14) (m 94 16) (m9 94 61) (m9 94 59) (m9 94 60) (m9 99) (m 102) (m9 103) (m9 111) (m9 117) (m 98) (m 101) (m 108) := p4_m9
        have p5_m9 : zPL (m 94 10) (m 94 11) (m 94 13) (m 94 14) (m9 94 61) (m9 94 59) (m9 94 60) (m 94 18) (m 94 64) (m9 99) (m 102) (m9 103) (m9 111) v10 nw := p5_m9
        have b90 := i_bd v10
        exact K (v10) _ (zF_zov zF_rfl ws_210_184) hV_m9 p0_m9 p1_m9 p2_m9 p3_m9 r_GG p4_m9 (show zRG (m 94 10) (m 94 18) (m 94 64) (m 94 63) (m9 99) (m9 103) (m 102) (m 116) from by first | (exact fun z => absurd z (by omega)) | (exfalso; omega; done) | (exfalso; contradiction; done)) (show (m 94 58).toInt = 0 ∨ (m 94 10).toInt = 5 from by omega) p5_m9
      · skip
        have g91 := i_ne h87
        have li92 : (4 : Int32).toInt = 4 := rfl
        refine zd (fun (h93 : (m 94 10) = (4 : Int32)) => ?_) (fun (h93 : ¬ (m 94 10) = (4 : Int32)) => ?_)
        · skip
          have g94 := i_eq h93
          have b95 := i_bd nw
          refine sp_237 (nw) hV r_W r_GW r_GU r_OW r_DX (fun v12 m11 hV_m11 p0_m11 p1_m11 p2_m11 p3_m11 p4_m11 => zmi_n ?_)
          have p0_m11 : zGW T (m11 94 55) (m11 109) := p0_m11
          have p1_m11 : zGU T (m 94 46) (m11 99) := p1_m11
          have p2_m11 : zOw (m11 99) (m 103) (m11 111) := p2_m11
          have p3_m11 : zDX (m 94 10) (m11 99) (m 112) (m11 113) (m11 114) (m11 94 55) (m 98) (m 101) (m 102) (m 108) := p3_m11
          have p4_m11 : -1 ≤ v12.toInt ∧ v12.toInt ≤ 1500 := p4_m11
          have b96 := i_bd v12
          exact K (v12) _ (zF_zov zF_rfl ws_237_184) hV_m11 p0_m11 p1_m11 p2_m11 p3_m11 r_GG (show zHA (m 94 10) (m 94 11) (m 94 13) (m 94 14) (m 94 16) (m 94 61) (m 94 59) (m 94 60) (m11 99) (m 102) (m 103) (m11 111) (m 117) (m 98) (m 101) (m 108) from by first | (exact ⟨fun z => absurd z (by omega), fun z => absurd z (by omega)⟩) | (exact HA_up2 r_HA (by omega) (by omega) (by omega) (by omega) (by omega) (by omega) (by omega)) | (exfalso; omega; done) | (exfalso; contradiction; done)) (show zRG (m 94 10) (m 94 18) (m 94 64) (m 94 63) (m11 99) (m 103) (m 102) (m 116) from by first | (exact fun z => absurd z (by omega)) | (exfalso; omega; done) | (exfalso; contradiction; done)) (show (m 94 58).toInt = 0 ∨ (m 94 10).toInt = 5 from by omega) (show zPL (m 94 10) (m 94 11) (m 94 13) (m 94 14) (m 94 61) (m 94 59) (m 94 60) (m 94 18) (m 94 64) (m11 99) (m 102) (m 103) (m11 111) v12 nw from by first | (exact PL_no (by decide)) | (exact PL_o (by omega) (by omega) (by omega) (by omega) (by omega)) | (exact PL_2 r_HA (by omega) (by omega) (by omega) (by omega)) | (exfalso; omega; done) | (exfalso; contradiction; done))
        · skip
          have g97 := i_ne h93
          have li98 : (5 : Int32).toInt = 5 := rfl
          refine zd (fun (h99 : (m 94 10) = (5 : Int32)) => ?_) (fun (h99 : ¬ (m 94 10) = (5 : Int32)) => ?_)
          · skip
            have g100 := i_eq h99
            have b101 := i_bd nw
            refine sp_217 (nw) hV r_W r_GW r_GU r_OW r_DX r_GG (show (m 94 10).toInt = 5 from by omega) (fun v14 m13 hV_m13 p0_m13 p1_m13 p2_m13 p3_m13 p4_m13 p5_m13 => zmi_n ?_)
            have p0_m13 : zGW T (m13 94 55) (m13 109) := p0_m13
            have p1_m13 : zGU T (m 94 46) (m13 99) := p1_m13
            have p2_m13 : zOw (m13 99) (m 103) (m13 111) := p2_m13
            have p3_m13 : zDX (m 94 10) (m13 99) (m 112) (m13 113) (m13 114) (m13 94 55) (m 98) (m 101) (m 102) (m 108) := p3_m13
            have p4_m13 : zGG (m13 94 58) (m13 94 56) (m13 94 57) (m13 106) := p4_m13
            have p5_m13 : -1 ≤ v14.toInt ∧ v14.toInt ≤ 1500 := p5_m13
            have b102 := i_bd v14
            have f103 : 0 ≤ (m13 94 58).toInt ∧ (m13 94 58).toInt ≤ 1 := rs_94_58 (m := (zov wr_217 m m13)) hV_m13
            exact K (v14) _ (zF_zov zF_rfl ws_217_184) hV_m13 p0_m13 p1_m13 p2_m13 p3_m13 p4_m13 (show zHA (m 94 10) (m 94 11) (m 94 13) (m 94 14) (m 94 16) (m 94 61) (m 94 59) (m 94 60) (m13 99) (m 102) (m 103) (m13 111) (m 117) (m 98) (m 101) (m 108) from by first | (exact ⟨fun z => absurd z (by omega), fun z => absurd z (by omega)⟩) | (exact HA_up2 r_HA (by omega) (by omega) (by omega) (by omega) (by omega) (by omega) (by omega)) | (exfalso; omega; done) | (exfalso; contradiction; done)) (show zRG (m 94 10) (m 94 18) (m 94 64) (m 94 63) (m13 99) (m 103) (m 102) (m 116) from by first | (exact fun z => absurd z (by omega)) | (exfalso; omega; done) | (exfalso; contradiction; done)) (show (m13 94 58).toInt = 0 ∨ (m 94 10).toInt = 5 from by omega) (show zPL (m 94 10) (m 94 11) (m 94 13) (m 94 14) (m 94 61) (m 94 59) (m 94 60) (m 94 18) (m 94 64) (m13 99) (m 102) (m 103) (m13 111) v14 nw from by first | (exact PL_no (by decide)) | (exact PL_o (by omega) (by omega) (by omega) (by omega) (by omega)) | (exact PL_2 r_HA (by omega) (by omega) (by omega) (by omega)) | (exfalso; omega; done) | (exfalso; contradiction; done))
          · skip
            have g104 := i_ne h99
            have li105 : (6 : Int32).toInt = 6 := rfl
            refine zd (fun (h106 : (m 94 10) = (6 : Int32)) => ?_) (fun (h106 : ¬ (m 94 10) = (6 : Int32)) => ?_)
            · skip
              have g107 := i_eq h106
              have b108 := i_bd nw
              refine sp_231 (nw) hV (by omega) (by omega) r_W r_GW r_GU r_OW r_DX (show zRG1 (m 94 18) (m 94 64) (m 94 63) (m 99) (m 103) (m 102) (m 116) from by first | (exact r_RGc (by omega)) | (exfalso; omega; done) | (exfalso; contradiction; done)) (show (m 94 10).toInt = 6 from by omega) (fun v16 m15 hV_m15 p0_m15 p1_m15 p2_m15 p3_m15 p4_m15 p5_m15 p6_m15 => zmi_n ?_)
              have p0_m15 : zGW T (m15 94 55) (m15 109) := p0_m15
              have p1_m15 : zGU T (m 94 46) (m15 99) := p1_m15
              have p2_m15 : zOw (m15 99) (m15 103) (m15 111) := p2_m15
              have p3_m15 : zDX (m 94 10) (m15 99) (m 112) (m15 113) (m15 114) (m15 94 55) (m 98) (m 101) (m 102) (m 108) := p3_m15
              have p4_m15 : zRG1 (m 94 18) (m 94 64) (m15 94 63) (m15 99) (m15 103) (m 102) (m15 116) := p4_m15
              have p5_m15 : v16.toInt = -1 ∨ (0 ≤ v16.toInt ∧ v16.toInt + nw.toInt ≤ (m 94 64).toInt * (m 94 18).toInt ∧ nw.toInt ≤ (m 94 18).toInt) := p5_m15
              have p6_m15 : -1 ≤ v16.toInt ∧ v16.toInt ≤ 1500 := p6_m15
              have b109 := i_bd v16
              exact K (v16) _ (zF_zov zF_rfl ws_231_184) hV_m15 p0_m15 p1_m15 p2_m15 p3_m15 r_GG (show zHA (m 94 10) (m 94 11) (m 94 13) (m 94 14) (m 94 16) (m 94 61) (m 94 59) (m 94 60) (m15 99) (m 102) (m15 103) (m15 111) (m 117) (m 98) (m 101) (m 108) from by first | (exact ⟨fun z => absurd z (by omega), fun z => absurd z (by omega)⟩) | (exact HA_up2 r_HA (by omega) (by omega) (by omega) (by omega) (by omega) (by omega) (by omega)) | (exfalso; omega; done) | (exfalso; contradiction; done)) (show zRG (m 94 10) (m 94 18) (m 94 64) (m15 94 63) (m15 99) (m15 103) (m 102) (m15 116) from by first | (exact fun z => absurd z (by omega)) | (exact fun _ => p4_m15) | (exfalso; omega; done) | (exfalso; contradiction; done)) (show (m 94 58).toInt = 0 ∨ (m 94 10).toInt = 5 from by omega) (show zPL (m 94 10) (m 94 11) (m 94 13) (m 94 14) (m 94 61) (m 94 59) (m 94 60) (m 94 18) (m 94 64) (m15 99) (m 102) (m15 103) (m15 111) v16 nw from by first | (exact PL_6 p5_m15 (by omega) (by omega) (by omega)) | (exact PL_no (by decide)) | (exact PL_o (by omega) (by omega) (by omega) (by omega) (by omega)) | (exact PL_2 r_HA (by omega) (by omega) (by omega) (by omega)) | (exfalso; omega; done) | (exfalso; contradiction; done))
            · skip
              have g110 := i_ne h106
              have b111 := i_bd nw
              refine sp_237 (nw) hV r_W r_GW r_GU r_OW r_DX (fun v18 m17 hV_m17 p0_m17 p1_m17 p2_m17 p3_m17 p4_m17 => zmi_n ?_)
              have p0_m17 : zGW T (m17 94 55) (m17 109) := p0_m17
              have p1_m17 : zGU T (m 94 46) (m17 99) := p1_m17
              have p2_m17 : zOw (m17 99) (m 103) (m17 111) := p2_m17
              have p3_m17 : zDX (m 94 10) (m17 99) (m 112) (m17 113) (m17 114) (m17 94 55) (m 98) (m 101) (m 102) (m 108) := p3_m17
              have p4_m17 : -1 ≤ v18.toInt ∧ v18.toInt ≤ 1500 := p4_m17
              have b112 := i_bd v18
              exact K (v18) _ (zF_zov zF_rfl ws_237_184) hV_m17 p0_m17 p1_m17 p2_m17 p3_m17 r_GG (show zHA (m 94 10) (m 94 11) (m 94 13) (m 94 14) (m 94 16) (m 94 61) (m 94 59) (m 94 60) (m17 99) (m 102) (m 103) (m17 111) (m 117) (m 98) (m 101) (m 108) from by first | (exact ⟨fun z => absurd z (by omega), fun z => absurd z (by omega)⟩) | (exact HA_up2 r_HA (by omega) (by omega) (by omega) (by omega) (by omega) (by omega) (by omega)) | (exfalso; omega; done) | (exfalso; contradiction; done)) (show zRG (m 94 10) (m 94 18) (m 94 64) (m 94 63) (m17 99) (m 103) (m 102) (m 116) from by first | (exact fun z => absurd z (by omega)) | (exfalso; omega; done) | (exfalso; contradiction; done)) (show (m 94 58).toInt = 0 ∨ (m 94 10).toInt = 5 from by omega) (show zPL (m 94 10) (m 94 11) (m 94 13) (m 94 14) (m 94 61) (m 94 59) (m 94 60) (m 94 18) (m 94 64) (m17 99) (m 102) (m 103) (m17 111) v18 nw from by first | (exact PL_no (by decide)) | (exact PL_o (by omega) (by omega) (by omega) (by omega) (by omega)) | (exact PL_2 r_HA (by omega) (by omega) (by omega) (by omega)) | (exfalso; omega; done) | (exfalso; contradiction; done))

