/-! from 94.408 -/
/-! the reference (written by wip/tools/gen94m.py) -/
set_option maxRecDepth 100000 in
theorem hm_224 : ma_md 224 = some (12, yX12_find, cX12_find, 5, (some (FieldType.int))) := rfl
theorem f_12_205_12 : ma_fld 12 205 12 = some 12 := by decide +kernel
theorem f_12_282_12 : ma_fld 12 282 12 = some 62 := by decide +kernel
theorem v_12_426_12 : ma_vl 12 426 12 = some (1, 225, 3) := by decide +kernel
theorem v_12_430_12 : ma_vl 12 430 12 = some (1, 227, 1) := by decide +kernel
theorem v_12_433_12 : ma_vl 12 433 12 = some (1, 228, 2) := by decide +kernel
theorem dX12_find_0 : decode cX12_find 0 = .ok (.aload_n 0, 1) := by decide +kernel
theorem dX12_find_18 : decode cX12_find 18 = .ok (.aload_n 0, 1) := by decide +kernel
theorem dX12_find_22 : decode cX12_find 22 = .ok (.iconst 1, 1) := by decide +kernel
theorem dX12_find_61 : decode cX12_find 61 = .ok (.iconst (-1), 1) := by decide +kernel
theorem dX12_find_62 : decode cX12_find 62 = .ok (.istore_n 2, 1) := by decide +kernel
theorem dX12_find_63 : decode cX12_find 63 = .ok (.iconst 0, 1) := by decide +kernel
theorem dX12_find_64 : decode cX12_find 64 = .ok (.istore_n 3, 1) := by decide +kernel
theorem dX12_find_65 : decode cX12_find 65 = .ok (.aload_n 0, 1) := by decide +kernel
theorem dX12_find_66 : decode cX12_find 66 = .ok (.iconst 0, 1) := by decide +kernel
theorem dX12_find_67 : decode cX12_find 67 = .ok (.aload_n 0, 1) := by decide +kernel
theorem dX12_find_71 : decode cX12_find 71 = .ok (.invokevirtual 423, 3) := by decide +kernel
theorem dX12_find_74 : decode cX12_find 74 = .ok (.istore 4, 2) := by decide +kernel
theorem dX12_find_68 : decode cX12_find 68 = .ok (.getfield 202, 3) := by decide +kernel
theorem dX12_find_26 : decode cX12_find 26 = .ok (.aload_n 0, 1) := by decide +kernel
theorem dX12_find_27 : decode cX12_find 27 = .ok (.aload_n 0, 1) := by decide +kernel
theorem dX12_find_31 : decode cX12_find 31 = .ok (.invokevirtual 430, 3) := by decide +kernel
theorem dX12_find_34 : decode cX12_find 34 = .ok (.istore_n 2, 1) := by decide +kernel
theorem dX12_find_35 : decode cX12_find 35 = .ok (.aload_n 0, 1) := by decide +kernel
theorem dX12_find_36 : decode cX12_find 36 = .ok (.iload_n 1, 1) := by decide +kernel
theorem dX12_find_37 : decode cX12_find 37 = .ok (.iload_n 2, 1) := by decide +kernel
theorem dX12_find_38 : decode cX12_find 38 = .ok (.aload_n 0, 1) := by decide +kernel
theorem dX12_find_42 : decode cX12_find 42 = .ok (.invokevirtual 426, 3) := by decide +kernel
theorem dX12_find_45 : decode cX12_find 45 = .ok (.istore_n 3, 1) := by decide +kernel
theorem dX12_find_46 : decode cX12_find 46 = .ok (.iload_n 3, 1) := by decide +kernel
theorem dX12_find_54 : decode cX12_find 54 = .ok (.aload_n 0, 1) := by decide +kernel
theorem dX12_find_55 : decode cX12_find 55 = .ok (.iload_n 1, 1) := by decide +kernel
theorem dX12_find_56 : decode cX12_find 56 = .ok (.iload_n 2, 1) := by decide +kernel
theorem dX12_find_57 : decode cX12_find 57 = .ok (.invokevirtual 433, 3) := by decide +kernel
theorem dX12_find_60 : decode cX12_find 60 = .ok (.ireturn, 1) := by decide +kernel
theorem dX12_find_50 : decode cX12_find 50 = .ok (.iload_n 3, 1) := by decide +kernel
theorem dX12_find_51 : decode cX12_find 51 = .ok (.goto 9, 3) := by decide +kernel
theorem dX12_find_47 : decode cX12_find 47 = .ok (.ifCond .lt 7, 3) := by decide +kernel
theorem dX12_find_39 : decode cX12_find 39 = .ok (.getfield 202, 3) := by decide +kernel
theorem dX12_find_28 : decode cX12_find 28 = .ok (.getfield 282, 3) := by decide +kernel
theorem dX12_find_23 : decode cX12_find 23 = .ok (.if_icmp .ne 38, 3) := by decide +kernel
theorem dX12_find_19 : decode cX12_find 19 = .ok (.getfield 205, 3) := by decide +kernel
theorem dX12_find_7 : decode cX12_find 7 = .ok (.aload_n 0, 1) := by decide +kernel
theorem dX12_find_8 : decode cX12_find 8 = .ok (.iload_n 1, 1) := by decide +kernel
theorem dX12_find_9 : decode cX12_find 9 = .ok (.iconst 0, 1) := by decide +kernel
theorem dX12_find_10 : decode cX12_find 10 = .ok (.aload_n 0, 1) := by decide +kernel
theorem dX12_find_14 : decode cX12_find 14 = .ok (.invokevirtual 426, 3) := by decide +kernel
theorem dX12_find_17 : decode cX12_find 17 = .ok (.ireturn, 1) := by decide +kernel
theorem dX12_find_11 : decode cX12_find 11 = .ok (.getfield 202, 3) := by decide +kernel
theorem dX12_find_4 : decode cX12_find 4 = .ok (.ifCond .ne 14, 3) := by decide +kernel
theorem dX12_find_1 : decode cX12_find 1 = .ok (.getfield 205, 3) := by decide +kernel
theorem dX12_find_76 : decode cX12_find 76 = .ok (.iload 4, 2) := by decide +kernel
theorem dX12_find_161 : decode cX12_find 161 = .ok (.iload_n 2, 1) := by decide +kernel
theorem dX12_find_162 : decode cX12_find 162 = .ok (.ireturn, 1) := by decide +kernel
theorem dX12_find_81 : decode cX12_find 81 = .ok (.aload_n 0, 1) := by decide +kernel
theorem dX12_find_82 : decode cX12_find 82 = .ok (.dup, 1) := by decide +kernel
theorem dX12_find_86 : decode cX12_find 86 = .ok (.iconst 1, 1) := by decide +kernel
theorem dX12_find_87 : decode cX12_find 87 = .ok (.iadd, 1) := by decide +kernel
theorem dX12_find_91 : decode cX12_find 91 = .ok (.aload_n 0, 1) := by decide +kernel
theorem dX12_find_95 : decode cX12_find 95 = .ok (.iload_n 1, 1) := by decide +kernel
theorem dX12_find_141 : decode cX12_find 141 = .ok (.aload_n 0, 1) := by decide +kernel
theorem dX12_find_142 : decode cX12_find 142 = .ok (.iload 4, 2) := by decide +kernel
theorem dX12_find_144 : decode cX12_find 144 = .ok (.aload_n 0, 1) := by decide +kernel
theorem dX12_find_148 : decode cX12_find 148 = .ok (.iadd, 1) := by decide +kernel
theorem dX12_find_149 : decode cX12_find 149 = .ok (.aload_n 0, 1) := by decide +kernel
theorem dX12_find_153 : decode cX12_find 153 = .ok (.invokevirtual 423, 3) := by decide +kernel
theorem dX12_find_156 : decode cX12_find 156 = .ok (.istore 4, 2) := by decide +kernel
theorem dX12_find_158 : decode cX12_find 158 = .ok (.goto (-82), 3) := by decide +kernel
theorem dX12_find_150 : decode cX12_find 150 = .ok (.getfield 202, 3) := by decide +kernel
theorem dX12_find_145 : decode cX12_find 145 = .ok (.getfield 420, 3) := by decide +kernel
theorem dX12_find_99 : decode cX12_find 99 = .ok (.iload_n 2, 1) := by decide +kernel
theorem dX12_find_133 : decode cX12_find 133 = .ok (.iload 4, 2) := by decide +kernel
theorem dX12_find_135 : decode cX12_find 135 = .ok (.istore_n 2, 1) := by decide +kernel
theorem dX12_find_136 : decode cX12_find 136 = .ok (.aload_n 0, 1) := by decide +kernel
theorem dX12_find_140 : decode cX12_find 140 = .ok (.istore_n 3, 1) := by decide +kernel
theorem dX12_find_137 : decode cX12_find 137 = .ok (.getfield 420, 3) := by decide +kernel
theorem dX12_find_103 : decode cX12_find 103 = .ok (.aload_n 0, 1) := by decide +kernel
theorem dX12_find_107 : decode cX12_find 107 = .ok (.iconst 2, 1) := by decide +kernel
theorem dX12_find_122 : decode cX12_find 122 = .ok (.aload_n 0, 1) := by decide +kernel
theorem dX12_find_126 : decode cX12_find 126 = .ok (.iload_n 3, 1) := by decide +kernel
theorem dX12_find_130 : decode cX12_find 130 = .ok (.goto 11, 3) := by decide +kernel
theorem dX12_find_127 : decode cX12_find 127 = .ok (.if_icmp .gt 6, 3) := by decide +kernel
theorem dX12_find_123 : decode cX12_find 123 = .ok (.getfield 420, 3) := by decide +kernel
theorem dX12_find_111 : decode cX12_find 111 = .ok (.aload_n 0, 1) := by decide +kernel
theorem dX12_find_115 : decode cX12_find 115 = .ok (.iload_n 3, 1) := by decide +kernel
theorem dX12_find_119 : decode cX12_find 119 = .ok (.goto 22, 3) := by decide +kernel
theorem dX12_find_116 : decode cX12_find 116 = .ok (.if_icmp .lt 17, 3) := by decide +kernel
theorem dX12_find_112 : decode cX12_find 112 = .ok (.getfield 420, 3) := by decide +kernel
theorem dX12_find_108 : decode cX12_find 108 = .ok (.if_icmp .ne 14, 3) := by decide +kernel
theorem dX12_find_104 : decode cX12_find 104 = .ok (.getfield 205, 3) := by decide +kernel
theorem dX12_find_100 : decode cX12_find 100 = .ok (.ifCond .lt 33, 3) := by decide +kernel
theorem dX12_find_96 : decode cX12_find 96 = .ok (.if_icmp .lt 45, 3) := by decide +kernel
theorem dX12_find_92 : decode cX12_find 92 = .ok (.getfield 420, 3) := by decide +kernel
theorem dX12_find_88 : decode cX12_find 88 = .ok (.putfield 258, 3) := by decide +kernel
theorem dX12_find_83 : decode cX12_find 83 = .ok (.getfield 258, 3) := by decide +kernel
theorem dX12_find_78 : decode cX12_find 78 = .ok (.ifCond .lt 83, 3) := by decide +kernel
def wr_224 (c k : Nat) : Bool := (Nat.beq c 94 && (Nat.beq k 50 || Nat.beq k 84))
theorem ws_225_224 : ∀ c k, wr_225 c k = true → wr_224 c k = true := by
  intro c k h
  simp only [wr_225, Bool.or_eq_true, Bool.and_eq_true, Nat.beq_eq] at h
  rcases h with ⟨rfl, (rfl | rfl)⟩ <;> rfl
theorem ws_226_224 : ∀ c k, wr_226 c k = true → wr_224 c k = true := by
  intro c k h
  simp only [wr_226, Bool.or_eq_true, Bool.and_eq_true, Nat.beq_eq] at h
  rcases h with ⟨rfl, rfl⟩ <;> rfl
theorem ws_227_224 : ∀ c k, wr_227 c k = true → wr_224 c k = true := fun _ _ h => by cases h
theorem ws_228_224 : ∀ c k, wr_228 c k = true → wr_224 c k = true := by
  intro c k h
  simp only [wr_228, Bool.or_eq_true, Bool.and_eq_true, Nat.beq_eq] at h
  rcases h with ⟨rfl, (rfl | rfl)⟩ <;> rfl
theorem g_224_0 {X : Nat × (Nat → Int32)} {m : Nat → Nat → Int32} {P : Option ma_V → (Nat → Nat → Int32) → Prop} (n : Int32) (h : if (m 94 12) = 0 then (zm X 2 45 225 0 [(0, .inr (.inr (some 94))), (1, .inl n), (2, .inl (0 : Int32)), (3, .inl (m 94 11))] m (zmi (fun v10 m9 => P (some (.inl v10)) m9))) else (if (m 94 12) = (1 : Int32) then (zm X 1 21 227 0 [(0, .inr (.inr (some 94))), (1, .inl (m 94 62))] m (zmi (fun v4 m3 => zm X 2 45 225 0 [(0, .inr (.inr (some 94))), (1, .inl n), (2, .inl v4), (3, .inl (m3 94 11))] m3 (zmi (fun v6 m5 => if v6 < 0 then (zm X 2 45 228 0 [(0, .inr (.inr (some 94))), (1, .inl n), (2, .inl v4)] m5 (zmi (fun v8 m7 => P (some (.inl v8)) m7))) else (P (some (.inl v6)) m5)))))) else (zm X 1 21 226 0 [(0, .inr (.inr (some 94))), (1, .inl (0 : Int32)), (2, .inl (m 94 11))] m (zmi (fun v2 m1 => zm X 3 69 224 76 [(0, .inr (.inr (some 94))), (1, .inl n), (2, .inl (-1 : Int32)), (3, .inl (0 : Int32)), (4, .inl v2)] m1 P))))) : zm X 3 69 224 0 [(0, .inr (.inr (some 94))), (1, .inl n)] m P := by
  intro d w S Q hd hw hS hm HQ
  subst hm
  refine zw_push hm_224 dX12_find_0 (v := .inr (.inr (some 94))) rfl ?_
  refine zw_gf hm_224 dX12_find_1 (v := .inl ((mI S) 94 12)) (zT_is hS s_94) (zT_t hS s_94) rfl f_12_205_12 rfl ?_
  refine zw_if0 hm_224 dX12_find_4 (t := 18) rfl zc0_ne ?_ ?_
  · intro hc
    rw [if_neg hc] at h
    refine zw_push hm_224 dX12_find_18 (v := .inr (.inr (some 94))) rfl ?_
    refine zw_gf hm_224 dX12_find_19 (v := .inl ((mI S) 94 12)) (zT_is hS s_94) (zT_t hS s_94) rfl f_12_205_12 rfl ?_
    refine zw_push hm_224 dX12_find_22 (v := .inl (1 : Int32)) rfl ?_
    refine zw_if2 hm_224 dX12_find_23 (t := 61) rfl zc2_ne ?_ ?_
    · intro hc
      rw [if_neg hc] at h
      refine zw_push hm_224 dX12_find_61 (v := .inl (-1 : Int32)) rfl ?_
      refine zw_sto hm_224 dX12_find_62 [(2, .inl (-1 : Int32)), (0, .inr (.inr (some 94))), (1, .inl n)] rfl rfl rfl ?_
      refine zw_push hm_224 dX12_find_63 (v := .inl (0 : Int32)) rfl ?_
      refine zw_sto hm_224 dX12_find_64 [(3, .inl (0 : Int32)), (2, .inl (-1 : Int32)), (0, .inr (.inr (some 94))), (1, .inl n)] rfl rfl rfl ?_
      refine zw_push hm_224 dX12_find_65 (v := .inr (.inr (some 94))) rfl ?_
      refine zw_push hm_224 dX12_find_66 (v := .inl (0 : Int32)) rfl ?_
      refine zw_push hm_224 dX12_find_67 (v := .inr (.inr (some 94))) rfl ?_
      refine zw_gf hm_224 dX12_find_68 (v := .inl ((mI S) 94 11)) (zT_is hS s_94) (zT_t hS s_94) rfl f_12_202_12 rfl ?_
      refine zw_cv hm_224 dX12_find_71 v_12_423_12 hm_226 [.inl ((mI S) 94 11), .inl (0 : Int32)] [] rfl (zT_rt hS s_94 rfl) ⟨by omega, by omega⟩ rfl (h _ _ S _ (by omega) (by omega) hS rfl (fun o9 m1 hv => ?_))
      obtain ⟨v2, rfl, h⟩ := zmi_of hv
      show ma_wp X d w 224 74 [(3, .inl (0 : Int32)), (2, .inl (-1 : Int32)), (0, .inr (.inr (some 94))), (1, .inl n)] [.inl v2] (zst S m1) _
      refine zw_sto hm_224 dX12_find_74 [(4, .inl v2), (3, .inl (0 : Int32)), (2, .inl (-1 : Int32)), (0, .inr (.inr (some 94))), (1, .inl n)] rfl rfl rfl ?_
      exact zw_sub (ma_nd_of (ks := [0, 1, 2, 3, 4]) rfl (by decide)) (ma_nd_of (ks := [4, 3, 2, 0, 1]) rfl (by decide)) (ma_le_cons rfl (ma_le_cons rfl (ma_le_cons rfl (ma_le_cons rfl (ma_le_cons rfl (ma_le_nil _)))))) (h d w _ Q (by omega) (by omega) (zT_zst hS m1) rfl HQ)
    · intro hc
      rw [if_pos (Classical.not_not.mp hc)] at h
      refine zw_push hm_224 dX12_find_26 (v := .inr (.inr (some 94))) rfl ?_
      refine zw_push hm_224 dX12_find_27 (v := .inr (.inr (some 94))) rfl ?_
      refine zw_gf hm_224 dX12_find_28 (v := .inl ((mI S) 94 62)) (zT_is hS s_94) (zT_t hS s_94) rfl f_12_282_12 rfl ?_
      refine zw_cv hm_224 dX12_find_31 v_12_430_12 hm_227 [.inl ((mI S) 94 62)] [] rfl (zT_rt hS s_94 rfl) ⟨by omega, by omega⟩ rfl (h _ _ S _ (by omega) (by omega) hS rfl (fun o9 m3 hv => ?_))
      obtain ⟨v4, rfl, h⟩ := zmi_of hv
      show ma_wp X d w 224 34 [(0, .inr (.inr (some 94))), (1, .inl n)] [.inl v4] (zst S m3) _
      refine zw_sto hm_224 dX12_find_34 [(2, .inl v4), (0, .inr (.inr (some 94))), (1, .inl n)] rfl rfl rfl ?_
      refine zw_push hm_224 dX12_find_35 (v := .inr (.inr (some 94))) rfl ?_
      refine zw_push hm_224 dX12_find_36 (v := .inl n) rfl ?_
      refine zw_push hm_224 dX12_find_37 (v := .inl v4) rfl ?_
      refine zw_push hm_224 dX12_find_38 (v := .inr (.inr (some 94))) rfl ?_
      refine zw_gf hm_224 dX12_find_39 (v := .inl (m3 94 11)) (zT_is (zT_zst hS m3) s_94) (zT_t (zT_zst hS m3) s_94) rfl f_12_202_12 rfl ?_
      refine zw_cv hm_224 dX12_find_42 v_12_426_12 hm_225 [.inl (m3 94 11), .inl v4, .inl n] [] rfl (zT_rt (zT_zst hS m3) s_94 rfl) ⟨by omega, by omega⟩ rfl (h _ _ (zst S m3) _ (by omega) (by omega) (zT_zst hS m3) rfl (fun o9 m5 hv => ?_))
      obtain ⟨v6, rfl, h⟩ := zmi_of hv
      show ma_wp X d w 224 45 [(2, .inl v4), (0, .inr (.inr (some 94))), (1, .inl n)] [.inl v6] (zst S m5) _
      refine zw_sto hm_224 dX12_find_45 [(3, .inl v6), (2, .inl v4), (0, .inr (.inr (some 94))), (1, .inl n)] rfl rfl rfl ?_
      refine zw_push hm_224 dX12_find_46 (v := .inl v6) rfl ?_
      refine zw_if0 hm_224 dX12_find_47 (t := 54) rfl zc0_lt ?_ ?_
      · intro hc
        rw [if_pos hc] at h
        refine zw_push hm_224 dX12_find_54 (v := .inr (.inr (some 94))) rfl ?_
        refine zw_push hm_224 dX12_find_55 (v := .inl n) rfl ?_
        refine zw_push hm_224 dX12_find_56 (v := .inl v4) rfl ?_
        refine zw_cv hm_224 dX12_find_57 v_12_433_12 hm_228 [.inl v4, .inl n] [] rfl (zT_rt (zT_zst hS m5) s_94 rfl) ⟨by omega, by omega⟩ rfl (h _ _ (zst S m5) _ (by omega) (by omega) (zT_zst hS m5) rfl (fun o9 m7 hv => ?_))
        obtain ⟨v8, rfl, h⟩ := zmi_of hv
        show ma_wp X d w 224 60 [(3, .inl v6), (2, .inl v4), (0, .inr (.inr (some 94))), (1, .inl n)] [.inl v8] (zst S m7) _
        exact zw_iret hm_224 dX12_find_60 (HQ _ _ h)
      · intro hc
        rw [if_neg hc] at h
        refine zw_push hm_224 dX12_find_50 (v := .inl v6) rfl ?_
        refine zw_goto hm_224 dX12_find_51 (t := 60) rfl ?_
        exact zw_iret hm_224 dX12_find_60 (HQ _ _ h)
  · intro hc
    rw [if_pos (Classical.not_not.mp hc)] at h
    refine zw_push hm_224 dX12_find_7 (v := .inr (.inr (some 94))) rfl ?_
    refine zw_push hm_224 dX12_find_8 (v := .inl n) rfl ?_
    refine zw_push hm_224 dX12_find_9 (v := .inl (0 : Int32)) rfl ?_
    refine zw_push hm_224 dX12_find_10 (v := .inr (.inr (some 94))) rfl ?_
    refine zw_gf hm_224 dX12_find_11 (v := .inl ((mI S) 94 11)) (zT_is hS s_94) (zT_t hS s_94) rfl f_12_202_12 rfl ?_
    refine zw_cv hm_224 dX12_find_14 v_12_426_12 hm_225 [.inl ((mI S) 94 11), .inl (0 : Int32), .inl n] [] rfl (zT_rt hS s_94 rfl) ⟨by omega, by omega⟩ rfl (h _ _ S _ (by omega) (by omega) hS rfl (fun o9 m9 hv => ?_))
    obtain ⟨v10, rfl, h⟩ := zmi_of hv
    show ma_wp X d w 224 17 [(0, .inr (.inr (some 94))), (1, .inl n)] [.inl v10] (zst S m9) _
    exact zw_iret hm_224 dX12_find_17 (HQ _ _ h)
theorem g_224_76 {X : Nat × (Nat → Int32)} {m : Nat → Nat → Int32} {P : Option ma_V → (Nat → Nat → Int32) → Prop} (l1 : Int32) (l2 : Int32) (l3 : Int32) (l4 : Int32) (h : if l4 < 0 then (P (some (.inl l2)) m) else (if (m 94 84) < l1 then (zm X 1 21 226 0 [(0, .inr (.inr (some 94))), (1, .inl (l4 + (m 94 84))), (2, .inl (m 94 11))] (ma_u m 94 50 ((m 94 50) + (1 : Int32))) (zmi (fun v2 m1 => zm X 3 69 224 76 [(0, .inr (.inr (some 94))), (1, .inl l1), (2, .inl l2), (3, .inl l3), (4, .inl v2)] m1 P))) else (if l2 < 0 then (zm X 1 21 226 0 [(0, .inr (.inr (some 94))), (1, .inl (l4 + (m 94 84))), (2, .inl (m 94 11))] (ma_u m 94 50 ((m 94 50) + (1 : Int32))) (zmi (fun v4 m3 => zm X 3 69 224 76 [(0, .inr (.inr (some 94))), (1, .inl l1), (2, .inl l4), (3, .inl (m 94 84)), (4, .inl v4)] m3 P))) else (if (m 94 12) = (2 : Int32) then (if (m 94 84) < l3 then (zm X 1 21 226 0 [(0, .inr (.inr (some 94))), (1, .inl (l4 + (m 94 84))), (2, .inl (m 94 11))] (ma_u m 94 50 ((m 94 50) + (1 : Int32))) (zmi (fun v10 m9 => zm X 3 69 224 76 [(0, .inr (.inr (some 94))), (1, .inl l1), (2, .inl l4), (3, .inl (m 94 84)), (4, .inl v10)] m9 P))) else (zm X 1 21 226 0 [(0, .inr (.inr (some 94))), (1, .inl (l4 + (m 94 84))), (2, .inl (m 94 11))] (ma_u m 94 50 ((m 94 50) + (1 : Int32))) (zmi (fun v12 m11 => zm X 3 69 224 76 [(0, .inr (.inr (some 94))), (1, .inl l1), (2, .inl l2), (3, .inl l3), (4, .inl v12)] m11 P)))) else (if l3 < (m 94 84) then (zm X 1 21 226 0 [(0, .inr (.inr (some 94))), (1, .inl (l4 + (m 94 84))), (2, .inl (m 94 11))] (ma_u m 94 50 ((m 94 50) + (1 : Int32))) (zmi (fun v6 m5 => zm X 3 69 224 76 [(0, .inr (.inr (some 94))), (1, .inl l1), (2, .inl l4), (3, .inl (m 94 84)), (4, .inl v6)] m5 P))) else (zm X 1 21 226 0 [(0, .inr (.inr (some 94))), (1, .inl (l4 + (m 94 84))), (2, .inl (m 94 11))] (ma_u m 94 50 ((m 94 50) + (1 : Int32))) (zmi (fun v8 m7 => zm X 3 69 224 76 [(0, .inr (.inr (some 94))), (1, .inl l1), (2, .inl l2), (3, .inl l3), (4, .inl v8)] m7 P)))))))) : zm X 3 69 224 76 [(0, .inr (.inr (some 94))), (1, .inl l1), (2, .inl l2), (3, .inl l3), (4, .inl l4)] m P := by
  intro d w S Q hd hw hS hm HQ
  subst hm
  refine zw_push hm_224 dX12_find_76 (v := .inl l4) rfl ?_
  refine zw_if0 hm_224 dX12_find_78 (t := 161) rfl zc0_lt ?_ ?_
  · intro hc
    rw [if_pos hc] at h
    refine zw_push hm_224 dX12_find_161 (v := .inl l2) rfl ?_
    exact zw_iret hm_224 dX12_find_162 (HQ _ _ h)
  · intro hc
    rw [if_neg hc] at h
    refine zw_push hm_224 dX12_find_81 (v := .inr (.inr (some 94))) rfl ?_
    refine zw_stk hm_224 dX12_find_82 (st₉ := [.inr (.inr (some 94)), .inr (.inr (some 94))]) rfl rfl ?_
    refine zw_gf hm_224 dX12_find_83 (v := .inl ((mI S) 94 50)) (zT_is hS s_94) (zT_t hS s_94) rfl f_12_258_12 rfl ?_
    refine zw_push hm_224 dX12_find_86 (v := .inl (1 : Int32)) rfl ?_
    refine zw_stk hm_224 dX12_find_87 (st₉ := [.inl (((mI S) 94 50) + (1 : Int32)), .inr (.inr (some 94))]) rfl rfl ?_
    refine zw_pf hm_224 dX12_find_88 (zT_is hS s_94) (zT_t hS s_94) p_12_258_12 zk_int ?_
    refine zw_push hm_224 dX12_find_91 (v := .inr (.inr (some 94))) rfl ?_
    refine zw_gf hm_224 dX12_find_92 (v := .inl ((mI S) 94 84)) (zT_is (zT_pi hS) s_94) (zT_t (zT_pi hS) s_94) rfl f_12_420_12 rfl ?_
    refine zw_push hm_224 dX12_find_95 (v := .inl l1) rfl ?_
    refine zw_if2 hm_224 dX12_find_96 (t := 141) rfl zc2_lt ?_ ?_
    · intro hc
      rw [if_pos hc] at h
      refine zw_push hm_224 dX12_find_141 (v := .inr (.inr (some 94))) rfl ?_
      refine zw_push hm_224 dX12_find_142 (v := .inl l4) rfl ?_
      refine zw_push hm_224 dX12_find_144 (v := .inr (.inr (some 94))) rfl ?_
      refine zw_gf hm_224 dX12_find_145 (v := .inl ((mI S) 94 84)) (zT_is (zT_pi hS) s_94) (zT_t (zT_pi hS) s_94) rfl f_12_420_12 rfl ?_
      refine zw_stk hm_224 dX12_find_148 (st₉ := [.inl (l4 + ((mI S) 94 84)), .inr (.inr (some 94))]) rfl rfl ?_
      refine zw_push hm_224 dX12_find_149 (v := .inr (.inr (some 94))) rfl ?_
      refine zw_gf hm_224 dX12_find_150 (v := .inl ((mI S) 94 11)) (zT_is (zT_pi hS) s_94) (zT_t (zT_pi hS) s_94) rfl f_12_202_12 rfl ?_
      refine zw_cv hm_224 dX12_find_153 v_12_423_12 hm_226 [.inl ((mI S) 94 11), .inl (l4 + ((mI S) 94 84))] [] rfl (zT_rt (zT_pi hS) s_94 rfl) ⟨by omega, by omega⟩ rfl (h _ _ (ma_put S 94 50 (.inl (((mI S) 94 50) + (1 : Int32)))) _ (by omega) (by omega) (zT_pi hS) rfl (fun o9 m1 hv => ?_))
      obtain ⟨v2, rfl, h⟩ := zmi_of hv
      show ma_wp X d w 224 156 [(0, .inr (.inr (some 94))), (1, .inl l1), (2, .inl l2), (3, .inl l3), (4, .inl l4)] [.inl v2] (zst S m1) _
      refine zw_sto hm_224 dX12_find_156 [(4, .inl v2), (0, .inr (.inr (some 94))), (1, .inl l1), (2, .inl l2), (3, .inl l3)] rfl rfl rfl ?_
      refine zw_goto hm_224 dX12_find_158 (t := 76) rfl ?_
      exact zw_sub (ma_nd_of (ks := [0, 1, 2, 3, 4]) rfl (by decide)) (ma_nd_of (ks := [4, 0, 1, 2, 3]) rfl (by decide)) (ma_le_cons rfl (ma_le_cons rfl (ma_le_cons rfl (ma_le_cons rfl (ma_le_cons rfl (ma_le_nil _)))))) (h d w _ Q (by omega) (by omega) (zT_zst hS m1) rfl HQ)
    · intro hc
      rw [if_neg hc] at h
      refine zw_push hm_224 dX12_find_99 (v := .inl l2) rfl ?_
      refine zw_if0 hm_224 dX12_find_100 (t := 133) rfl zc0_lt ?_ ?_
      · intro hc
        rw [if_pos hc] at h
        refine zw_push hm_224 dX12_find_133 (v := .inl l4) rfl ?_
        refine zw_sto hm_224 dX12_find_135 [(2, .inl l4), (0, .inr (.inr (some 94))), (1, .inl l1), (3, .inl l3), (4, .inl l4)] rfl rfl rfl ?_
        refine zw_push hm_224 dX12_find_136 (v := .inr (.inr (some 94))) rfl ?_
        refine zw_gf hm_224 dX12_find_137 (v := .inl ((mI S) 94 84)) (zT_is (zT_pi hS) s_94) (zT_t (zT_pi hS) s_94) rfl f_12_420_12 rfl ?_
        refine zw_sto hm_224 dX12_find_140 [(3, .inl ((mI S) 94 84)), (2, .inl l4), (0, .inr (.inr (some 94))), (1, .inl l1), (4, .inl l4)] rfl rfl rfl ?_
        refine zw_push hm_224 dX12_find_141 (v := .inr (.inr (some 94))) rfl ?_
        refine zw_push hm_224 dX12_find_142 (v := .inl l4) rfl ?_
        refine zw_push hm_224 dX12_find_144 (v := .inr (.inr (some 94))) rfl ?_
        refine zw_gf hm_224 dX12_find_145 (v := .inl ((mI S) 94 84)) (zT_is (zT_pi hS) s_94) (zT_t (zT_pi hS) s_94) rfl f_12_420_12 rfl ?_
        refine zw_stk hm_224 dX12_find_148 (st₉ := [.inl (l4 + ((mI S) 94 84)), .inr (.inr (some 94))]) rfl rfl ?_
        refine zw_push hm_224 dX12_find_149 (v := .inr (.inr (some 94))) rfl ?_
        refine zw_gf hm_224 dX12_find_150 (v := .inl ((mI S) 94 11)) (zT_is (zT_pi hS) s_94) (zT_t (zT_pi hS) s_94) rfl f_12_202_12 rfl ?_
        refine zw_cv hm_224 dX12_find_153 v_12_423_12 hm_226 [.inl ((mI S) 94 11), .inl (l4 + ((mI S) 94 84))] [] rfl (zT_rt (zT_pi hS) s_94 rfl) ⟨by omega, by omega⟩ rfl (h _ _ (ma_put S 94 50 (.inl (((mI S) 94 50) + (1 : Int32)))) _ (by omega) (by omega) (zT_pi hS) rfl (fun o9 m3 hv => ?_))
        obtain ⟨v4, rfl, h⟩ := zmi_of hv
        show ma_wp X d w 224 156 [(3, .inl ((mI S) 94 84)), (2, .inl l4), (0, .inr (.inr (some 94))), (1, .inl l1), (4, .inl l4)] [.inl v4] (zst S m3) _
        refine zw_sto hm_224 dX12_find_156 [(4, .inl v4), (3, .inl ((mI S) 94 84)), (2, .inl l4), (0, .inr (.inr (some 94))), (1, .inl l1)] rfl rfl rfl ?_
        refine zw_goto hm_224 dX12_find_158 (t := 76) rfl ?_
        exact zw_sub (ma_nd_of (ks := [0, 1, 2, 3, 4]) rfl (by decide)) (ma_nd_of (ks := [4, 3, 2, 0, 1]) rfl (by decide)) (ma_le_cons rfl (ma_le_cons rfl (ma_le_cons rfl (ma_le_cons rfl (ma_le_cons rfl (ma_le_nil _)))))) (h d w _ Q (by omega) (by omega) (zT_zst hS m3) rfl HQ)
      · intro hc
        rw [if_neg hc] at h
        refine zw_push hm_224 dX12_find_103 (v := .inr (.inr (some 94))) rfl ?_
        refine zw_gf hm_224 dX12_find_104 (v := .inl ((mI S) 94 12)) (zT_is (zT_pi hS) s_94) (zT_t (zT_pi hS) s_94) rfl f_12_205_12 rfl ?_
        refine zw_push hm_224 dX12_find_107 (v := .inl (2 : Int32)) rfl ?_
        refine zw_if2 hm_224 dX12_find_108 (t := 122) rfl zc2_ne ?_ ?_
        · intro hc
          rw [if_neg hc] at h
          refine zw_push hm_224 dX12_find_122 (v := .inr (.inr (some 94))) rfl ?_
          refine zw_gf hm_224 dX12_find_123 (v := .inl ((mI S) 94 84)) (zT_is (zT_pi hS) s_94) (zT_t (zT_pi hS) s_94) rfl f_12_420_12 rfl ?_
          refine zw_push hm_224 dX12_find_126 (v := .inl l3) rfl ?_
          refine zw_if2 hm_224 dX12_find_127 (t := 133) rfl zc2_gt ?_ ?_
          · intro hc
            rw [if_pos hc] at h
            refine zw_push hm_224 dX12_find_133 (v := .inl l4) rfl ?_
            refine zw_sto hm_224 dX12_find_135 [(2, .inl l4), (0, .inr (.inr (some 94))), (1, .inl l1), (3, .inl l3), (4, .inl l4)] rfl rfl rfl ?_
            refine zw_push hm_224 dX12_find_136 (v := .inr (.inr (some 94))) rfl ?_
            refine zw_gf hm_224 dX12_find_137 (v := .inl ((mI S) 94 84)) (zT_is (zT_pi hS) s_94) (zT_t (zT_pi hS) s_94) rfl f_12_420_12 rfl ?_
            refine zw_sto hm_224 dX12_find_140 [(3, .inl ((mI S) 94 84)), (2, .inl l4), (0, .inr (.inr (some 94))), (1, .inl l1), (4, .inl l4)] rfl rfl rfl ?_
            refine zw_push hm_224 dX12_find_141 (v := .inr (.inr (some 94))) rfl ?_
            refine zw_push hm_224 dX12_find_142 (v := .inl l4) rfl ?_
            refine zw_push hm_224 dX12_find_144 (v := .inr (.inr (some 94))) rfl ?_
            refine zw_gf hm_224 dX12_find_145 (v := .inl ((mI S) 94 84)) (zT_is (zT_pi hS) s_94) (zT_t (zT_pi hS) s_94) rfl f_12_420_12 rfl ?_
            refine zw_stk hm_224 dX12_find_148 (st₉ := [.inl (l4 + ((mI S) 94 84)), .inr (.inr (some 94))]) rfl rfl ?_
            refine zw_push hm_224 dX12_find_149 (v := .inr (.inr (some 94))) rfl ?_
            refine zw_gf hm_224 dX12_find_150 (v := .inl ((mI S) 94 11)) (zT_is (zT_pi hS) s_94) (zT_t (zT_pi hS) s_94) rfl f_12_202_12 rfl ?_
            refine zw_cv hm_224 dX12_find_153 v_12_423_12 hm_226 [.inl ((mI S) 94 11), .inl (l4 + ((mI S) 94 84))] [] rfl (zT_rt (zT_pi hS) s_94 rfl) ⟨by omega, by omega⟩ rfl (h _ _ (ma_put S 94 50 (.inl (((mI S) 94 50) + (1 : Int32)))) _ (by omega) (by omega) (zT_pi hS) rfl (fun o9 m5 hv => ?_))
            obtain ⟨v6, rfl, h⟩ := zmi_of hv
            show ma_wp X d w 224 156 [(3, .inl ((mI S) 94 84)), (2, .inl l4), (0, .inr (.inr (some 94))), (1, .inl l1), (4, .inl l4)] [.inl v6] (zst S m5) _
            refine zw_sto hm_224 dX12_find_156 [(4, .inl v6), (3, .inl ((mI S) 94 84)), (2, .inl l4), (0, .inr (.inr (some 94))), (1, .inl l1)] rfl rfl rfl ?_
            refine zw_goto hm_224 dX12_find_158 (t := 76) rfl ?_
            exact zw_sub (ma_nd_of (ks := [0, 1, 2, 3, 4]) rfl (by decide)) (ma_nd_of (ks := [4, 3, 2, 0, 1]) rfl (by decide)) (ma_le_cons rfl (ma_le_cons rfl (ma_le_cons rfl (ma_le_cons rfl (ma_le_cons rfl (ma_le_nil _)))))) (h d w _ Q (by omega) (by omega) (zT_zst hS m5) rfl HQ)
          · intro hc
            rw [if_neg hc] at h
            refine zw_goto hm_224 dX12_find_130 (t := 141) rfl ?_
            refine zw_push hm_224 dX12_find_141 (v := .inr (.inr (some 94))) rfl ?_
            refine zw_push hm_224 dX12_find_142 (v := .inl l4) rfl ?_
            refine zw_push hm_224 dX12_find_144 (v := .inr (.inr (some 94))) rfl ?_
            refine zw_gf hm_224 dX12_find_145 (v := .inl ((mI S) 94 84)) (zT_is (zT_pi hS) s_94) (zT_t (zT_pi hS) s_94) rfl f_12_420_12 rfl ?_
            refine zw_stk hm_224 dX12_find_148 (st₉ := [.inl (l4 + ((mI S) 94 84)), .inr (.inr (some 94))]) rfl rfl ?_
            refine zw_push hm_224 dX12_find_149 (v := .inr (.inr (some 94))) rfl ?_
            refine zw_gf hm_224 dX12_find_150 (v := .inl ((mI S) 94 11)) (zT_is (zT_pi hS) s_94) (zT_t (zT_pi hS) s_94) rfl f_12_202_12 rfl ?_
            refine zw_cv hm_224 dX12_find_153 v_12_423_12 hm_226 [.inl ((mI S) 94 11), .inl (l4 + ((mI S) 94 84))] [] rfl (zT_rt (zT_pi hS) s_94 rfl) ⟨by omega, by omega⟩ rfl (h _ _ (ma_put S 94 50 (.inl (((mI S) 94 50) + (1 : Int32)))) _ (by omega) (by omega) (zT_pi hS) rfl (fun o9 m7 hv => ?_))
            obtain ⟨v8, rfl, h⟩ := zmi_of hv
            show ma_wp X d w 224 156 [(0, .inr (.inr (some 94))), (1, .inl l1), (2, .inl l2), (3, .inl l3), (4, .inl l4)] [.inl v8] (zst S m7) _
            refine zw_sto hm_224 dX12_find_156 [(4, .inl v8), (0, .inr (.inr (some 94))), (1, .inl l1), (2, .inl l2), (3, .inl l3)] rfl rfl rfl ?_
            refine zw_goto hm_224 dX12_find_158 (t := 76) rfl ?_
            exact zw_sub (ma_nd_of (ks := [0, 1, 2, 3, 4]) rfl (by decide)) (ma_nd_of (ks := [4, 0, 1, 2, 3]) rfl (by decide)) (ma_le_cons rfl (ma_le_cons rfl (ma_le_cons rfl (ma_le_cons rfl (ma_le_cons rfl (ma_le_nil _)))))) (h d w _ Q (by omega) (by omega) (zT_zst hS m7) rfl HQ)
        · intro hc
          rw [if_pos (Classical.not_not.mp hc)] at h
          refine zw_push hm_224 dX12_find_111 (v := .inr (.inr (some 94))) rfl ?_
          refine zw_gf hm_224 dX12_find_112 (v := .inl ((mI S) 94 84)) (zT_is (zT_pi hS) s_94) (zT_t (zT_pi hS) s_94) rfl f_12_420_12 rfl ?_
          refine zw_push hm_224 dX12_find_115 (v := .inl l3) rfl ?_
          refine zw_if2 hm_224 dX12_find_116 (t := 133) rfl zc2_lt ?_ ?_
          · intro hc
            rw [if_pos hc] at h
            refine zw_push hm_224 dX12_find_133 (v := .inl l4) rfl ?_
            refine zw_sto hm_224 dX12_find_135 [(2, .inl l4), (0, .inr (.inr (some 94))), (1, .inl l1), (3, .inl l3), (4, .inl l4)] rfl rfl rfl ?_
            refine zw_push hm_224 dX12_find_136 (v := .inr (.inr (some 94))) rfl ?_
            refine zw_gf hm_224 dX12_find_137 (v := .inl ((mI S) 94 84)) (zT_is (zT_pi hS) s_94) (zT_t (zT_pi hS) s_94) rfl f_12_420_12 rfl ?_
            refine zw_sto hm_224 dX12_find_140 [(3, .inl ((mI S) 94 84)), (2, .inl l4), (0, .inr (.inr (some 94))), (1, .inl l1), (4, .inl l4)] rfl rfl rfl ?_
            refine zw_push hm_224 dX12_find_141 (v := .inr (.inr (some 94))) rfl ?_
            refine zw_push hm_224 dX12_find_142 (v := .inl l4) rfl ?_
            refine zw_push hm_224 dX12_find_144 (v := .inr (.inr (some 94))) rfl ?_
            refine zw_gf hm_224 dX12_find_145 (v := .inl ((mI S) 94 84)) (zT_is (zT_pi hS) s_94) (zT_t (zT_pi hS) s_94) rfl f_12_420_12 rfl ?_
            refine zw_stk hm_224 dX12_find_148 (st₉ := [.inl (l4 + ((mI S) 94 84)), .inr (.inr (some 94))]) rfl rfl ?_
            refine zw_push hm_224 dX12_find_149 (v := .inr (.inr (some 94))) rfl ?_
            refine zw_gf hm_224 dX12_find_150 (v := .inl ((mI S) 94 11)) (zT_is (zT_pi hS) s_94) (zT_t (zT_pi hS) s_94) rfl f_12_202_12 rfl ?_
            refine zw_cv hm_224 dX12_find_153 v_12_423_12 hm_226 [.inl ((mI S) 94 11), .inl (l4 + ((mI S) 94 84))] [] rfl (zT_rt (zT_pi hS) s_94 rfl) ⟨by omega, by omega⟩ rfl (h _ _ (ma_put S 94 50 (.inl (((mI S) 94 50) + (1 : Int32)))) _ (by omega) (by omega) (zT_pi hS) rfl (fun o9 m9 hv => ?_))
            obtain ⟨v10, rfl, h⟩ := zmi_of hv
            show ma_wp X d w 224 156 [(3, .inl ((mI S) 94 84)), (2, .inl l4), (0, .inr (.inr (some 94))), (1, .inl l1), (4, .inl l4)] [.inl v10] (zst S m9) _
            refine zw_sto hm_224 dX12_find_156 [(4, .inl v10), (3, .inl ((mI S) 94 84)), (2, .inl l4), (0, .inr (.inr (some 94))), (1, .inl l1)] rfl rfl rfl ?_
            refine zw_goto hm_224 dX12_find_158 (t := 76) rfl ?_
            exact zw_sub (ma_nd_of (ks := [0, 1, 2, 3, 4]) rfl (by decide)) (ma_nd_of (ks := [4, 3, 2, 0, 1]) rfl (by decide)) (ma_le_cons rfl (ma_le_cons rfl (ma_le_cons rfl (ma_le_cons rfl (ma_le_cons rfl (ma_le_nil _)))))) (h d w _ Q (by omega) (by omega) (zT_zst hS m9) rfl HQ)
          · intro hc
            rw [if_neg hc] at h
            refine zw_goto hm_224 dX12_find_119 (t := 141) rfl ?_
            refine zw_push hm_224 dX12_find_141 (v := .inr (.inr (some 94))) rfl ?_
            refine zw_push hm_224 dX12_find_142 (v := .inl l4) rfl ?_
            refine zw_push hm_224 dX12_find_144 (v := .inr (.inr (some 94))) rfl ?_
            refine zw_gf hm_224 dX12_find_145 (v := .inl ((mI S) 94 84)) (zT_is (zT_pi hS) s_94) (zT_t (zT_pi hS) s_94) rfl f_12_420_12 rfl ?_
            refine zw_stk hm_224 dX12_find_148 (st₉ := [.inl (l4 + ((mI S) 94 84)), .inr (.inr (some 94))]) rfl rfl ?_
            refine zw_push hm_224 dX12_find_149 (v := .inr (.inr (some 94))) rfl ?_
            refine zw_gf hm_224 dX12_find_150 (v := .inl ((mI S) 94 11)) (zT_is (zT_pi hS) s_94) (zT_t (zT_pi hS) s_94) rfl f_12_202_12 rfl ?_
            refine zw_cv hm_224 dX12_find_153 v_12_423_12 hm_226 [.inl ((mI S) 94 11), .inl (l4 + ((mI S) 94 84))] [] rfl (zT_rt (zT_pi hS) s_94 rfl) ⟨by omega, by omega⟩ rfl (h _ _ (ma_put S 94 50 (.inl (((mI S) 94 50) + (1 : Int32)))) _ (by omega) (by omega) (zT_pi hS) rfl (fun o9 m11 hv => ?_))
            obtain ⟨v12, rfl, h⟩ := zmi_of hv
            show ma_wp X d w 224 156 [(0, .inr (.inr (some 94))), (1, .inl l1), (2, .inl l2), (3, .inl l3), (4, .inl l4)] [.inl v12] (zst S m11) _
            refine zw_sto hm_224 dX12_find_156 [(4, .inl v12), (0, .inr (.inr (some 94))), (1, .inl l1), (2, .inl l2), (3, .inl l3)] rfl rfl rfl ?_
            refine zw_goto hm_224 dX12_find_158 (t := 76) rfl ?_
            exact zw_sub (ma_nd_of (ks := [0, 1, 2, 3, 4]) rfl (by decide)) (ma_nd_of (ks := [4, 0, 1, 2, 3]) rfl (by decide)) (ma_le_cons rfl (ma_le_cons rfl (ma_le_cons rfl (ma_le_cons rfl (ma_le_cons rfl (ma_le_nil _)))))) (h d w _ Q (by omega) (by omega) (zT_zst hS m11) rfl HQ)
theorem lp_224_76 {X : Nat × (Nat → Int32)} {P : Option ma_V → (Nat → Nat → Int32) → Prop} {n : Int32} {m0 : Nat → Nat → Int32} (h0 : zV m0) (K : ∀ v m₉, zF wr_224 m0 m₉ → zV m₉ → (-1 ≤ v.toInt ∧ v.toInt ≤ 1500) → P (some (.inl v)) m₉) : ∀ (n : Nat) (m : Nat → Nat → Int32) (l1 : Int32) (l2 : Int32) (l3 : Int32) (l4 : Int32), (4700 - l4.toInt % 4701).toNat = n → zF wr_224 m0 m → zV m → (-1 ≤ l2.toInt) → (l2.toInt ≤ 1500) → (l4.toInt = -1 ∨ (0 ≤ l4.toInt ∧ l4.toInt < (m 94 11).toInt ∧ 1 ≤ (m 94 84).toInt ∧ l4.toInt + (m 94 84).toInt ≤ (m 94 11).toInt)) → zm X 3 69 224 76 [(0, .inr (.inr (some 94))), (1, .inl l1), (2, .inl l2), (3, .inl l3), (4, .inl l4)] m P := by
  intro n
  induction n using Nat.strongRecOn with
  | _ n IH =>
    intro m l1 l2 l3 l4 hmu hF hV hi0 hi1 hi2
    refine g_224_76 l1 l2 l3 l4 ?_
    have f1 : 0 ≤ (m 94 11).toInt ∧ (m 94 11).toInt ≤ 1500 := rs_94_11 (m := m) hV
    have f2 : 0 ≤ (m 94 84).toInt ∧ (m 94 84).toInt ≤ 4600 := rs_94_84 (m := m) hV
    have b3 := i_bd l4
    have li4 : (0 : Int32).toInt = 0 := rfl
    refine zd (fun (h5 : l4 < (0 : Int32)) => ?_) (fun (h5 : ¬ l4 < (0 : Int32)) => ?_)
    · skip
      have g6 := i_lt h5
      have b7 := i_bd l2
      exact K (l2) _ hF hV (show -1 ≤ l2.toInt ∧ l2.toInt ≤ 1500 from by omega)
    · skip
      have g8 := i_nlt h5
      have b9 := i_bd l1
      refine zd (fun (h10 : (m 94 84) < l1) => ?_) (fun (h10 : ¬ (m 94 84) < l1) => ?_)
      · skip
        have g11 := i_lt h10
        first | have e12 : (l4 + (m 94 84)).toInt = l4.toInt + (m 94 84).toInt := i_add (by omega) (by omega) | have b13 := i_bd (l4 + (m 94 84))
        have hV14 : zV (ma_u m 94 50 ((m 94 50) + (1 : Int32))) := uf_94_50 hV
        refine sp_226 ((l4 + (m 94 84))) ((m 94 11)) hV14 (by omega) (by omega) (by omega) (fun v2 m1 hV_m1 p0_m1 => zmi_n ?_)
        have p0_m1 : v2.toInt = -1 ∨ ((l4 + (m 94 84)).toInt ≤ v2.toInt ∧ v2.toInt < (m 94 11).toInt ∧ 1 ≤ (m1 94 84).toInt ∧ v2.toInt + (m1 94 84).toInt ≤ (m 94 11).toInt) := p0_m1
        have f15 : 0 ≤ (m1 94 84).toInt ∧ (m1 94 84).toInt ≤ 4600 := rs_94_84 (m := (zov wr_226 (ma_u m 94 50 ((m 94 50) + (1 : Int32))) m1)) hV_m1
        have b16 := i_bd l2
        have b17 := i_bd l3
        have b18 := i_bd v2
        exact IH (4700 - v2.toInt % 4701).toNat (by omega) _ (l1) (l2) (l3) (v2) rfl (zF_zov (zF_u hF rfl) ws_226_224) hV_m1 (by omega) (by omega) (show v2.toInt = -1 ∨ (0 ≤ v2.toInt ∧ v2.toInt < (m 94 11).toInt ∧ 1 ≤ (m1 94 84).toInt ∧ v2.toInt + (m1 94 84).toInt ≤ (m 94 11).toInt) from by omega)
      · skip
        have g19 := i_nlt h10
        have b20 := i_bd l2
        refine zd (fun (h21 : l2 < (0 : Int32)) => ?_) (fun (h21 : ¬ l2 < (0 : Int32)) => ?_)
        · skip
          have g22 := i_lt h21
          first | have e23 : (l4 + (m 94 84)).toInt = l4.toInt + (m 94 84).toInt := i_add (by omega) (by omega) | have b24 := i_bd (l4 + (m 94 84))
          have hV25 : zV (ma_u m 94 50 ((m 94 50) + (1 : Int32))) := uf_94_50 hV
          refine sp_226 ((l4 + (m 94 84))) ((m 94 11)) hV25 (by omega) (by omega) (by omega) (fun v4 m3 hV_m3 p0_m3 => zmi_n ?_)
          have p0_m3 : v4.toInt = -1 ∨ ((l4 + (m 94 84)).toInt ≤ v4.toInt ∧ v4.toInt < (m 94 11).toInt ∧ 1 ≤ (m3 94 84).toInt ∧ v4.toInt + (m3 94 84).toInt ≤ (m 94 11).toInt) := p0_m3
          have f26 : 0 ≤ (m3 94 84).toInt ∧ (m3 94 84).toInt ≤ 4600 := rs_94_84 (m := (zov wr_226 (ma_u m 94 50 ((m 94 50) + (1 : Int32))) m3)) hV_m3
          have b27 := i_bd v4
          exact IH (4700 - v4.toInt % 4701).toNat (by omega) _ (l1) (l4) ((m 94 84)) (v4) rfl (zF_zov (zF_u hF rfl) ws_226_224) hV_m3 (by omega) (by omega) (show v4.toInt = -1 ∨ (0 ≤ v4.toInt ∧ v4.toInt < (m 94 11).toInt ∧ 1 ≤ (m3 94 84).toInt ∧ v4.toInt + (m3 94 84).toInt ≤ (m 94 11).toInt) from by omega)
        · skip
          have g28 := i_nlt h21
          have b29 := i_bd (m 94 12)
          have li30 : (2 : Int32).toInt = 2 := rfl
          refine zd (fun (h31 : (m 94 12) = (2 : Int32)) => ?_) (fun (h31 : ¬ (m 94 12) = (2 : Int32)) => ?_)
          · skip
            have g32 := i_eq h31
            have b33 := i_bd l3
            refine zd (fun (h34 : (m 94 84) < l3) => ?_) (fun (h34 : ¬ (m 94 84) < l3) => ?_)
            · skip
              have g35 := i_lt h34
              first | have e36 : (l4 + (m 94 84)).toInt = l4.toInt + (m 94 84).toInt := i_add (by omega) (by omega) | have b37 := i_bd (l4 + (m 94 84))
              have hV38 : zV (ma_u m 94 50 ((m 94 50) + (1 : Int32))) := uf_94_50 hV
              refine sp_226 ((l4 + (m 94 84))) ((m 94 11)) hV38 (by omega) (by omega) (by omega) (fun v10 m9 hV_m9 p0_m9 => zmi_n ?_)
              have p0_m9 : v10.toInt = -1 ∨ ((l4 + (m 94 84)).toInt ≤ v10.toInt ∧ v10.toInt < (m 94 11).toInt ∧ 1 ≤ (m9 94 84).toInt ∧ v10.toInt + (m9 94 84).toInt ≤ (m 94 11).toInt) := p0_m9
              have f39 : 0 ≤ (m9 94 84).toInt ∧ (m9 94 84).toInt ≤ 4600 := rs_94_84 (m := (zov wr_226 (ma_u m 94 50 ((m 94 50) + (1 : Int32))) m9)) hV_m9
              have b40 := i_bd v10
              exact IH (4700 - v10.toInt % 4701).toNat (by omega) _ (l1) (l4) ((m 94 84)) (v10) rfl (zF_zov (zF_u hF rfl) ws_226_224) hV_m9 (by omega) (by omega) (show v10.toInt = -1 ∨ (0 ≤ v10.toInt ∧ v10.toInt < (m 94 11).toInt ∧ 1 ≤ (m9 94 84).toInt ∧ v10.toInt + (m9 94 84).toInt ≤ (m 94 11).toInt) from by omega)
            · skip
              have g41 := i_nlt h34
              first | have e42 : (l4 + (m 94 84)).toInt = l4.toInt + (m 94 84).toInt := i_add (by omega) (by omega) | have b43 := i_bd (l4 + (m 94 84))
              have hV44 : zV (ma_u m 94 50 ((m 94 50) + (1 : Int32))) := uf_94_50 hV
              refine sp_226 ((l4 + (m 94 84))) ((m 94 11)) hV44 (by omega) (by omega) (by omega) (fun v12 m11 hV_m11 p0_m11 => zmi_n ?_)
              have p0_m11 : v12.toInt = -1 ∨ ((l4 + (m 94 84)).toInt ≤ v12.toInt ∧ v12.toInt < (m 94 11).toInt ∧ 1 ≤ (m11 94 84).toInt ∧ v12.toInt + (m11 94 84).toInt ≤ (m 94 11).toInt) := p0_m11
              have f45 : 0 ≤ (m11 94 84).toInt ∧ (m11 94 84).toInt ≤ 4600 := rs_94_84 (m := (zov wr_226 (ma_u m 94 50 ((m 94 50) + (1 : Int32))) m11)) hV_m11
              have b46 := i_bd v12
              exact IH (4700 - v12.toInt % 4701).toNat (by omega) _ (l1) (l2) (l3) (v12) rfl (zF_zov (zF_u hF rfl) ws_226_224) hV_m11 (by omega) (by omega) (show v12.toInt = -1 ∨ (0 ≤ v12.toInt ∧ v12.toInt < (m 94 11).toInt ∧ 1 ≤ (m11 94 84).toInt ∧ v12.toInt + (m11 94 84).toInt ≤ (m 94 11).toInt) from by omega)
          · skip
            have g47 := i_ne h31
            have b48 := i_bd l3
            refine zd (fun (h49 : l3 < (m 94 84)) => ?_) (fun (h49 : ¬ l3 < (m 94 84)) => ?_)
            · skip
              have g50 := i_lt h49
              first | have e51 : (l4 + (m 94 84)).toInt = l4.toInt + (m 94 84).toInt := i_add (by omega) (by omega) | have b52 := i_bd (l4 + (m 94 84))
              have hV53 : zV (ma_u m 94 50 ((m 94 50) + (1 : Int32))) := uf_94_50 hV
              refine sp_226 ((l4 + (m 94 84))) ((m 94 11)) hV53 (by omega) (by omega) (by omega) (fun v6 m5 hV_m5 p0_m5 => zmi_n ?_)
              have p0_m5 : v6.toInt = -1 ∨ ((l4 + (m 94 84)).toInt ≤ v6.toInt ∧ v6.toInt < (m 94 11).toInt ∧ 1 ≤ (m5 94 84).toInt ∧ v6.toInt + (m5 94 84).toInt ≤ (m 94 11).toInt) := p0_m5
              have f54 : 0 ≤ (m5 94 84).toInt ∧ (m5 94 84).toInt ≤ 4600 := rs_94_84 (m := (zov wr_226 (ma_u m 94 50 ((m 94 50) + (1 : Int32))) m5)) hV_m5
              have b55 := i_bd v6
              exact IH (4700 - v6.toInt % 4701).toNat (by omega) _ (l1) (l4) ((m 94 84)) (v6) rfl (zF_zov (zF_u hF rfl) ws_226_224) hV_m5 (by omega) (by omega) (show v6.toInt = -1 ∨ (0 ≤ v6.toInt ∧ v6.toInt < (m 94 11).toInt ∧ 1 ≤ (m5 94 84).toInt ∧ v6.toInt + (m5 94 84).toInt ≤ (m 94 11).toInt) from by omega)
            · skip
              have g56 := i_nlt h49
              first | have e57 : (l4 + (m 94 84)).toInt = l4.toInt + (m 94 84).toInt := i_add (by omega) (by omega) | have b58 := i_bd (l4 + (m 94 84))
              have hV59 : zV (ma_u m 94 50 ((m 94 50) + (1 : Int32))) := uf_94_50 hV
              refine sp_226 ((l4 + (m 94 84))) ((m 94 11)) hV59 (by omega) (by omega) (by omega) (fun v8 m7 hV_m7 p0_m7 => zmi_n ?_)
              have p0_m7 : v8.toInt = -1 ∨ ((l4 + (m 94 84)).toInt ≤ v8.toInt ∧ v8.toInt < (m 94 11).toInt ∧ 1 ≤ (m7 94 84).toInt ∧ v8.toInt + (m7 94 84).toInt ≤ (m 94 11).toInt) := p0_m7
              have f60 : 0 ≤ (m7 94 84).toInt ∧ (m7 94 84).toInt ≤ 4600 := rs_94_84 (m := (zov wr_226 (ma_u m 94 50 ((m 94 50) + (1 : Int32))) m7)) hV_m7
              have b61 := i_bd v8
              exact IH (4700 - v8.toInt % 4701).toNat (by omega) _ (l1) (l2) (l3) (v8) rfl (zF_zov (zF_u hF rfl) ws_226_224) hV_m7 (by omega) (by omega) (show v8.toInt = -1 ∨ (0 ≤ v8.toInt ∧ v8.toInt < (m 94 11).toInt ∧ 1 ≤ (m7 94 84).toInt ∧ v8.toInt + (m7 94 84).toInt ≤ (m 94 11).toInt) from by omega)
theorem sp_224 {X : Nat × (Nat → Int32)} {P : Option ma_V → (Nat → Nat → Int32) → Prop} {m : Nat → Nat → Int32} (n : Int32) (hV : zV m)  (KZ : ∀ v m₉, zV (zov wr_224 m m₉) → (-1 ≤ v.toInt ∧ v.toInt ≤ 1500) → P (some (.inl v)) (zov wr_224 m m₉)) : zm X 3 69 224 0 [(0, .inr (.inr (some 94))), (1, .inl n)] m P := by
  have K : ∀ v m₉, zF wr_224 m m₉ → zV m₉ → (-1 ≤ v.toInt ∧ v.toInt ≤ 1500) → P (some (.inl v)) m₉ := by
    intro v m₉ hf z q0
    have e := zov_eq hf
    rw [e] at z ⊢
    try rw [e] at q0
    exact KZ v m₉ z q0
  refine g_224_0 n ?_
  have b1 := i_bd (m 94 12)
  have li2 : (0 : Int32).toInt = 0 := rfl
  refine zd (fun (h3 : (m 94 12) = (0 : Int32)) => ?_) (fun (h3 : ¬ (m 94 12) = (0 : Int32)) => ?_)
  · skip
    have g4 := i_eq h3
    have b5 := i_bd n
    have f6 : 0 ≤ (m 94 11).toInt ∧ (m 94 11).toInt ≤ 1500 := rs_94_11 (m := m) hV
    refine sp_225 (n) ((0 : Int32)) ((m 94 11)) hV (by omega) (by omega) (by omega) (fun v10 m9 hV_m9 p0_m9 => zmi_n ?_)
    have p0_m9 : -1 ≤ v10.toInt ∧ v10.toInt ≤ 1500 := p0_m9
    have b7 := i_bd v10
    exact K (v10) _ (zF_zov zF_rfl ws_225_224) hV_m9 (show -1 ≤ v10.toInt ∧ v10.toInt ≤ 1500 from by omega)
  · skip
    have g8 := i_ne h3
    have li9 : (1 : Int32).toInt = 1 := rfl
    refine zd (fun (h10 : (m 94 12) = (1 : Int32)) => ?_) (fun (h10 : ¬ (m 94 12) = (1 : Int32)) => ?_)
    · skip
      have g11 := i_eq h10
      have f12 : 0 ≤ (m 94 62).toInt ∧ (m 94 62).toInt ≤ 4600 := rs_94_62 (m := m) hV
      refine sp_227 ((m 94 62)) hV (by omega) (fun v4 m3 hV_m3 p0_m3 => zmi_n ?_)
      have p0_m3 : 0 ≤ v4.toInt ∧ v4.toInt ≤ 4700 := p0_m3
      have b13 := i_bd n
      have b14 := i_bd v4
      have f15 : 0 ≤ (m 94 11).toInt ∧ (m 94 11).toInt ≤ 1500 := rs_94_11 (m := m) hV
      refine sp_225 (n) (v4) ((m 94 11)) hV_m3 (by omega) (by omega) (by omega) (fun v6 m5 hV_m5 p0_m5 => zmi_n ?_)
      have p0_m5 : -1 ≤ v6.toInt ∧ v6.toInt ≤ 1500 := p0_m5
      have b16 := i_bd v6
      refine zd (fun (h17 : v6 < (0 : Int32)) => ?_) (fun (h17 : ¬ v6 < (0 : Int32)) => ?_)
      · skip
        have g18 := i_lt h17
        refine sp_228 (n) (v4) hV_m5  (fun v8 m7 hV_m7 p0_m7 => zmi_n ?_)
        have p0_m7 : -1 ≤ v8.toInt ∧ v8.toInt ≤ 1500 := p0_m7
        have b19 := i_bd v8
        exact K (v8) _ (zF_zov (zF_zov (zF_zov zF_rfl ws_227_224) ws_225_224) ws_228_224) hV_m7 (show -1 ≤ v8.toInt ∧ v8.toInt ≤ 1500 from by omega)
      · skip
        have g20 := i_nlt h17
        exact K (v6) _ (zF_zov (zF_zov zF_rfl ws_227_224) ws_225_224) hV_m5 (show -1 ≤ v6.toInt ∧ v6.toInt ≤ 1500 from by omega)
    · skip
      have g21 := i_ne h10
      have f22 : 0 ≤ (m 94 11).toInt ∧ (m 94 11).toInt ≤ 1500 := rs_94_11 (m := m) hV
      refine sp_226 ((0 : Int32)) ((m 94 11)) hV (by omega) (by omega) (by omega) (fun v2 m1 hV_m1 p0_m1 => zmi_n ?_)
      have p0_m1 : v2.toInt = -1 ∨ ((0 : Int32).toInt ≤ v2.toInt ∧ v2.toInt < (m 94 11).toInt ∧ 1 ≤ (m1 94 84).toInt ∧ v2.toInt + (m1 94 84).toInt ≤ (m 94 11).toInt) := p0_m1
      have f23 : 0 ≤ (m1 94 84).toInt ∧ (m1 94 84).toInt ≤ 4600 := rs_94_84 (m := (zov wr_226 m m1)) hV_m1
      have b24 := i_bd n
      have li25 : (-1 : Int32).toInt = -1 := rfl
      have b26 := i_bd v2
      exact lp_224_76 (n := n) hV K _ _ (n) ((-1 : Int32)) ((0 : Int32)) (v2) rfl (zF_zov zF_rfl ws_226_224) hV_m1 (by omega) (by omega) (show v2.toInt = -1 ∨ (0 ≤ v2.toInt ∧ v2.toInt < (m 94 11).toInt ∧ 1 ≤ (m1 94 84).toInt ∧ v2.toInt + (m1 94 84).toInt ≤ (m 94 11).toInt) from by omega)

/-! from 94.409 -/
/-! the reference (written by wip/tools/gen94m.py) -/
set_option maxRecDepth 100000 in
theorem hm_192 : ma_md 192 = some (12, yX12_reference, cX12_reference, 3, (some (FieldType.int))) := rfl
set_option maxRecDepth 100000 in
theorem hm_193 : ma_md 193 = some (12, yX12_isReference, cX12_isReference, 3, (some (FieldType.boolean))) := rfl
theorem s_98 : zs 98 = some (20, 16) := rfl
theorem s_101 : zs 101 = some (20, 3100) := rfl
theorem s_108 : zs 108 = some (20, 186000) := rfl
theorem r_94_6 : zfi 94 6 = some 98 := rfl
theorem r_94_33 : zfi 94 33 = some 101 := rfl
theorem r_94_40 : zfi 94 40 = some 108 := rfl
theorem f_12_24_12 : ma_fld 12 24 12 = some 6 := by decide +kernel
theorem f_12_34_12 : ma_fld 12 34 12 = some 33 := by decide +kernel
theorem f_12_56_12 : ma_fld 12 56 12 = some 40 := by decide +kernel
theorem v_12_288_12 : ma_vl 12 288 12 = some (1, 193, 2) := by decide +kernel
theorem dX12_reference_0 : decode cX12_reference 0 = .ok (.aload_n 0, 1) := by decide +kernel
theorem dX12_reference_1 : decode cX12_reference 1 = .ok (.iload_n 1, 1) := by decide +kernel
theorem dX12_reference_2 : decode cX12_reference 2 = .ok (.iload_n 2, 1) := by decide +kernel
theorem dX12_reference_3 : decode cX12_reference 3 = .ok (.invokevirtual 288, 3) := by decide +kernel
theorem dX12_isReference_0 : decode cX12_isReference 0 = .ok (.aload_n 0, 1) := by decide +kernel
theorem dX12_isReference_4 : decode cX12_isReference 4 = .ok (.iload_n 1, 1) := by decide +kernel
theorem dX12_isReference_6 : decode cX12_isReference 6 = .ok (.bipush 16, 2) := by decide +kernel
theorem dX12_isReference_41 : decode cX12_isReference 41 = .ok (.iconst 1, 1) := by decide +kernel
theorem dX12_isReference_42 : decode cX12_isReference 42 = .ok (.goto 4, 3) := by decide +kernel
theorem dX12_reference_6 : decode cX12_reference 6 = .ok (.ifCond .eq 17, 3) := by decide +kernel
theorem dX12_reference_9 : decode cX12_reference 9 = .ok (.aload_n 0, 1) := by decide +kernel
theorem dX12_reference_13 : decode cX12_reference 13 = .ok (.iload_n 1, 1) := by decide +kernel
theorem dX12_reference_14 : decode cX12_reference 14 = .ok (.bipush 60, 2) := by decide +kernel
theorem dX12_reference_16 : decode cX12_reference 16 = .ok (.imul, 1) := by decide +kernel
theorem dX12_reference_17 : decode cX12_reference 17 = .ok (.iload_n 2, 1) := by decide +kernel
theorem dX12_reference_18 : decode cX12_reference 18 = .ok (.iadd, 1) := by decide +kernel
theorem dX12_reference_20 : decode cX12_reference 20 = .ok (.goto 4, 3) := by decide +kernel
theorem dX12_reference_24 : decode cX12_reference 24 = .ok (.ireturn, 1) := by decide +kernel
theorem dX12_reference_19 : decode cX12_reference 19 = .ok (.iaload, 1) := by decide +kernel
theorem dX12_reference_10 : decode cX12_reference 10 = .ok (.getfield 56, 3) := by decide +kernel
theorem dX12_isReference_46 : decode cX12_isReference 46 = .ok (.ireturn, 1) := by decide +kernel
theorem dX12_isReference_11 : decode cX12_isReference 11 = .ok (.aload_n 0, 1) := by decide +kernel
theorem dX12_isReference_15 : decode cX12_isReference 15 = .ok (.iload_n 1, 1) := by decide +kernel
theorem dX12_isReference_17 : decode cX12_isReference 17 = .ok (.bipush 16, 2) := by decide +kernel
theorem dX12_isReference_45 : decode cX12_isReference 45 = .ok (.iconst 0, 1) := by decide +kernel
theorem dX12_reference_23 : decode cX12_reference 23 = .ok (.iconst (-1), 1) := by decide +kernel
theorem dX12_isReference_22 : decode cX12_isReference 22 = .ok (.aload_n 0, 1) := by decide +kernel
theorem dX12_isReference_26 : decode cX12_isReference 26 = .ok (.aload_n 0, 1) := by decide +kernel
theorem dX12_isReference_30 : decode cX12_isReference 30 = .ok (.iload_n 1, 1) := by decide +kernel
theorem dX12_isReference_33 : decode cX12_isReference 33 = .ok (.iload_n 2, 1) := by decide +kernel
theorem dX12_isReference_34 : decode cX12_isReference 34 = .ok (.ishr, 1) := by decide +kernel
theorem dX12_isReference_35 : decode cX12_isReference 35 = .ok (.iconst 1, 1) := by decide +kernel
theorem dX12_isReference_36 : decode cX12_isReference 36 = .ok (.iand, 1) := by decide +kernel
theorem dX12_isReference_37 : decode cX12_isReference 37 = .ok (.iconst 1, 1) := by decide +kernel
theorem dX12_isReference_38 : decode cX12_isReference 38 = .ok (.if_icmp .ne 7, 3) := by decide +kernel
theorem dX12_isReference_32 : decode cX12_isReference 32 = .ok (.iaload, 1) := by decide +kernel
theorem dX12_isReference_31 : decode cX12_isReference 31 = .ok (.iaload, 1) := by decide +kernel
theorem dX12_isReference_27 : decode cX12_isReference 27 = .ok (.getfield 34, 3) := by decide +kernel
theorem dX12_isReference_23 : decode cX12_isReference 23 = .ok (.getfield 24, 3) := by decide +kernel
theorem dX12_isReference_19 : decode cX12_isReference 19 = .ok (.if_icmp .ge 26, 3) := by decide +kernel
theorem dX12_isReference_16 : decode cX12_isReference 16 = .ok (.iaload, 1) := by decide +kernel
theorem dX12_isReference_12 : decode cX12_isReference 12 = .ok (.getfield 34, 3) := by decide +kernel
theorem dX12_isReference_8 : decode cX12_isReference 8 = .ok (.if_icmp .eq 33, 3) := by decide +kernel
theorem dX12_isReference_5 : decode cX12_isReference 5 = .ok (.iaload, 1) := by decide +kernel
theorem dX12_isReference_1 : decode cX12_isReference 1 = .ok (.getfield 34, 3) := by decide +kernel
def wr_192 (_ _ : Nat) : Bool := false
theorem g_192_0 {X : Nat × (Nat → Int32)} {m : Nat → Nat → Int32} {P : Option ma_V → (Nat → Nat → Int32) → Prop} (s : Int32) (i : Int32) (h : (0 ≤ s ∧ s.toNatClampNeg < 3100) ∧ (if (m 101 s.toNatClampNeg) = (16 : Int32) then ((0 ≤ ((s * (60 : Int32)) + i) ∧ ((s * (60 : Int32)) + i).toNatClampNeg < 186000) ∧ (P (some (.inl (m 108 ((s * (60 : Int32)) + i).toNatClampNeg))) m)) else ((0 ≤ s ∧ s.toNatClampNeg < 3100) ∧ (if (16 : Int32) ≤ (m 101 s.toNatClampNeg) then (P (some (.inl (-1 : Int32))) m) else ((0 ≤ s ∧ s.toNatClampNeg < 3100) ∧ ((0 ≤ (m 101 s.toNatClampNeg) ∧ (m 101 s.toNatClampNeg).toNatClampNeg < 16) ∧ (if (((m 98 (m 101 s.toNatClampNeg).toNatClampNeg) >>> (i &&& 31)) &&& (1 : Int32)) = (1 : Int32) then ((0 ≤ ((s * (60 : Int32)) + i) ∧ ((s * (60 : Int32)) + i).toNatClampNeg < 186000) ∧ (P (some (.inl (m 108 ((s * (60 : Int32)) + i).toNatClampNeg))) m)) else (P (some (.inl (-1 : Int32))) m)))))))) : zm X 1 22 192 0 [(0, .inr (.inr (some 94))), (1, .inl s), (2, .inl i)] m P := by
  intro d w S Q hd hw hS hm HQ
  subst hm
  refine zw_push hm_192 dX12_reference_0 (v := .inr (.inr (some 94))) rfl ?_
  refine zw_push hm_192 dX12_reference_1 (v := .inl s) rfl ?_
  refine zw_push hm_192 dX12_reference_2 (v := .inl i) rfl ?_
  refine zw_cv hm_192 dX12_reference_3 v_12_288_12 hm_193 [.inl i, .inl s] [] rfl (zT_rt hS s_94 rfl) ⟨by omega, by omega⟩ rfl ?_
  show ma_wp X (d - 1) (w - 22) 193 0 [(0, .inr (.inr (some 94))), (1, .inl s), (2, .inl i)] [] S _
  refine zw_push hm_193 dX12_isReference_0 (v := .inr (.inr (some 94))) rfl ?_
  refine zw_gf hm_193 dX12_isReference_1 (v := .inr (.inr (some 101))) (zT_is hS s_94) (zT_t hS s_94) rfl f_12_34_12 (zT_f hS r_94_33) ?_
  refine zw_push hm_193 dX12_isReference_4 (v := .inl s) rfl ?_
  obtain ⟨hg, h⟩ := h
  refine zw_ia hm_193 dX12_isReference_5 (zT_is hS s_101) (zT_h hS s_101) rfl hg ?_
  show ma_wp X (d - 1) (w - 22) 193 6 [(0, .inr (.inr (some 94))), (1, .inl s), (2, .inl i)] [.inl ((mI S) 101 s.toNatClampNeg)] S _
  refine zw_push hm_193 dX12_isReference_6 (v := .inl (16 : Int32)) rfl ?_
  refine zw_if2 hm_193 dX12_isReference_8 (t := 41) rfl zc2_eq ?_ ?_
  · intro hc
    rw [if_pos hc] at h
    refine zw_push hm_193 dX12_isReference_41 (v := .inl (1 : Int32)) rfl ?_
    refine zw_goto hm_193 dX12_isReference_42 (t := 46) rfl ?_
    refine zw_bret hm_193 dX12_isReference_46 (by decide) ?_
    show ma_wp X d w 192 6 [(0, .inr (.inr (some 94))), (1, .inl s), (2, .inl i)] [.inl (1 : Int32)] S _
    refine zw_if0 hm_192 dX12_reference_6 (t := 23) rfl zc0_eq (fun hc => absurd hc (by decide)) (fun _ => ?_)
    refine zw_push hm_192 dX12_reference_9 (v := .inr (.inr (some 94))) rfl ?_
    refine zw_gf hm_192 dX12_reference_10 (v := .inr (.inr (some 108))) (zT_is hS s_94) (zT_t hS s_94) rfl f_12_56_12 (zT_f hS r_94_40) ?_
    refine zw_push hm_192 dX12_reference_13 (v := .inl s) rfl ?_
    refine zw_push hm_192 dX12_reference_14 (v := .inl (60 : Int32)) rfl ?_
    refine zw_stk hm_192 dX12_reference_16 (st₉ := [.inl (s * (60 : Int32)), .inr (.inr (some 108))]) rfl rfl ?_
    refine zw_push hm_192 dX12_reference_17 (v := .inl i) rfl ?_
    refine zw_stk hm_192 dX12_reference_18 (st₉ := [.inl ((s * (60 : Int32)) + i), .inr (.inr (some 108))]) rfl rfl ?_
    obtain ⟨hg, h⟩ := h
    refine zw_ia hm_192 dX12_reference_19 (zT_is hS s_108) (zT_h hS s_108) rfl hg ?_
    show ma_wp X d w 192 20 [(0, .inr (.inr (some 94))), (1, .inl s), (2, .inl i)] [.inl ((mI S) 108 ((s * (60 : Int32)) + i).toNatClampNeg)] S _
    refine zw_goto hm_192 dX12_reference_20 (t := 24) rfl ?_
    exact zw_iret hm_192 dX12_reference_24 (HQ _ _ h)
  · intro hc
    rw [if_neg hc] at h
    refine zw_push hm_193 dX12_isReference_11 (v := .inr (.inr (some 94))) rfl ?_
    refine zw_gf hm_193 dX12_isReference_12 (v := .inr (.inr (some 101))) (zT_is hS s_94) (zT_t hS s_94) rfl f_12_34_12 (zT_f hS r_94_33) ?_
    refine zw_push hm_193 dX12_isReference_15 (v := .inl s) rfl ?_
    obtain ⟨hg, h⟩ := h
    refine zw_ia hm_193 dX12_isReference_16 (zT_is hS s_101) (zT_h hS s_101) rfl hg ?_
    show ma_wp X (d - 1) (w - 22) 193 17 [(0, .inr (.inr (some 94))), (1, .inl s), (2, .inl i)] [.inl ((mI S) 101 s.toNatClampNeg)] S _
    refine zw_push hm_193 dX12_isReference_17 (v := .inl (16 : Int32)) rfl ?_
    refine zw_if2 hm_193 dX12_isReference_19 (t := 45) rfl zc2_ge ?_ ?_
    · intro hc
      rw [if_pos hc] at h
      refine zw_push hm_193 dX12_isReference_45 (v := .inl (0 : Int32)) rfl ?_
      refine zw_bret hm_193 dX12_isReference_46 (by decide) ?_
      show ma_wp X d w 192 6 [(0, .inr (.inr (some 94))), (1, .inl s), (2, .inl i)] [.inl (0 : Int32)] S _
      refine zw_if0 hm_192 dX12_reference_6 (t := 23) rfl zc0_eq (fun _ => ?_) (fun hc => absurd (by decide) hc)
      refine zw_push hm_192 dX12_reference_23 (v := .inl (-1 : Int32)) rfl ?_
      exact zw_iret hm_192 dX12_reference_24 (HQ _ _ h)
    · intro hc
      rw [if_neg hc] at h
      refine zw_push hm_193 dX12_isReference_22 (v := .inr (.inr (some 94))) rfl ?_
      refine zw_gf hm_193 dX12_isReference_23 (v := .inr (.inr (some 98))) (zT_is hS s_94) (zT_t hS s_94) rfl f_12_24_12 (zT_f hS r_94_6) ?_
      refine zw_push hm_193 dX12_isReference_26 (v := .inr (.inr (some 94))) rfl ?_
      refine zw_gf hm_193 dX12_isReference_27 (v := .inr (.inr (some 101))) (zT_is hS s_94) (zT_t hS s_94) rfl f_12_34_12 (zT_f hS r_94_33) ?_
      refine zw_push hm_193 dX12_isReference_30 (v := .inl s) rfl ?_
      obtain ⟨hg, h⟩ := h
      refine zw_ia hm_193 dX12_isReference_31 (zT_is hS s_101) (zT_h hS s_101) rfl hg ?_
      show ma_wp X (d - 1) (w - 22) 193 32 [(0, .inr (.inr (some 94))), (1, .inl s), (2, .inl i)] [.inl ((mI S) 101 s.toNatClampNeg), .inr (.inr (some 98))] S _
      obtain ⟨hg, h⟩ := h
      refine zw_ia hm_193 dX12_isReference_32 (zT_is hS s_98) (zT_h hS s_98) rfl hg ?_
      show ma_wp X (d - 1) (w - 22) 193 33 [(0, .inr (.inr (some 94))), (1, .inl s), (2, .inl i)] [.inl ((mI S) 98 ((mI S) 101 s.toNatClampNeg).toNatClampNeg)] S _
      refine zw_push hm_193 dX12_isReference_33 (v := .inl i) rfl ?_
      refine zw_stk hm_193 dX12_isReference_34 (st₉ := [.inl (((mI S) 98 ((mI S) 101 s.toNatClampNeg).toNatClampNeg) >>> (i &&& 31))]) rfl rfl ?_
      refine zw_push hm_193 dX12_isReference_35 (v := .inl (1 : Int32)) rfl ?_
      refine zw_stk hm_193 dX12_isReference_36 (st₉ := [.inl ((((mI S) 98 ((mI S) 101 s.toNatClampNeg).toNatClampNeg) >>> (i &&& 31)) &&& (1 : Int32))]) rfl rfl ?_
      refine zw_push hm_193 dX12_isReference_37 (v := .inl (1 : Int32)) rfl ?_
      refine zw_if2 hm_193 dX12_isReference_38 (t := 45) rfl zc2_ne ?_ ?_
      · intro hc
        rw [if_neg hc] at h
        refine zw_push hm_193 dX12_isReference_45 (v := .inl (0 : Int32)) rfl ?_
        refine zw_bret hm_193 dX12_isReference_46 (by decide) ?_
        show ma_wp X d w 192 6 [(0, .inr (.inr (some 94))), (1, .inl s), (2, .inl i)] [.inl (0 : Int32)] S _
        refine zw_if0 hm_192 dX12_reference_6 (t := 23) rfl zc0_eq (fun _ => ?_) (fun hc => absurd (by decide) hc)
        refine zw_push hm_192 dX12_reference_23 (v := .inl (-1 : Int32)) rfl ?_
        exact zw_iret hm_192 dX12_reference_24 (HQ _ _ h)
      · intro hc
        rw [if_pos (Classical.not_not.mp hc)] at h
        refine zw_push hm_193 dX12_isReference_41 (v := .inl (1 : Int32)) rfl ?_
        refine zw_goto hm_193 dX12_isReference_42 (t := 46) rfl ?_
        refine zw_bret hm_193 dX12_isReference_46 (by decide) ?_
        show ma_wp X d w 192 6 [(0, .inr (.inr (some 94))), (1, .inl s), (2, .inl i)] [.inl (1 : Int32)] S _
        refine zw_if0 hm_192 dX12_reference_6 (t := 23) rfl zc0_eq (fun hc => absurd hc (by decide)) (fun _ => ?_)
        refine zw_push hm_192 dX12_reference_9 (v := .inr (.inr (some 94))) rfl ?_
        refine zw_gf hm_192 dX12_reference_10 (v := .inr (.inr (some 108))) (zT_is hS s_94) (zT_t hS s_94) rfl f_12_56_12 (zT_f hS r_94_40) ?_
        refine zw_push hm_192 dX12_reference_13 (v := .inl s) rfl ?_
        refine zw_push hm_192 dX12_reference_14 (v := .inl (60 : Int32)) rfl ?_
        refine zw_stk hm_192 dX12_reference_16 (st₉ := [.inl (s * (60 : Int32)), .inr (.inr (some 108))]) rfl rfl ?_
        refine zw_push hm_192 dX12_reference_17 (v := .inl i) rfl ?_
        refine zw_stk hm_192 dX12_reference_18 (st₉ := [.inl ((s * (60 : Int32)) + i), .inr (.inr (some 108))]) rfl rfl ?_
        obtain ⟨hg, h⟩ := h
        refine zw_ia hm_192 dX12_reference_19 (zT_is hS s_108) (zT_h hS s_108) rfl hg ?_
        show ma_wp X d w 192 20 [(0, .inr (.inr (some 94))), (1, .inl s), (2, .inl i)] [.inl ((mI S) 108 ((s * (60 : Int32)) + i).toNatClampNeg)] S _
        refine zw_goto hm_192 dX12_reference_20 (t := 24) rfl ?_
        exact zw_iret hm_192 dX12_reference_24 (HQ _ _ h)
theorem sp_192 {X : Nat × (Nat → Int32)} {P : Option ma_V → (Nat → Nat → Int32) → Prop} {m : Nat → Nat → Int32} (s : Int32) (i : Int32) (hV : zV m) (hpre0 : 0 ≤ s.toInt) (hpre1 : s.toInt ≤ 3099) (hpre2 : 0 ≤ i.toInt) (hpre3 : i.toInt < (m 102 s.toNatClampNeg).toInt) (KZ : ∀ v m₉, zV (zov wr_192 m m₉) → (v = zrf (m 98) (m 101) (m 108) s.toNatClampNeg i.toNatClampNeg) → P (some (.inl v)) (zov wr_192 m m₉)) : zm X 1 22 192 0 [(0, .inr (.inr (some 94))), (1, .inl s), (2, .inl i)] m P := by
  have K : ∀ v m₉, zF wr_192 m m₉ → zV m₉ → (v = zrf (m₉ 98) (m₉ 101) (m₉ 108) s.toNatClampNeg i.toNatClampNeg) → P (some (.inl v)) m₉ := by
    intro v m₉ hf z q0
    have e := zov_eq hf
    rw [e] at z ⊢
    try rw [e] at q0
    exact KZ v m₉ z q0
  refine g_192_0 s i ?_
  have b1 := i_bd s
  first | have f2 : 0 ≤ (m 102 s.toNatClampNeg).toInt ∧ (m 102 s.toNatClampNeg).toInt ≤ 60 := ra_102 (m := m) hV (k := s.toNatClampNeg) (i_ix (n := 3100) (by omega) (by omega)).2 | have b3 := i_bd (m 102 s.toNatClampNeg)
  have hg4 : (0 ≤ s ∧ s.toNatClampNeg < 3100) := i_ix (by omega) (by omega)
  refine ⟨hg4, ?_⟩
  first | have f5 : 0 ≤ (m 101 s.toNatClampNeg).toInt ∧ (m 101 s.toNatClampNeg).toInt ≤ 17 := ra_101 (m := m) hV (k := s.toNatClampNeg) (i_ix (n := 3100) (by omega) (by omega)).2 | have b6 := i_bd (m 101 s.toNatClampNeg)
  have li7 : (16 : Int32).toInt = 16 := rfl
  refine zd (fun (h8 : (m 101 s.toNatClampNeg) = (16 : Int32)) => ?_) (fun (h8 : ¬ (m 101 s.toNatClampNeg) = (16 : Int32)) => ?_)
  · skip
    have g9 := i_eq h8
    have li10 : (60 : Int32).toInt = 60 := rfl
    first | have e11 : (s * (60 : Int32)).toInt = s.toInt * 60 := i_mulk rfl (by omega) (by omega) | have b12 := i_bd (s * (60 : Int32))
    have b13 := i_bd i
    first | have e14 : ((s * (60 : Int32)) + i).toInt = (s * (60 : Int32)).toInt + i.toInt := i_add (by omega) (by omega) | have b15 := i_bd ((s * (60 : Int32)) + i)
    have hg16 : (0 ≤ ((s * (60 : Int32)) + i) ∧ ((s * (60 : Int32)) + i).toNatClampNeg < 186000) := i_ix (by omega) (by omega)
    refine ⟨hg16, ?_⟩
    have b17 := i_bd (m 108 ((s * (60 : Int32)) + i).toNatClampNeg)
    exact K ((m 108 ((s * (60 : Int32)) + i).toNatClampNeg)) _ zF_rfl hV (show (m 108 ((s * (60 : Int32)) + i).toNatClampNeg) = zrf (m 98) (m 101) (m 108) s.toNatClampNeg i.toNatClampNeg from by first | (rw [zrf_eq (by omega) (by omega) (by omega) (by omega)]; simp [*]; done) | (rw [zrf_eq (by omega) (by omega) (by omega) (by omega), if_neg (by assumption), if_neg (fun z => absurd (Int32.lt_iff_toInt_lt.mp z.1) (by omega))]; done) | (rw [zrf_eq (by omega) (by omega) (by omega) (by omega), if_neg (by assumption), if_neg (fun z => absurd z.2 (by assumption))]; done) | (rw [zrf_eq (by omega) (by omega) (by omega) (by omega), if_neg (by assumption), if_pos ⟨Int32.lt_iff_toInt_lt.mpr (by omega), by assumption⟩]; done) | (exfalso; omega; done) | (exfalso; contradiction; done))
  · skip
    have g18 := i_ne h8
    have hg19 : (0 ≤ s ∧ s.toNatClampNeg < 3100) := i_ix (by omega) (by omega)
    refine ⟨hg19, ?_⟩
    refine zd (fun (h20 : (16 : Int32) ≤ (m 101 s.toNatClampNeg)) => ?_) (fun (h20 : ¬ (16 : Int32) ≤ (m 101 s.toNatClampNeg)) => ?_)
    · skip
      have g21 := i_le h20
      have li22 : (-1 : Int32).toInt = -1 := rfl
      exact K ((-1 : Int32)) _ zF_rfl hV (show (-1 : Int32) = zrf (m 98) (m 101) (m 108) s.toNatClampNeg i.toNatClampNeg from by first | (rw [zrf_eq (by omega) (by omega) (by omega) (by omega)]; simp [*]; done) | (rw [zrf_eq (by omega) (by omega) (by omega) (by omega), if_neg (by assumption), if_neg (fun z => absurd (Int32.lt_iff_toInt_lt.mp z.1) (by omega))]; done) | (rw [zrf_eq (by omega) (by omega) (by omega) (by omega), if_neg (by assumption), if_neg (fun z => absurd z.2 (by assumption))]; done) | (rw [zrf_eq (by omega) (by omega) (by omega) (by omega), if_neg (by assumption), if_pos ⟨Int32.lt_iff_toInt_lt.mpr (by omega), by assumption⟩]; done) | (exfalso; omega; done) | (exfalso; contradiction; done))
    · skip
      have g23 := i_nle h20
      have hg24 : (0 ≤ s ∧ s.toNatClampNeg < 3100) := i_ix (by omega) (by omega)
      refine ⟨hg24, ?_⟩
      have hg25 : (0 ≤ (m 101 s.toNatClampNeg) ∧ (m 101 s.toNatClampNeg).toNatClampNeg < 16) := i_ix (by omega) (by omega)
      refine ⟨hg25, ?_⟩
      have b26 := i_bd (((m 98 (m 101 s.toNatClampNeg).toNatClampNeg) >>> (i &&& 31)) &&& (1 : Int32))
      have li27 : (1 : Int32).toInt = 1 := rfl
      refine zd (fun (h28 : (((m 98 (m 101 s.toNatClampNeg).toNatClampNeg) >>> (i &&& 31)) &&& (1 : Int32)) = (1 : Int32)) => ?_) (fun (h28 : ¬ (((m 98 (m 101 s.toNatClampNeg).toNatClampNeg) >>> (i &&& 31)) &&& (1 : Int32)) = (1 : Int32)) => ?_)
      · skip
        have g29 := i_eq h28
        have li30 : (60 : Int32).toInt = 60 := rfl
        first | have e31 : (s * (60 : Int32)).toInt = s.toInt * 60 := i_mulk rfl (by omega) (by omega) | have b32 := i_bd (s * (60 : Int32))
        have b33 := i_bd i
        first | have e34 : ((s * (60 : Int32)) + i).toInt = (s * (60 : Int32)).toInt + i.toInt := i_add (by omega) (by omega) | have b35 := i_bd ((s * (60 : Int32)) + i)
        have hg36 : (0 ≤ ((s * (60 : Int32)) + i) ∧ ((s * (60 : Int32)) + i).toNatClampNeg < 186000) := i_ix (by omega) (by omega)
        refine ⟨hg36, ?_⟩
        have b37 := i_bd (m 108 ((s * (60 : Int32)) + i).toNatClampNeg)
        exact K ((m 108 ((s * (60 : Int32)) + i).toNatClampNeg)) _ zF_rfl hV (show (m 108 ((s * (60 : Int32)) + i).toNatClampNeg) = zrf (m 98) (m 101) (m 108) s.toNatClampNeg i.toNatClampNeg from by first | (rw [zrf_eq (by omega) (by omega) (by omega) (by omega)]; simp [*]; done) | (rw [zrf_eq (by omega) (by omega) (by omega) (by omega), if_neg (by assumption), if_neg (fun z => absurd (Int32.lt_iff_toInt_lt.mp z.1) (by omega))]; done) | (rw [zrf_eq (by omega) (by omega) (by omega) (by omega), if_neg (by assumption), if_neg (fun z => absurd z.2 (by assumption))]; done) | (rw [zrf_eq (by omega) (by omega) (by omega) (by omega), if_neg (by assumption), if_pos ⟨Int32.lt_iff_toInt_lt.mpr (by omega), by assumption⟩]; done) | (exfalso; omega; done) | (exfalso; contradiction; done))
      · skip
        have g38 := i_ne h28
        have li39 : (-1 : Int32).toInt = -1 := rfl
        exact K ((-1 : Int32)) _ zF_rfl hV (show (-1 : Int32) = zrf (m 98) (m 101) (m 108) s.toNatClampNeg i.toNatClampNeg from by first | (rw [zrf_eq (by omega) (by omega) (by omega) (by omega)]; simp [*]; done) | (rw [zrf_eq (by omega) (by omega) (by omega) (by omega), if_neg (by assumption), if_neg (fun z => absurd (Int32.lt_iff_toInt_lt.mp z.1) (by omega))]; done) | (rw [zrf_eq (by omega) (by omega) (by omega) (by omega), if_neg (by assumption), if_neg (fun z => absurd z.2 (by assumption))]; done) | (rw [zrf_eq (by omega) (by omega) (by omega) (by omega), if_neg (by assumption), if_pos ⟨Int32.lt_iff_toInt_lt.mpr (by omega), by assumption⟩]; done) | (exfalso; omega; done) | (exfalso; contradiction; done))

/-! from 94.410 -/
/-! the reference (written by wip/tools/gen94m.py) -/
set_option maxRecDepth 100000 in
theorem hm_190 : ma_md 190 = some (12, yX12_keep, cX12_keep, 2, none) := rfl
set_option maxRecDepth 100000 in
theorem hm_191 : ma_md 191 = some (12, yX12_keepAll, cX12_keepAll, 3, none) := rfl
theorem s_118 : zs 118 = some (20, 3100) := rfl
theorem r_94_72 : zfi 94 72 = some 118 := rfl
theorem f_12_86_12 : ma_fld 12 86 12 = some 72 := by decide +kernel
theorem f_12_291_12 : ma_fld 12 291 12 = some 73 := by decide +kernel
theorem p_12_291_12 : ma_pk 12 291 12 73 = true := by decide +kernel
theorem v_12_294_12 : ma_vl 12 294 12 = some (1, 192, 2) := by decide +kernel
theorem v_12_298_12 : ma_vl 12 298 12 = some (1, 190, 1) := by decide +kernel
theorem dX12_keepAll_0 : decode cX12_keepAll 0 = .ok (.aload_n 0, 1) := by decide +kernel
theorem dX12_keepAll_58 : decode cX12_keepAll 58 = .ok (.return_, 1) := by decide +kernel
theorem dX12_keepAll_7 : decode cX12_keepAll 7 = .ok (.aload_n 0, 1) := by decide +kernel
theorem dX12_keepAll_8 : decode cX12_keepAll 8 = .ok (.dup, 1) := by decide +kernel
theorem dX12_keepAll_12 : decode cX12_keepAll 12 = .ok (.iconst 1, 1) := by decide +kernel
theorem dX12_keepAll_13 : decode cX12_keepAll 13 = .ok (.isub, 1) := by decide +kernel
theorem dX12_keepAll_17 : decode cX12_keepAll 17 = .ok (.aload_n 0, 1) := by decide +kernel
theorem dX12_keepAll_21 : decode cX12_keepAll 21 = .ok (.aload_n 0, 1) := by decide +kernel
theorem dX12_keepAll_26 : decode cX12_keepAll 26 = .ok (.istore_n 1, 1) := by decide +kernel
theorem dX12_keepAll_27 : decode cX12_keepAll 27 = .ok (.iconst 0, 1) := by decide +kernel
theorem dX12_keepAll_28 : decode cX12_keepAll 28 = .ok (.istore_n 2, 1) := by decide +kernel
theorem dX12_keepAll_25 : decode cX12_keepAll 25 = .ok (.iaload, 1) := by decide +kernel
theorem dX12_keepAll_22 : decode cX12_keepAll 22 = .ok (.getfield 291, 3) := by decide +kernel
theorem dX12_keepAll_18 : decode cX12_keepAll 18 = .ok (.getfield 86, 3) := by decide +kernel
theorem dX12_keepAll_14 : decode cX12_keepAll 14 = .ok (.putfield 291, 3) := by decide +kernel
theorem dX12_keepAll_9 : decode cX12_keepAll 9 = .ok (.getfield 291, 3) := by decide +kernel
theorem dX12_keepAll_4 : decode cX12_keepAll 4 = .ok (.ifCond .le 54, 3) := by decide +kernel
theorem dX12_keepAll_1 : decode cX12_keepAll 1 = .ok (.getfield 291, 3) := by decide +kernel
theorem dX12_keepAll_29 : decode cX12_keepAll 29 = .ok (.iload_n 2, 1) := by decide +kernel
theorem dX12_keepAll_30 : decode cX12_keepAll 30 = .ok (.aload_n 0, 1) := by decide +kernel
theorem dX12_keepAll_34 : decode cX12_keepAll 34 = .ok (.iload_n 1, 1) := by decide +kernel
theorem dX12_keepAll_55 : decode cX12_keepAll 55 = .ok (.goto (-55), 3) := by decide +kernel
theorem dX12_keepAll_39 : decode cX12_keepAll 39 = .ok (.aload_n 0, 1) := by decide +kernel
theorem dX12_keepAll_40 : decode cX12_keepAll 40 = .ok (.aload_n 0, 1) := by decide +kernel
theorem dX12_keepAll_41 : decode cX12_keepAll 41 = .ok (.iload_n 1, 1) := by decide +kernel
theorem dX12_keepAll_42 : decode cX12_keepAll 42 = .ok (.iload_n 2, 1) := by decide +kernel
theorem dX12_keepAll_43 : decode cX12_keepAll 43 = .ok (.invokevirtual 294, 3) := by decide +kernel
theorem dX12_keepAll_46 : decode cX12_keepAll 46 = .ok (.invokevirtual 298, 3) := by decide +kernel
theorem dX12_keep_0 : decode cX12_keep 0 = .ok (.iload_n 1, 1) := by decide +kernel
theorem dX12_keepAll_49 : decode cX12_keepAll 49 = .ok (.iinc 2 1, 3) := by decide +kernel
theorem dX12_keepAll_52 : decode cX12_keepAll 52 = .ok (.goto (-23), 3) := by decide +kernel
theorem dX12_keep_13 : decode cX12_keep 13 = .ok (.return_, 1) := by decide +kernel
theorem dX12_keep_4 : decode cX12_keep 4 = .ok (.aload_n 0, 1) := by decide +kernel
theorem dX12_keep_8 : decode cX12_keep 8 = .ok (.iload_n 1, 1) := by decide +kernel
theorem dX12_keep_14 : decode cX12_keep 14 = .ok (.aload_n 0, 1) := by decide +kernel
theorem dX12_keep_18 : decode cX12_keep 18 = .ok (.iload_n 1, 1) := by decide +kernel
theorem dX12_keep_19 : decode cX12_keep 19 = .ok (.iconst 1, 1) := by decide +kernel
theorem dX12_keep_21 : decode cX12_keep 21 = .ok (.aload_n 0, 1) := by decide +kernel
theorem dX12_keep_25 : decode cX12_keep 25 = .ok (.aload_n 0, 1) := by decide +kernel
theorem dX12_keep_29 : decode cX12_keep 29 = .ok (.iload_n 1, 1) := by decide +kernel
theorem dX12_keep_31 : decode cX12_keep 31 = .ok (.aload_n 0, 1) := by decide +kernel
theorem dX12_keep_32 : decode cX12_keep 32 = .ok (.dup, 1) := by decide +kernel
theorem dX12_keep_36 : decode cX12_keep 36 = .ok (.iconst 1, 1) := by decide +kernel
theorem dX12_keep_37 : decode cX12_keep 37 = .ok (.iadd, 1) := by decide +kernel
theorem dX12_keep_41 : decode cX12_keep 41 = .ok (.return_, 1) := by decide +kernel
theorem dX12_keep_38 : decode cX12_keep 38 = .ok (.putfield 291, 3) := by decide +kernel
theorem dX12_keep_33 : decode cX12_keep 33 = .ok (.getfield 291, 3) := by decide +kernel
theorem dX12_keep_30 : decode cX12_keep 30 = .ok (.iastore, 1) := by decide +kernel
theorem dX12_keep_26 : decode cX12_keep 26 = .ok (.getfield 291, 3) := by decide +kernel
theorem dX12_keep_22 : decode cX12_keep 22 = .ok (.getfield 86, 3) := by decide +kernel
theorem dX12_keep_20 : decode cX12_keep 20 = .ok (.bastore, 1) := by decide +kernel
theorem dX12_keep_15 : decode cX12_keep 15 = .ok (.getfield 62, 3) := by decide +kernel
theorem dX12_keep_10 : decode cX12_keep 10 = .ok (.ifCond .eq 4, 3) := by decide +kernel
theorem dX12_keep_9 : decode cX12_keep 9 = .ok (.baload, 1) := by decide +kernel
theorem dX12_keep_5 : decode cX12_keep 5 = .ok (.getfield 62, 3) := by decide +kernel
theorem dX12_keep_1 : decode cX12_keep 1 = .ok (.ifCond .lt 12, 3) := by decide +kernel
theorem dX12_keepAll_36 : decode cX12_keepAll 36 = .ok (.if_icmp .ge 19, 3) := by decide +kernel
theorem dX12_keepAll_35 : decode cX12_keepAll 35 = .ok (.iaload, 1) := by decide +kernel
theorem dX12_keepAll_31 : decode cX12_keepAll 31 = .ok (.getfield 37, 3) := by decide +kernel
def wr_191 (c k : Nat) : Bool := Nat.beq c 110 || Nat.beq c 118 || (Nat.beq c 94 && (Nat.beq k 73))
theorem ws_192_191 : ∀ c k, wr_192 c k = true → wr_191 c k = true := fun _ _ h => by cases h
theorem g_191_0 {X : Nat × (Nat → Int32)} {m : Nat → Nat → Int32} {P : Option ma_V → (Nat → Nat → Int32) → Prop}  (h : if (m 94 73) ≤ 0 then (P none m) else ((0 ≤ ((m 94 73) - (1 : Int32)) ∧ ((m 94 73) - (1 : Int32)).toNatClampNeg < 3100) ∧ (zm X 2 44 191 29 [(0, .inr (.inr (some 94))), (1, .inl (m 118 ((m 94 73) - (1 : Int32)).toNatClampNeg)), (2, .inl (0 : Int32))] (ma_u m 94 73 ((m 94 73) - (1 : Int32))) P))) : zm X 2 44 191 0 [(0, .inr (.inr (some 94)))] m P := by
  intro d w S Q hd hw hS hm HQ
  subst hm
  refine zw_push hm_191 dX12_keepAll_0 (v := .inr (.inr (some 94))) rfl ?_
  refine zw_gf hm_191 dX12_keepAll_1 (v := .inl ((mI S) 94 73)) (zT_is hS s_94) (zT_t hS s_94) rfl f_12_291_12 rfl ?_
  refine zw_if0 hm_191 dX12_keepAll_4 (t := 58) rfl zc0_le ?_ ?_
  · intro hc
    rw [if_pos hc] at h
    exact zw_vret hm_191 dX12_keepAll_58 (HQ _ _ h)
  · intro hc
    rw [if_neg hc] at h
    refine zw_push hm_191 dX12_keepAll_7 (v := .inr (.inr (some 94))) rfl ?_
    refine zw_stk hm_191 dX12_keepAll_8 (st₉ := [.inr (.inr (some 94)), .inr (.inr (some 94))]) rfl rfl ?_
    refine zw_gf hm_191 dX12_keepAll_9 (v := .inl ((mI S) 94 73)) (zT_is hS s_94) (zT_t hS s_94) rfl f_12_291_12 rfl ?_
    refine zw_push hm_191 dX12_keepAll_12 (v := .inl (1 : Int32)) rfl ?_
    refine zw_stk hm_191 dX12_keepAll_13 (st₉ := [.inl (((mI S) 94 73) - (1 : Int32)), .inr (.inr (some 94))]) rfl rfl ?_
    refine zw_pf hm_191 dX12_keepAll_14 (zT_is hS s_94) (zT_t hS s_94) p_12_291_12 zk_int ?_
    refine zw_push hm_191 dX12_keepAll_17 (v := .inr (.inr (some 94))) rfl ?_
    refine zw_gf hm_191 dX12_keepAll_18 (v := .inr (.inr (some 118))) (zT_is (zT_pi hS) s_94) (zT_t (zT_pi hS) s_94) rfl f_12_86_12 (zT_f (zT_pi hS) r_94_72) ?_
    refine zw_push hm_191 dX12_keepAll_21 (v := .inr (.inr (some 94))) rfl ?_
    refine zw_gf hm_191 dX12_keepAll_22 (v := .inl (((mI S) 94 73) - (1 : Int32))) (zT_is (zT_pi hS) s_94) (zT_t (zT_pi hS) s_94) rfl f_12_291_12 rfl ?_
    obtain ⟨hg, h⟩ := h
    refine zw_ia hm_191 dX12_keepAll_25 (zT_is (zT_pi hS) s_118) (zT_h (zT_pi hS) s_118) rfl hg ?_
    show ma_wp X d w 191 26 [(0, .inr (.inr (some 94)))] [.inl ((mI S) 118 (((mI S) 94 73) - (1 : Int32)).toNatClampNeg)] (ma_put S 94 73 (.inl (((mI S) 94 73) - (1 : Int32)))) _
    refine zw_sto hm_191 dX12_keepAll_26 [(1, .inl ((mI S) 118 (((mI S) 94 73) - (1 : Int32)).toNatClampNeg)), (0, .inr (.inr (some 94)))] rfl rfl rfl ?_
    refine zw_push hm_191 dX12_keepAll_27 (v := .inl (0 : Int32)) rfl ?_
    refine zw_sto hm_191 dX12_keepAll_28 [(2, .inl (0 : Int32)), (1, .inl ((mI S) 118 (((mI S) 94 73) - (1 : Int32)).toNatClampNeg)), (0, .inr (.inr (some 94)))] rfl rfl rfl ?_
    exact zw_sub (ma_nd_of (ks := [0, 1, 2]) rfl (by decide)) (ma_nd_of (ks := [2, 1, 0]) rfl (by decide)) (ma_le_cons rfl (ma_le_cons rfl (ma_le_cons rfl (ma_le_nil _)))) (h d w _ Q (by omega) (by omega) (zT_pi hS) rfl HQ)
theorem g_191_29 {X : Nat × (Nat → Int32)} {m : Nat → Nat → Int32} {P : Option ma_V → (Nat → Nat → Int32) → Prop} (l1 : Int32) (l2 : Int32) (h : (0 ≤ l1 ∧ l1.toNatClampNeg < 3100) ∧ (if (m 102 l1.toNatClampNeg) ≤ l2 then (zm X 2 44 191 0 [(0, .inr (.inr (some 94)))] m P) else (zm X 1 22 192 0 [(0, .inr (.inr (some 94))), (1, .inl l1), (2, .inl l2)] m (zmi (fun v2 m1 => if v2 < 0 then (zm X 2 44 191 29 [(0, .inr (.inr (some 94))), (1, .inl l1), (2, .inl (l2 + (1 : Int32)))] m1 P) else ((0 ≤ v2 ∧ v2.toNatClampNeg < 3100) ∧ (if (m1 110 v2.toNatClampNeg) = 0 then ((0 ≤ v2 ∧ v2.toNatClampNeg < 3100) ∧ ((0 ≤ (m1 94 73) ∧ (m1 94 73).toNatClampNeg < 3100) ∧ (zm X 2 44 191 29 [(0, .inr (.inr (some 94))), (1, .inl l1), (2, .inl (l2 + (1 : Int32)))] (ma_u (ma_u (ma_u m1 110 v2.toNatClampNeg (1 : Int32)) 118 (m1 94 73).toNatClampNeg v2) 94 73 ((m1 94 73) + (1 : Int32))) P))) else (zm X 2 44 191 29 [(0, .inr (.inr (some 94))), (1, .inl l1), (2, .inl (l2 + (1 : Int32)))] m1 P)))))))) : zm X 2 44 191 29 [(0, .inr (.inr (some 94))), (1, .inl l1), (2, .inl l2)] m P := by
  intro d w S Q hd hw hS hm HQ
  subst hm
  refine zw_push hm_191 dX12_keepAll_29 (v := .inl l2) rfl ?_
  refine zw_push hm_191 dX12_keepAll_30 (v := .inr (.inr (some 94))) rfl ?_
  refine zw_gf hm_191 dX12_keepAll_31 (v := .inr (.inr (some 102))) (zT_is hS s_94) (zT_t hS s_94) rfl f_12_37_12 (zT_f hS r_94_34) ?_
  refine zw_push hm_191 dX12_keepAll_34 (v := .inl l1) rfl ?_
  obtain ⟨hg, h⟩ := h
  refine zw_ia hm_191 dX12_keepAll_35 (zT_is hS s_102) (zT_h hS s_102) rfl hg ?_
  show ma_wp X d w 191 36 [(0, .inr (.inr (some 94))), (1, .inl l1), (2, .inl l2)] [.inl ((mI S) 102 l1.toNatClampNeg), .inl l2] S _
  refine zw_if2 hm_191 dX12_keepAll_36 (t := 55) rfl zc2_ge ?_ ?_
  · intro hc
    rw [if_pos hc] at h
    refine zw_goto hm_191 dX12_keepAll_55 (t := 0) rfl ?_
    exact zw_sub (ma_nd_of (ks := [0]) rfl (by decide)) (ma_nd_of (ks := [0, 1, 2]) rfl (by decide)) (ma_le_cons rfl (ma_le_nil _)) (h d w _ Q (by omega) (by omega) hS rfl HQ)
  · intro hc
    rw [if_neg hc] at h
    refine zw_push hm_191 dX12_keepAll_39 (v := .inr (.inr (some 94))) rfl ?_
    refine zw_push hm_191 dX12_keepAll_40 (v := .inr (.inr (some 94))) rfl ?_
    refine zw_push hm_191 dX12_keepAll_41 (v := .inl l1) rfl ?_
    refine zw_push hm_191 dX12_keepAll_42 (v := .inl l2) rfl ?_
    refine zw_cv hm_191 dX12_keepAll_43 v_12_294_12 hm_192 [.inl l2, .inl l1] [.inr (.inr (some 94))] rfl (zT_rt hS s_94 rfl) ⟨by omega, by omega⟩ rfl (h _ _ S _ (by omega) (by omega) hS rfl (fun o9 m1 hv => ?_))
    obtain ⟨v2, rfl, h⟩ := zmi_of hv
    show ma_wp X d w 191 46 [(0, .inr (.inr (some 94))), (1, .inl l1), (2, .inl l2)] [.inl v2, .inr (.inr (some 94))] (zst S m1) _
    refine zw_cv hm_191 dX12_keepAll_46 v_12_298_12 hm_190 [.inl v2] [] rfl (zT_rt (zT_zst hS m1) s_94 rfl) ⟨by omega, by omega⟩ rfl ?_
    show ma_wp X (d - 1) (w - 21) 190 0 [(0, .inr (.inr (some 94))), (1, .inl v2)] [] (zst S m1) _
    refine zw_push hm_190 dX12_keep_0 (v := .inl v2) rfl ?_
    refine zw_if0 hm_190 dX12_keep_1 (t := 13) rfl zc0_lt ?_ ?_
    · intro hc
      rw [if_pos hc] at h
      refine zw_vret hm_190 dX12_keep_13 ?_
      show ma_wp X d w 191 49 [(0, .inr (.inr (some 94))), (1, .inl l1), (2, .inl l2)] [] (zst S m1) _
      refine zw_sto hm_191 dX12_keepAll_49 [(2, .inl (l2 + (1 : Int32))), (0, .inr (.inr (some 94))), (1, .inl l1)] rfl rfl rfl ?_
      refine zw_goto hm_191 dX12_keepAll_52 (t := 29) rfl ?_
      exact zw_sub (ma_nd_of (ks := [0, 1, 2]) rfl (by decide)) (ma_nd_of (ks := [2, 0, 1]) rfl (by decide)) (ma_le_cons rfl (ma_le_cons rfl (ma_le_cons rfl (ma_le_nil _)))) (h d w _ Q (by omega) (by omega) (zT_zst hS m1) rfl HQ)
    · intro hc
      rw [if_neg hc] at h
      refine zw_push hm_190 dX12_keep_4 (v := .inr (.inr (some 94))) rfl ?_
      refine zw_gf hm_190 dX12_keep_5 (v := .inr (.inr (some 110))) (zT_is (zT_zst hS m1) s_94) (zT_t (zT_zst hS m1) s_94) rfl f_12_62_12 (zT_f (zT_zst hS m1) r_94_42) ?_
      refine zw_push hm_190 dX12_keep_8 (v := .inl v2) rfl ?_
      obtain ⟨hg, h⟩ := h
      refine zw_ba hm_190 dX12_keep_9 (zT_is (zT_zst hS m1) s_110) (zT_h (zT_zst hS m1) s_110) rfl rfl hg ?_
      show ma_wp X (d - 1) (w - 21) 190 10 [(0, .inr (.inr (some 94))), (1, .inl v2)] [.inl (m1 110 v2.toNatClampNeg)] (zst S m1) _
      refine zw_if0 hm_190 dX12_keep_10 (t := 14) rfl zc0_eq ?_ ?_
      · intro hc
        rw [if_pos hc] at h
        refine zw_push hm_190 dX12_keep_14 (v := .inr (.inr (some 94))) rfl ?_
        refine zw_gf hm_190 dX12_keep_15 (v := .inr (.inr (some 110))) (zT_is (zT_zst hS m1) s_94) (zT_t (zT_zst hS m1) s_94) rfl f_12_62_12 (zT_f (zT_zst hS m1) r_94_42) ?_
        refine zw_push hm_190 dX12_keep_18 (v := .inl v2) rfl ?_
        refine zw_push hm_190 dX12_keep_19 (v := .inl (1 : Int32)) rfl ?_
        obtain ⟨hg, h⟩ := h
        refine zw_bas22l hm_190 dX12_keep_20 (hx := by decide) (yv := (1 : Int32)) (zT_is (zT_zst hS m1) s_110) (zT_h (zT_zst hS m1) s_110) rfl hg ?_
        refine zw_push hm_190 dX12_keep_21 (v := .inr (.inr (some 94))) rfl ?_
        refine zw_gf hm_190 dX12_keep_22 (v := .inr (.inr (some 118))) (zT_is (zT_pi (zT_zst hS m1)) s_94) (zT_t (zT_pi (zT_zst hS m1)) s_94) rfl f_12_86_12 (zT_f (zT_pi (zT_zst hS m1)) r_94_72) ?_
        refine zw_push hm_190 dX12_keep_25 (v := .inr (.inr (some 94))) rfl ?_
        refine zw_gf hm_190 dX12_keep_26 (v := .inl (m1 94 73)) (zT_is (zT_pi (zT_zst hS m1)) s_94) (zT_t (zT_pi (zT_zst hS m1)) s_94) rfl f_12_291_12 rfl ?_
        refine zw_push hm_190 dX12_keep_29 (v := .inl v2) rfl ?_
        obtain ⟨hg, h⟩ := h
        refine zw_ias hm_190 dX12_keep_30 (zT_is (zT_pi (zT_zst hS m1)) s_118) (zT_h (zT_pi (zT_zst hS m1)) s_118) rfl hg ?_
        refine zw_push hm_190 dX12_keep_31 (v := .inr (.inr (some 94))) rfl ?_
        refine zw_stk hm_190 dX12_keep_32 (st₉ := [.inr (.inr (some 94)), .inr (.inr (some 94))]) rfl rfl ?_
        refine zw_gf hm_190 dX12_keep_33 (v := .inl (m1 94 73)) (zT_is (zT_pi (zT_pi (zT_zst hS m1))) s_94) (zT_t (zT_pi (zT_pi (zT_zst hS m1))) s_94) rfl f_12_291_12 rfl ?_
        refine zw_push hm_190 dX12_keep_36 (v := .inl (1 : Int32)) rfl ?_
        refine zw_stk hm_190 dX12_keep_37 (st₉ := [.inl ((m1 94 73) + (1 : Int32)), .inr (.inr (some 94))]) rfl rfl ?_
        refine zw_pf hm_190 dX12_keep_38 (zT_is (zT_pi (zT_pi (zT_zst hS m1))) s_94) (zT_t (zT_pi (zT_pi (zT_zst hS m1))) s_94) p_12_291_12 zk_int ?_
        refine zw_vret hm_190 dX12_keep_41 ?_
        show ma_wp X d w 191 49 [(0, .inr (.inr (some 94))), (1, .inl l1), (2, .inl l2)] [] (ma_put (ma_put (ma_put (zst S m1) 110 v2.toNatClampNeg (.inl (1 : Int32))) 118 (m1 94 73).toNatClampNeg (.inl v2)) 94 73 (.inl ((m1 94 73) + (1 : Int32)))) _
        refine zw_sto hm_191 dX12_keepAll_49 [(2, .inl (l2 + (1 : Int32))), (0, .inr (.inr (some 94))), (1, .inl l1)] rfl rfl rfl ?_
        refine zw_goto hm_191 dX12_keepAll_52 (t := 29) rfl ?_
        exact zw_sub (ma_nd_of (ks := [0, 1, 2]) rfl (by decide)) (ma_nd_of (ks := [2, 0, 1]) rfl (by decide)) (ma_le_cons rfl (ma_le_cons rfl (ma_le_cons rfl (ma_le_nil _)))) (h d w _ Q (by omega) (by omega) (zT_pi (zT_pi (zT_pi (zT_zst hS m1)))) rfl HQ)
      · intro hc
        rw [if_neg hc] at h
        refine zw_vret hm_190 dX12_keep_13 ?_
        show ma_wp X d w 191 49 [(0, .inr (.inr (some 94))), (1, .inl l1), (2, .inl l2)] [] (zst S m1) _
        refine zw_sto hm_191 dX12_keepAll_49 [(2, .inl (l2 + (1 : Int32))), (0, .inr (.inr (some 94))), (1, .inl l1)] rfl rfl rfl ?_
        refine zw_goto hm_191 dX12_keepAll_52 (t := 29) rfl ?_
        exact zw_sub (ma_nd_of (ks := [0, 1, 2]) rfl (by decide)) (ma_nd_of (ks := [2, 0, 1]) rfl (by decide)) (ma_le_cons rfl (ma_le_cons rfl (ma_le_cons rfl (ma_le_nil _)))) (h d w _ Q (by omega) (by omega) (zT_zst hS m1) rfl HQ)
theorem lp_191_29 {X : Nat × (Nat → Int32)} {P : Option ma_V → (Nat → Nat → Int32) → Prop} {m0 : Nat → Nat → Int32} (h0 : zV m0) (K : ∀ m₉, zF wr_191 m0 m₉ → zV m₉ → ((m₉ 94 73).toInt = 0) → (((m₉ 94 10).toInt = 2 ∨ (m₉ 94 10).toInt = 3) → zCL (m₉ 110) (m₉ 98) (m₉ 101) (m₉ 102) (m₉ 108) (m₉ 118) (m₉ 94 73) 3100 0) → (zle (m0 110) (m₉ 110)) → (zKU (m₉ 94 10) (m₉ 99) (m₉ 110)) → P none m₉) {n0 : Nat} (OUT0 : ∀ (m₉ : Nat → Nat → Int32) , ((zMu (m₉ 110) (m₉ 94 73) : Int)).toNat < n0 → zF wr_191 m0 m₉ → zV m₉ → (zKS (m₉ 110) (m₉ 94 73)) → (zW (m₉ 94 7) (m₉ 98) (m₉ 101) (m₉ 102) (m₉ 108)) → (((m₉ 94 10).toInt = 2 ∨ (m₉ 94 10).toInt = 3) → zCL (m₉ 110) (m₉ 98) (m₉ 101) (m₉ 102) (m₉ 108) (m₉ 118) (m₉ 94 73) 3100 0) → (zle (m0 110) (m₉ 110)) → (zKU (m₉ 94 10) (m₉ 99) (m₉ 110)) → (zDX (m₉ 94 10) (m₉ 99) (m₉ 112) (m₉ 113) (m₉ 114) (m₉ 94 55) (m₉ 98) (m₉ 101) (m₉ 102) (m₉ 108)) → zm X 2 44 191 0 [(0, .inr (.inr (some 94)))] m₉ P) : ∀ (n : Nat) (m : Nat → Nat → Int32) (l1 : Int32) (l2 : Int32), (61 - l2.toInt).toNat = n → zF wr_191 m0 m → zV m → (0 ≤ l1.toInt) → (l1.toInt ≤ 3099) → (0 ≤ l2.toInt) → (zKS (m 110) (m 94 73)) → (zW (m 94 7) (m 98) (m 101) (m 102) (m 108)) → (((m 94 10).toInt = 2 ∨ (m 94 10).toInt = 3) → zCL (m 110) (m 98) (m 101) (m 102) (m 108) (m 118) (m 94 73) l1.toNatClampNeg l2.toNatClampNeg) → (zle (m0 110) (m 110)) → (zKU (m 94 10) (m 99) (m 110)) → (zDX (m 94 10) (m 99) (m 112) (m 113) (m 114) (m 94 55) (m 98) (m 101) (m 102) (m 108)) → (zMu (m 110) (m 94 73) < n0) → zm X 2 44 191 29 [(0, .inr (.inr (some 94))), (1, .inl l1), (2, .inl l2)] m P := by
  intro n
  induction n using Nat.strongRecOn with
  | _ n IH =>
    intro m l1 l2 hmu hF hV hi0 hi1 hi2 r_KS r_W r_CL r_KM r_KU r_DX r_MU
    refine g_191_29 l1 l2 ?_
    have b1 := i_bd l1
    have hg2 : (0 ≤ l1 ∧ l1.toNatClampNeg < 3100) := i_ix (by omega) (by omega)
    refine ⟨hg2, ?_⟩
    first | have f3 : 0 ≤ (m 102 l1.toNatClampNeg).toInt ∧ (m 102 l1.toNatClampNeg).toInt ≤ 60 := ra_102 (m := m) hV (k := l1.toNatClampNeg) (i_ix (n := 3100) (by omega) (by omega)).2 | have b4 := i_bd (m 102 l1.toNatClampNeg)
    have b5 := i_bd l2
    refine zd (fun (h6 : (m 102 l1.toNatClampNeg) ≤ l2) => ?_) (fun (h6 : ¬ (m 102 l1.toNatClampNeg) ≤ l2) => ?_)
    · skip
      have g7 := i_le h6
      exact OUT0 _  (show ((zMu (m 110) (m 94 73) : Int)).toNat < n0 from by omega) hF hV r_KS r_W (show ((m 94 10).toInt = 2 ∨ (m 94 10).toInt = 3) → zCL (m 110) (m 98) (m 101) (m 102) (m 108) (m 118) (m 94 73) 3100 0 from by first | (exact fun hp => CL_done (r_CL hp) (by rw [tn_cast (x := l2) (by omega)]; omega)) | (exfalso; omega; done) | (exfalso; contradiction; done)) r_KM r_KU r_DX
    · skip
      have g8 := i_nle h6
      refine sp_192 (l1) (l2) hV (by omega) (by omega) (by omega) (show l2.toInt < (m 102 l1.toNatClampNeg).toInt from by omega) (fun v2 m1 hV_m1 p0_m1 => zmi_n ?_)
      have p0_m1 : v2 = zrf (m 98) (m 101) (m 108) l1.toNatClampNeg l2.toNatClampNeg := p0_m1
      try have := W_ref r_W (by omega) (by omega) (by omega) (by omega) p0_m1
      have b9 := i_bd v2
      have li10 : (0 : Int32).toInt = 0 := rfl
      refine zd (fun (h11 : v2 < (0 : Int32)) => ?_) (fun (h11 : ¬ v2 < (0 : Int32)) => ?_)
      · skip
        have g12 := i_lt h11
        first | have e13 : (l2 + (1 : Int32)).toInt = l2.toInt + (1) := i_addk rfl (by omega) (by omega) | have b14 := i_bd (l2 + (1 : Int32))
        exact IH (61 - (l2 + (1 : Int32)).toInt).toNat (by omega) _ (l1) ((l2 + (1 : Int32))) rfl (zF_zov hF ws_192_191) hV_m1 (by omega) (by omega) (by omega) r_KS r_W (show ((m 94 10).toInt = 2 ∨ (m 94 10).toInt = 3) → zCL (m 110) (m 98) (m 101) (m 102) (m 108) (m 118) (m 94 73) l1.toNatClampNeg (l2 + (1 : Int32)).toNatClampNeg from by first | (exact fun hp => CL_adv (r_CL hp) (Or.inl (by rw [← p0_m1]; omega)) (tn_succ (by omega) (by omega))) | (exact fun hp => CL_adv (r_CL hp) (Or.inr (by rw [← p0_m1]; assumption)) (tn_succ (by omega) (by omega))) | (exfalso; omega; done) | (exfalso; contradiction; done)) r_KM r_KU r_DX r_MU
      · skip
        have g15 := i_nlt h11
        have hg16 : (0 ≤ v2 ∧ v2.toNatClampNeg < 3100) := i_ix (by omega) (by omega)
        refine ⟨hg16, ?_⟩
        first | have f17 : 0 ≤ (m 110 v2.toNatClampNeg).toInt ∧ (m 110 v2.toNatClampNeg).toInt ≤ 1 := ra_110 (m := m) hV (k := v2.toNatClampNeg) (i_ix (n := 3100) (by omega) (by omega)).2 | have b18 := i_bd (m 110 v2.toNatClampNeg)
        refine zd (fun (h19 : (m 110 v2.toNatClampNeg) = (0 : Int32)) => ?_) (fun (h19 : ¬ (m 110 v2.toNatClampNeg) = (0 : Int32)) => ?_)
        · skip
          have g20 := i_eq h19
          have hg21 : (0 ≤ v2 ∧ v2.toNatClampNeg < 3100) := i_ix (by omega) (by omega)
          refine ⟨hg21, ?_⟩
          have f22 : 0 ≤ (m 94 73).toInt ∧ (m 94 73).toInt ≤ 3100 := rs_94_73 (m := m) hV
          try have gk := KS_room r_KS (by assumption) (by omega)
          have hg23 : (0 ≤ (m 94 73) ∧ (m 94 73).toNatClampNeg < 3100) := i_ix (by omega) (by omega)
          refine ⟨hg23, ?_⟩
          have li25 : (1 : Int32).toInt = 1 := rfl
          have hV24 : zV (ma_u (zov wr_192 m m1) 110 v2.toNatClampNeg (1 : Int32)) := ua_110 hV_m1 (by omega) (by omega)
          have hV26 : zV (ma_u (ma_u (zov wr_192 m m1) 110 v2.toNatClampNeg (1 : Int32)) 118 (m 94 73).toNatClampNeg v2) := ua_118 hV24 (by omega) (by omega)
          first | have e28 : ((m 94 73) + (1 : Int32)).toInt = (m 94 73).toInt + (1) := i_addk rfl (by omega) (by omega) | have b29 := i_bd ((m 94 73) + (1 : Int32))
          have hV27 : zV (ma_u (ma_u (ma_u (zov wr_192 m m1) 110 v2.toNatClampNeg (1 : Int32)) 118 (m 94 73).toNatClampNeg v2) 94 73 ((m 94 73) + (1 : Int32))) := us_94_73 hV26 (by omega) (by omega)
          first | have e30 : (l2 + (1 : Int32)).toInt = l2.toInt + (1) := i_addk rfl (by omega) (by omega) | have b31 := i_bd (l2 + (1 : Int32))
          exact IH (61 - (l2 + (1 : Int32)).toInt).toNat (by omega) _ (l1) ((l2 + (1 : Int32))) rfl (zF_u (zF_u (zF_u (zF_zov hF ws_192_191) rfl) rfl) rfl) hV27 (by omega) (by omega) (by omega) (show zKS ((ma_u m 110 v2.toNatClampNeg (1 : Int32)) 110) ((m 94 73) + (1 : Int32)) from by first | (exact KS_push r_KS (by assumption) (by omega) (by decide) (by assumption)) | (exact KS_push (KS_0 (r := m 110) (y := m 94 73) (by omega)) (by assumption) (by omega) (by decide) (by assumption)) | (exfalso; omega; done) | (exfalso; contradiction; done)) r_W (show ((m 94 10).toInt = 2 ∨ (m 94 10).toInt = 3) → zCL ((ma_u m 110 v2.toNatClampNeg (1 : Int32)) 110) (m 98) (m 101) (m 102) (m 108) ((ma_u m 118 (m 94 73).toNatClampNeg v2) 118) ((m 94 73) + (1 : Int32)) l1.toNatClampNeg (l2 + (1 : Int32)).toNatClampNeg from by first | (exact fun hp => CL_adv (CL_push (r_CL hp) (by decide) (by omega) rfl (by assumption)) (Or.inr (by rw [← p0_m1, mu_self]; decide)) (tn_succ (by omega) (by omega))) | (exfalso; omega; done) | (exfalso; contradiction; done)) (show zle (m0 110) ((ma_u m 110 v2.toNatClampNeg (1 : Int32)) 110) from by first | (exact zle_push r_KM (by decide)) | (exact zle_rfl) | (exfalso; omega; done) | (exfalso; contradiction; done)) (show zKU (m 94 10) (m 99) ((ma_u m 110 v2.toNatClampNeg (1 : Int32)) 110) from by first | (exact KU_push r_KU (fun hp => KU_ref r_KU r_DX (by omega) ((r_CL hp).2.1 (by omega)) (by rw [tn_cast (x := l2) (by omega)]; omega) p0_m1 (by omega) hp)) | (exfalso; omega; done) | (exfalso; contradiction; done)) r_DX (show zMu ((ma_u m 110 v2.toNatClampNeg (1 : Int32)) 110) ((m 94 73) + (1 : Int32)) < n0 from by first | (have zq := Mu_push (m := m) (c := 110) (z := m 94 73) (y := (m 94 73) + (1 : Int32)) (x := 1) (by omega) (by assumption) (by omega) (by decide) (by assumption); omega; done) | (exfalso; omega; done) | (exfalso; contradiction; done))
        · skip
          have g32 := i_ne h19
          first | have e33 : (l2 + (1 : Int32)).toInt = l2.toInt + (1) := i_addk rfl (by omega) (by omega) | have b34 := i_bd (l2 + (1 : Int32))
          exact IH (61 - (l2 + (1 : Int32)).toInt).toNat (by omega) _ (l1) ((l2 + (1 : Int32))) rfl (zF_zov hF ws_192_191) hV_m1 (by omega) (by omega) (by omega) r_KS r_W (show ((m 94 10).toInt = 2 ∨ (m 94 10).toInt = 3) → zCL (m 110) (m 98) (m 101) (m 102) (m 108) (m 118) (m 94 73) l1.toNatClampNeg (l2 + (1 : Int32)).toNatClampNeg from by first | (exact fun hp => CL_adv (r_CL hp) (Or.inl (by rw [← p0_m1]; omega)) (tn_succ (by omega) (by omega))) | (exact fun hp => CL_adv (r_CL hp) (Or.inr (by rw [← p0_m1]; assumption)) (tn_succ (by omega) (by omega))) | (exfalso; omega; done) | (exfalso; contradiction; done)) r_KM r_KU r_DX r_MU
theorem lp_191_0 {X : Nat × (Nat → Int32)} {P : Option ma_V → (Nat → Nat → Int32) → Prop} {m0 : Nat → Nat → Int32} (h0 : zV m0) (K : ∀ m₉, zF wr_191 m0 m₉ → zV m₉ → ((m₉ 94 73).toInt = 0) → (((m₉ 94 10).toInt = 2 ∨ (m₉ 94 10).toInt = 3) → zCL (m₉ 110) (m₉ 98) (m₉ 101) (m₉ 102) (m₉ 108) (m₉ 118) (m₉ 94 73) 3100 0) → (zle (m0 110) (m₉ 110)) → (zKU (m₉ 94 10) (m₉ 99) (m₉ 110)) → P none m₉) : ∀ (n : Nat) (m : Nat → Nat → Int32) , ((zMu (m 110) (m 94 73) : Int)).toNat = n → zF wr_191 m0 m → zV m → (zKS (m 110) (m 94 73)) → (zW (m 94 7) (m 98) (m 101) (m 102) (m 108)) → (((m 94 10).toInt = 2 ∨ (m 94 10).toInt = 3) → zCL (m 110) (m 98) (m 101) (m 102) (m 108) (m 118) (m 94 73) 3100 0) → (zle (m0 110) (m 110)) → (zKU (m 94 10) (m 99) (m 110)) → (zDX (m 94 10) (m 99) (m 112) (m 113) (m 114) (m 94 55) (m 98) (m 101) (m 102) (m 108)) → zm X 2 44 191 0 [(0, .inr (.inr (some 94)))] m P := by
  intro n
  induction n using Nat.strongRecOn with
  | _ n IH =>
    intro m  hmu hF hV r_KS r_W r_CL r_KM r_KU r_DX
    refine g_191_0  ?_
    have f1 : 0 ≤ (m 94 73).toInt ∧ (m 94 73).toInt ≤ 3100 := rs_94_73 (m := m) hV
    have li2 : (0 : Int32).toInt = 0 := rfl
    refine zd (fun (h3 : (m 94 73) ≤ (0 : Int32)) => ?_) (fun (h3 : ¬ (m 94 73) ≤ (0 : Int32)) => ?_)
    · skip
      have g4 := i_le h3
      exact K _ hF hV (show (m 94 73).toInt = 0 from by omega) r_CL r_KM r_KU
    · skip
      have g5 := i_nle h3
      first | have e6 : ((m 94 73) - (1 : Int32)).toInt = (m 94 73).toInt - (1) := i_subk rfl (by omega) (by omega) | have b7 := i_bd ((m 94 73) - (1 : Int32))
      try have gk := KS_room r_KS (by assumption) (by omega)
      have hg8 : (0 ≤ ((m 94 73) - (1 : Int32)) ∧ ((m 94 73) - (1 : Int32)).toNatClampNeg < 3100) := i_ix (by omega) (by omega)
      refine ⟨hg8, ?_⟩
      have hV9 : zV (ma_u m 94 73 ((m 94 73) - (1 : Int32))) := us_94_73 hV (by omega) (by omega)
      first | have f10 : 0 ≤ (m 118 ((m 94 73) - (1 : Int32)).toNatClampNeg).toInt ∧ (m 118 ((m 94 73) - (1 : Int32)).toNatClampNeg).toInt ≤ 3099 := ra_118 (m := m) hV (k := ((m 94 73) - (1 : Int32)).toNatClampNeg) (i_ix (n := 3100) (by omega) (by omega)).2 | have b11 := i_bd (m 118 ((m 94 73) - (1 : Int32)).toNatClampNeg)
      exact lp_191_29 h0 K (fun _  z1 z2 z3 y0 y1 y2 y3 y4 y5 => IH _ z1 _  rfl z2 z3 y0 y1 y2 y3 y4 y5) _ _ ((m 118 ((m 94 73) - (1 : Int32)).toNatClampNeg)) ((0 : Int32)) rfl (zF_u hF rfl) hV9 (by omega) (by omega) (by omega) (show zKS (m 110) ((m 94 73) - (1 : Int32)) from by first | (exact KS_0 (by omega)) | (exact KS_dec r_KS (by omega)) | (exfalso; omega; done) | (exfalso; contradiction; done)) r_W (show ((m 94 10).toInt = 2 ∨ (m 94 10).toInt = 3) → zCL (m 110) (m 98) (m 101) (m 102) (m 108) (m 118) ((m 94 73) - (1 : Int32)) (m 118 ((m 94 73) - (1 : Int32)).toNatClampNeg).toNatClampNeg (0 : Int32).toNatClampNeg from by first | (exact fun hp => CL_pop (r_CL hp) (by omega) (by omega) rfl) | (exfalso; omega; done) | (exfalso; contradiction; done)) r_KM r_KU r_DX (show zMu (m 110) ((m 94 73) - (1 : Int32)) < n from by first | (have zq := Mu_pop (r := m 110) (z := m 94 73) (y := (m 94 73) - (1 : Int32)) (by omega) (by omega); omega; done) | (exfalso; omega; done) | (exfalso; contradiction; done))
theorem sp_191 {X : Nat × (Nat → Int32)} {P : Option ma_V → (Nat → Nat → Int32) → Prop} {m : Nat → Nat → Int32}  (hV : zV m) (r_KS : zKS (m 110) (m 94 73)) (r_W : zW (m 94 7) (m 98) (m 101) (m 102) (m 108)) (r_CL : ((m 94 10).toInt = 2 ∨ (m 94 10).toInt = 3) → zCL (m 110) (m 98) (m 101) (m 102) (m 108) (m 118) (m 94 73) 3100 0) (r_KU : zKU (m 94 10) (m 99) (m 110)) (r_DX : zDX (m 94 10) (m 99) (m 112) (m 113) (m 114) (m 94 55) (m 98) (m 101) (m 102) (m 108)) (KZ : ∀ m₉, zV (zov wr_191 m m₉) → ((m₉ 94 73).toInt = 0) → (((m 94 10).toInt = 2 ∨ (m 94 10).toInt = 3) → zCL (m₉ 110) (m 98) (m 101) (m 102) (m 108) (m₉ 118) (m₉ 94 73) 3100 0) → (zle (m 110) (m₉ 110)) → (zKU (m 94 10) (m 99) (m₉ 110)) → P none (zov wr_191 m m₉)) : zm X 2 44 191 0 [(0, .inr (.inr (some 94)))] m P := by
  have K : ∀ m₉, zF wr_191 m m₉ → zV m₉ → ((m₉ 94 73).toInt = 0) → (((m₉ 94 10).toInt = 2 ∨ (m₉ 94 10).toInt = 3) → zCL (m₉ 110) (m₉ 98) (m₉ 101) (m₉ 102) (m₉ 108) (m₉ 118) (m₉ 94 73) 3100 0) → (zle (m 110) (m₉ 110)) → (zKU (m₉ 94 10) (m₉ 99) (m₉ 110)) → P none m₉ := by
    intro m₉ hf z q0 q1 q2 q3
    have e := zov_eq hf
    rw [e] at z ⊢
    try rw [e] at q0
    try rw [e] at q1
    try rw [e] at q2
    try rw [e] at q3
    exact KZ m₉ z q0 q1 q2 q3
  exact lp_191_0 hV K _ _  rfl zF_rfl hV r_KS r_W r_CL (show zle (m 110) (m 110) from by first | (exact zle_rfl) | (exfalso; omega; done) | (exfalso; contradiction; done)) r_KU r_DX

/-! from 94.411 -/
/-! granting and removing -/
def zuw (r r₉ : Nat → Int32) : Prop := ∀ k : Nat, r₉ k = r k ∨ (r₉ k).toInt < 0
def zwx (wi wi₉ : Nat → Int32) (wm s : Int32) : Prop := (∀ k : Nat, (k : Int) < wm.toInt → wi₉ k = wi k) ∧ wi₉ wm.toNatClampNeg = s
/-- of those in use before, up to l, they are in use still if they are kept -/
def zrm (us us₉ kp : Nat → Int32) (l : Nat) : Prop := ∀ s, s < 3100 → (s < l → (us₉ s ≠ 0 ↔ us s ≠ 0 ∧ kp s ≠ 0)) ∧ (l ≤ s → us₉ s = us s)
def zowr (ow ow₉ us kp at₉ : Nat → Int32) : Prop := ∀ p : Nat, p < 4600 → ow₉ p = ow p ∨ ((ow₉ p).toInt = -1 ∧ ∃ s, s < 3100 ∧ us s ≠ 0 ∧ kp s = 0 ∧ (at₉ s).toInt = (p : Int))
/-- what a sweep leaves -/
def zsw (us us₉ ow ow₉ at₉ : Nat → Int32) : Prop := (∀ s, s < 3100 → us₉ s ≠ 0 → us s ≠ 0) ∧ ∀ p : Nat, p < 4600 → ow₉ p = ow p ∨ ((ow₉ p).toInt = -1 ∧ ∃ s, s < 3100 ∧ us s ≠ 0 ∧ us₉ s = 0 ∧ (at₉ s).toInt = (p : Int))
section GR1
variable {m ms : Nat → Nat → Int32} {c d k : Nat} {kp kr kd ws wd st us rt wk wi wk₉ wi₉ us₉ ow ow₉ at₉ nr : Nat → Int32} {z x y v po wm wm₉ a b s : Int32} {l l2 : Nat}
theorem zuw_rfl : zuw wk wk := fun _ => Or.inl rfl
theorem zuw_tr {r : Nat → Int32} (h : zuw r wk) (h₉ : zuw wk wk₉) : zuw r wk₉ := fun k => (h₉ k).elim (fun e => (h k).elim (fun e2 => Or.inl (e.trans e2)) (fun q => Or.inr (by rw [e]; exact q))) Or.inr
theorem zuw_put {r : Nat → Int32} (h : zuw r (m c)) (hx : x.toInt < 0) : zuw r (ma_u m c k x c) := by
  intro j
  rw [mu_at]
  split
  · exact Or.inr hx
  · exact h j
theorem cov_uw {n : Int} (h : zcov us wk n) (hu : zuw wk wk₉) : zcov us wk₉ n := by
  intro j hj
  rcases hu j with e | e
  · rw [e]; exact h j hj
  · exact Or.inl e
theorem cov_wx {n : Int} (h : zcov us wi wm.toInt) (hx : zwx wi wi₉ wm s) (hs : us s.toNatClampNeg ≠ 0) (h0 : 0 ≤ wm.toInt) (hn : n = wm.toInt + 1) : zcov us wi₉ n := by
  intro j hj
  have e : wm.toNatClampNeg = wm.toInt.toNat := rfl
  by_cases q : j = wm.toNatClampNeg
  · rw [q, hx.2]; exact Or.inr hs
  · rw [hx.1 j (by omega)]; exact h j (by omega)
theorem DX_wish (h : zDX po us rt wk wi wm kr kd ws wd) (hu : zuw wk wk₉) (hx : zwx wi wi₉ wm s) (hs : us s.toNatClampNeg ≠ 0) (h0 : 0 ≤ wm.toInt) (hn : wm₉.toInt = wm.toInt + 1) : zDX po us rt wk₉ wi₉ wm₉ kr kd ws wd := by
  intro hp
  obtain ⟨a1, a2, a3, a4⟩ := h hp
  exact ⟨a1, cov_uw a2 hu, cov_wx a3 hx hs h0 hn, a4⟩
theorem WS_ge (h : zWS nr us kp wi a v) (hv : 0 ≤ v.toInt) : 0 ≤ v.toInt ∧ v.toInt ≤ 3099 ∧ us v.toNatClampNeg ≠ 0 ∧ kp v.toNatClampNeg = 0 ∧ wi v.toNatClampNeg ≠ 0 ∧ a.toInt < (nr v.toNatClampNeg).toInt := h.elim (fun q => by omega) id
theorem WS_weak (h : zWS nr us kp wi a v) (hb : b.toInt ≤ a.toInt) : zWS nr us kp wi b v := h.elim Or.inl (fun q => Or.inr ⟨q.1, q.2.1, q.2.2.1, q.2.2.2.1, q.2.2.2.2.1, by have := q.2.2.2.2.2; omega⟩)
theorem rm_0 : zrm us us kp 0 := fun s _ => ⟨fun h => absurd h (Nat.not_lt_zero _), fun _ => rfl⟩
theorem rm_skip (h : zrm us us₉ kp l) (hk : us₉ l = 0 ∨ kp l ≠ 0) (e : l2 = l + 1) : zrm us us₉ kp l2 := by
  subst e
  intro s hs
  refine ⟨fun hl => ?_, fun hl => (h s hs).2 (by omega)⟩
  by_cases q : s = l
  · subst q
    have e2 := (h s hs).2 (Nat.le_refl _)
    rw [e2]
    rw [e2] at hk
    exact ⟨fun z => ⟨z, hk.elim (fun w => absurd w z) id⟩, fun z => z.1⟩
  · exact (h s hs).1 (by omega)
theorem rm_put (h : zrm us (m c) kp l) (hk : kp l = 0) (e : l2 = l + 1) : zrm us (ma_u m c l 0 c) kp l2 := by
  subst e
  intro s hs
  by_cases q : s = l
  · subst q
    refine ⟨fun _ => ?_, fun hl => by omega⟩
    rw [mu_self]
    exact ⟨fun z => absurd rfl z, fun z => absurd hk z.2⟩
  · rw [mu_ne q]
    exact ⟨fun hl => (h s hs).1 (by omega), fun hl => (h s hs).2 (by omega)⟩
theorem owr_rfl : zowr ow ow us kp at₉ := fun _ _ => Or.inl rfl
theorem owr_put {s : Nat} (h : zowr ow (m c) us kp at₉) (hs : s < 3100) (hu : us s ≠ 0) (hk : kp s = 0) (hx : x.toInt = -1) (hat : (at₉ s).toInt = (k : Int)) : zowr ow (ma_u m c k x c) us kp at₉ := by
  intro p hp
  rw [mu_at]
  split
  · next e => exact Or.inr ⟨hx, s, hs, hu, hk, by rw [e]; exact hat⟩
  · exact h p hp
/-- one is removed -/
theorem Ow_rm {mo : Nat → Nat → Int32} {co : Nat} (h : zOw (m c) at₉ (mo co)) (hx : x.toInt = -1) (hk : (at₉ k).toInt = (l : Int)) : zOw (ma_u m c k 0 c) at₉ (ma_u mo co l x co) := by
  intro p hp ho
  by_cases q : p = l
  · rw [q, mu_self] at ho; omega
  · rw [mu_ne q] at ho ⊢
    have := h p hp ho
    have e : (mo co p).toNatClampNeg ≠ k := fun z => by rw [z] at this; omega
    rw [mu_ne e]
    exact this
theorem DX_sweep (hC : zCL kp kr kd ws wd st z 3100 0) (hz : z.toInt = 0) (hr : zcov kp rt 16) (hw : zcov kp wi wm.toInt) (hk : zcov kp wk 16) (hu : zKU po us kp) (hm : zrm us us₉ kp 3100) (br : ∀ j : Nat, (j : Int) < 16 → (rt j).toInt ≤ 3099) (bw : ∀ j : Nat, (j : Int) < wm.toInt → (wi j).toInt ≤ 3099) (bk : ∀ j : Nat, (j : Int) < 16 → (wk j).toInt ≤ 3099) (bf : ∀ s, s < 3100 → ∀ i : Nat, (i : Int) < (ws s).toInt → (zrf kr kd wd s i).toInt ≤ 3099) : zDX po us₉ rt wk wi wm kr kd ws wd := by
  intro hp
  have key : ∀ j : Int32, j.toInt ≤ 3099 → (j.toInt < 0 ∨ kp j.toNatClampNeg ≠ 0) → (j.toInt < 0 ∨ us₉ j.toNatClampNeg ≠ 0) := by
    intro j hj hq
    rcases hq with q | q
    · exact Or.inl q
    · have hl : j.toNatClampNeg < 3100 := by rw [tn_eq]; omega
      exact Or.inr (((hm _ hl).1 hl).mpr ⟨hu hp _ hl q, q⟩)
  refine ⟨fun j hj => key _ (br j hj) (hr j hj), fun j hj => key _ (bk j hj) (hk j hj), fun j hj => key _ (bw j hj) (hw j hj), fun s hs hus i hi => ?_⟩
  have hks := (((hm s hs).1 hs).mp hus).2
  rcases hC.2.2 s hs hks with ⟨j, hj, _⟩ | q | ⟨q, _⟩
  · omega
  · exact key _ (bf s hs i hi) (q i hi)
  · omega
theorem sw_of (hm : zrm us us₉ kp 3100) (ho : zowr ow ow₉ us kp at₉) : zsw us us₉ ow ow₉ at₉ := by
  refine ⟨fun s hs h => (((hm s hs).1 hs).mp h).1, fun p hp => ?_⟩
  rcases ho p hp with e | ⟨e, s, hs, hu, hk, ha⟩
  · exact Or.inl e
  · refine Or.inr ⟨e, s, hs, hu, ?_, ha⟩
    refine Classical.byContradiction (fun z => ?_)
    exact (((hm s hs).1 hs).mp z).2 hk
theorem W_hi {ks : Int32} (h : zW ks kr kd ws wd) : ∀ s, s < 3100 → ∀ i : Nat, (i : Int) < (ws s).toInt → (zrf kr kd wd s i).toInt ≤ 3099 := fun s hs i hi => ((h s hs).1 i hi).2
end GR1

/-! from 94.412 -/
/-! the reference (written by wip/tools/gen94m.py) -/
set_option maxRecDepth 100000 in
theorem hm_188 : ma_md 188 = some (12, yX12_keepReached, cX12_keepReached, 2, none) := rfl
theorem s_107 : zs 107 = some (20, 3100) := rfl
theorem s_112 : zs 112 = some (20, 16) := rfl
theorem s_114 : zs 114 = some (20, 3100) := rfl
theorem r_94_39 : zfi 94 39 = some 107 := rfl
theorem r_94_51 : zfi 94 51 = some 112 := rfl
theorem r_94_53 : zfi 94 53 = some 114 := rfl
theorem f_12_52_12 : ma_fld 12 52 12 = some 39 := by decide +kernel
theorem f_12_68_12 : ma_fld 12 68 12 = some 51 := by decide +kernel
theorem f_12_74_12 : ma_fld 12 74 12 = some 53 := by decide +kernel
theorem f_12_261_12 : ma_fld 12 261 12 = some 55 := by decide +kernel
theorem v_12_301_12 : ma_vl 12 301 12 = some (1, 189, 0) := by decide +kernel
theorem v_12_304_12 : ma_vl 12 304 12 = some (1, 191, 0) := by decide +kernel
theorem dX12_keepReached_0 : decode cX12_keepReached 0 = .ok (.aload_n 0, 1) := by decide +kernel
theorem dX12_keepReached_1 : decode cX12_keepReached 1 = .ok (.invokevirtual 301, 3) := by decide +kernel
theorem dX12_keepReached_4 : decode cX12_keepReached 4 = .ok (.aload_n 0, 1) := by decide +kernel
theorem dX12_keepReached_5 : decode cX12_keepReached 5 = .ok (.iconst 0, 1) := by decide +kernel
theorem dX12_keepReached_9 : decode cX12_keepReached 9 = .ok (.iconst 0, 1) := by decide +kernel
theorem dX12_keepReached_10 : decode cX12_keepReached 10 = .ok (.istore_n 1, 1) := by decide +kernel
theorem dX12_keepReached_6 : decode cX12_keepReached 6 = .ok (.putfield 291, 3) := by decide +kernel
theorem dX12_keepReached_11 : decode cX12_keepReached 11 = .ok (.iload_n 1, 1) := by decide +kernel
theorem dX12_keepReached_12 : decode cX12_keepReached 12 = .ok (.bipush 16, 2) := by decide +kernel
theorem dX12_keepReached_33 : decode cX12_keepReached 33 = .ok (.iconst 0, 1) := by decide +kernel
theorem dX12_keepReached_34 : decode cX12_keepReached 34 = .ok (.istore_n 1, 1) := by decide +kernel
theorem dX12_keepReached_17 : decode cX12_keepReached 17 = .ok (.aload_n 0, 1) := by decide +kernel
theorem dX12_keepReached_18 : decode cX12_keepReached 18 = .ok (.aload_n 0, 1) := by decide +kernel
theorem dX12_keepReached_22 : decode cX12_keepReached 22 = .ok (.iload_n 1, 1) := by decide +kernel
theorem dX12_keepReached_24 : decode cX12_keepReached 24 = .ok (.invokevirtual 298, 3) := by decide +kernel
theorem dX12_keepReached_27 : decode cX12_keepReached 27 = .ok (.iinc 1 1, 3) := by decide +kernel
theorem dX12_keepReached_30 : decode cX12_keepReached 30 = .ok (.goto (-19), 3) := by decide +kernel
theorem dX12_keepReached_23 : decode cX12_keepReached 23 = .ok (.iaload, 1) := by decide +kernel
theorem dX12_keepReached_19 : decode cX12_keepReached 19 = .ok (.getfield 68, 3) := by decide +kernel
theorem dX12_keepReached_14 : decode cX12_keepReached 14 = .ok (.if_icmp .ge 19, 3) := by decide +kernel
theorem dX12_keepReached_35 : decode cX12_keepReached 35 = .ok (.iload_n 1, 1) := by decide +kernel
theorem dX12_keepReached_36 : decode cX12_keepReached 36 = .ok (.aload_n 0, 1) := by decide +kernel
theorem dX12_keepReached_59 : decode cX12_keepReached 59 = .ok (.iconst 0, 1) := by decide +kernel
theorem dX12_keepReached_60 : decode cX12_keepReached 60 = .ok (.istore_n 1, 1) := by decide +kernel
theorem dX12_keepReached_43 : decode cX12_keepReached 43 = .ok (.aload_n 0, 1) := by decide +kernel
theorem dX12_keepReached_44 : decode cX12_keepReached 44 = .ok (.aload_n 0, 1) := by decide +kernel
theorem dX12_keepReached_48 : decode cX12_keepReached 48 = .ok (.iload_n 1, 1) := by decide +kernel
theorem dX12_keepReached_50 : decode cX12_keepReached 50 = .ok (.invokevirtual 298, 3) := by decide +kernel
theorem dX12_keepReached_53 : decode cX12_keepReached 53 = .ok (.iinc 1 1, 3) := by decide +kernel
theorem dX12_keepReached_56 : decode cX12_keepReached 56 = .ok (.goto (-21), 3) := by decide +kernel
theorem dX12_keepReached_49 : decode cX12_keepReached 49 = .ok (.iaload, 1) := by decide +kernel
theorem dX12_keepReached_45 : decode cX12_keepReached 45 = .ok (.getfield 74, 3) := by decide +kernel
theorem dX12_keepReached_40 : decode cX12_keepReached 40 = .ok (.if_icmp .ge 19, 3) := by decide +kernel
theorem dX12_keepReached_37 : decode cX12_keepReached 37 = .ok (.getfield 261, 3) := by decide +kernel
theorem dX12_keepReached_61 : decode cX12_keepReached 61 = .ok (.iload_n 1, 1) := by decide +kernel
theorem dX12_keepReached_62 : decode cX12_keepReached 62 = .ok (.sipush 3100, 3) := by decide +kernel
theorem dX12_keepReached_97 : decode cX12_keepReached 97 = .ok (.aload_n 0, 1) := by decide +kernel
theorem dX12_keepReached_98 : decode cX12_keepReached 98 = .ok (.invokevirtual 304, 3) := by decide +kernel
theorem dX12_keepReached_101 : decode cX12_keepReached 101 = .ok (.return_, 1) := by decide +kernel
theorem dX12_keepReached_68 : decode cX12_keepReached 68 = .ok (.aload_n 0, 1) := by decide +kernel
theorem dX12_keepReached_72 : decode cX12_keepReached 72 = .ok (.iload_n 1, 1) := by decide +kernel
theorem dX12_keepReached_91 : decode cX12_keepReached 91 = .ok (.iinc 1 1, 3) := by decide +kernel
theorem dX12_keepReached_94 : decode cX12_keepReached 94 = .ok (.goto (-33), 3) := by decide +kernel
theorem dX12_keepReached_77 : decode cX12_keepReached 77 = .ok (.aload_n 0, 1) := by decide +kernel
theorem dX12_keepReached_81 : decode cX12_keepReached 81 = .ok (.iload_n 1, 1) := by decide +kernel
theorem dX12_keepReached_86 : decode cX12_keepReached 86 = .ok (.aload_n 0, 1) := by decide +kernel
theorem dX12_keepReached_87 : decode cX12_keepReached 87 = .ok (.iload_n 1, 1) := by decide +kernel
theorem dX12_keepReached_88 : decode cX12_keepReached 88 = .ok (.invokevirtual 298, 3) := by decide +kernel
theorem dX12_keepReached_83 : decode cX12_keepReached 83 = .ok (.ifCond .le 8, 3) := by decide +kernel
theorem dX12_keepReached_82 : decode cX12_keepReached 82 = .ok (.iaload, 1) := by decide +kernel
theorem dX12_keepReached_78 : decode cX12_keepReached 78 = .ok (.getfield 52, 3) := by decide +kernel
theorem dX12_keepReached_74 : decode cX12_keepReached 74 = .ok (.ifCond .eq 17, 3) := by decide +kernel
theorem dX12_keepReached_73 : decode cX12_keepReached 73 = .ok (.baload, 1) := by decide +kernel
theorem dX12_keepReached_69 : decode cX12_keepReached 69 = .ok (.getfield 27, 3) := by decide +kernel
theorem dX12_keepReached_65 : decode cX12_keepReached 65 = .ok (.if_icmp .ge 32, 3) := by decide +kernel
def wr_188 (c k : Nat) : Bool := Nat.beq c 110 || Nat.beq c 118 || (Nat.beq c 94 && (Nat.beq k 73))
theorem ws_189_188 : ∀ c k, wr_189 c k = true → wr_188 c k = true := by
  intro c k h
  simp only [wr_189, wr_188, Bool.or_eq_true, Bool.and_eq_true, Nat.beq_eq] at h ⊢
  omega
theorem ws_191_188 : ∀ c k, wr_191 c k = true → wr_188 c k = true := by
  intro c k h
  simp only [wr_191, Bool.or_eq_true, Bool.and_eq_true, Nat.beq_eq] at h
  rcases h with (rfl | rfl) | ⟨rfl, rfl⟩ <;> rfl
theorem g_188_0 {X : Nat × (Nat → Int32)} {m : Nat → Nat → Int32} {P : Option ma_V → (Nat → Nat → Int32) → Prop}  (h : zm X 0 0 189 0 [(0, .inr (.inr (some 94)))] m (zmv (fun m1 => zm X 3 66 188 11 [(0, .inr (.inr (some 94))), (1, .inl (0 : Int32))] (ma_u m1 94 73 (0 : Int32)) P))) : zm X 3 66 188 0 [(0, .inr (.inr (some 94)))] m P := by
  intro d w S Q hd hw hS hm HQ
  subst hm
  refine zw_push hm_188 dX12_keepReached_0 (v := .inr (.inr (some 94))) rfl ?_
  refine zw_cv hm_188 dX12_keepReached_1 v_12_301_12 hm_189 [] [] rfl (zT_rt hS s_94 rfl) ⟨by omega, by omega⟩ rfl (h _ _ S _ (by omega) (by omega) hS rfl (fun o9 m1 hv => ?_))
  obtain ⟨rfl, h⟩ := zmv_of hv
  show ma_wp X d w 188 4 [(0, .inr (.inr (some 94)))] [] (zst S m1) _
  refine zw_push hm_188 dX12_keepReached_4 (v := .inr (.inr (some 94))) rfl ?_
  refine zw_push hm_188 dX12_keepReached_5 (v := .inl (0 : Int32)) rfl ?_
  refine zw_pf hm_188 dX12_keepReached_6 (zT_is (zT_zst hS m1) s_94) (zT_t (zT_zst hS m1) s_94) p_12_291_12 zk_int ?_
  refine zw_push hm_188 dX12_keepReached_9 (v := .inl (0 : Int32)) rfl ?_
  refine zw_sto hm_188 dX12_keepReached_10 [(1, .inl (0 : Int32)), (0, .inr (.inr (some 94)))] rfl rfl rfl ?_
  exact zw_sub (ma_nd_of (ks := [0, 1]) rfl (by decide)) (ma_nd_of (ks := [1, 0]) rfl (by decide)) (ma_le_cons rfl (ma_le_cons rfl (ma_le_nil _))) (h d w _ Q (by omega) (by omega) (zT_pi (zT_zst hS m1)) rfl HQ)
theorem g_188_11 {X : Nat × (Nat → Int32)} {m : Nat → Nat → Int32} {P : Option ma_V → (Nat → Nat → Int32) → Prop} (l1 : Int32) (h : if (16 : Int32) ≤ l1 then (zm X 3 66 188 35 [(0, .inr (.inr (some 94))), (1, .inl (0 : Int32))] m P) else ((0 ≤ l1 ∧ l1.toNatClampNeg < 16) ∧ (if (m 112 l1.toNatClampNeg) < 0 then (zm X 3 66 188 11 [(0, .inr (.inr (some 94))), (1, .inl (l1 + (1 : Int32)))] m P) else ((0 ≤ (m 112 l1.toNatClampNeg) ∧ (m 112 l1.toNatClampNeg).toNatClampNeg < 3100) ∧ (if (m 110 (m 112 l1.toNatClampNeg).toNatClampNeg) = 0 then ((0 ≤ (m 112 l1.toNatClampNeg) ∧ (m 112 l1.toNatClampNeg).toNatClampNeg < 3100) ∧ ((0 ≤ (m 94 73) ∧ (m 94 73).toNatClampNeg < 3100) ∧ (zm X 3 66 188 11 [(0, .inr (.inr (some 94))), (1, .inl (l1 + (1 : Int32)))] (ma_u (ma_u (ma_u m 110 (m 112 l1.toNatClampNeg).toNatClampNeg (1 : Int32)) 118 (m 94 73).toNatClampNeg (m 112 l1.toNatClampNeg)) 94 73 ((m 94 73) + (1 : Int32))) P))) else (zm X 3 66 188 11 [(0, .inr (.inr (some 94))), (1, .inl (l1 + (1 : Int32)))] m P)))))) : zm X 3 66 188 11 [(0, .inr (.inr (some 94))), (1, .inl l1)] m P := by
  intro d w S Q hd hw hS hm HQ
  subst hm
  refine zw_push hm_188 dX12_keepReached_11 (v := .inl l1) rfl ?_
  refine zw_push hm_188 dX12_keepReached_12 (v := .inl (16 : Int32)) rfl ?_
  refine zw_if2 hm_188 dX12_keepReached_14 (t := 33) rfl zc2_ge ?_ ?_
  · intro hc
    rw [if_pos hc] at h
    refine zw_push hm_188 dX12_keepReached_33 (v := .inl (0 : Int32)) rfl ?_
    refine zw_sto hm_188 dX12_keepReached_34 [(1, .inl (0 : Int32)), (0, .inr (.inr (some 94)))] rfl rfl rfl ?_
    exact zw_sub (ma_nd_of (ks := [0, 1]) rfl (by decide)) (ma_nd_of (ks := [1, 0]) rfl (by decide)) (ma_le_cons rfl (ma_le_cons rfl (ma_le_nil _))) (h d w _ Q (by omega) (by omega) hS rfl HQ)
  · intro hc
    rw [if_neg hc] at h
    refine zw_push hm_188 dX12_keepReached_17 (v := .inr (.inr (some 94))) rfl ?_
    refine zw_push hm_188 dX12_keepReached_18 (v := .inr (.inr (some 94))) rfl ?_
    refine zw_gf hm_188 dX12_keepReached_19 (v := .inr (.inr (some 112))) (zT_is hS s_94) (zT_t hS s_94) rfl f_12_68_12 (zT_f hS r_94_51) ?_
    refine zw_push hm_188 dX12_keepReached_22 (v := .inl l1) rfl ?_
    obtain ⟨hg, h⟩ := h
    refine zw_ia hm_188 dX12_keepReached_23 (zT_is hS s_112) (zT_h hS s_112) rfl hg ?_
    show ma_wp X d w 188 24 [(0, .inr (.inr (some 94))), (1, .inl l1)] [.inl ((mI S) 112 l1.toNatClampNeg), .inr (.inr (some 94))] S _
    refine zw_cv hm_188 dX12_keepReached_24 v_12_298_12 hm_190 [.inl ((mI S) 112 l1.toNatClampNeg)] [] rfl (zT_rt hS s_94 rfl) ⟨by omega, by omega⟩ rfl ?_
    show ma_wp X (d - 1) (w - 21) 190 0 [(0, .inr (.inr (some 94))), (1, .inl ((mI S) 112 l1.toNatClampNeg))] [] S _
    refine zw_push hm_190 dX12_keep_0 (v := .inl ((mI S) 112 l1.toNatClampNeg)) rfl ?_
    refine zw_if0 hm_190 dX12_keep_1 (t := 13) rfl zc0_lt ?_ ?_
    · intro hc
      rw [if_pos hc] at h
      refine zw_vret hm_190 dX12_keep_13 ?_
      show ma_wp X d w 188 27 [(0, .inr (.inr (some 94))), (1, .inl l1)] [] S _
      refine zw_sto hm_188 dX12_keepReached_27 [(1, .inl (l1 + (1 : Int32))), (0, .inr (.inr (some 94)))] rfl rfl rfl ?_
      refine zw_goto hm_188 dX12_keepReached_30 (t := 11) rfl ?_
      exact zw_sub (ma_nd_of (ks := [0, 1]) rfl (by decide)) (ma_nd_of (ks := [1, 0]) rfl (by decide)) (ma_le_cons rfl (ma_le_cons rfl (ma_le_nil _))) (h d w _ Q (by omega) (by omega) hS rfl HQ)
    · intro hc
      rw [if_neg hc] at h
      refine zw_push hm_190 dX12_keep_4 (v := .inr (.inr (some 94))) rfl ?_
      refine zw_gf hm_190 dX12_keep_5 (v := .inr (.inr (some 110))) (zT_is hS s_94) (zT_t hS s_94) rfl f_12_62_12 (zT_f hS r_94_42) ?_
      refine zw_push hm_190 dX12_keep_8 (v := .inl ((mI S) 112 l1.toNatClampNeg)) rfl ?_
      obtain ⟨hg, h⟩ := h
      refine zw_ba hm_190 dX12_keep_9 (zT_is hS s_110) (zT_h hS s_110) rfl rfl hg ?_
      show ma_wp X (d - 1) (w - 21) 190 10 [(0, .inr (.inr (some 94))), (1, .inl ((mI S) 112 l1.toNatClampNeg))] [.inl ((mI S) 110 ((mI S) 112 l1.toNatClampNeg).toNatClampNeg)] S _
      refine zw_if0 hm_190 dX12_keep_10 (t := 14) rfl zc0_eq ?_ ?_
      · intro hc
        rw [if_pos hc] at h
        refine zw_push hm_190 dX12_keep_14 (v := .inr (.inr (some 94))) rfl ?_
        refine zw_gf hm_190 dX12_keep_15 (v := .inr (.inr (some 110))) (zT_is hS s_94) (zT_t hS s_94) rfl f_12_62_12 (zT_f hS r_94_42) ?_
        refine zw_push hm_190 dX12_keep_18 (v := .inl ((mI S) 112 l1.toNatClampNeg)) rfl ?_
        refine zw_push hm_190 dX12_keep_19 (v := .inl (1 : Int32)) rfl ?_
        obtain ⟨hg, h⟩ := h
        refine zw_bas22l hm_190 dX12_keep_20 (hx := by decide) (yv := (1 : Int32)) (zT_is hS s_110) (zT_h hS s_110) rfl hg ?_
        refine zw_push hm_190 dX12_keep_21 (v := .inr (.inr (some 94))) rfl ?_
        refine zw_gf hm_190 dX12_keep_22 (v := .inr (.inr (some 118))) (zT_is (zT_pi hS) s_94) (zT_t (zT_pi hS) s_94) rfl f_12_86_12 (zT_f (zT_pi hS) r_94_72) ?_
        refine zw_push hm_190 dX12_keep_25 (v := .inr (.inr (some 94))) rfl ?_
        refine zw_gf hm_190 dX12_keep_26 (v := .inl ((mI S) 94 73)) (zT_is (zT_pi hS) s_94) (zT_t (zT_pi hS) s_94) rfl f_12_291_12 rfl ?_
        refine zw_push hm_190 dX12_keep_29 (v := .inl ((mI S) 112 l1.toNatClampNeg)) rfl ?_
        obtain ⟨hg, h⟩ := h
        refine zw_ias hm_190 dX12_keep_30 (zT_is (zT_pi hS) s_118) (zT_h (zT_pi hS) s_118) rfl hg ?_
        refine zw_push hm_190 dX12_keep_31 (v := .inr (.inr (some 94))) rfl ?_
        refine zw_stk hm_190 dX12_keep_32 (st₉ := [.inr (.inr (some 94)), .inr (.inr (some 94))]) rfl rfl ?_
        refine zw_gf hm_190 dX12_keep_33 (v := .inl ((mI S) 94 73)) (zT_is (zT_pi (zT_pi hS)) s_94) (zT_t (zT_pi (zT_pi hS)) s_94) rfl f_12_291_12 rfl ?_
        refine zw_push hm_190 dX12_keep_36 (v := .inl (1 : Int32)) rfl ?_
        refine zw_stk hm_190 dX12_keep_37 (st₉ := [.inl (((mI S) 94 73) + (1 : Int32)), .inr (.inr (some 94))]) rfl rfl ?_
        refine zw_pf hm_190 dX12_keep_38 (zT_is (zT_pi (zT_pi hS)) s_94) (zT_t (zT_pi (zT_pi hS)) s_94) p_12_291_12 zk_int ?_
        refine zw_vret hm_190 dX12_keep_41 ?_
        show ma_wp X d w 188 27 [(0, .inr (.inr (some 94))), (1, .inl l1)] [] (ma_put (ma_put (ma_put S 110 ((mI S) 112 l1.toNatClampNeg).toNatClampNeg (.inl (1 : Int32))) 118 ((mI S) 94 73).toNatClampNeg (.inl ((mI S) 112 l1.toNatClampNeg))) 94 73 (.inl (((mI S) 94 73) + (1 : Int32)))) _
        refine zw_sto hm_188 dX12_keepReached_27 [(1, .inl (l1 + (1 : Int32))), (0, .inr (.inr (some 94)))] rfl rfl rfl ?_
        refine zw_goto hm_188 dX12_keepReached_30 (t := 11) rfl ?_
        exact zw_sub (ma_nd_of (ks := [0, 1]) rfl (by decide)) (ma_nd_of (ks := [1, 0]) rfl (by decide)) (ma_le_cons rfl (ma_le_cons rfl (ma_le_nil _))) (h d w _ Q (by omega) (by omega) (zT_pi (zT_pi (zT_pi hS))) rfl HQ)
      · intro hc
        rw [if_neg hc] at h
        refine zw_vret hm_190 dX12_keep_13 ?_
        show ma_wp X d w 188 27 [(0, .inr (.inr (some 94))), (1, .inl l1)] [] S _
        refine zw_sto hm_188 dX12_keepReached_27 [(1, .inl (l1 + (1 : Int32))), (0, .inr (.inr (some 94)))] rfl rfl rfl ?_
        refine zw_goto hm_188 dX12_keepReached_30 (t := 11) rfl ?_
        exact zw_sub (ma_nd_of (ks := [0, 1]) rfl (by decide)) (ma_nd_of (ks := [1, 0]) rfl (by decide)) (ma_le_cons rfl (ma_le_cons rfl (ma_le_nil _))) (h d w _ Q (by omega) (by omega) hS rfl HQ)
theorem g_188_35 {X : Nat × (Nat → Int32)} {m : Nat → Nat → Int32} {P : Option ma_V → (Nat → Nat → Int32) → Prop} (l1 : Int32) (h : if (m 94 55) ≤ l1 then (zm X 3 66 188 61 [(0, .inr (.inr (some 94))), (1, .inl (0 : Int32))] m P) else ((0 ≤ l1 ∧ l1.toNatClampNeg < 3100) ∧ (if (m 114 l1.toNatClampNeg) < 0 then (zm X 3 66 188 35 [(0, .inr (.inr (some 94))), (1, .inl (l1 + (1 : Int32)))] m P) else ((0 ≤ (m 114 l1.toNatClampNeg) ∧ (m 114 l1.toNatClampNeg).toNatClampNeg < 3100) ∧ (if (m 110 (m 114 l1.toNatClampNeg).toNatClampNeg) = 0 then ((0 ≤ (m 114 l1.toNatClampNeg) ∧ (m 114 l1.toNatClampNeg).toNatClampNeg < 3100) ∧ ((0 ≤ (m 94 73) ∧ (m 94 73).toNatClampNeg < 3100) ∧ (zm X 3 66 188 35 [(0, .inr (.inr (some 94))), (1, .inl (l1 + (1 : Int32)))] (ma_u (ma_u (ma_u m 110 (m 114 l1.toNatClampNeg).toNatClampNeg (1 : Int32)) 118 (m 94 73).toNatClampNeg (m 114 l1.toNatClampNeg)) 94 73 ((m 94 73) + (1 : Int32))) P))) else (zm X 3 66 188 35 [(0, .inr (.inr (some 94))), (1, .inl (l1 + (1 : Int32)))] m P)))))) : zm X 3 66 188 35 [(0, .inr (.inr (some 94))), (1, .inl l1)] m P := by
  intro d w S Q hd hw hS hm HQ
  subst hm
  refine zw_push hm_188 dX12_keepReached_35 (v := .inl l1) rfl ?_
  refine zw_push hm_188 dX12_keepReached_36 (v := .inr (.inr (some 94))) rfl ?_
  refine zw_gf hm_188 dX12_keepReached_37 (v := .inl ((mI S) 94 55)) (zT_is hS s_94) (zT_t hS s_94) rfl f_12_261_12 rfl ?_
  refine zw_if2 hm_188 dX12_keepReached_40 (t := 59) rfl zc2_ge ?_ ?_
  · intro hc
    rw [if_pos hc] at h
    refine zw_push hm_188 dX12_keepReached_59 (v := .inl (0 : Int32)) rfl ?_
    refine zw_sto hm_188 dX12_keepReached_60 [(1, .inl (0 : Int32)), (0, .inr (.inr (some 94)))] rfl rfl rfl ?_
    exact zw_sub (ma_nd_of (ks := [0, 1]) rfl (by decide)) (ma_nd_of (ks := [1, 0]) rfl (by decide)) (ma_le_cons rfl (ma_le_cons rfl (ma_le_nil _))) (h d w _ Q (by omega) (by omega) hS rfl HQ)
  · intro hc
    rw [if_neg hc] at h
    refine zw_push hm_188 dX12_keepReached_43 (v := .inr (.inr (some 94))) rfl ?_
    refine zw_push hm_188 dX12_keepReached_44 (v := .inr (.inr (some 94))) rfl ?_
    refine zw_gf hm_188 dX12_keepReached_45 (v := .inr (.inr (some 114))) (zT_is hS s_94) (zT_t hS s_94) rfl f_12_74_12 (zT_f hS r_94_53) ?_
    refine zw_push hm_188 dX12_keepReached_48 (v := .inl l1) rfl ?_
    obtain ⟨hg, h⟩ := h
    refine zw_ia hm_188 dX12_keepReached_49 (zT_is hS s_114) (zT_h hS s_114) rfl hg ?_
    show ma_wp X d w 188 50 [(0, .inr (.inr (some 94))), (1, .inl l1)] [.inl ((mI S) 114 l1.toNatClampNeg), .inr (.inr (some 94))] S _
    refine zw_cv hm_188 dX12_keepReached_50 v_12_298_12 hm_190 [.inl ((mI S) 114 l1.toNatClampNeg)] [] rfl (zT_rt hS s_94 rfl) ⟨by omega, by omega⟩ rfl ?_
    show ma_wp X (d - 1) (w - 21) 190 0 [(0, .inr (.inr (some 94))), (1, .inl ((mI S) 114 l1.toNatClampNeg))] [] S _
    refine zw_push hm_190 dX12_keep_0 (v := .inl ((mI S) 114 l1.toNatClampNeg)) rfl ?_
    refine zw_if0 hm_190 dX12_keep_1 (t := 13) rfl zc0_lt ?_ ?_
    · intro hc
      rw [if_pos hc] at h
      refine zw_vret hm_190 dX12_keep_13 ?_
      show ma_wp X d w 188 53 [(0, .inr (.inr (some 94))), (1, .inl l1)] [] S _
      refine zw_sto hm_188 dX12_keepReached_53 [(1, .inl (l1 + (1 : Int32))), (0, .inr (.inr (some 94)))] rfl rfl rfl ?_
      refine zw_goto hm_188 dX12_keepReached_56 (t := 35) rfl ?_
      exact zw_sub (ma_nd_of (ks := [0, 1]) rfl (by decide)) (ma_nd_of (ks := [1, 0]) rfl (by decide)) (ma_le_cons rfl (ma_le_cons rfl (ma_le_nil _))) (h d w _ Q (by omega) (by omega) hS rfl HQ)
    · intro hc
      rw [if_neg hc] at h
      refine zw_push hm_190 dX12_keep_4 (v := .inr (.inr (some 94))) rfl ?_
      refine zw_gf hm_190 dX12_keep_5 (v := .inr (.inr (some 110))) (zT_is hS s_94) (zT_t hS s_94) rfl f_12_62_12 (zT_f hS r_94_42) ?_
      refine zw_push hm_190 dX12_keep_8 (v := .inl ((mI S) 114 l1.toNatClampNeg)) rfl ?_
      obtain ⟨hg, h⟩ := h
      refine zw_ba hm_190 dX12_keep_9 (zT_is hS s_110) (zT_h hS s_110) rfl rfl hg ?_
      show ma_wp X (d - 1) (w - 21) 190 10 [(0, .inr (.inr (some 94))), (1, .inl ((mI S) 114 l1.toNatClampNeg))] [.inl ((mI S) 110 ((mI S) 114 l1.toNatClampNeg).toNatClampNeg)] S _
      refine zw_if0 hm_190 dX12_keep_10 (t := 14) rfl zc0_eq ?_ ?_
      · intro hc
        rw [if_pos hc] at h
        refine zw_push hm_190 dX12_keep_14 (v := .inr (.inr (some 94))) rfl ?_
        refine zw_gf hm_190 dX12_keep_15 (v := .inr (.inr (some 110))) (zT_is hS s_94) (zT_t hS s_94) rfl f_12_62_12 (zT_f hS r_94_42) ?_
        refine zw_push hm_190 dX12_keep_18 (v := .inl ((mI S) 114 l1.toNatClampNeg)) rfl ?_
        refine zw_push hm_190 dX12_keep_19 (v := .inl (1 : Int32)) rfl ?_
        obtain ⟨hg, h⟩ := h
        refine zw_bas22l hm_190 dX12_keep_20 (hx := by decide) (yv := (1 : Int32)) (zT_is hS s_110) (zT_h hS s_110) rfl hg ?_
        refine zw_push hm_190 dX12_keep_21 (v := .inr (.inr (some 94))) rfl ?_
        refine zw_gf hm_190 dX12_keep_22 (v := .inr (.inr (some 118))) (zT_is (zT_pi hS) s_94) (zT_t (zT_pi hS) s_94) rfl f_12_86_12 (zT_f (zT_pi hS) r_94_72) ?_
        refine zw_push hm_190 dX12_keep_25 (v := .inr (.inr (some 94))) rfl ?_
        refine zw_gf hm_190 dX12_keep_26 (v := .inl ((mI S) 94 73)) (zT_is (zT_pi hS) s_94) (zT_t (zT_pi hS) s_94) rfl f_12_291_12 rfl ?_
        refine zw_push hm_190 dX12_keep_29 (v := .inl ((mI S) 114 l1.toNatClampNeg)) rfl ?_
        obtain ⟨hg, h⟩ := h
        refine zw_ias hm_190 dX12_keep_30 (zT_is (zT_pi hS) s_118) (zT_h (zT_pi hS) s_118) rfl hg ?_
        refine zw_push hm_190 dX12_keep_31 (v := .inr (.inr (some 94))) rfl ?_
        refine zw_stk hm_190 dX12_keep_32 (st₉ := [.inr (.inr (some 94)), .inr (.inr (some 94))]) rfl rfl ?_
        refine zw_gf hm_190 dX12_keep_33 (v := .inl ((mI S) 94 73)) (zT_is (zT_pi (zT_pi hS)) s_94) (zT_t (zT_pi (zT_pi hS)) s_94) rfl f_12_291_12 rfl ?_
        refine zw_push hm_190 dX12_keep_36 (v := .inl (1 : Int32)) rfl ?_
        refine zw_stk hm_190 dX12_keep_37 (st₉ := [.inl (((mI S) 94 73) + (1 : Int32)), .inr (.inr (some 94))]) rfl rfl ?_
        refine zw_pf hm_190 dX12_keep_38 (zT_is (zT_pi (zT_pi hS)) s_94) (zT_t (zT_pi (zT_pi hS)) s_94) p_12_291_12 zk_int ?_
        refine zw_vret hm_190 dX12_keep_41 ?_
        show ma_wp X d w 188 53 [(0, .inr (.inr (some 94))), (1, .inl l1)] [] (ma_put (ma_put (ma_put S 110 ((mI S) 114 l1.toNatClampNeg).toNatClampNeg (.inl (1 : Int32))) 118 ((mI S) 94 73).toNatClampNeg (.inl ((mI S) 114 l1.toNatClampNeg))) 94 73 (.inl (((mI S) 94 73) + (1 : Int32)))) _
        refine zw_sto hm_188 dX12_keepReached_53 [(1, .inl (l1 + (1 : Int32))), (0, .inr (.inr (some 94)))] rfl rfl rfl ?_
        refine zw_goto hm_188 dX12_keepReached_56 (t := 35) rfl ?_
        exact zw_sub (ma_nd_of (ks := [0, 1]) rfl (by decide)) (ma_nd_of (ks := [1, 0]) rfl (by decide)) (ma_le_cons rfl (ma_le_cons rfl (ma_le_nil _))) (h d w _ Q (by omega) (by omega) (zT_pi (zT_pi (zT_pi hS))) rfl HQ)
      · intro hc
        rw [if_neg hc] at h
        refine zw_vret hm_190 dX12_keep_13 ?_
        show ma_wp X d w 188 53 [(0, .inr (.inr (some 94))), (1, .inl l1)] [] S _
        refine zw_sto hm_188 dX12_keepReached_53 [(1, .inl (l1 + (1 : Int32))), (0, .inr (.inr (some 94)))] rfl rfl rfl ?_
        refine zw_goto hm_188 dX12_keepReached_56 (t := 35) rfl ?_
        exact zw_sub (ma_nd_of (ks := [0, 1]) rfl (by decide)) (ma_nd_of (ks := [1, 0]) rfl (by decide)) (ma_le_cons rfl (ma_le_cons rfl (ma_le_nil _))) (h d w _ Q (by omega) (by omega) hS rfl HQ)
theorem g_188_61 {X : Nat × (Nat → Int32)} {m : Nat → Nat → Int32} {P : Option ma_V → (Nat → Nat → Int32) → Prop} (l1 : Int32) (h : if (3100 : Int32) ≤ l1 then (zm X 2 44 191 0 [(0, .inr (.inr (some 94)))] m (zmv (fun m1 => P none m1))) else ((0 ≤ l1 ∧ l1.toNatClampNeg < 3100) ∧ (if (m 99 l1.toNatClampNeg) = 0 then (zm X 3 66 188 61 [(0, .inr (.inr (some 94))), (1, .inl (l1 + (1 : Int32)))] m P) else ((0 ≤ l1 ∧ l1.toNatClampNeg < 3100) ∧ (if (m 107 l1.toNatClampNeg) ≤ 0 then (zm X 3 66 188 61 [(0, .inr (.inr (some 94))), (1, .inl (l1 + (1 : Int32)))] m P) else (if l1 < 0 then (zm X 3 66 188 61 [(0, .inr (.inr (some 94))), (1, .inl (l1 + (1 : Int32)))] m P) else ((0 ≤ l1 ∧ l1.toNatClampNeg < 3100) ∧ (if (m 110 l1.toNatClampNeg) = 0 then ((0 ≤ l1 ∧ l1.toNatClampNeg < 3100) ∧ ((0 ≤ (m 94 73) ∧ (m 94 73).toNatClampNeg < 3100) ∧ (zm X 3 66 188 61 [(0, .inr (.inr (some 94))), (1, .inl (l1 + (1 : Int32)))] (ma_u (ma_u (ma_u m 110 l1.toNatClampNeg (1 : Int32)) 118 (m 94 73).toNatClampNeg l1) 94 73 ((m 94 73) + (1 : Int32))) P))) else (zm X 3 66 188 61 [(0, .inr (.inr (some 94))), (1, .inl (l1 + (1 : Int32)))] m P))))))))) : zm X 3 66 188 61 [(0, .inr (.inr (some 94))), (1, .inl l1)] m P := by
  intro d w S Q hd hw hS hm HQ
  subst hm
  refine zw_push hm_188 dX12_keepReached_61 (v := .inl l1) rfl ?_
  refine zw_push hm_188 dX12_keepReached_62 (v := .inl (3100 : Int32)) rfl ?_
  refine zw_if2 hm_188 dX12_keepReached_65 (t := 97) rfl zc2_ge ?_ ?_
  · intro hc
    rw [if_pos hc] at h
    refine zw_push hm_188 dX12_keepReached_97 (v := .inr (.inr (some 94))) rfl ?_
    refine zw_cv hm_188 dX12_keepReached_98 v_12_304_12 hm_191 [] [] rfl (zT_rt hS s_94 rfl) ⟨by omega, by omega⟩ rfl (h _ _ S _ (by omega) (by omega) hS rfl (fun o9 m1 hv => ?_))
    obtain ⟨rfl, h⟩ := zmv_of hv
    show ma_wp X d w 188 101 [(0, .inr (.inr (some 94))), (1, .inl l1)] [] (zst S m1) _
    exact zw_vret hm_188 dX12_keepReached_101 (HQ _ _ h)
  · intro hc
    rw [if_neg hc] at h
    refine zw_push hm_188 dX12_keepReached_68 (v := .inr (.inr (some 94))) rfl ?_
    refine zw_gf hm_188 dX12_keepReached_69 (v := .inr (.inr (some 99))) (zT_is hS s_94) (zT_t hS s_94) rfl f_12_27_12 (zT_f hS r_94_31) ?_
    refine zw_push hm_188 dX12_keepReached_72 (v := .inl l1) rfl ?_
    obtain ⟨hg, h⟩ := h
    refine zw_ba hm_188 dX12_keepReached_73 (zT_is hS s_99) (zT_h hS s_99) rfl rfl hg ?_
    show ma_wp X d w 188 74 [(0, .inr (.inr (some 94))), (1, .inl l1)] [.inl ((mI S) 99 l1.toNatClampNeg)] S _
    refine zw_if0 hm_188 dX12_keepReached_74 (t := 91) rfl zc0_eq ?_ ?_
    · intro hc
      rw [if_pos hc] at h
      refine zw_sto hm_188 dX12_keepReached_91 [(1, .inl (l1 + (1 : Int32))), (0, .inr (.inr (some 94)))] rfl rfl rfl ?_
      refine zw_goto hm_188 dX12_keepReached_94 (t := 61) rfl ?_
      exact zw_sub (ma_nd_of (ks := [0, 1]) rfl (by decide)) (ma_nd_of (ks := [1, 0]) rfl (by decide)) (ma_le_cons rfl (ma_le_cons rfl (ma_le_nil _))) (h d w _ Q (by omega) (by omega) hS rfl HQ)
    · intro hc
      rw [if_neg hc] at h
      refine zw_push hm_188 dX12_keepReached_77 (v := .inr (.inr (some 94))) rfl ?_
      refine zw_gf hm_188 dX12_keepReached_78 (v := .inr (.inr (some 107))) (zT_is hS s_94) (zT_t hS s_94) rfl f_12_52_12 (zT_f hS r_94_39) ?_
      refine zw_push hm_188 dX12_keepReached_81 (v := .inl l1) rfl ?_
      obtain ⟨hg, h⟩ := h
      refine zw_ia hm_188 dX12_keepReached_82 (zT_is hS s_107) (zT_h hS s_107) rfl hg ?_
      show ma_wp X d w 188 83 [(0, .inr (.inr (some 94))), (1, .inl l1)] [.inl ((mI S) 107 l1.toNatClampNeg)] S _
      refine zw_if0 hm_188 dX12_keepReached_83 (t := 91) rfl zc0_le ?_ ?_
      · intro hc
        rw [if_pos hc] at h
        refine zw_sto hm_188 dX12_keepReached_91 [(1, .inl (l1 + (1 : Int32))), (0, .inr (.inr (some 94)))] rfl rfl rfl ?_
        refine zw_goto hm_188 dX12_keepReached_94 (t := 61) rfl ?_
        exact zw_sub (ma_nd_of (ks := [0, 1]) rfl (by decide)) (ma_nd_of (ks := [1, 0]) rfl (by decide)) (ma_le_cons rfl (ma_le_cons rfl (ma_le_nil _))) (h d w _ Q (by omega) (by omega) hS rfl HQ)
      · intro hc
        rw [if_neg hc] at h
        refine zw_push hm_188 dX12_keepReached_86 (v := .inr (.inr (some 94))) rfl ?_
        refine zw_push hm_188 dX12_keepReached_87 (v := .inl l1) rfl ?_
        refine zw_cv hm_188 dX12_keepReached_88 v_12_298_12 hm_190 [.inl l1] [] rfl (zT_rt hS s_94 rfl) ⟨by omega, by omega⟩ rfl ?_
        show ma_wp X (d - 1) (w - 21) 190 0 [(0, .inr (.inr (some 94))), (1, .inl l1)] [] S _
        refine zw_push hm_190 dX12_keep_0 (v := .inl l1) rfl ?_
        refine zw_if0 hm_190 dX12_keep_1 (t := 13) rfl zc0_lt ?_ ?_
        · intro hc
          rw [if_pos hc] at h
          refine zw_vret hm_190 dX12_keep_13 ?_
          show ma_wp X d w 188 91 [(0, .inr (.inr (some 94))), (1, .inl l1)] [] S _
          refine zw_sto hm_188 dX12_keepReached_91 [(1, .inl (l1 + (1 : Int32))), (0, .inr (.inr (some 94)))] rfl rfl rfl ?_
          refine zw_goto hm_188 dX12_keepReached_94 (t := 61) rfl ?_
          exact zw_sub (ma_nd_of (ks := [0, 1]) rfl (by decide)) (ma_nd_of (ks := [1, 0]) rfl (by decide)) (ma_le_cons rfl (ma_le_cons rfl (ma_le_nil _))) (h d w _ Q (by omega) (by omega) hS rfl HQ)
        · intro hc
          rw [if_neg hc] at h
          refine zw_push hm_190 dX12_keep_4 (v := .inr (.inr (some 94))) rfl ?_
          refine zw_gf hm_190 dX12_keep_5 (v := .inr (.inr (some 110))) (zT_is hS s_94) (zT_t hS s_94) rfl f_12_62_12 (zT_f hS r_94_42) ?_
          refine zw_push hm_190 dX12_keep_8 (v := .inl l1) rfl ?_
          obtain ⟨hg, h⟩ := h
          refine zw_ba hm_190 dX12_keep_9 (zT_is hS s_110) (zT_h hS s_110) rfl rfl hg ?_
          show ma_wp X (d - 1) (w - 21) 190 10 [(0, .inr (.inr (some 94))), (1, .inl l1)] [.inl ((mI S) 110 l1.toNatClampNeg)] S _
          refine zw_if0 hm_190 dX12_keep_10 (t := 14) rfl zc0_eq ?_ ?_
          · intro hc
            rw [if_pos hc] at h
            refine zw_push hm_190 dX12_keep_14 (v := .inr (.inr (some 94))) rfl ?_
            refine zw_gf hm_190 dX12_keep_15 (v := .inr (.inr (some 110))) (zT_is hS s_94) (zT_t hS s_94) rfl f_12_62_12 (zT_f hS r_94_42) ?_
            refine zw_push hm_190 dX12_keep_18 (v := .inl l1) rfl ?_
            refine zw_push hm_190 dX12_keep_19 (v := .inl (1 : Int32)) rfl ?_
            obtain ⟨hg, h⟩ := h
            refine zw_bas22l hm_190 dX12_keep_20 (hx := by decide) (yv := (1 : Int32)) (zT_is hS s_110) (zT_h hS s_110) rfl hg ?_
            refine zw_push hm_190 dX12_keep_21 (v := .inr (.inr (some 94))) rfl ?_
            refine zw_gf hm_190 dX12_keep_22 (v := .inr (.inr (some 118))) (zT_is (zT_pi hS) s_94) (zT_t (zT_pi hS) s_94) rfl f_12_86_12 (zT_f (zT_pi hS) r_94_72) ?_
            refine zw_push hm_190 dX12_keep_25 (v := .inr (.inr (some 94))) rfl ?_
            refine zw_gf hm_190 dX12_keep_26 (v := .inl ((mI S) 94 73)) (zT_is (zT_pi hS) s_94) (zT_t (zT_pi hS) s_94) rfl f_12_291_12 rfl ?_
            refine zw_push hm_190 dX12_keep_29 (v := .inl l1) rfl ?_
            obtain ⟨hg, h⟩ := h
            refine zw_ias hm_190 dX12_keep_30 (zT_is (zT_pi hS) s_118) (zT_h (zT_pi hS) s_118) rfl hg ?_
            refine zw_push hm_190 dX12_keep_31 (v := .inr (.inr (some 94))) rfl ?_
            refine zw_stk hm_190 dX12_keep_32 (st₉ := [.inr (.inr (some 94)), .inr (.inr (some 94))]) rfl rfl ?_
            refine zw_gf hm_190 dX12_keep_33 (v := .inl ((mI S) 94 73)) (zT_is (zT_pi (zT_pi hS)) s_94) (zT_t (zT_pi (zT_pi hS)) s_94) rfl f_12_291_12 rfl ?_
            refine zw_push hm_190 dX12_keep_36 (v := .inl (1 : Int32)) rfl ?_
            refine zw_stk hm_190 dX12_keep_37 (st₉ := [.inl (((mI S) 94 73) + (1 : Int32)), .inr (.inr (some 94))]) rfl rfl ?_
            refine zw_pf hm_190 dX12_keep_38 (zT_is (zT_pi (zT_pi hS)) s_94) (zT_t (zT_pi (zT_pi hS)) s_94) p_12_291_12 zk_int ?_
            refine zw_vret hm_190 dX12_keep_41 ?_
            show ma_wp X d w 188 91 [(0, .inr (.inr (some 94))), (1, .inl l1)] [] (ma_put (ma_put (ma_put S 110 l1.toNatClampNeg (.inl (1 : Int32))) 118 ((mI S) 94 73).toNatClampNeg (.inl l1)) 94 73 (.inl (((mI S) 94 73) + (1 : Int32)))) _
            refine zw_sto hm_188 dX12_keepReached_91 [(1, .inl (l1 + (1 : Int32))), (0, .inr (.inr (some 94)))] rfl rfl rfl ?_
            refine zw_goto hm_188 dX12_keepReached_94 (t := 61) rfl ?_
            exact zw_sub (ma_nd_of (ks := [0, 1]) rfl (by decide)) (ma_nd_of (ks := [1, 0]) rfl (by decide)) (ma_le_cons rfl (ma_le_cons rfl (ma_le_nil _))) (h d w _ Q (by omega) (by omega) (zT_pi (zT_pi (zT_pi hS))) rfl HQ)
          · intro hc
            rw [if_neg hc] at h
            refine zw_vret hm_190 dX12_keep_13 ?_
            show ma_wp X d w 188 91 [(0, .inr (.inr (some 94))), (1, .inl l1)] [] S _
            refine zw_sto hm_188 dX12_keepReached_91 [(1, .inl (l1 + (1 : Int32))), (0, .inr (.inr (some 94)))] rfl rfl rfl ?_
            refine zw_goto hm_188 dX12_keepReached_94 (t := 61) rfl ?_
            exact zw_sub (ma_nd_of (ks := [0, 1]) rfl (by decide)) (ma_nd_of (ks := [1, 0]) rfl (by decide)) (ma_le_cons rfl (ma_le_cons rfl (ma_le_nil _))) (h d w _ Q (by omega) (by omega) hS rfl HQ)
theorem lp_188_61 {X : Nat × (Nat → Int32)} {P : Option ma_V → (Nat → Nat → Int32) → Prop} {m0 : Nat → Nat → Int32} (h0 : zV m0) (K : ∀ m₉, zF wr_188 m0 m₉ → zV m₉ → ((m₉ 94 73).toInt = 0) → (((m₉ 94 10).toInt = 2 ∨ (m₉ 94 10).toInt = 3) → zCL (m₉ 110) (m₉ 98) (m₉ 101) (m₉ 102) (m₉ 108) (m₉ 118) (m₉ 94 73) 3100 0) → (zKU (m₉ 94 10) (m₉ 99) (m₉ 110)) → (((m₉ 94 10).toInt = 2 ∨ (m₉ 94 10).toInt = 3) → zcov (m₉ 110) (m₉ 112) 16) → (((m₉ 94 10).toInt = 2 ∨ (m₉ 94 10).toInt = 3) → zcov (m₉ 110) (m₉ 114) (m₉ 94 55).toInt) → P none m₉) : ∀ (n : Nat) (m : Nat → Nat → Int32) (l1 : Int32), (3100 - l1.toInt).toNat = n → zF wr_188 m0 m → zV m → (0 ≤ l1.toInt) → (zKS (m 110) (m 94 73)) → (zW (m 94 7) (m 98) (m 101) (m 102) (m 108)) → (((m 94 10).toInt = 2 ∨ (m 94 10).toInt = 3) → zCL (m 110) (m 98) (m 101) (m 102) (m 108) (m 118) (m 94 73) 3100 0) → (zKU (m 94 10) (m 99) (m 110)) → (zDX (m 94 10) (m 99) (m 112) (m 113) (m 114) (m 94 55) (m 98) (m 101) (m 102) (m 108)) → (((m 94 10).toInt = 2 ∨ (m 94 10).toInt = 3) → zcov (m 110) (m 112) 16) → (((m 94 10).toInt = 2 ∨ (m 94 10).toInt = 3) → zcov (m 110) (m 114) (m 94 55).toInt) → zm X 3 66 188 61 [(0, .inr (.inr (some 94))), (1, .inl l1)] m P := by
  intro n
  induction n using Nat.strongRecOn with
  | _ n IH =>
    intro m l1 hmu hF hV hi0 r_KS r_W r_CL r_KU r_DX r_COVR r_COVW
    refine g_188_61 l1 ?_
    have li1 : (3100 : Int32).toInt = 3100 := rfl
    have b2 := i_bd l1
    refine zd (fun (h3 : (3100 : Int32) ≤ l1) => ?_) (fun (h3 : ¬ (3100 : Int32) ≤ l1) => ?_)
    · skip
      have g4 := i_le h3
      refine sp_191  hV r_KS r_W r_CL r_KU r_DX (fun m1 hV_m1 p0_m1 p1_m1 p2_m1 p3_m1 => zmv_n ?_)
      have p0_m1 : (m1 94 73).toInt = 0 := p0_m1
      have p1_m1 : ((m 94 10).toInt = 2 ∨ (m 94 10).toInt = 3) → zCL (m1 110) (m 98) (m 101) (m 102) (m 108) (m1 118) (m1 94 73) 3100 0 := p1_m1
      have p2_m1 : zle (m 110) (m1 110) := p2_m1
      have p3_m1 : zKU (m 94 10) (m 99) (m1 110) := p3_m1
      have f5 : 0 ≤ (m1 94 73).toInt ∧ (m1 94 73).toInt ≤ 3100 := rs_94_73 (m := (zov wr_191 m m1)) hV_m1
      exact K _ (zF_zov hF ws_191_188) hV_m1 (show (m1 94 73).toInt = 0 from by omega) p1_m1 p3_m1 (show ((m 94 10).toInt = 2 ∨ (m 94 10).toInt = 3) → zcov (m1 110) (m 112) 16 from by first | (exact fun hp => cov_le (r_COVR hp) p2_m1 (fun k hk => (ra_112 hV_m1 (by omega)).2)) | (exact fun hp => cov_0 (by decide)) | (exact fun hp => cov_one (r_COVR hp) rfl (by omega) (by omega) (Or.inl (by omega))) | (exact fun hp => cov_one (r_COVR hp) rfl (by omega) (by omega) (Or.inr (by assumption))) | (exact fun hp => cov_cut (r_COVR hp) (by omega)) | (exact fun hp => cov_le (r_COVR hp) p2_m1 (fun k hk => (ra_114 hV_m1 (by have := rs_94_55 hV; omega)).2)) | (exfalso; omega; done) | (exfalso; contradiction; done)) (show ((m 94 10).toInt = 2 ∨ (m 94 10).toInt = 3) → zcov (m1 110) (m 114) (m 94 55).toInt from by first | (exact fun hp => cov_le (r_COVW hp) p2_m1 (fun k hk => (ra_114 hV_m1 (by have := rs_94_55 hV; omega)).2)) | (exact fun hp => cov_0 (by decide)) | (exact fun hp => cov_one (r_COVW hp) rfl (by omega) (by omega) (Or.inl (by omega))) | (exact fun hp => cov_one (r_COVW hp) rfl (by omega) (by omega) (Or.inr (by assumption))) | (exact fun hp => cov_cut (r_COVW hp) (by omega)) | (exact fun hp => cov_le (r_COVW hp) p2_m1 (fun k hk => (ra_112 hV_m1 (by omega)).2)) | (exfalso; omega; done) | (exfalso; contradiction; done))
    · skip
      have g6 := i_nle h3
      have hg7 : (0 ≤ l1 ∧ l1.toNatClampNeg < 3100) := i_ix (by omega) (by omega)
      refine ⟨hg7, ?_⟩
      first | have f8 : 0 ≤ (m 99 l1.toNatClampNeg).toInt ∧ (m 99 l1.toNatClampNeg).toInt ≤ 1 := ra_99 (m := m) hV (k := l1.toNatClampNeg) (i_ix (n := 3100) (by omega) (by omega)).2 | have b9 := i_bd (m 99 l1.toNatClampNeg)
      have li10 : (0 : Int32).toInt = 0 := rfl
      refine zd (fun (h11 : (m 99 l1.toNatClampNeg) = (0 : Int32)) => ?_) (fun (h11 : ¬ (m 99 l1.toNatClampNeg) = (0 : Int32)) => ?_)
      · skip
        have g12 := i_eq h11
        first | have e13 : (l1 + (1 : Int32)).toInt = l1.toInt + (1) := i_addk rfl (by omega) (by omega) | have b14 := i_bd (l1 + (1 : Int32))
        exact IH (3100 - (l1 + (1 : Int32)).toInt).toNat (by omega) _ ((l1 + (1 : Int32))) rfl hF hV (by omega) r_KS r_W r_CL r_KU r_DX r_COVR r_COVW
      · skip
        have g15 := i_ne h11
        have hg16 : (0 ≤ l1 ∧ l1.toNatClampNeg < 3100) := i_ix (by omega) (by omega)
        refine ⟨hg16, ?_⟩
        have b17 := i_bd (m 107 l1.toNatClampNeg)
        refine zd (fun (h18 : (m 107 l1.toNatClampNeg) ≤ (0 : Int32)) => ?_) (fun (h18 : ¬ (m 107 l1.toNatClampNeg) ≤ (0 : Int32)) => ?_)
        · skip
          have g19 := i_le h18
          first | have e20 : (l1 + (1 : Int32)).toInt = l1.toInt + (1) := i_addk rfl (by omega) (by omega) | have b21 := i_bd (l1 + (1 : Int32))
          exact IH (3100 - (l1 + (1 : Int32)).toInt).toNat (by omega) _ ((l1 + (1 : Int32))) rfl hF hV (by omega) r_KS r_W r_CL r_KU r_DX r_COVR r_COVW
        · skip
          have g22 := i_nle h18
          refine zd (fun (h23 : l1 < (0 : Int32)) => ?_) (fun (h23 : ¬ l1 < (0 : Int32)) => ?_)
          · skip
            have g24 := i_lt h23
            first | have e25 : (l1 + (1 : Int32)).toInt = l1.toInt + (1) := i_addk rfl (by omega) (by omega) | have b26 := i_bd (l1 + (1 : Int32))
            exact IH (3100 - (l1 + (1 : Int32)).toInt).toNat (by omega) _ ((l1 + (1 : Int32))) rfl hF hV (by omega) r_KS r_W r_CL r_KU r_DX r_COVR r_COVW
          · skip
            have g27 := i_nlt h23
            have hg28 : (0 ≤ l1 ∧ l1.toNatClampNeg < 3100) := i_ix (by omega) (by omega)
            refine ⟨hg28, ?_⟩
            first | have f29 : 0 ≤ (m 110 l1.toNatClampNeg).toInt ∧ (m 110 l1.toNatClampNeg).toInt ≤ 1 := ra_110 (m := m) hV (k := l1.toNatClampNeg) (i_ix (n := 3100) (by omega) (by omega)).2 | have b30 := i_bd (m 110 l1.toNatClampNeg)
            refine zd (fun (h31 : (m 110 l1.toNatClampNeg) = (0 : Int32)) => ?_) (fun (h31 : ¬ (m 110 l1.toNatClampNeg) = (0 : Int32)) => ?_)
            · skip
              have g32 := i_eq h31
              have hg33 : (0 ≤ l1 ∧ l1.toNatClampNeg < 3100) := i_ix (by omega) (by omega)
              refine ⟨hg33, ?_⟩
              have f34 : 0 ≤ (m 94 73).toInt ∧ (m 94 73).toInt ≤ 3100 := rs_94_73 (m := m) hV
              try have gk := KS_room r_KS (by assumption) (by omega)
              have hg35 : (0 ≤ (m 94 73) ∧ (m 94 73).toNatClampNeg < 3100) := i_ix (by omega) (by omega)
              refine ⟨hg35, ?_⟩
              have li37 : (1 : Int32).toInt = 1 := rfl
              have hV36 : zV (ma_u m 110 l1.toNatClampNeg (1 : Int32)) := ua_110 hV (by omega) (by omega)
              have hV38 : zV (ma_u (ma_u m 110 l1.toNatClampNeg (1 : Int32)) 118 (m 94 73).toNatClampNeg l1) := ua_118 hV36 (by omega) (by omega)
              first | have e40 : ((m 94 73) + (1 : Int32)).toInt = (m 94 73).toInt + (1) := i_addk rfl (by omega) (by omega) | have b41 := i_bd ((m 94 73) + (1 : Int32))
              have hV39 : zV (ma_u (ma_u (ma_u m 110 l1.toNatClampNeg (1 : Int32)) 118 (m 94 73).toNatClampNeg l1) 94 73 ((m 94 73) + (1 : Int32))) := us_94_73 hV38 (by omega) (by omega)
              first | have e42 : (l1 + (1 : Int32)).toInt = l1.toInt + (1) := i_addk rfl (by omega) (by omega) | have b43 := i_bd (l1 + (1 : Int32))
              exact IH (3100 - (l1 + (1 : Int32)).toInt).toNat (by omega) _ ((l1 + (1 : Int32))) rfl (zF_u (zF_u (zF_u hF rfl) rfl) rfl) hV39 (by omega) (show zKS ((ma_u m 110 l1.toNatClampNeg (1 : Int32)) 110) ((m 94 73) + (1 : Int32)) from by first | (exact KS_push r_KS (by assumption) (by omega) (by decide) (by assumption)) | (exact KS_push (KS_0 (r := m 110) (y := m 94 73) (by omega)) (by assumption) (by omega) (by decide) (by assumption)) | (exfalso; omega; done) | (exfalso; contradiction; done)) r_W (show ((m 94 10).toInt = 2 ∨ (m 94 10).toInt = 3) → zCL ((ma_u m 110 l1.toNatClampNeg (1 : Int32)) 110) (m 98) (m 101) (m 102) (m 108) ((ma_u m 118 (m 94 73).toNatClampNeg l1) 118) ((m 94 73) + (1 : Int32)) 3100 0 from by first | (exact fun hp => CL_push (r_CL hp) (by decide) (by omega) rfl (by assumption)) | (exfalso; omega; done) | (exfalso; contradiction; done)) (show zKU (m 94 10) (m 99) ((ma_u m 110 l1.toNatClampNeg (1 : Int32)) 110) from by first | (exact KU_push r_KU (fun _ => by assumption)) | (exfalso; omega; done) | (exfalso; contradiction; done)) r_DX (show ((m 94 10).toInt = 2 ∨ (m 94 10).toInt = 3) → zcov ((ma_u m 110 l1.toNatClampNeg (1 : Int32)) 110) (m 112) 16 from by first | (exact fun hp => cov_push (r_COVR hp) (by decide)) | (exact fun hp => cov_one (cov_push (r_COVR hp) (by decide)) rfl (by omega) (by omega) (Or.inr (by rw [mu_self]; decide))) | (exfalso; omega; done) | (exfalso; contradiction; done)) (show ((m 94 10).toInt = 2 ∨ (m 94 10).toInt = 3) → zcov ((ma_u m 110 l1.toNatClampNeg (1 : Int32)) 110) (m 114) (m 94 55).toInt from by first | (exact fun hp => cov_push (r_COVW hp) (by decide)) | (exact fun hp => cov_one (cov_push (r_COVW hp) (by decide)) rfl (by omega) (by omega) (Or.inr (by rw [mu_self]; decide))) | (exfalso; omega; done) | (exfalso; contradiction; done))
            · skip
              have g44 := i_ne h31
              first | have e45 : (l1 + (1 : Int32)).toInt = l1.toInt + (1) := i_addk rfl (by omega) (by omega) | have b46 := i_bd (l1 + (1 : Int32))
              exact IH (3100 - (l1 + (1 : Int32)).toInt).toNat (by omega) _ ((l1 + (1 : Int32))) rfl hF hV (by omega) r_KS r_W r_CL r_KU r_DX r_COVR r_COVW
theorem lp_188_35 {X : Nat × (Nat → Int32)} {P : Option ma_V → (Nat → Nat → Int32) → Prop} {m0 : Nat → Nat → Int32} (h0 : zV m0) (K : ∀ m₉, zF wr_188 m0 m₉ → zV m₉ → ((m₉ 94 73).toInt = 0) → (((m₉ 94 10).toInt = 2 ∨ (m₉ 94 10).toInt = 3) → zCL (m₉ 110) (m₉ 98) (m₉ 101) (m₉ 102) (m₉ 108) (m₉ 118) (m₉ 94 73) 3100 0) → (zKU (m₉ 94 10) (m₉ 99) (m₉ 110)) → (((m₉ 94 10).toInt = 2 ∨ (m₉ 94 10).toInt = 3) → zcov (m₉ 110) (m₉ 112) 16) → (((m₉ 94 10).toInt = 2 ∨ (m₉ 94 10).toInt = 3) → zcov (m₉ 110) (m₉ 114) (m₉ 94 55).toInt) → P none m₉) : ∀ (n : Nat) (m : Nat → Nat → Int32) (l1 : Int32), (3100 - l1.toInt).toNat = n → zF wr_188 m0 m → zV m → (0 ≤ l1.toInt) → (zKS (m 110) (m 94 73)) → (zW (m 94 7) (m 98) (m 101) (m 102) (m 108)) → (((m 94 10).toInt = 2 ∨ (m 94 10).toInt = 3) → zCL (m 110) (m 98) (m 101) (m 102) (m 108) (m 118) (m 94 73) 3100 0) → (zKU (m 94 10) (m 99) (m 110)) → (zDX (m 94 10) (m 99) (m 112) (m 113) (m 114) (m 94 55) (m 98) (m 101) (m 102) (m 108)) → (((m 94 10).toInt = 2 ∨ (m 94 10).toInt = 3) → zcov (m 110) (m 112) 16) → (((m 94 10).toInt = 2 ∨ (m 94 10).toInt = 3) → zcov (m 110) (m 114) l1.toInt) → zm X 3 66 188 35 [(0, .inr (.inr (some 94))), (1, .inl l1)] m P := by
  intro n
  induction n using Nat.strongRecOn with
  | _ n IH =>
    intro m l1 hmu hF hV hi0 r_KS r_W r_CL r_KU r_DX r_COVR r_COVW
    refine g_188_35 l1 ?_
    have f1 : 0 ≤ (m 94 55).toInt ∧ (m 94 55).toInt ≤ 3100 := rs_94_55 (m := m) hV
    have b2 := i_bd l1
    refine zd (fun (h3 : (m 94 55) ≤ l1) => ?_) (fun (h3 : ¬ (m 94 55) ≤ l1) => ?_)
    · skip
      have g4 := i_le h3
      have li5 : (0 : Int32).toInt = 0 := rfl
      exact lp_188_61 h0 K _ _ ((0 : Int32)) rfl hF hV (by omega) r_KS r_W r_CL r_KU r_DX r_COVR (show ((m 94 10).toInt = 2 ∨ (m 94 10).toInt = 3) → zcov (m 110) (m 114) (m 94 55).toInt from by first | (exact fun hp => cov_cut (r_COVW hp) (by omega)) | (exact fun hp => cov_0 (by decide)) | (exact fun hp => cov_one (r_COVW hp) rfl (by omega) (by omega) (Or.inl (by omega))) | (exact fun hp => cov_one (r_COVW hp) rfl (by omega) (by omega) (Or.inr (by assumption))) | (exfalso; omega; done) | (exfalso; contradiction; done))
    · skip
      have g6 := i_nle h3
      have hg7 : (0 ≤ l1 ∧ l1.toNatClampNeg < 3100) := i_ix (by omega) (by omega)
      refine ⟨hg7, ?_⟩
      first | have f8 : 0 ≤ (m 114 l1.toNatClampNeg).toInt ∧ (m 114 l1.toNatClampNeg).toInt ≤ 3099 := ra_114 (m := m) hV (k := l1.toNatClampNeg) (i_ix (n := 3100) (by omega) (by omega)).2 | have b9 := i_bd (m 114 l1.toNatClampNeg)
      have li10 : (0 : Int32).toInt = 0 := rfl
      refine zd (fun (h11 : (m 114 l1.toNatClampNeg) < (0 : Int32)) => ?_) (fun (h11 : ¬ (m 114 l1.toNatClampNeg) < (0 : Int32)) => ?_)
      · skip
        have g12 := i_lt h11
        first | have e13 : (l1 + (1 : Int32)).toInt = l1.toInt + (1) := i_addk rfl (by omega) (by omega) | have b14 := i_bd (l1 + (1 : Int32))
        exact IH (3100 - (l1 + (1 : Int32)).toInt).toNat (by omega) _ ((l1 + (1 : Int32))) rfl hF hV (by omega) r_KS r_W r_CL r_KU r_DX r_COVR (show ((m 94 10).toInt = 2 ∨ (m 94 10).toInt = 3) → zcov (m 110) (m 114) (l1 + (1 : Int32)).toInt from by first | (exact fun hp => cov_one (r_COVW hp) rfl (by omega) (by omega) (Or.inl (by omega))) | (exact fun hp => cov_0 (by decide)) | (exact fun hp => cov_one (r_COVW hp) rfl (by omega) (by omega) (Or.inr (by assumption))) | (exact fun hp => cov_cut (r_COVW hp) (by omega)) | (exfalso; omega; done) | (exfalso; contradiction; done))
      · skip
        have g15 := i_nlt h11
        have hg16 : (0 ≤ (m 114 l1.toNatClampNeg) ∧ (m 114 l1.toNatClampNeg).toNatClampNeg < 3100) := i_ix (by omega) (by omega)
        refine ⟨hg16, ?_⟩
        first | have f17 : 0 ≤ (m 110 (m 114 l1.toNatClampNeg).toNatClampNeg).toInt ∧ (m 110 (m 114 l1.toNatClampNeg).toNatClampNeg).toInt ≤ 1 := ra_110 (m := m) hV (k := (m 114 l1.toNatClampNeg).toNatClampNeg) (i_ix (n := 3100) (by omega) (by omega)).2 | have b18 := i_bd (m 110 (m 114 l1.toNatClampNeg).toNatClampNeg)
        refine zd (fun (h19 : (m 110 (m 114 l1.toNatClampNeg).toNatClampNeg) = (0 : Int32)) => ?_) (fun (h19 : ¬ (m 110 (m 114 l1.toNatClampNeg).toNatClampNeg) = (0 : Int32)) => ?_)
        · skip
          have g20 := i_eq h19
          have hg21 : (0 ≤ (m 114 l1.toNatClampNeg) ∧ (m 114 l1.toNatClampNeg).toNatClampNeg < 3100) := i_ix (by omega) (by omega)
          refine ⟨hg21, ?_⟩
          have f22 : 0 ≤ (m 94 73).toInt ∧ (m 94 73).toInt ≤ 3100 := rs_94_73 (m := m) hV
          try have gk := KS_room r_KS (by assumption) (by omega)
          have hg23 : (0 ≤ (m 94 73) ∧ (m 94 73).toNatClampNeg < 3100) := i_ix (by omega) (by omega)
          refine ⟨hg23, ?_⟩
          have li25 : (1 : Int32).toInt = 1 := rfl
          have hV24 : zV (ma_u m 110 (m 114 l1.toNatClampNeg).toNatClampNeg (1 : Int32)) := ua_110 hV (by omega) (by omega)
          have hV26 : zV (ma_u (ma_u m 110 (m 114 l1.toNatClampNeg).toNatClampNeg (1 : Int32)) 118 (m 94 73).toNatClampNeg (m 114 l1.toNatClampNeg)) := ua_118 hV24 (by omega) (by omega)
          first | have e28 : ((m 94 73) + (1 : Int32)).toInt = (m 94 73).toInt + (1) := i_addk rfl (by omega) (by omega) | have b29 := i_bd ((m 94 73) + (1 : Int32))
          have hV27 : zV (ma_u (ma_u (ma_u m 110 (m 114 l1.toNatClampNeg).toNatClampNeg (1 : Int32)) 118 (m 94 73).toNatClampNeg (m 114 l1.toNatClampNeg)) 94 73 ((m 94 73) + (1 : Int32))) := us_94_73 hV26 (by omega) (by omega)
          first | have e30 : (l1 + (1 : Int32)).toInt = l1.toInt + (1) := i_addk rfl (by omega) (by omega) | have b31 := i_bd (l1 + (1 : Int32))
          exact IH (3100 - (l1 + (1 : Int32)).toInt).toNat (by omega) _ ((l1 + (1 : Int32))) rfl (zF_u (zF_u (zF_u hF rfl) rfl) rfl) hV27 (by omega) (show zKS ((ma_u m 110 (m 114 l1.toNatClampNeg).toNatClampNeg (1 : Int32)) 110) ((m 94 73) + (1 : Int32)) from by first | (exact KS_push r_KS (by assumption) (by omega) (by decide) (by assumption)) | (exact KS_push (KS_0 (r := m 110) (y := m 94 73) (by omega)) (by assumption) (by omega) (by decide) (by assumption)) | (exfalso; omega; done) | (exfalso; contradiction; done)) r_W (show ((m 94 10).toInt = 2 ∨ (m 94 10).toInt = 3) → zCL ((ma_u m 110 (m 114 l1.toNatClampNeg).toNatClampNeg (1 : Int32)) 110) (m 98) (m 101) (m 102) (m 108) ((ma_u m 118 (m 94 73).toNatClampNeg (m 114 l1.toNatClampNeg)) 118) ((m 94 73) + (1 : Int32)) 3100 0 from by first | (exact fun hp => CL_push (r_CL hp) (by decide) (by omega) rfl (by assumption)) | (exfalso; omega; done) | (exfalso; contradiction; done)) (show zKU (m 94 10) (m 99) ((ma_u m 110 (m 114 l1.toNatClampNeg).toNatClampNeg (1 : Int32)) 110) from by first | (exact KU_push r_KU (fun hp => KU_root (r_DX hp).2.2.1 (j := l1) (by omega) (by omega) rfl (by omega))) | (exfalso; omega; done) | (exfalso; contradiction; done)) r_DX (show ((m 94 10).toInt = 2 ∨ (m 94 10).toInt = 3) → zcov ((ma_u m 110 (m 114 l1.toNatClampNeg).toNatClampNeg (1 : Int32)) 110) (m 112) 16 from by first | (exact fun hp => cov_push (r_COVR hp) (by decide)) | (exact fun hp => cov_one (cov_push (r_COVR hp) (by decide)) rfl (by omega) (by omega) (Or.inr (by rw [mu_self]; decide))) | (exfalso; omega; done) | (exfalso; contradiction; done)) (show ((m 94 10).toInt = 2 ∨ (m 94 10).toInt = 3) → zcov ((ma_u m 110 (m 114 l1.toNatClampNeg).toNatClampNeg (1 : Int32)) 110) (m 114) (l1 + (1 : Int32)).toInt from by first | (exact fun hp => cov_one (cov_push (r_COVW hp) (by decide)) rfl (by omega) (by omega) (Or.inr (by rw [mu_self]; decide))) | (exact fun hp => cov_push (r_COVW hp) (by decide)) | (exfalso; omega; done) | (exfalso; contradiction; done))
        · skip
          have g32 := i_ne h19
          first | have e33 : (l1 + (1 : Int32)).toInt = l1.toInt + (1) := i_addk rfl (by omega) (by omega) | have b34 := i_bd (l1 + (1 : Int32))
          exact IH (3100 - (l1 + (1 : Int32)).toInt).toNat (by omega) _ ((l1 + (1 : Int32))) rfl hF hV (by omega) r_KS r_W r_CL r_KU r_DX r_COVR (show ((m 94 10).toInt = 2 ∨ (m 94 10).toInt = 3) → zcov (m 110) (m 114) (l1 + (1 : Int32)).toInt from by first | (exact fun hp => cov_one (r_COVW hp) rfl (by omega) (by omega) (Or.inr (by assumption))) | (exact fun hp => cov_0 (by decide)) | (exact fun hp => cov_one (r_COVW hp) rfl (by omega) (by omega) (Or.inl (by omega))) | (exact fun hp => cov_cut (r_COVW hp) (by omega)) | (exfalso; omega; done) | (exfalso; contradiction; done))
theorem lp_188_11 {X : Nat × (Nat → Int32)} {P : Option ma_V → (Nat → Nat → Int32) → Prop} {m0 : Nat → Nat → Int32} (h0 : zV m0) (K : ∀ m₉, zF wr_188 m0 m₉ → zV m₉ → ((m₉ 94 73).toInt = 0) → (((m₉ 94 10).toInt = 2 ∨ (m₉ 94 10).toInt = 3) → zCL (m₉ 110) (m₉ 98) (m₉ 101) (m₉ 102) (m₉ 108) (m₉ 118) (m₉ 94 73) 3100 0) → (zKU (m₉ 94 10) (m₉ 99) (m₉ 110)) → (((m₉ 94 10).toInt = 2 ∨ (m₉ 94 10).toInt = 3) → zcov (m₉ 110) (m₉ 112) 16) → (((m₉ 94 10).toInt = 2 ∨ (m₉ 94 10).toInt = 3) → zcov (m₉ 110) (m₉ 114) (m₉ 94 55).toInt) → P none m₉) : ∀ (n : Nat) (m : Nat → Nat → Int32) (l1 : Int32), (16 - l1.toInt).toNat = n → zF wr_188 m0 m → zV m → (0 ≤ l1.toInt) → (zKS (m 110) (m 94 73)) → (zW (m 94 7) (m 98) (m 101) (m 102) (m 108)) → (((m 94 10).toInt = 2 ∨ (m 94 10).toInt = 3) → zCL (m 110) (m 98) (m 101) (m 102) (m 108) (m 118) (m 94 73) 3100 0) → (zKU (m 94 10) (m 99) (m 110)) → (zDX (m 94 10) (m 99) (m 112) (m 113) (m 114) (m 94 55) (m 98) (m 101) (m 102) (m 108)) → (((m 94 10).toInt = 2 ∨ (m 94 10).toInt = 3) → zcov (m 110) (m 112) l1.toInt) → zm X 3 66 188 11 [(0, .inr (.inr (some 94))), (1, .inl l1)] m P := by
  intro n
  induction n using Nat.strongRecOn with
  | _ n IH =>
    intro m l1 hmu hF hV hi0 r_KS r_W r_CL r_KU r_DX r_COVR
    refine g_188_11 l1 ?_
    have li1 : (16 : Int32).toInt = 16 := rfl
    have b2 := i_bd l1
    refine zd (fun (h3 : (16 : Int32) ≤ l1) => ?_) (fun (h3 : ¬ (16 : Int32) ≤ l1) => ?_)
    · skip
      have g4 := i_le h3
      have li5 : (0 : Int32).toInt = 0 := rfl
      exact lp_188_35 h0 K _ _ ((0 : Int32)) rfl hF hV (by omega) r_KS r_W r_CL r_KU r_DX (show ((m 94 10).toInt = 2 ∨ (m 94 10).toInt = 3) → zcov (m 110) (m 112) 16 from by first | (exact fun hp => cov_cut (r_COVR hp) (by omega)) | (exact fun hp => cov_0 (by decide)) | (exact fun hp => cov_one (r_COVR hp) rfl (by omega) (by omega) (Or.inl (by omega))) | (exact fun hp => cov_one (r_COVR hp) rfl (by omega) (by omega) (Or.inr (by assumption))) | (exfalso; omega; done) | (exfalso; contradiction; done)) (show ((m 94 10).toInt = 2 ∨ (m 94 10).toInt = 3) → zcov (m 110) (m 114) (0 : Int32).toInt from by first | (exact fun hp => cov_0 (by decide)) | (exfalso; omega; done) | (exfalso; contradiction; done))
    · skip
      have g6 := i_nle h3
      have hg7 : (0 ≤ l1 ∧ l1.toNatClampNeg < 16) := i_ix (by omega) (by omega)
      refine ⟨hg7, ?_⟩
      first | have f8 : -1 ≤ (m 112 l1.toNatClampNeg).toInt ∧ (m 112 l1.toNatClampNeg).toInt ≤ 3099 := ra_112 (m := m) hV (k := l1.toNatClampNeg) (i_ix (n := 16) (by omega) (by omega)).2 | have b9 := i_bd (m 112 l1.toNatClampNeg)
      have li10 : (0 : Int32).toInt = 0 := rfl
      refine zd (fun (h11 : (m 112 l1.toNatClampNeg) < (0 : Int32)) => ?_) (fun (h11 : ¬ (m 112 l1.toNatClampNeg) < (0 : Int32)) => ?_)
      · skip
        have g12 := i_lt h11
        first | have e13 : (l1 + (1 : Int32)).toInt = l1.toInt + (1) := i_addk rfl (by omega) (by omega) | have b14 := i_bd (l1 + (1 : Int32))
        exact IH (16 - (l1 + (1 : Int32)).toInt).toNat (by omega) _ ((l1 + (1 : Int32))) rfl hF hV (by omega) r_KS r_W r_CL r_KU r_DX (show ((m 94 10).toInt = 2 ∨ (m 94 10).toInt = 3) → zcov (m 110) (m 112) (l1 + (1 : Int32)).toInt from by first | (exact fun hp => cov_one (r_COVR hp) rfl (by omega) (by omega) (Or.inl (by omega))) | (exact fun hp => cov_0 (by decide)) | (exact fun hp => cov_one (r_COVR hp) rfl (by omega) (by omega) (Or.inr (by assumption))) | (exact fun hp => cov_cut (r_COVR hp) (by omega)) | (exfalso; omega; done) | (exfalso; contradiction; done))
      · skip
        have g15 := i_nlt h11
        have hg16 : (0 ≤ (m 112 l1.toNatClampNeg) ∧ (m 112 l1.toNatClampNeg).toNatClampNeg < 3100) := i_ix (by omega) (by omega)
        refine ⟨hg16, ?_⟩
        first | have f17 : 0 ≤ (m 110 (m 112 l1.toNatClampNeg).toNatClampNeg).toInt ∧ (m 110 (m 112 l1.toNatClampNeg).toNatClampNeg).toInt ≤ 1 := ra_110 (m := m) hV (k := (m 112 l1.toNatClampNeg).toNatClampNeg) (i_ix (n := 3100) (by omega) (by omega)).2 | have b18 := i_bd (m 110 (m 112 l1.toNatClampNeg).toNatClampNeg)
        refine zd (fun (h19 : (m 110 (m 112 l1.toNatClampNeg).toNatClampNeg) = (0 : Int32)) => ?_) (fun (h19 : ¬ (m 110 (m 112 l1.toNatClampNeg).toNatClampNeg) = (0 : Int32)) => ?_)
        · skip
          have g20 := i_eq h19
          have hg21 : (0 ≤ (m 112 l1.toNatClampNeg) ∧ (m 112 l1.toNatClampNeg).toNatClampNeg < 3100) := i_ix (by omega) (by omega)
          refine ⟨hg21, ?_⟩
          have f22 : 0 ≤ (m 94 73).toInt ∧ (m 94 73).toInt ≤ 3100 := rs_94_73 (m := m) hV
          try have gk := KS_room r_KS (by assumption) (by omega)
          have hg23 : (0 ≤ (m 94 73) ∧ (m 94 73).toNatClampNeg < 3100) := i_ix (by omega) (by omega)
          refine ⟨hg23, ?_⟩
          have li25 : (1 : Int32).toInt = 1 := rfl
          have hV24 : zV (ma_u m 110 (m 112 l1.toNatClampNeg).toNatClampNeg (1 : Int32)) := ua_110 hV (by omega) (by omega)
          have hV26 : zV (ma_u (ma_u m 110 (m 112 l1.toNatClampNeg).toNatClampNeg (1 : Int32)) 118 (m 94 73).toNatClampNeg (m 112 l1.toNatClampNeg)) := ua_118 hV24 (by omega) (by omega)
          first | have e28 : ((m 94 73) + (1 : Int32)).toInt = (m 94 73).toInt + (1) := i_addk rfl (by omega) (by omega) | have b29 := i_bd ((m 94 73) + (1 : Int32))
          have hV27 : zV (ma_u (ma_u (ma_u m 110 (m 112 l1.toNatClampNeg).toNatClampNeg (1 : Int32)) 118 (m 94 73).toNatClampNeg (m 112 l1.toNatClampNeg)) 94 73 ((m 94 73) + (1 : Int32))) := us_94_73 hV26 (by omega) (by omega)
          first | have e30 : (l1 + (1 : Int32)).toInt = l1.toInt + (1) := i_addk rfl (by omega) (by omega) | have b31 := i_bd (l1 + (1 : Int32))
          exact IH (16 - (l1 + (1 : Int32)).toInt).toNat (by omega) _ ((l1 + (1 : Int32))) rfl (zF_u (zF_u (zF_u hF rfl) rfl) rfl) hV27 (by omega) (show zKS ((ma_u m 110 (m 112 l1.toNatClampNeg).toNatClampNeg (1 : Int32)) 110) ((m 94 73) + (1 : Int32)) from by first | (exact KS_push r_KS (by assumption) (by omega) (by decide) (by assumption)) | (exact KS_push (KS_0 (r := m 110) (y := m 94 73) (by omega)) (by assumption) (by omega) (by decide) (by assumption)) | (exfalso; omega; done) | (exfalso; contradiction; done)) r_W (show ((m 94 10).toInt = 2 ∨ (m 94 10).toInt = 3) → zCL ((ma_u m 110 (m 112 l1.toNatClampNeg).toNatClampNeg (1 : Int32)) 110) (m 98) (m 101) (m 102) (m 108) ((ma_u m 118 (m 94 73).toNatClampNeg (m 112 l1.toNatClampNeg)) 118) ((m 94 73) + (1 : Int32)) 3100 0 from by first | (exact fun hp => CL_push (r_CL hp) (by decide) (by omega) rfl (by assumption)) | (exfalso; omega; done) | (exfalso; contradiction; done)) (show zKU (m 94 10) (m 99) ((ma_u m 110 (m 112 l1.toNatClampNeg).toNatClampNeg (1 : Int32)) 110) from by first | (exact KU_push r_KU (fun hp => KU_root (r_DX hp).1 (j := l1) (by omega) (by omega) rfl (by omega))) | (exfalso; omega; done) | (exfalso; contradiction; done)) r_DX (show ((m 94 10).toInt = 2 ∨ (m 94 10).toInt = 3) → zcov ((ma_u m 110 (m 112 l1.toNatClampNeg).toNatClampNeg (1 : Int32)) 110) (m 112) (l1 + (1 : Int32)).toInt from by first | (exact fun hp => cov_one (cov_push (r_COVR hp) (by decide)) rfl (by omega) (by omega) (Or.inr (by rw [mu_self]; decide))) | (exact fun hp => cov_push (r_COVR hp) (by decide)) | (exfalso; omega; done) | (exfalso; contradiction; done))
        · skip
          have g32 := i_ne h19
          first | have e33 : (l1 + (1 : Int32)).toInt = l1.toInt + (1) := i_addk rfl (by omega) (by omega) | have b34 := i_bd (l1 + (1 : Int32))
          exact IH (16 - (l1 + (1 : Int32)).toInt).toNat (by omega) _ ((l1 + (1 : Int32))) rfl hF hV (by omega) r_KS r_W r_CL r_KU r_DX (show ((m 94 10).toInt = 2 ∨ (m 94 10).toInt = 3) → zcov (m 110) (m 112) (l1 + (1 : Int32)).toInt from by first | (exact fun hp => cov_one (r_COVR hp) rfl (by omega) (by omega) (Or.inr (by assumption))) | (exact fun hp => cov_0 (by decide)) | (exact fun hp => cov_one (r_COVR hp) rfl (by omega) (by omega) (Or.inl (by omega))) | (exact fun hp => cov_cut (r_COVR hp) (by omega)) | (exfalso; omega; done) | (exfalso; contradiction; done))
theorem sp_188 {X : Nat × (Nat → Int32)} {P : Option ma_V → (Nat → Nat → Int32) → Prop} {m : Nat → Nat → Int32}  (hV : zV m) (r_W : zW (m 94 7) (m 98) (m 101) (m 102) (m 108)) (r_DX : zDX (m 94 10) (m 99) (m 112) (m 113) (m 114) (m 94 55) (m 98) (m 101) (m 102) (m 108)) (KZ : ∀ m₉, zV (zov wr_188 m m₉) → ((m₉ 94 73).toInt = 0) → (((m 94 10).toInt = 2 ∨ (m 94 10).toInt = 3) → zCL (m₉ 110) (m 98) (m 101) (m 102) (m 108) (m₉ 118) (m₉ 94 73) 3100 0) → (zKU (m 94 10) (m 99) (m₉ 110)) → (((m 94 10).toInt = 2 ∨ (m 94 10).toInt = 3) → zcov (m₉ 110) (m 112) 16) → (((m 94 10).toInt = 2 ∨ (m 94 10).toInt = 3) → zcov (m₉ 110) (m 114) (m 94 55).toInt) → P none (zov wr_188 m m₉)) : zm X 3 66 188 0 [(0, .inr (.inr (some 94)))] m P := by
  have K : ∀ m₉, zF wr_188 m m₉ → zV m₉ → ((m₉ 94 73).toInt = 0) → (((m₉ 94 10).toInt = 2 ∨ (m₉ 94 10).toInt = 3) → zCL (m₉ 110) (m₉ 98) (m₉ 101) (m₉ 102) (m₉ 108) (m₉ 118) (m₉ 94 73) 3100 0) → (zKU (m₉ 94 10) (m₉ 99) (m₉ 110)) → (((m₉ 94 10).toInt = 2 ∨ (m₉ 94 10).toInt = 3) → zcov (m₉ 110) (m₉ 112) 16) → (((m₉ 94 10).toInt = 2 ∨ (m₉ 94 10).toInt = 3) → zcov (m₉ 110) (m₉ 114) (m₉ 94 55).toInt) → P none m₉ := by
    intro m₉ hf z q0 q1 q2 q3 q4
    have e := zov_eq hf
    rw [e] at z ⊢
    try rw [e] at q0
    try rw [e] at q1
    try rw [e] at q2
    try rw [e] at q3
    try rw [e] at q4
    exact KZ m₉ z q0 q1 q2 q3 q4
  refine g_188_0  ?_
  refine sp_189  hV  (fun m1 hV_m1 p0_m1 => zmv_n ?_)
  have p0_m1 : ∀ s : Nat, s < 3100 → (m1 110) s = 0 := p0_m1
  have li2 : (0 : Int32).toInt = 0 := rfl
  have hV1 : zV (ma_u (zov wr_189 m m1) 94 73 (0 : Int32)) := us_94_73 hV_m1 (by omega) (by omega)
  exact lp_188_11 hV K _ _ ((0 : Int32)) rfl (zF_u (zF_zov zF_rfl ws_189_188) rfl) hV1 (by omega) (show zKS (m1 110) (0 : Int32) from by first | (exact KS_0 (by omega)) | (exfalso; omega; done) | (exfalso; contradiction; done)) r_W (show ((m 94 10).toInt = 2 ∨ (m 94 10).toInt = 3) → zCL (m1 110) (m 98) (m 101) (m 102) (m 108) (m 118) (0 : Int32) 3100 0 from by first | (exact fun _ => CL_none p0_m1 (by decide)) | (exfalso; omega; done) | (exfalso; contradiction; done)) (show zKU (m 94 10) (m 99) (m1 110) from by first | (exact KU_none p0_m1) | (exfalso; omega; done) | (exfalso; contradiction; done)) r_DX (show ((m 94 10).toInt = 2 ∨ (m 94 10).toInt = 3) → zcov (m1 110) (m 112) (0 : Int32).toInt from by first | (exact fun hp => cov_0 (by decide)) | (exfalso; omega; done) | (exfalso; contradiction; done))

/-! from 94.413 -/
/-! the reference (written by wip/tools/gen94m.py) -/
set_option maxRecDepth 100000 in
theorem hm_195 : ma_md 195 = some (12, yX12_wisher, cX12_wisher, 5, (some (FieldType.int))) := rfl
set_option maxRecDepth 100000 in
theorem hm_196 : ma_md 196 = some (12, yX12_isOld, cX12_isOld, 2, (some (FieldType.boolean))) := rfl
theorem s_103 : zs 103 = some (20, 3100) := rfl
theorem s_109 : zs 109 = some (22, 3100) := rfl
theorem r_94_35 : zfi 94 35 = some 103 := rfl
theorem r_94_41 : zfi 94 41 = some 109 := rfl
theorem f_12_40_12 : ma_fld 12 40 12 = some 35 := by decide +kernel
theorem f_12_59_12 : ma_fld 12 59 12 = some 41 := by decide +kernel
theorem f_12_210_12 : ma_fld 12 210 12 = some 14 := by decide +kernel
theorem v_12_314_12 : ma_vl 12 314 12 = some (1, 196, 1) := by decide +kernel
theorem dX12_wisher_0 : decode cX12_wisher 0 = .ok (.iconst (-1), 1) := by decide +kernel
theorem dX12_wisher_1 : decode cX12_wisher 1 = .ok (.istore_n 3, 1) := by decide +kernel
theorem dX12_wisher_2 : decode cX12_wisher 2 = .ok (.iconst 0, 1) := by decide +kernel
theorem dX12_wisher_3 : decode cX12_wisher 3 = .ok (.istore 4, 2) := by decide +kernel
theorem dX12_wisher_5 : decode cX12_wisher 5 = .ok (.iload 4, 2) := by decide +kernel
theorem dX12_wisher_7 : decode cX12_wisher 7 = .ok (.sipush 3100, 3) := by decide +kernel
theorem dX12_wisher_99 : decode cX12_wisher 99 = .ok (.iload_n 3, 1) := by decide +kernel
theorem dX12_wisher_100 : decode cX12_wisher 100 = .ok (.ireturn, 1) := by decide +kernel
theorem dX12_wisher_13 : decode cX12_wisher 13 = .ok (.aload_n 0, 1) := by decide +kernel
theorem dX12_wisher_17 : decode cX12_wisher 17 = .ok (.iload 4, 2) := by decide +kernel
theorem dX12_wisher_93 : decode cX12_wisher 93 = .ok (.iinc 4 1, 3) := by decide +kernel
theorem dX12_wisher_96 : decode cX12_wisher 96 = .ok (.goto (-91), 3) := by decide +kernel
theorem dX12_wisher_23 : decode cX12_wisher 23 = .ok (.aload_n 0, 1) := by decide +kernel
theorem dX12_wisher_27 : decode cX12_wisher 27 = .ok (.iload 4, 2) := by decide +kernel
theorem dX12_wisher_33 : decode cX12_wisher 33 = .ok (.aload_n 0, 1) := by decide +kernel
theorem dX12_wisher_37 : decode cX12_wisher 37 = .ok (.iload 4, 2) := by decide +kernel
theorem dX12_wisher_43 : decode cX12_wisher 43 = .ok (.aload_n 0, 1) := by decide +kernel
theorem dX12_wisher_47 : decode cX12_wisher 47 = .ok (.iload 4, 2) := by decide +kernel
theorem dX12_wisher_50 : decode cX12_wisher 50 = .ok (.iload_n 1, 1) := by decide +kernel
theorem dX12_wisher_54 : decode cX12_wisher 54 = .ok (.iload_n 2, 1) := by decide +kernel
theorem dX12_wisher_70 : decode cX12_wisher 70 = .ok (.iload_n 3, 1) := by decide +kernel
theorem dX12_wisher_90 : decode cX12_wisher 90 = .ok (.iload 4, 2) := by decide +kernel
theorem dX12_wisher_92 : decode cX12_wisher 92 = .ok (.istore_n 3, 1) := by decide +kernel
theorem dX12_wisher_74 : decode cX12_wisher 74 = .ok (.aload_n 0, 1) := by decide +kernel
theorem dX12_wisher_78 : decode cX12_wisher 78 = .ok (.iload 4, 2) := by decide +kernel
theorem dX12_wisher_81 : decode cX12_wisher 81 = .ok (.aload_n 0, 1) := by decide +kernel
theorem dX12_wisher_85 : decode cX12_wisher 85 = .ok (.iload_n 3, 1) := by decide +kernel
theorem dX12_wisher_87 : decode cX12_wisher 87 = .ok (.if_icmp .ge 6, 3) := by decide +kernel
theorem dX12_wisher_86 : decode cX12_wisher 86 = .ok (.iaload, 1) := by decide +kernel
theorem dX12_wisher_82 : decode cX12_wisher 82 = .ok (.getfield 31, 3) := by decide +kernel
theorem dX12_wisher_80 : decode cX12_wisher 80 = .ok (.iaload, 1) := by decide +kernel
theorem dX12_wisher_75 : decode cX12_wisher 75 = .ok (.getfield 31, 3) := by decide +kernel
theorem dX12_wisher_71 : decode cX12_wisher 71 = .ok (.ifCond .lt 19, 3) := by decide +kernel
theorem dX12_wisher_58 : decode cX12_wisher 58 = .ok (.aload_n 0, 1) := by decide +kernel
theorem dX12_wisher_59 : decode cX12_wisher 59 = .ok (.iload 4, 2) := by decide +kernel
theorem dX12_wisher_61 : decode cX12_wisher 61 = .ok (.invokevirtual 314, 3) := by decide +kernel
theorem dX12_isOld_0 : decode cX12_isOld 0 = .ok (.aload_n 0, 1) := by decide +kernel
theorem dX12_isOld_4 : decode cX12_isOld 4 = .ok (.iload_n 1, 1) := by decide +kernel
theorem dX12_isOld_6 : decode cX12_isOld 6 = .ok (.aload_n 0, 1) := by decide +kernel
theorem dX12_isOld_17 : decode cX12_isOld 17 = .ok (.iconst 0, 1) := by decide +kernel
theorem dX12_wisher_64 : decode cX12_wisher 64 = .ok (.ifCond .eq 6, 3) := by decide +kernel
theorem dX12_isOld_18 : decode cX12_isOld 18 = .ok (.ireturn, 1) := by decide +kernel
theorem dX12_isOld_13 : decode cX12_isOld 13 = .ok (.iconst 1, 1) := by decide +kernel
theorem dX12_isOld_14 : decode cX12_isOld 14 = .ok (.goto 4, 3) := by decide +kernel
theorem dX12_wisher_67 : decode cX12_wisher 67 = .ok (.goto 26, 3) := by decide +kernel
theorem dX12_isOld_10 : decode cX12_isOld 10 = .ok (.if_icmp .ge 7, 3) := by decide +kernel
theorem dX12_isOld_7 : decode cX12_isOld 7 = .ok (.getfield 210, 3) := by decide +kernel
theorem dX12_isOld_5 : decode cX12_isOld 5 = .ok (.iaload, 1) := by decide +kernel
theorem dX12_isOld_1 : decode cX12_isOld 1 = .ok (.getfield 40, 3) := by decide +kernel
theorem dX12_wisher_55 : decode cX12_wisher 55 = .ok (.ifCond .eq 15, 3) := by decide +kernel
theorem dX12_wisher_51 : decode cX12_wisher 51 = .ok (.if_icmp .le 42, 3) := by decide +kernel
theorem dX12_wisher_49 : decode cX12_wisher 49 = .ok (.iaload, 1) := by decide +kernel
theorem dX12_wisher_44 : decode cX12_wisher 44 = .ok (.getfield 31, 3) := by decide +kernel
theorem dX12_wisher_40 : decode cX12_wisher 40 = .ok (.ifCond .eq 53, 3) := by decide +kernel
theorem dX12_wisher_39 : decode cX12_wisher 39 = .ok (.baload, 1) := by decide +kernel
theorem dX12_wisher_34 : decode cX12_wisher 34 = .ok (.getfield 59, 3) := by decide +kernel
theorem dX12_wisher_30 : decode cX12_wisher 30 = .ok (.ifCond .ne 63, 3) := by decide +kernel
theorem dX12_wisher_29 : decode cX12_wisher 29 = .ok (.baload, 1) := by decide +kernel
theorem dX12_wisher_24 : decode cX12_wisher 24 = .ok (.getfield 62, 3) := by decide +kernel
theorem dX12_wisher_20 : decode cX12_wisher 20 = .ok (.ifCond .eq 73, 3) := by decide +kernel
theorem dX12_wisher_19 : decode cX12_wisher 19 = .ok (.baload, 1) := by decide +kernel
theorem dX12_wisher_14 : decode cX12_wisher 14 = .ok (.getfield 27, 3) := by decide +kernel
theorem dX12_wisher_10 : decode cX12_wisher 10 = .ok (.if_icmp .ge 89, 3) := by decide +kernel
def wr_195 (_ _ : Nat) : Bool := false
theorem g_195_0 {X : Nat × (Nat → Int32)} {m : Nat → Nat → Int32} {P : Option ma_V → (Nat → Nat → Int32) → Prop} (ab : Int32) (yo : Int32) (h : zm X 1 21 195 5 [(0, .inr (.inr (some 94))), (1, .inl ab), (2, .inl yo), (3, .inl (-1 : Int32)), (4, .inl (0 : Int32))] m P) : zm X 1 21 195 0 [(0, .inr (.inr (some 94))), (1, .inl ab), (2, .inl yo)] m P := by
  intro d w S Q hd hw hS hm HQ
  subst hm
  refine zw_push hm_195 dX12_wisher_0 (v := .inl (-1 : Int32)) rfl ?_
  refine zw_sto hm_195 dX12_wisher_1 [(3, .inl (-1 : Int32)), (0, .inr (.inr (some 94))), (1, .inl ab), (2, .inl yo)] rfl rfl rfl ?_
  refine zw_push hm_195 dX12_wisher_2 (v := .inl (0 : Int32)) rfl ?_
  refine zw_sto hm_195 dX12_wisher_3 [(4, .inl (0 : Int32)), (3, .inl (-1 : Int32)), (0, .inr (.inr (some 94))), (1, .inl ab), (2, .inl yo)] rfl rfl rfl ?_
  exact zw_sub (ma_nd_of (ks := [0, 1, 2, 3, 4]) rfl (by decide)) (ma_nd_of (ks := [4, 3, 0, 1, 2]) rfl (by decide)) (ma_le_cons rfl (ma_le_cons rfl (ma_le_cons rfl (ma_le_cons rfl (ma_le_cons rfl (ma_le_nil _)))))) (h d w _ Q (by omega) (by omega) hS rfl HQ)
theorem g_195_5 {X : Nat × (Nat → Int32)} {m : Nat → Nat → Int32} {P : Option ma_V → (Nat → Nat → Int32) → Prop} (l1 : Int32) (l2 : Int32) (l3 : Int32) (l4 : Int32) (h : if (3100 : Int32) ≤ l4 then (P (some (.inl l3)) m) else ((0 ≤ l4 ∧ l4.toNatClampNeg < 3100) ∧ (if (m 99 l4.toNatClampNeg) = 0 then (zm X 1 21 195 5 [(0, .inr (.inr (some 94))), (1, .inl l1), (2, .inl l2), (3, .inl l3), (4, .inl (l4 + (1 : Int32)))] m P) else ((0 ≤ l4 ∧ l4.toNatClampNeg < 3100) ∧ (if (m 110 l4.toNatClampNeg) = 0 then ((0 ≤ l4 ∧ l4.toNatClampNeg < 3100) ∧ (if (m 109 l4.toNatClampNeg) = 0 then (zm X 1 21 195 5 [(0, .inr (.inr (some 94))), (1, .inl l1), (2, .inl l2), (3, .inl l3), (4, .inl (l4 + (1 : Int32)))] m P) else ((0 ≤ l4 ∧ l4.toNatClampNeg < 3100) ∧ (if (m 100 l4.toNatClampNeg) ≤ l1 then (zm X 1 21 195 5 [(0, .inr (.inr (some 94))), (1, .inl l1), (2, .inl l2), (3, .inl l3), (4, .inl (l4 + (1 : Int32)))] m P) else (if l2 = 0 then (if l3 < 0 then (zm X 1 21 195 5 [(0, .inr (.inr (some 94))), (1, .inl l1), (2, .inl l2), (3, .inl l4), (4, .inl (l4 + (1 : Int32)))] m P) else ((0 ≤ l4 ∧ l4.toNatClampNeg < 3100) ∧ ((0 ≤ l3 ∧ l3.toNatClampNeg < 3100) ∧ (if (m 100 l3.toNatClampNeg) ≤ (m 100 l4.toNatClampNeg) then (zm X 1 21 195 5 [(0, .inr (.inr (some 94))), (1, .inl l1), (2, .inl l2), (3, .inl l3), (4, .inl (l4 + (1 : Int32)))] m P) else (zm X 1 21 195 5 [(0, .inr (.inr (some 94))), (1, .inl l1), (2, .inl l2), (3, .inl l4), (4, .inl (l4 + (1 : Int32)))] m P))))) else ((0 ≤ l4 ∧ l4.toNatClampNeg < 3100) ∧ (if (m 94 14) ≤ (m 103 l4.toNatClampNeg) then (if l3 < 0 then (zm X 1 21 195 5 [(0, .inr (.inr (some 94))), (1, .inl l1), (2, .inl l2), (3, .inl l4), (4, .inl (l4 + (1 : Int32)))] m P) else ((0 ≤ l4 ∧ l4.toNatClampNeg < 3100) ∧ ((0 ≤ l3 ∧ l3.toNatClampNeg < 3100) ∧ (if (m 100 l3.toNatClampNeg) ≤ (m 100 l4.toNatClampNeg) then (zm X 1 21 195 5 [(0, .inr (.inr (some 94))), (1, .inl l1), (2, .inl l2), (3, .inl l3), (4, .inl (l4 + (1 : Int32)))] m P) else (zm X 1 21 195 5 [(0, .inr (.inr (some 94))), (1, .inl l1), (2, .inl l2), (3, .inl l4), (4, .inl (l4 + (1 : Int32)))] m P))))) else (zm X 1 21 195 5 [(0, .inr (.inr (some 94))), (1, .inl l1), (2, .inl l2), (3, .inl l3), (4, .inl (l4 + (1 : Int32)))] m P)))))))) else (zm X 1 21 195 5 [(0, .inr (.inr (some 94))), (1, .inl l1), (2, .inl l2), (3, .inl l3), (4, .inl (l4 + (1 : Int32)))] m P)))))) : zm X 1 21 195 5 [(0, .inr (.inr (some 94))), (1, .inl l1), (2, .inl l2), (3, .inl l3), (4, .inl l4)] m P := by
  intro d w S Q hd hw hS hm HQ
  subst hm
  refine zw_push hm_195 dX12_wisher_5 (v := .inl l4) rfl ?_
  refine zw_push hm_195 dX12_wisher_7 (v := .inl (3100 : Int32)) rfl ?_
  refine zw_if2 hm_195 dX12_wisher_10 (t := 99) rfl zc2_ge ?_ ?_
  · intro hc
    rw [if_pos hc] at h
    refine zw_push hm_195 dX12_wisher_99 (v := .inl l3) rfl ?_
    exact zw_iret hm_195 dX12_wisher_100 (HQ _ _ h)
  · intro hc
    rw [if_neg hc] at h
    refine zw_push hm_195 dX12_wisher_13 (v := .inr (.inr (some 94))) rfl ?_
    refine zw_gf hm_195 dX12_wisher_14 (v := .inr (.inr (some 99))) (zT_is hS s_94) (zT_t hS s_94) rfl f_12_27_12 (zT_f hS r_94_31) ?_
    refine zw_push hm_195 dX12_wisher_17 (v := .inl l4) rfl ?_
    obtain ⟨hg, h⟩ := h
    refine zw_ba hm_195 dX12_wisher_19 (zT_is hS s_99) (zT_h hS s_99) rfl rfl hg ?_
    show ma_wp X d w 195 20 [(0, .inr (.inr (some 94))), (1, .inl l1), (2, .inl l2), (3, .inl l3), (4, .inl l4)] [.inl ((mI S) 99 l4.toNatClampNeg)] S _
    refine zw_if0 hm_195 dX12_wisher_20 (t := 93) rfl zc0_eq ?_ ?_
    · intro hc
      rw [if_pos hc] at h
      refine zw_sto hm_195 dX12_wisher_93 [(4, .inl (l4 + (1 : Int32))), (0, .inr (.inr (some 94))), (1, .inl l1), (2, .inl l2), (3, .inl l3)] rfl rfl rfl ?_
      refine zw_goto hm_195 dX12_wisher_96 (t := 5) rfl ?_
      exact zw_sub (ma_nd_of (ks := [0, 1, 2, 3, 4]) rfl (by decide)) (ma_nd_of (ks := [4, 0, 1, 2, 3]) rfl (by decide)) (ma_le_cons rfl (ma_le_cons rfl (ma_le_cons rfl (ma_le_cons rfl (ma_le_cons rfl (ma_le_nil _)))))) (h d w _ Q (by omega) (by omega) hS rfl HQ)
    · intro hc
      rw [if_neg hc] at h
      refine zw_push hm_195 dX12_wisher_23 (v := .inr (.inr (some 94))) rfl ?_
      refine zw_gf hm_195 dX12_wisher_24 (v := .inr (.inr (some 110))) (zT_is hS s_94) (zT_t hS s_94) rfl f_12_62_12 (zT_f hS r_94_42) ?_
      refine zw_push hm_195 dX12_wisher_27 (v := .inl l4) rfl ?_
      obtain ⟨hg, h⟩ := h
      refine zw_ba hm_195 dX12_wisher_29 (zT_is hS s_110) (zT_h hS s_110) rfl rfl hg ?_
      show ma_wp X d w 195 30 [(0, .inr (.inr (some 94))), (1, .inl l1), (2, .inl l2), (3, .inl l3), (4, .inl l4)] [.inl ((mI S) 110 l4.toNatClampNeg)] S _
      refine zw_if0 hm_195 dX12_wisher_30 (t := 93) rfl zc0_ne ?_ ?_
      · intro hc
        rw [if_neg hc] at h
        refine zw_sto hm_195 dX12_wisher_93 [(4, .inl (l4 + (1 : Int32))), (0, .inr (.inr (some 94))), (1, .inl l1), (2, .inl l2), (3, .inl l3)] rfl rfl rfl ?_
        refine zw_goto hm_195 dX12_wisher_96 (t := 5) rfl ?_
        exact zw_sub (ma_nd_of (ks := [0, 1, 2, 3, 4]) rfl (by decide)) (ma_nd_of (ks := [4, 0, 1, 2, 3]) rfl (by decide)) (ma_le_cons rfl (ma_le_cons rfl (ma_le_cons rfl (ma_le_cons rfl (ma_le_cons rfl (ma_le_nil _)))))) (h d w _ Q (by omega) (by omega) hS rfl HQ)
      · intro hc
        rw [if_pos (Classical.not_not.mp hc)] at h
        refine zw_push hm_195 dX12_wisher_33 (v := .inr (.inr (some 94))) rfl ?_
        refine zw_gf hm_195 dX12_wisher_34 (v := .inr (.inr (some 109))) (zT_is hS s_94) (zT_t hS s_94) rfl f_12_59_12 (zT_f hS r_94_41) ?_
        refine zw_push hm_195 dX12_wisher_37 (v := .inl l4) rfl ?_
        obtain ⟨hg, h⟩ := h
        refine zw_ba hm_195 dX12_wisher_39 (zT_is hS s_109) (zT_h hS s_109) rfl rfl hg ?_
        show ma_wp X d w 195 40 [(0, .inr (.inr (some 94))), (1, .inl l1), (2, .inl l2), (3, .inl l3), (4, .inl l4)] [.inl ((mI S) 109 l4.toNatClampNeg)] S _
        refine zw_if0 hm_195 dX12_wisher_40 (t := 93) rfl zc0_eq ?_ ?_
        · intro hc
          rw [if_pos hc] at h
          refine zw_sto hm_195 dX12_wisher_93 [(4, .inl (l4 + (1 : Int32))), (0, .inr (.inr (some 94))), (1, .inl l1), (2, .inl l2), (3, .inl l3)] rfl rfl rfl ?_
          refine zw_goto hm_195 dX12_wisher_96 (t := 5) rfl ?_
          exact zw_sub (ma_nd_of (ks := [0, 1, 2, 3, 4]) rfl (by decide)) (ma_nd_of (ks := [4, 0, 1, 2, 3]) rfl (by decide)) (ma_le_cons rfl (ma_le_cons rfl (ma_le_cons rfl (ma_le_cons rfl (ma_le_cons rfl (ma_le_nil _)))))) (h d w _ Q (by omega) (by omega) hS rfl HQ)
        · intro hc
          rw [if_neg hc] at h
          refine zw_push hm_195 dX12_wisher_43 (v := .inr (.inr (some 94))) rfl ?_
          refine zw_gf hm_195 dX12_wisher_44 (v := .inr (.inr (some 100))) (zT_is hS s_94) (zT_t hS s_94) rfl f_12_31_12 (zT_f hS r_94_32) ?_
          refine zw_push hm_195 dX12_wisher_47 (v := .inl l4) rfl ?_
          obtain ⟨hg, h⟩ := h
          refine zw_ia hm_195 dX12_wisher_49 (zT_is hS s_100) (zT_h hS s_100) rfl hg ?_
          show ma_wp X d w 195 50 [(0, .inr (.inr (some 94))), (1, .inl l1), (2, .inl l2), (3, .inl l3), (4, .inl l4)] [.inl ((mI S) 100 l4.toNatClampNeg)] S _
          refine zw_push hm_195 dX12_wisher_50 (v := .inl l1) rfl ?_
          refine zw_if2 hm_195 dX12_wisher_51 (t := 93) rfl zc2_le ?_ ?_
          · intro hc
            rw [if_pos hc] at h
            refine zw_sto hm_195 dX12_wisher_93 [(4, .inl (l4 + (1 : Int32))), (0, .inr (.inr (some 94))), (1, .inl l1), (2, .inl l2), (3, .inl l3)] rfl rfl rfl ?_
            refine zw_goto hm_195 dX12_wisher_96 (t := 5) rfl ?_
            exact zw_sub (ma_nd_of (ks := [0, 1, 2, 3, 4]) rfl (by decide)) (ma_nd_of (ks := [4, 0, 1, 2, 3]) rfl (by decide)) (ma_le_cons rfl (ma_le_cons rfl (ma_le_cons rfl (ma_le_cons rfl (ma_le_cons rfl (ma_le_nil _)))))) (h d w _ Q (by omega) (by omega) hS rfl HQ)
          · intro hc
            rw [if_neg hc] at h
            refine zw_push hm_195 dX12_wisher_54 (v := .inl l2) rfl ?_
            refine zw_if0 hm_195 dX12_wisher_55 (t := 70) rfl zc0_eq ?_ ?_
            · intro hc
              rw [if_pos hc] at h
              refine zw_push hm_195 dX12_wisher_70 (v := .inl l3) rfl ?_
              refine zw_if0 hm_195 dX12_wisher_71 (t := 90) rfl zc0_lt ?_ ?_
              · intro hc
                rw [if_pos hc] at h
                refine zw_push hm_195 dX12_wisher_90 (v := .inl l4) rfl ?_
                refine zw_sto hm_195 dX12_wisher_92 [(3, .inl l4), (0, .inr (.inr (some 94))), (1, .inl l1), (2, .inl l2), (4, .inl l4)] rfl rfl rfl ?_
                refine zw_sto hm_195 dX12_wisher_93 [(4, .inl (l4 + (1 : Int32))), (3, .inl l4), (0, .inr (.inr (some 94))), (1, .inl l1), (2, .inl l2)] rfl rfl rfl ?_
                refine zw_goto hm_195 dX12_wisher_96 (t := 5) rfl ?_
                exact zw_sub (ma_nd_of (ks := [0, 1, 2, 3, 4]) rfl (by decide)) (ma_nd_of (ks := [4, 3, 0, 1, 2]) rfl (by decide)) (ma_le_cons rfl (ma_le_cons rfl (ma_le_cons rfl (ma_le_cons rfl (ma_le_cons rfl (ma_le_nil _)))))) (h d w _ Q (by omega) (by omega) hS rfl HQ)
              · intro hc
                rw [if_neg hc] at h
                refine zw_push hm_195 dX12_wisher_74 (v := .inr (.inr (some 94))) rfl ?_
                refine zw_gf hm_195 dX12_wisher_75 (v := .inr (.inr (some 100))) (zT_is hS s_94) (zT_t hS s_94) rfl f_12_31_12 (zT_f hS r_94_32) ?_
                refine zw_push hm_195 dX12_wisher_78 (v := .inl l4) rfl ?_
                obtain ⟨hg, h⟩ := h
                refine zw_ia hm_195 dX12_wisher_80 (zT_is hS s_100) (zT_h hS s_100) rfl hg ?_
                show ma_wp X d w 195 81 [(0, .inr (.inr (some 94))), (1, .inl l1), (2, .inl l2), (3, .inl l3), (4, .inl l4)] [.inl ((mI S) 100 l4.toNatClampNeg)] S _
                refine zw_push hm_195 dX12_wisher_81 (v := .inr (.inr (some 94))) rfl ?_
                refine zw_gf hm_195 dX12_wisher_82 (v := .inr (.inr (some 100))) (zT_is hS s_94) (zT_t hS s_94) rfl f_12_31_12 (zT_f hS r_94_32) ?_
                refine zw_push hm_195 dX12_wisher_85 (v := .inl l3) rfl ?_
                obtain ⟨hg, h⟩ := h
                refine zw_ia hm_195 dX12_wisher_86 (zT_is hS s_100) (zT_h hS s_100) rfl hg ?_
                show ma_wp X d w 195 87 [(0, .inr (.inr (some 94))), (1, .inl l1), (2, .inl l2), (3, .inl l3), (4, .inl l4)] [.inl ((mI S) 100 l3.toNatClampNeg), .inl ((mI S) 100 l4.toNatClampNeg)] S _
                refine zw_if2 hm_195 dX12_wisher_87 (t := 93) rfl zc2_ge ?_ ?_
                · intro hc
                  rw [if_pos hc] at h
                  refine zw_sto hm_195 dX12_wisher_93 [(4, .inl (l4 + (1 : Int32))), (0, .inr (.inr (some 94))), (1, .inl l1), (2, .inl l2), (3, .inl l3)] rfl rfl rfl ?_
                  refine zw_goto hm_195 dX12_wisher_96 (t := 5) rfl ?_
                  exact zw_sub (ma_nd_of (ks := [0, 1, 2, 3, 4]) rfl (by decide)) (ma_nd_of (ks := [4, 0, 1, 2, 3]) rfl (by decide)) (ma_le_cons rfl (ma_le_cons rfl (ma_le_cons rfl (ma_le_cons rfl (ma_le_cons rfl (ma_le_nil _)))))) (h d w _ Q (by omega) (by omega) hS rfl HQ)
                · intro hc
                  rw [if_neg hc] at h
                  refine zw_push hm_195 dX12_wisher_90 (v := .inl l4) rfl ?_
                  refine zw_sto hm_195 dX12_wisher_92 [(3, .inl l4), (0, .inr (.inr (some 94))), (1, .inl l1), (2, .inl l2), (4, .inl l4)] rfl rfl rfl ?_
                  refine zw_sto hm_195 dX12_wisher_93 [(4, .inl (l4 + (1 : Int32))), (3, .inl l4), (0, .inr (.inr (some 94))), (1, .inl l1), (2, .inl l2)] rfl rfl rfl ?_
                  refine zw_goto hm_195 dX12_wisher_96 (t := 5) rfl ?_
                  exact zw_sub (ma_nd_of (ks := [0, 1, 2, 3, 4]) rfl (by decide)) (ma_nd_of (ks := [4, 3, 0, 1, 2]) rfl (by decide)) (ma_le_cons rfl (ma_le_cons rfl (ma_le_cons rfl (ma_le_cons rfl (ma_le_cons rfl (ma_le_nil _)))))) (h d w _ Q (by omega) (by omega) hS rfl HQ)
            · intro hc
              rw [if_neg hc] at h
              refine zw_push hm_195 dX12_wisher_58 (v := .inr (.inr (some 94))) rfl ?_
              refine zw_push hm_195 dX12_wisher_59 (v := .inl l4) rfl ?_
              refine zw_cv hm_195 dX12_wisher_61 v_12_314_12 hm_196 [.inl l4] [] rfl (zT_rt hS s_94 rfl) ⟨by omega, by omega⟩ rfl ?_
              show ma_wp X (d - 1) (w - 21) 196 0 [(0, .inr (.inr (some 94))), (1, .inl l4)] [] S _
              refine zw_push hm_196 dX12_isOld_0 (v := .inr (.inr (some 94))) rfl ?_
              refine zw_gf hm_196 dX12_isOld_1 (v := .inr (.inr (some 103))) (zT_is hS s_94) (zT_t hS s_94) rfl f_12_40_12 (zT_f hS r_94_35) ?_
              refine zw_push hm_196 dX12_isOld_4 (v := .inl l4) rfl ?_
              obtain ⟨hg, h⟩ := h
              refine zw_ia hm_196 dX12_isOld_5 (zT_is hS s_103) (zT_h hS s_103) rfl hg ?_
              show ma_wp X (d - 1) (w - 21) 196 6 [(0, .inr (.inr (some 94))), (1, .inl l4)] [.inl ((mI S) 103 l4.toNatClampNeg)] S _
              refine zw_push hm_196 dX12_isOld_6 (v := .inr (.inr (some 94))) rfl ?_
              refine zw_gf hm_196 dX12_isOld_7 (v := .inl ((mI S) 94 14)) (zT_is hS s_94) (zT_t hS s_94) rfl f_12_210_12 rfl ?_
              refine zw_if2 hm_196 dX12_isOld_10 (t := 17) rfl zc2_ge ?_ ?_
              · intro hc
                rw [if_pos hc] at h
                refine zw_push hm_196 dX12_isOld_17 (v := .inl (0 : Int32)) rfl ?_
                refine zw_bret hm_196 dX12_isOld_18 (by decide) ?_
                show ma_wp X d w 195 64 [(0, .inr (.inr (some 94))), (1, .inl l1), (2, .inl l2), (3, .inl l3), (4, .inl l4)] [.inl (0 : Int32)] S _
                refine zw_if0 hm_195 dX12_wisher_64 (t := 70) rfl zc0_eq (fun _ => ?_) (fun hc => absurd (by decide) hc)
                refine zw_push hm_195 dX12_wisher_70 (v := .inl l3) rfl ?_
                refine zw_if0 hm_195 dX12_wisher_71 (t := 90) rfl zc0_lt ?_ ?_
                · intro hc
                  rw [if_pos hc] at h
                  refine zw_push hm_195 dX12_wisher_90 (v := .inl l4) rfl ?_
                  refine zw_sto hm_195 dX12_wisher_92 [(3, .inl l4), (0, .inr (.inr (some 94))), (1, .inl l1), (2, .inl l2), (4, .inl l4)] rfl rfl rfl ?_
                  refine zw_sto hm_195 dX12_wisher_93 [(4, .inl (l4 + (1 : Int32))), (3, .inl l4), (0, .inr (.inr (some 94))), (1, .inl l1), (2, .inl l2)] rfl rfl rfl ?_
                  refine zw_goto hm_195 dX12_wisher_96 (t := 5) rfl ?_
                  exact zw_sub (ma_nd_of (ks := [0, 1, 2, 3, 4]) rfl (by decide)) (ma_nd_of (ks := [4, 3, 0, 1, 2]) rfl (by decide)) (ma_le_cons rfl (ma_le_cons rfl (ma_le_cons rfl (ma_le_cons rfl (ma_le_cons rfl (ma_le_nil _)))))) (h d w _ Q (by omega) (by omega) hS rfl HQ)
                · intro hc
                  rw [if_neg hc] at h
                  refine zw_push hm_195 dX12_wisher_74 (v := .inr (.inr (some 94))) rfl ?_
                  refine zw_gf hm_195 dX12_wisher_75 (v := .inr (.inr (some 100))) (zT_is hS s_94) (zT_t hS s_94) rfl f_12_31_12 (zT_f hS r_94_32) ?_
                  refine zw_push hm_195 dX12_wisher_78 (v := .inl l4) rfl ?_
                  obtain ⟨hg, h⟩ := h
                  refine zw_ia hm_195 dX12_wisher_80 (zT_is hS s_100) (zT_h hS s_100) rfl hg ?_
                  show ma_wp X d w 195 81 [(0, .inr (.inr (some 94))), (1, .inl l1), (2, .inl l2), (3, .inl l3), (4, .inl l4)] [.inl ((mI S) 100 l4.toNatClampNeg)] S _
                  refine zw_push hm_195 dX12_wisher_81 (v := .inr (.inr (some 94))) rfl ?_
                  refine zw_gf hm_195 dX12_wisher_82 (v := .inr (.inr (some 100))) (zT_is hS s_94) (zT_t hS s_94) rfl f_12_31_12 (zT_f hS r_94_32) ?_
                  refine zw_push hm_195 dX12_wisher_85 (v := .inl l3) rfl ?_
                  obtain ⟨hg, h⟩ := h
                  refine zw_ia hm_195 dX12_wisher_86 (zT_is hS s_100) (zT_h hS s_100) rfl hg ?_
                  show ma_wp X d w 195 87 [(0, .inr (.inr (some 94))), (1, .inl l1), (2, .inl l2), (3, .inl l3), (4, .inl l4)] [.inl ((mI S) 100 l3.toNatClampNeg), .inl ((mI S) 100 l4.toNatClampNeg)] S _
                  refine zw_if2 hm_195 dX12_wisher_87 (t := 93) rfl zc2_ge ?_ ?_
                  · intro hc
                    rw [if_pos hc] at h
                    refine zw_sto hm_195 dX12_wisher_93 [(4, .inl (l4 + (1 : Int32))), (0, .inr (.inr (some 94))), (1, .inl l1), (2, .inl l2), (3, .inl l3)] rfl rfl rfl ?_
                    refine zw_goto hm_195 dX12_wisher_96 (t := 5) rfl ?_
                    exact zw_sub (ma_nd_of (ks := [0, 1, 2, 3, 4]) rfl (by decide)) (ma_nd_of (ks := [4, 0, 1, 2, 3]) rfl (by decide)) (ma_le_cons rfl (ma_le_cons rfl (ma_le_cons rfl (ma_le_cons rfl (ma_le_cons rfl (ma_le_nil _)))))) (h d w _ Q (by omega) (by omega) hS rfl HQ)
                  · intro hc
                    rw [if_neg hc] at h
                    refine zw_push hm_195 dX12_wisher_90 (v := .inl l4) rfl ?_
                    refine zw_sto hm_195 dX12_wisher_92 [(3, .inl l4), (0, .inr (.inr (some 94))), (1, .inl l1), (2, .inl l2), (4, .inl l4)] rfl rfl rfl ?_
                    refine zw_sto hm_195 dX12_wisher_93 [(4, .inl (l4 + (1 : Int32))), (3, .inl l4), (0, .inr (.inr (some 94))), (1, .inl l1), (2, .inl l2)] rfl rfl rfl ?_
                    refine zw_goto hm_195 dX12_wisher_96 (t := 5) rfl ?_
                    exact zw_sub (ma_nd_of (ks := [0, 1, 2, 3, 4]) rfl (by decide)) (ma_nd_of (ks := [4, 3, 0, 1, 2]) rfl (by decide)) (ma_le_cons rfl (ma_le_cons rfl (ma_le_cons rfl (ma_le_cons rfl (ma_le_cons rfl (ma_le_nil _)))))) (h d w _ Q (by omega) (by omega) hS rfl HQ)
              · intro hc
                rw [if_neg hc] at h
                refine zw_push hm_196 dX12_isOld_13 (v := .inl (1 : Int32)) rfl ?_
                refine zw_goto hm_196 dX12_isOld_14 (t := 18) rfl ?_
                refine zw_bret hm_196 dX12_isOld_18 (by decide) ?_
                show ma_wp X d w 195 64 [(0, .inr (.inr (some 94))), (1, .inl l1), (2, .inl l2), (3, .inl l3), (4, .inl l4)] [.inl (1 : Int32)] S _
                refine zw_if0 hm_195 dX12_wisher_64 (t := 70) rfl zc0_eq (fun hc => absurd hc (by decide)) (fun _ => ?_)
                refine zw_goto hm_195 dX12_wisher_67 (t := 93) rfl ?_
                refine zw_sto hm_195 dX12_wisher_93 [(4, .inl (l4 + (1 : Int32))), (0, .inr (.inr (some 94))), (1, .inl l1), (2, .inl l2), (3, .inl l3)] rfl rfl rfl ?_
                refine zw_goto hm_195 dX12_wisher_96 (t := 5) rfl ?_
                exact zw_sub (ma_nd_of (ks := [0, 1, 2, 3, 4]) rfl (by decide)) (ma_nd_of (ks := [4, 0, 1, 2, 3]) rfl (by decide)) (ma_le_cons rfl (ma_le_cons rfl (ma_le_cons rfl (ma_le_cons rfl (ma_le_cons rfl (ma_le_nil _)))))) (h d w _ Q (by omega) (by omega) hS rfl HQ)
theorem lp_195_5 {X : Nat × (Nat → Int32)} {P : Option ma_V → (Nat → Nat → Int32) → Prop} {ab : Int32} {yo : Int32} {m0 : Nat → Nat → Int32} (h0 : zV m0) (K : ∀ v m₉, zF wr_195 m0 m₉ → zV m₉ → (zWS (m₉ 100) (m₉ 99) (m₉ 110) (m₉ 109) ab v) → P (some (.inl v)) m₉) : ∀ (n : Nat) (m : Nat → Nat → Int32) (l1 : Int32) (l2 : Int32) (l3 : Int32) (l4 : Int32), (3100 - l4.toInt).toNat = n → zF wr_195 m0 m → zV m → (0 ≤ l4.toInt) → (l1.toInt = ab.toInt) → (-1 ≤ l3.toInt) → (l3.toInt ≤ 3099) → (zWS (m 100) (m 99) (m 110) (m 109) ab l3) → zm X 1 21 195 5 [(0, .inr (.inr (some 94))), (1, .inl l1), (2, .inl l2), (3, .inl l3), (4, .inl l4)] m P := by
  intro n
  induction n using Nat.strongRecOn with
  | _ n IH =>
    intro m l1 l2 l3 l4 hmu hF hV hi0 hi1 hi2 hi3 r_WS
    refine g_195_5 l1 l2 l3 l4 ?_
    have li1 : (3100 : Int32).toInt = 3100 := rfl
    have b2 := i_bd l4
    refine zd (fun (h3 : (3100 : Int32) ≤ l4) => ?_) (fun (h3 : ¬ (3100 : Int32) ≤ l4) => ?_)
    · skip
      have g4 := i_le h3
      have b5 := i_bd l3
      exact K (l3) _ hF hV r_WS
    · skip
      have g6 := i_nle h3
      have hg7 : (0 ≤ l4 ∧ l4.toNatClampNeg < 3100) := i_ix (by omega) (by omega)
      refine ⟨hg7, ?_⟩
      first | have f8 : 0 ≤ (m 99 l4.toNatClampNeg).toInt ∧ (m 99 l4.toNatClampNeg).toInt ≤ 1 := ra_99 (m := m) hV (k := l4.toNatClampNeg) (i_ix (n := 3100) (by omega) (by omega)).2 | have b9 := i_bd (m 99 l4.toNatClampNeg)
      have li10 : (0 : Int32).toInt = 0 := rfl
      refine zd (fun (h11 : (m 99 l4.toNatClampNeg) = (0 : Int32)) => ?_) (fun (h11 : ¬ (m 99 l4.toNatClampNeg) = (0 : Int32)) => ?_)
      · skip
        have g12 := i_eq h11
        have b13 := i_bd l1
        have b14 := i_bd l2
        have b15 := i_bd l3
        first | have e16 : (l4 + (1 : Int32)).toInt = l4.toInt + (1) := i_addk rfl (by omega) (by omega) | have b17 := i_bd (l4 + (1 : Int32))
        exact IH (3100 - (l4 + (1 : Int32)).toInt).toNat (by omega) _ (l1) (l2) (l3) ((l4 + (1 : Int32))) rfl hF hV (by omega) (by omega) (by omega) (by omega) r_WS
      · skip
        have g18 := i_ne h11
        have hg19 : (0 ≤ l4 ∧ l4.toNatClampNeg < 3100) := i_ix (by omega) (by omega)
        refine ⟨hg19, ?_⟩
        first | have f20 : 0 ≤ (m 110 l4.toNatClampNeg).toInt ∧ (m 110 l4.toNatClampNeg).toInt ≤ 1 := ra_110 (m := m) hV (k := l4.toNatClampNeg) (i_ix (n := 3100) (by omega) (by omega)).2 | have b21 := i_bd (m 110 l4.toNatClampNeg)
        refine zd (fun (h22 : (m 110 l4.toNatClampNeg) = (0 : Int32)) => ?_) (fun (h22 : ¬ (m 110 l4.toNatClampNeg) = (0 : Int32)) => ?_)
        · skip
          have g23 := i_eq h22
          have hg24 : (0 ≤ l4 ∧ l4.toNatClampNeg < 3100) := i_ix (by omega) (by omega)
          refine ⟨hg24, ?_⟩
          first | have f25 : 0 ≤ (m 109 l4.toNatClampNeg).toInt ∧ (m 109 l4.toNatClampNeg).toInt ≤ 1 := ra_109 (m := m) hV (k := l4.toNatClampNeg) (i_ix (n := 3100) (by omega) (by omega)).2 | have b26 := i_bd (m 109 l4.toNatClampNeg)
          refine zd (fun (h27 : (m 109 l4.toNatClampNeg) = (0 : Int32)) => ?_) (fun (h27 : ¬ (m 109 l4.toNatClampNeg) = (0 : Int32)) => ?_)
          · skip
            have g28 := i_eq h27
            have b29 := i_bd l1
            have b30 := i_bd l2
            have b31 := i_bd l3
            first | have e32 : (l4 + (1 : Int32)).toInt = l4.toInt + (1) := i_addk rfl (by omega) (by omega) | have b33 := i_bd (l4 + (1 : Int32))
            exact IH (3100 - (l4 + (1 : Int32)).toInt).toNat (by omega) _ (l1) (l2) (l3) ((l4 + (1 : Int32))) rfl hF hV (by omega) (by omega) (by omega) (by omega) r_WS
          · skip
            have g34 := i_ne h27
            have hg35 : (0 ≤ l4 ∧ l4.toNatClampNeg < 3100) := i_ix (by omega) (by omega)
            refine ⟨hg35, ?_⟩
            first | have f36 : 0 ≤ (m 100 l4.toNatClampNeg).toInt ∧ (m 100 l4.toNatClampNeg).toInt ≤ 100000 := ra_100 (m := m) hV (k := l4.toNatClampNeg) (i_ix (n := 3100) (by omega) (by omega)).2 | have b37 := i_bd (m 100 l4.toNatClampNeg)
            have b38 := i_bd l1
            refine zd (fun (h39 : (m 100 l4.toNatClampNeg) ≤ l1) => ?_) (fun (h39 : ¬ (m 100 l4.toNatClampNeg) ≤ l1) => ?_)
            · skip
              have g40 := i_le h39
              have b41 := i_bd l2
              have b42 := i_bd l3
              first | have e43 : (l4 + (1 : Int32)).toInt = l4.toInt + (1) := i_addk rfl (by omega) (by omega) | have b44 := i_bd (l4 + (1 : Int32))
              exact IH (3100 - (l4 + (1 : Int32)).toInt).toNat (by omega) _ (l1) (l2) (l3) ((l4 + (1 : Int32))) rfl hF hV (by omega) (by omega) (by omega) (by omega) r_WS
            · skip
              have g45 := i_nle h39
              have b46 := i_bd l2
              refine zd (fun (h47 : l2 = (0 : Int32)) => ?_) (fun (h47 : ¬ l2 = (0 : Int32)) => ?_)
              · skip
                have g48 := i_eq h47
                have b49 := i_bd l3
                refine zd (fun (h50 : l3 < (0 : Int32)) => ?_) (fun (h50 : ¬ l3 < (0 : Int32)) => ?_)
                · skip
                  have g51 := i_lt h50
                  first | have e52 : (l4 + (1 : Int32)).toInt = l4.toInt + (1) := i_addk rfl (by omega) (by omega) | have b53 := i_bd (l4 + (1 : Int32))
                  exact IH (3100 - (l4 + (1 : Int32)).toInt).toNat (by omega) _ (l1) (l2) (l4) ((l4 + (1 : Int32))) rfl hF hV (by omega) (by omega) (by omega) (by omega) (show zWS (m 100) (m 99) (m 110) (m 109) ab l4 from by first | (exact Or.inl (by decide)) | (exact Or.inr ⟨by omega, by omega, by assumption, by assumption, by assumption, by omega⟩) | (exfalso; omega; done) | (exfalso; contradiction; done))
                · skip
                  have g54 := i_nlt h50
                  have hg55 : (0 ≤ l4 ∧ l4.toNatClampNeg < 3100) := i_ix (by omega) (by omega)
                  refine ⟨hg55, ?_⟩
                  have hg56 : (0 ≤ l3 ∧ l3.toNatClampNeg < 3100) := i_ix (by omega) (by omega)
                  refine ⟨hg56, ?_⟩
                  first | have f57 : 0 ≤ (m 100 l3.toNatClampNeg).toInt ∧ (m 100 l3.toNatClampNeg).toInt ≤ 100000 := ra_100 (m := m) hV (k := l3.toNatClampNeg) (i_ix (n := 3100) (by omega) (by omega)).2 | have b58 := i_bd (m 100 l3.toNatClampNeg)
                  refine zd (fun (h59 : (m 100 l3.toNatClampNeg) ≤ (m 100 l4.toNatClampNeg)) => ?_) (fun (h59 : ¬ (m 100 l3.toNatClampNeg) ≤ (m 100 l4.toNatClampNeg)) => ?_)
                  · skip
                    have g60 := i_le h59
                    first | have e61 : (l4 + (1 : Int32)).toInt = l4.toInt + (1) := i_addk rfl (by omega) (by omega) | have b62 := i_bd (l4 + (1 : Int32))
                    exact IH (3100 - (l4 + (1 : Int32)).toInt).toNat (by omega) _ (l1) (l2) (l3) ((l4 + (1 : Int32))) rfl hF hV (by omega) (by omega) (by omega) (by omega) r_WS
                  · skip
                    have g63 := i_nle h59
                    first | have e64 : (l4 + (1 : Int32)).toInt = l4.toInt + (1) := i_addk rfl (by omega) (by omega) | have b65 := i_bd (l4 + (1 : Int32))
                    exact IH (3100 - (l4 + (1 : Int32)).toInt).toNat (by omega) _ (l1) (l2) (l4) ((l4 + (1 : Int32))) rfl hF hV (by omega) (by omega) (by omega) (by omega) (show zWS (m 100) (m 99) (m 110) (m 109) ab l4 from by first | (exact Or.inl (by decide)) | (exact Or.inr ⟨by omega, by omega, by assumption, by assumption, by assumption, by omega⟩) | (exfalso; omega; done) | (exfalso; contradiction; done))
              · skip
                have g66 := i_ne h47
                have hg67 : (0 ≤ l4 ∧ l4.toNatClampNeg < 3100) := i_ix (by omega) (by omega)
                refine ⟨hg67, ?_⟩
                have f68 : 0 ≤ (m 94 14).toInt ∧ (m 94 14).toInt ≤ 1500 := rs_94_14 (m := m) hV
                first | have f69 : 0 ≤ (m 103 l4.toNatClampNeg).toInt ∧ (m 103 l4.toNatClampNeg).toInt ≤ 4599 := ra_103 (m := m) hV (k := l4.toNatClampNeg) (i_ix (n := 3100) (by omega) (by omega)).2 | have b70 := i_bd (m 103 l4.toNatClampNeg)
                refine zd (fun (h71 : (m 94 14) ≤ (m 103 l4.toNatClampNeg)) => ?_) (fun (h71 : ¬ (m 94 14) ≤ (m 103 l4.toNatClampNeg)) => ?_)
                · skip
                  have g72 := i_le h71
                  have b73 := i_bd l3
                  refine zd (fun (h74 : l3 < (0 : Int32)) => ?_) (fun (h74 : ¬ l3 < (0 : Int32)) => ?_)
                  · skip
                    have g75 := i_lt h74
                    first | have e76 : (l4 + (1 : Int32)).toInt = l4.toInt + (1) := i_addk rfl (by omega) (by omega) | have b77 := i_bd (l4 + (1 : Int32))
                    exact IH (3100 - (l4 + (1 : Int32)).toInt).toNat (by omega) _ (l1) (l2) (l4) ((l4 + (1 : Int32))) rfl hF hV (by omega) (by omega) (by omega) (by omega) (show zWS (m 100) (m 99) (m 110) (m 109) ab l4 from by first | (exact Or.inl (by decide)) | (exact Or.inr ⟨by omega, by omega, by assumption, by assumption, by assumption, by omega⟩) | (exfalso; omega; done) | (exfalso; contradiction; done))
                  · skip
                    have g78 := i_nlt h74
                    have hg79 : (0 ≤ l4 ∧ l4.toNatClampNeg < 3100) := i_ix (by omega) (by omega)
                    refine ⟨hg79, ?_⟩
                    have hg80 : (0 ≤ l3 ∧ l3.toNatClampNeg < 3100) := i_ix (by omega) (by omega)
                    refine ⟨hg80, ?_⟩
                    first | have f81 : 0 ≤ (m 100 l3.toNatClampNeg).toInt ∧ (m 100 l3.toNatClampNeg).toInt ≤ 100000 := ra_100 (m := m) hV (k := l3.toNatClampNeg) (i_ix (n := 3100) (by omega) (by omega)).2 | have b82 := i_bd (m 100 l3.toNatClampNeg)
                    refine zd (fun (h83 : (m 100 l3.toNatClampNeg) ≤ (m 100 l4.toNatClampNeg)) => ?_) (fun (h83 : ¬ (m 100 l3.toNatClampNeg) ≤ (m 100 l4.toNatClampNeg)) => ?_)
                    · skip
                      have g84 := i_le h83
                      first | have e85 : (l4 + (1 : Int32)).toInt = l4.toInt + (1) := i_addk rfl (by omega) (by omega) | have b86 := i_bd (l4 + (1 : Int32))
                      exact IH (3100 - (l4 + (1 : Int32)).toInt).toNat (by omega) _ (l1) (l2) (l3) ((l4 + (1 : Int32))) rfl hF hV (by omega) (by omega) (by omega) (by omega) r_WS
                    · skip
                      have g87 := i_nle h83
                      first | have e88 : (l4 + (1 : Int32)).toInt = l4.toInt + (1) := i_addk rfl (by omega) (by omega) | have b89 := i_bd (l4 + (1 : Int32))
                      exact IH (3100 - (l4 + (1 : Int32)).toInt).toNat (by omega) _ (l1) (l2) (l4) ((l4 + (1 : Int32))) rfl hF hV (by omega) (by omega) (by omega) (by omega) (show zWS (m 100) (m 99) (m 110) (m 109) ab l4 from by first | (exact Or.inl (by decide)) | (exact Or.inr ⟨by omega, by omega, by assumption, by assumption, by assumption, by omega⟩) | (exfalso; omega; done) | (exfalso; contradiction; done))
                · skip
                  have g90 := i_nle h71
                  have b91 := i_bd l3
                  first | have e92 : (l4 + (1 : Int32)).toInt = l4.toInt + (1) := i_addk rfl (by omega) (by omega) | have b93 := i_bd (l4 + (1 : Int32))
                  exact IH (3100 - (l4 + (1 : Int32)).toInt).toNat (by omega) _ (l1) (l2) (l3) ((l4 + (1 : Int32))) rfl hF hV (by omega) (by omega) (by omega) (by omega) r_WS
        · skip
          have g94 := i_ne h22
          have b95 := i_bd l1
          have b96 := i_bd l2
          have b97 := i_bd l3
          first | have e98 : (l4 + (1 : Int32)).toInt = l4.toInt + (1) := i_addk rfl (by omega) (by omega) | have b99 := i_bd (l4 + (1 : Int32))
          exact IH (3100 - (l4 + (1 : Int32)).toInt).toNat (by omega) _ (l1) (l2) (l3) ((l4 + (1 : Int32))) rfl hF hV (by omega) (by omega) (by omega) (by omega) r_WS
theorem sp_195 {X : Nat × (Nat → Int32)} {P : Option ma_V → (Nat → Nat → Int32) → Prop} {m : Nat → Nat → Int32} (ab : Int32) (yo : Int32) (hV : zV m)  (KZ : ∀ v m₉, zV (zov wr_195 m m₉) → (zWS (m 100) (m 99) (m 110) (m 109) ab v) → P (some (.inl v)) (zov wr_195 m m₉)) : zm X 1 21 195 0 [(0, .inr (.inr (some 94))), (1, .inl ab), (2, .inl yo)] m P := by
  have K : ∀ v m₉, zF wr_195 m m₉ → zV m₉ → (zWS (m₉ 100) (m₉ 99) (m₉ 110) (m₉ 109) ab v) → P (some (.inl v)) m₉ := by
    intro v m₉ hf z q0
    have e := zov_eq hf
    rw [e] at z ⊢
    try rw [e] at q0
    exact KZ v m₉ z q0
  refine g_195_0 ab yo ?_
  have b1 := i_bd ab
  have b2 := i_bd yo
  have li3 : (-1 : Int32).toInt = -1 := rfl
  have li4 : (0 : Int32).toInt = 0 := rfl
  exact lp_195_5 (ab := ab) (yo := yo) hV K _ _ (ab) (yo) ((-1 : Int32)) ((0 : Int32)) rfl zF_rfl hV (by omega) (by omega) (by omega) (by omega) (show zWS (m 100) (m 99) (m 110) (m 109) ab (-1 : Int32) from by first | (exact Or.inl (by decide)) | (exact Or.inr ⟨by omega, by omega, by assumption, by assumption, by assumption, by omega⟩) | (exfalso; omega; done) | (exfalso; contradiction; done))

/-! from 94.414 -/
/-! the reference (written by wip/tools/gen94m.py) -/
set_option maxRecDepth 100000 in
theorem hm_198 : ma_md 198 = some (12, yX12_unweak, cX12_unweak, 3, none) := rfl
theorem s_113 : zs 113 = some (20, 16) := rfl
theorem r_94_52 : zfi 94 52 = some 113 := rfl
theorem f_12_71_12 : ma_fld 12 71 12 = some 52 := by decide +kernel
theorem dX12_unweak_0 : decode cX12_unweak 0 = .ok (.iconst 0, 1) := by decide +kernel
theorem dX12_unweak_1 : decode cX12_unweak 1 = .ok (.istore_n 2, 1) := by decide +kernel
theorem dX12_unweak_2 : decode cX12_unweak 2 = .ok (.iload_n 2, 1) := by decide +kernel
theorem dX12_unweak_3 : decode cX12_unweak 3 = .ok (.bipush 16, 2) := by decide +kernel
theorem dX12_unweak_31 : decode cX12_unweak 31 = .ok (.return_, 1) := by decide +kernel
theorem dX12_unweak_8 : decode cX12_unweak 8 = .ok (.aload_n 0, 1) := by decide +kernel
theorem dX12_unweak_12 : decode cX12_unweak 12 = .ok (.iload_n 2, 1) := by decide +kernel
theorem dX12_unweak_14 : decode cX12_unweak 14 = .ok (.iload_n 1, 1) := by decide +kernel
theorem dX12_unweak_25 : decode cX12_unweak 25 = .ok (.iinc 2 1, 3) := by decide +kernel
theorem dX12_unweak_28 : decode cX12_unweak 28 = .ok (.goto (-26), 3) := by decide +kernel
theorem dX12_unweak_18 : decode cX12_unweak 18 = .ok (.aload_n 0, 1) := by decide +kernel
theorem dX12_unweak_22 : decode cX12_unweak 22 = .ok (.iload_n 2, 1) := by decide +kernel
theorem dX12_unweak_23 : decode cX12_unweak 23 = .ok (.iconst (-1), 1) := by decide +kernel
theorem dX12_unweak_24 : decode cX12_unweak 24 = .ok (.iastore, 1) := by decide +kernel
theorem dX12_unweak_19 : decode cX12_unweak 19 = .ok (.getfield 71, 3) := by decide +kernel
theorem dX12_unweak_15 : decode cX12_unweak 15 = .ok (.if_icmp .ne 10, 3) := by decide +kernel
theorem dX12_unweak_13 : decode cX12_unweak 13 = .ok (.iaload, 1) := by decide +kernel
theorem dX12_unweak_9 : decode cX12_unweak 9 = .ok (.getfield 71, 3) := by decide +kernel
theorem dX12_unweak_5 : decode cX12_unweak 5 = .ok (.if_icmp .ge 26, 3) := by decide +kernel
def wr_198 (c _ : Nat) : Bool := Nat.beq c 113
theorem g_198_0 {X : Nat × (Nat → Int32)} {m : Nat → Nat → Int32} {P : Option ma_V → (Nat → Nat → Int32) → Prop} (s : Int32) (h : zm X 0 0 198 2 [(0, .inr (.inr (some 94))), (1, .inl s), (2, .inl (0 : Int32))] m P) : zm X 0 0 198 0 [(0, .inr (.inr (some 94))), (1, .inl s)] m P := by
  intro d w S Q hd hw hS hm HQ
  subst hm
  refine zw_push hm_198 dX12_unweak_0 (v := .inl (0 : Int32)) rfl ?_
  refine zw_sto hm_198 dX12_unweak_1 [(2, .inl (0 : Int32)), (0, .inr (.inr (some 94))), (1, .inl s)] rfl rfl rfl ?_
  exact zw_sub (ma_nd_of (ks := [0, 1, 2]) rfl (by decide)) (ma_nd_of (ks := [2, 0, 1]) rfl (by decide)) (ma_le_cons rfl (ma_le_cons rfl (ma_le_cons rfl (ma_le_nil _)))) (h d w _ Q (by omega) (by omega) hS rfl HQ)
theorem g_198_2 {X : Nat × (Nat → Int32)} {m : Nat → Nat → Int32} {P : Option ma_V → (Nat → Nat → Int32) → Prop} (l1 : Int32) (l2 : Int32) (h : if (16 : Int32) ≤ l2 then (P none m) else ((0 ≤ l2 ∧ l2.toNatClampNeg < 16) ∧ (if (m 113 l2.toNatClampNeg) = l1 then ((0 ≤ l2 ∧ l2.toNatClampNeg < 16) ∧ (zm X 0 0 198 2 [(0, .inr (.inr (some 94))), (1, .inl l1), (2, .inl (l2 + (1 : Int32)))] (ma_u m 113 l2.toNatClampNeg (-1 : Int32)) P)) else (zm X 0 0 198 2 [(0, .inr (.inr (some 94))), (1, .inl l1), (2, .inl (l2 + (1 : Int32)))] m P)))) : zm X 0 0 198 2 [(0, .inr (.inr (some 94))), (1, .inl l1), (2, .inl l2)] m P := by
  intro d w S Q hd hw hS hm HQ
  subst hm
  refine zw_push hm_198 dX12_unweak_2 (v := .inl l2) rfl ?_
  refine zw_push hm_198 dX12_unweak_3 (v := .inl (16 : Int32)) rfl ?_
  refine zw_if2 hm_198 dX12_unweak_5 (t := 31) rfl zc2_ge ?_ ?_
  · intro hc
    rw [if_pos hc] at h
    exact zw_vret hm_198 dX12_unweak_31 (HQ _ _ h)
  · intro hc
    rw [if_neg hc] at h
    refine zw_push hm_198 dX12_unweak_8 (v := .inr (.inr (some 94))) rfl ?_
    refine zw_gf hm_198 dX12_unweak_9 (v := .inr (.inr (some 113))) (zT_is hS s_94) (zT_t hS s_94) rfl f_12_71_12 (zT_f hS r_94_52) ?_
    refine zw_push hm_198 dX12_unweak_12 (v := .inl l2) rfl ?_
    obtain ⟨hg, h⟩ := h
    refine zw_ia hm_198 dX12_unweak_13 (zT_is hS s_113) (zT_h hS s_113) rfl hg ?_
    show ma_wp X d w 198 14 [(0, .inr (.inr (some 94))), (1, .inl l1), (2, .inl l2)] [.inl ((mI S) 113 l2.toNatClampNeg)] S _
    refine zw_push hm_198 dX12_unweak_14 (v := .inl l1) rfl ?_
    refine zw_if2 hm_198 dX12_unweak_15 (t := 25) rfl zc2_ne ?_ ?_
    · intro hc
      rw [if_neg hc] at h
      refine zw_sto hm_198 dX12_unweak_25 [(2, .inl (l2 + (1 : Int32))), (0, .inr (.inr (some 94))), (1, .inl l1)] rfl rfl rfl ?_
      refine zw_goto hm_198 dX12_unweak_28 (t := 2) rfl ?_
      exact zw_sub (ma_nd_of (ks := [0, 1, 2]) rfl (by decide)) (ma_nd_of (ks := [2, 0, 1]) rfl (by decide)) (ma_le_cons rfl (ma_le_cons rfl (ma_le_cons rfl (ma_le_nil _)))) (h d w _ Q (by omega) (by omega) hS rfl HQ)
    · intro hc
      rw [if_pos (Classical.not_not.mp hc)] at h
      refine zw_push hm_198 dX12_unweak_18 (v := .inr (.inr (some 94))) rfl ?_
      refine zw_gf hm_198 dX12_unweak_19 (v := .inr (.inr (some 113))) (zT_is hS s_94) (zT_t hS s_94) rfl f_12_71_12 (zT_f hS r_94_52) ?_
      refine zw_push hm_198 dX12_unweak_22 (v := .inl l2) rfl ?_
      refine zw_push hm_198 dX12_unweak_23 (v := .inl (-1 : Int32)) rfl ?_
      obtain ⟨hg, h⟩ := h
      refine zw_ias hm_198 dX12_unweak_24 (zT_is hS s_113) (zT_h hS s_113) rfl hg ?_
      refine zw_sto hm_198 dX12_unweak_25 [(2, .inl (l2 + (1 : Int32))), (0, .inr (.inr (some 94))), (1, .inl l1)] rfl rfl rfl ?_
      refine zw_goto hm_198 dX12_unweak_28 (t := 2) rfl ?_
      exact zw_sub (ma_nd_of (ks := [0, 1, 2]) rfl (by decide)) (ma_nd_of (ks := [2, 0, 1]) rfl (by decide)) (ma_le_cons rfl (ma_le_cons rfl (ma_le_cons rfl (ma_le_nil _)))) (h d w _ Q (by omega) (by omega) (zT_pi hS) rfl HQ)
theorem lp_198_2 {X : Nat × (Nat → Int32)} {P : Option ma_V → (Nat → Nat → Int32) → Prop} {s : Int32} {m0 : Nat → Nat → Int32} (h0 : zV m0) (K : ∀ m₉, zF wr_198 m0 m₉ → zV m₉ → (zuw (m0 113) (m₉ 113)) → P none m₉) : ∀ (n : Nat) (m : Nat → Nat → Int32) (l1 : Int32) (l2 : Int32), (16 - l2.toInt).toNat = n → zF wr_198 m0 m → zV m → (0 ≤ l2.toInt) → (zuw (m0 113) (m 113)) → zm X 0 0 198 2 [(0, .inr (.inr (some 94))), (1, .inl l1), (2, .inl l2)] m P := by
  intro n
  induction n using Nat.strongRecOn with
  | _ n IH =>
    intro m l1 l2 hmu hF hV hi0 r_UW
    refine g_198_2 l1 l2 ?_
    have li1 : (16 : Int32).toInt = 16 := rfl
    have b2 := i_bd l2
    refine zd (fun (h3 : (16 : Int32) ≤ l2) => ?_) (fun (h3 : ¬ (16 : Int32) ≤ l2) => ?_)
    · skip
      have g4 := i_le h3
      exact K _ hF hV r_UW
    · skip
      have g5 := i_nle h3
      have hg6 : (0 ≤ l2 ∧ l2.toNatClampNeg < 16) := i_ix (by omega) (by omega)
      refine ⟨hg6, ?_⟩
      first | have f7 : -1 ≤ (m 113 l2.toNatClampNeg).toInt ∧ (m 113 l2.toNatClampNeg).toInt ≤ 3099 := ra_113 (m := m) hV (k := l2.toNatClampNeg) (i_ix (n := 16) (by omega) (by omega)).2 | have b8 := i_bd (m 113 l2.toNatClampNeg)
      have b9 := i_bd l1
      refine zd (fun (h10 : (m 113 l2.toNatClampNeg) = l1) => ?_) (fun (h10 : ¬ (m 113 l2.toNatClampNeg) = l1) => ?_)
      · skip
        have g11 := i_eq h10
        have hg12 : (0 ≤ l2 ∧ l2.toNatClampNeg < 16) := i_ix (by omega) (by omega)
        refine ⟨hg12, ?_⟩
        have li14 : (-1 : Int32).toInt = -1 := rfl
        have hV13 : zV (ma_u m 113 l2.toNatClampNeg (-1 : Int32)) := ua_113 hV (by omega) (by omega)
        first | have e15 : (l2 + (1 : Int32)).toInt = l2.toInt + (1) := i_addk rfl (by omega) (by omega) | have b16 := i_bd (l2 + (1 : Int32))
        exact IH (16 - (l2 + (1 : Int32)).toInt).toNat (by omega) _ (l1) ((l2 + (1 : Int32))) rfl (zF_u hF rfl) hV13 (by omega) (show zuw (m0 113) ((ma_u m 113 l2.toNatClampNeg (-1 : Int32)) 113) from by first | (exact zuw_put r_UW (by decide)) | (exfalso; omega; done) | (exfalso; contradiction; done))
      · skip
        have g17 := i_ne h10
        first | have e18 : (l2 + (1 : Int32)).toInt = l2.toInt + (1) := i_addk rfl (by omega) (by omega) | have b19 := i_bd (l2 + (1 : Int32))
        exact IH (16 - (l2 + (1 : Int32)).toInt).toNat (by omega) _ (l1) ((l2 + (1 : Int32))) rfl hF hV (by omega) r_UW
theorem sp_198 {X : Nat × (Nat → Int32)} {P : Option ma_V → (Nat → Nat → Int32) → Prop} {m : Nat → Nat → Int32} (s : Int32) (hV : zV m)  (KZ : ∀ m₉, zV (zov wr_198 m m₉) → (zuw (m 113) (m₉ 113)) → P none (zov wr_198 m m₉)) : zm X 0 0 198 0 [(0, .inr (.inr (some 94))), (1, .inl s)] m P := by
  have K : ∀ m₉, zF wr_198 m m₉ → zV m₉ → (zuw (m 113) (m₉ 113)) → P none m₉ := by
    intro m₉ hf z q0
    have e := zov_eq hf
    rw [e] at z ⊢
    try rw [e] at q0
    exact KZ m₉ z q0
  refine g_198_0 s ?_
  have b1 := i_bd s
  have li2 : (0 : Int32).toInt = 0 := rfl
  exact lp_198_2 (s := s) hV K _ _ (s) ((0 : Int32)) rfl zF_rfl hV (by omega) (show zuw (m 113) (m 113) from by first | (exact zuw_rfl) | (exfalso; omega; done) | (exfalso; contradiction; done))
set_option maxRecDepth 100000 in
theorem hm_199 : ma_md 199 = some (12, yX12_unweakRest, cX12_unweakRest, 2, none) := rfl
theorem dX12_unweakRest_0 : decode cX12_unweakRest 0 = .ok (.iconst 0, 1) := by decide +kernel
theorem dX12_unweakRest_1 : decode cX12_unweakRest 1 = .ok (.istore_n 1, 1) := by decide +kernel
theorem dX12_unweakRest_2 : decode cX12_unweakRest 2 = .ok (.iload_n 1, 1) := by decide +kernel
theorem dX12_unweakRest_3 : decode cX12_unweakRest 3 = .ok (.bipush 16, 2) := by decide +kernel
theorem dX12_unweakRest_44 : decode cX12_unweakRest 44 = .ok (.return_, 1) := by decide +kernel
theorem dX12_unweakRest_8 : decode cX12_unweakRest 8 = .ok (.aload_n 0, 1) := by decide +kernel
theorem dX12_unweakRest_12 : decode cX12_unweakRest 12 = .ok (.iload_n 1, 1) := by decide +kernel
theorem dX12_unweakRest_38 : decode cX12_unweakRest 38 = .ok (.iinc 1 1, 3) := by decide +kernel
theorem dX12_unweakRest_41 : decode cX12_unweakRest 41 = .ok (.goto (-39), 3) := by decide +kernel
theorem dX12_unweakRest_17 : decode cX12_unweakRest 17 = .ok (.aload_n 0, 1) := by decide +kernel
theorem dX12_unweakRest_21 : decode cX12_unweakRest 21 = .ok (.aload_n 0, 1) := by decide +kernel
theorem dX12_unweakRest_25 : decode cX12_unweakRest 25 = .ok (.iload_n 1, 1) := by decide +kernel
theorem dX12_unweakRest_31 : decode cX12_unweakRest 31 = .ok (.aload_n 0, 1) := by decide +kernel
theorem dX12_unweakRest_35 : decode cX12_unweakRest 35 = .ok (.iload_n 1, 1) := by decide +kernel
theorem dX12_unweakRest_36 : decode cX12_unweakRest 36 = .ok (.iconst (-1), 1) := by decide +kernel
theorem dX12_unweakRest_37 : decode cX12_unweakRest 37 = .ok (.iastore, 1) := by decide +kernel
theorem dX12_unweakRest_32 : decode cX12_unweakRest 32 = .ok (.getfield 71, 3) := by decide +kernel
theorem dX12_unweakRest_28 : decode cX12_unweakRest 28 = .ok (.ifCond .ne 10, 3) := by decide +kernel
theorem dX12_unweakRest_27 : decode cX12_unweakRest 27 = .ok (.baload, 1) := by decide +kernel
theorem dX12_unweakRest_26 : decode cX12_unweakRest 26 = .ok (.iaload, 1) := by decide +kernel
theorem dX12_unweakRest_22 : decode cX12_unweakRest 22 = .ok (.getfield 71, 3) := by decide +kernel
theorem dX12_unweakRest_18 : decode cX12_unweakRest 18 = .ok (.getfield 62, 3) := by decide +kernel
theorem dX12_unweakRest_14 : decode cX12_unweakRest 14 = .ok (.ifCond .lt 24, 3) := by decide +kernel
theorem dX12_unweakRest_13 : decode cX12_unweakRest 13 = .ok (.iaload, 1) := by decide +kernel
theorem dX12_unweakRest_9 : decode cX12_unweakRest 9 = .ok (.getfield 71, 3) := by decide +kernel
theorem dX12_unweakRest_5 : decode cX12_unweakRest 5 = .ok (.if_icmp .ge 39, 3) := by decide +kernel
def wr_199 (c _ : Nat) : Bool := Nat.beq c 113
theorem g_199_0 {X : Nat × (Nat → Int32)} {m : Nat → Nat → Int32} {P : Option ma_V → (Nat → Nat → Int32) → Prop}  (h : zm X 0 0 199 2 [(0, .inr (.inr (some 94))), (1, .inl (0 : Int32))] m P) : zm X 0 0 199 0 [(0, .inr (.inr (some 94)))] m P := by
  intro d w S Q hd hw hS hm HQ
  subst hm
  refine zw_push hm_199 dX12_unweakRest_0 (v := .inl (0 : Int32)) rfl ?_
  refine zw_sto hm_199 dX12_unweakRest_1 [(1, .inl (0 : Int32)), (0, .inr (.inr (some 94)))] rfl rfl rfl ?_
  exact zw_sub (ma_nd_of (ks := [0, 1]) rfl (by decide)) (ma_nd_of (ks := [1, 0]) rfl (by decide)) (ma_le_cons rfl (ma_le_cons rfl (ma_le_nil _))) (h d w _ Q (by omega) (by omega) hS rfl HQ)
theorem g_199_2 {X : Nat × (Nat → Int32)} {m : Nat → Nat → Int32} {P : Option ma_V → (Nat → Nat → Int32) → Prop} (l1 : Int32) (h : if (16 : Int32) ≤ l1 then (P none m) else ((0 ≤ l1 ∧ l1.toNatClampNeg < 16) ∧ (if (m 113 l1.toNatClampNeg) < 0 then (zm X 0 0 199 2 [(0, .inr (.inr (some 94))), (1, .inl (l1 + (1 : Int32)))] m P) else ((0 ≤ l1 ∧ l1.toNatClampNeg < 16) ∧ ((0 ≤ (m 113 l1.toNatClampNeg) ∧ (m 113 l1.toNatClampNeg).toNatClampNeg < 3100) ∧ (if (m 110 (m 113 l1.toNatClampNeg).toNatClampNeg) = 0 then ((0 ≤ l1 ∧ l1.toNatClampNeg < 16) ∧ (zm X 0 0 199 2 [(0, .inr (.inr (some 94))), (1, .inl (l1 + (1 : Int32)))] (ma_u m 113 l1.toNatClampNeg (-1 : Int32)) P)) else (zm X 0 0 199 2 [(0, .inr (.inr (some 94))), (1, .inl (l1 + (1 : Int32)))] m P))))))) : zm X 0 0 199 2 [(0, .inr (.inr (some 94))), (1, .inl l1)] m P := by
  intro d w S Q hd hw hS hm HQ
  subst hm
  refine zw_push hm_199 dX12_unweakRest_2 (v := .inl l1) rfl ?_
  refine zw_push hm_199 dX12_unweakRest_3 (v := .inl (16 : Int32)) rfl ?_
  refine zw_if2 hm_199 dX12_unweakRest_5 (t := 44) rfl zc2_ge ?_ ?_
  · intro hc
    rw [if_pos hc] at h
    exact zw_vret hm_199 dX12_unweakRest_44 (HQ _ _ h)
  · intro hc
    rw [if_neg hc] at h
    refine zw_push hm_199 dX12_unweakRest_8 (v := .inr (.inr (some 94))) rfl ?_
    refine zw_gf hm_199 dX12_unweakRest_9 (v := .inr (.inr (some 113))) (zT_is hS s_94) (zT_t hS s_94) rfl f_12_71_12 (zT_f hS r_94_52) ?_
    refine zw_push hm_199 dX12_unweakRest_12 (v := .inl l1) rfl ?_
    obtain ⟨hg, h⟩ := h
    refine zw_ia hm_199 dX12_unweakRest_13 (zT_is hS s_113) (zT_h hS s_113) rfl hg ?_
    show ma_wp X d w 199 14 [(0, .inr (.inr (some 94))), (1, .inl l1)] [.inl ((mI S) 113 l1.toNatClampNeg)] S _
    refine zw_if0 hm_199 dX12_unweakRest_14 (t := 38) rfl zc0_lt ?_ ?_
    · intro hc
      rw [if_pos hc] at h
      refine zw_sto hm_199 dX12_unweakRest_38 [(1, .inl (l1 + (1 : Int32))), (0, .inr (.inr (some 94)))] rfl rfl rfl ?_
      refine zw_goto hm_199 dX12_unweakRest_41 (t := 2) rfl ?_
      exact zw_sub (ma_nd_of (ks := [0, 1]) rfl (by decide)) (ma_nd_of (ks := [1, 0]) rfl (by decide)) (ma_le_cons rfl (ma_le_cons rfl (ma_le_nil _))) (h d w _ Q (by omega) (by omega) hS rfl HQ)
    · intro hc
      rw [if_neg hc] at h
      refine zw_push hm_199 dX12_unweakRest_17 (v := .inr (.inr (some 94))) rfl ?_
      refine zw_gf hm_199 dX12_unweakRest_18 (v := .inr (.inr (some 110))) (zT_is hS s_94) (zT_t hS s_94) rfl f_12_62_12 (zT_f hS r_94_42) ?_
      refine zw_push hm_199 dX12_unweakRest_21 (v := .inr (.inr (some 94))) rfl ?_
      refine zw_gf hm_199 dX12_unweakRest_22 (v := .inr (.inr (some 113))) (zT_is hS s_94) (zT_t hS s_94) rfl f_12_71_12 (zT_f hS r_94_52) ?_
      refine zw_push hm_199 dX12_unweakRest_25 (v := .inl l1) rfl ?_
      obtain ⟨hg, h⟩ := h
      refine zw_ia hm_199 dX12_unweakRest_26 (zT_is hS s_113) (zT_h hS s_113) rfl hg ?_
      show ma_wp X d w 199 27 [(0, .inr (.inr (some 94))), (1, .inl l1)] [.inl ((mI S) 113 l1.toNatClampNeg), .inr (.inr (some 110))] S _
      obtain ⟨hg, h⟩ := h
      refine zw_ba hm_199 dX12_unweakRest_27 (zT_is hS s_110) (zT_h hS s_110) rfl rfl hg ?_
      show ma_wp X d w 199 28 [(0, .inr (.inr (some 94))), (1, .inl l1)] [.inl ((mI S) 110 ((mI S) 113 l1.toNatClampNeg).toNatClampNeg)] S _
      refine zw_if0 hm_199 dX12_unweakRest_28 (t := 38) rfl zc0_ne ?_ ?_
      · intro hc
        rw [if_neg hc] at h
        refine zw_sto hm_199 dX12_unweakRest_38 [(1, .inl (l1 + (1 : Int32))), (0, .inr (.inr (some 94)))] rfl rfl rfl ?_
        refine zw_goto hm_199 dX12_unweakRest_41 (t := 2) rfl ?_
        exact zw_sub (ma_nd_of (ks := [0, 1]) rfl (by decide)) (ma_nd_of (ks := [1, 0]) rfl (by decide)) (ma_le_cons rfl (ma_le_cons rfl (ma_le_nil _))) (h d w _ Q (by omega) (by omega) hS rfl HQ)
      · intro hc
        rw [if_pos (Classical.not_not.mp hc)] at h
        refine zw_push hm_199 dX12_unweakRest_31 (v := .inr (.inr (some 94))) rfl ?_
        refine zw_gf hm_199 dX12_unweakRest_32 (v := .inr (.inr (some 113))) (zT_is hS s_94) (zT_t hS s_94) rfl f_12_71_12 (zT_f hS r_94_52) ?_
        refine zw_push hm_199 dX12_unweakRest_35 (v := .inl l1) rfl ?_
        refine zw_push hm_199 dX12_unweakRest_36 (v := .inl (-1 : Int32)) rfl ?_
        obtain ⟨hg, h⟩ := h
        refine zw_ias hm_199 dX12_unweakRest_37 (zT_is hS s_113) (zT_h hS s_113) rfl hg ?_
        refine zw_sto hm_199 dX12_unweakRest_38 [(1, .inl (l1 + (1 : Int32))), (0, .inr (.inr (some 94)))] rfl rfl rfl ?_
        refine zw_goto hm_199 dX12_unweakRest_41 (t := 2) rfl ?_
        exact zw_sub (ma_nd_of (ks := [0, 1]) rfl (by decide)) (ma_nd_of (ks := [1, 0]) rfl (by decide)) (ma_le_cons rfl (ma_le_cons rfl (ma_le_nil _))) (h d w _ Q (by omega) (by omega) (zT_pi hS) rfl HQ)
theorem lp_199_2 {X : Nat × (Nat → Int32)} {P : Option ma_V → (Nat → Nat → Int32) → Prop} {m0 : Nat → Nat → Int32} (h0 : zV m0) (K : ∀ m₉, zF wr_199 m0 m₉ → zV m₉ → (zuw (m0 113) (m₉ 113)) → (zcov (m₉ 110) (m₉ 113) 16) → P none m₉) : ∀ (n : Nat) (m : Nat → Nat → Int32) (l1 : Int32), (16 - l1.toInt).toNat = n → zF wr_199 m0 m → zV m → (0 ≤ l1.toInt) → (zuw (m0 113) (m 113)) → (zcov (m 110) (m 113) l1.toInt) → zm X 0 0 199 2 [(0, .inr (.inr (some 94))), (1, .inl l1)] m P := by
  intro n
  induction n using Nat.strongRecOn with
  | _ n IH =>
    intro m l1 hmu hF hV hi0 r_UW r_COVK
    refine g_199_2 l1 ?_
    have li1 : (16 : Int32).toInt = 16 := rfl
    have b2 := i_bd l1
    refine zd (fun (h3 : (16 : Int32) ≤ l1) => ?_) (fun (h3 : ¬ (16 : Int32) ≤ l1) => ?_)
    · skip
      have g4 := i_le h3
      exact K _ hF hV r_UW (show zcov (m 110) (m 113) 16 from by first | (exact cov_cut r_COVK (by omega)) | (exact fun hp => cov_0 (by decide)) | (exact fun hp => cov_one (r_COVK hp) rfl (by omega) (by omega) (Or.inl (by omega))) | (exact fun hp => cov_one (r_COVK hp) rfl (by omega) (by omega) (Or.inr (by assumption))) | (exact fun hp => cov_cut (r_COVK hp) (by omega)) | (exfalso; omega; done) | (exfalso; contradiction; done))
    · skip
      have g5 := i_nle h3
      have hg6 : (0 ≤ l1 ∧ l1.toNatClampNeg < 16) := i_ix (by omega) (by omega)
      refine ⟨hg6, ?_⟩
      first | have f7 : -1 ≤ (m 113 l1.toNatClampNeg).toInt ∧ (m 113 l1.toNatClampNeg).toInt ≤ 3099 := ra_113 (m := m) hV (k := l1.toNatClampNeg) (i_ix (n := 16) (by omega) (by omega)).2 | have b8 := i_bd (m 113 l1.toNatClampNeg)
      have li9 : (0 : Int32).toInt = 0 := rfl
      refine zd (fun (h10 : (m 113 l1.toNatClampNeg) < (0 : Int32)) => ?_) (fun (h10 : ¬ (m 113 l1.toNatClampNeg) < (0 : Int32)) => ?_)
      · skip
        have g11 := i_lt h10
        first | have e12 : (l1 + (1 : Int32)).toInt = l1.toInt + (1) := i_addk rfl (by omega) (by omega) | have b13 := i_bd (l1 + (1 : Int32))
        exact IH (16 - (l1 + (1 : Int32)).toInt).toNat (by omega) _ ((l1 + (1 : Int32))) rfl hF hV (by omega) r_UW (show zcov (m 110) (m 113) (l1 + (1 : Int32)).toInt from by first | (exact cov_one r_COVK rfl (by omega) (by omega) (Or.inl (by omega))) | (exact cov_one r_COVK rfl (by omega) (by omega) (Or.inr (by assumption))) | (exact fun hp => cov_0 (by decide)) | (exact fun hp => cov_one (r_COVK hp) rfl (by omega) (by omega) (Or.inl (by omega))) | (exact fun hp => cov_one (r_COVK hp) rfl (by omega) (by omega) (Or.inr (by assumption))) | (exact fun hp => cov_cut (r_COVK hp) (by omega)) | (exfalso; omega; done) | (exfalso; contradiction; done))
      · skip
        have g14 := i_nlt h10
        have hg15 : (0 ≤ l1 ∧ l1.toNatClampNeg < 16) := i_ix (by omega) (by omega)
        refine ⟨hg15, ?_⟩
        have hg16 : (0 ≤ (m 113 l1.toNatClampNeg) ∧ (m 113 l1.toNatClampNeg).toNatClampNeg < 3100) := i_ix (by omega) (by omega)
        refine ⟨hg16, ?_⟩
        first | have f17 : 0 ≤ (m 110 (m 113 l1.toNatClampNeg).toNatClampNeg).toInt ∧ (m 110 (m 113 l1.toNatClampNeg).toNatClampNeg).toInt ≤ 1 := ra_110 (m := m) hV (k := (m 113 l1.toNatClampNeg).toNatClampNeg) (i_ix (n := 3100) (by omega) (by omega)).2 | have b18 := i_bd (m 110 (m 113 l1.toNatClampNeg).toNatClampNeg)
        refine zd (fun (h19 : (m 110 (m 113 l1.toNatClampNeg).toNatClampNeg) = (0 : Int32)) => ?_) (fun (h19 : ¬ (m 110 (m 113 l1.toNatClampNeg).toNatClampNeg) = (0 : Int32)) => ?_)
        · skip
          have g20 := i_eq h19
          have hg21 : (0 ≤ l1 ∧ l1.toNatClampNeg < 16) := i_ix (by omega) (by omega)
          refine ⟨hg21, ?_⟩
          have li23 : (-1 : Int32).toInt = -1 := rfl
          have hV22 : zV (ma_u m 113 l1.toNatClampNeg (-1 : Int32)) := ua_113 hV (by omega) (by omega)
          first | have e24 : (l1 + (1 : Int32)).toInt = l1.toInt + (1) := i_addk rfl (by omega) (by omega) | have b25 := i_bd (l1 + (1 : Int32))
          exact IH (16 - (l1 + (1 : Int32)).toInt).toNat (by omega) _ ((l1 + (1 : Int32))) rfl (zF_u hF rfl) hV22 (by omega) (show zuw (m0 113) ((ma_u m 113 l1.toNatClampNeg (-1 : Int32)) 113) from by first | (exact zuw_put r_UW (by decide)) | (exfalso; omega; done) | (exfalso; contradiction; done)) (show zcov (m 110) ((ma_u m 113 l1.toNatClampNeg (-1 : Int32)) 113) (l1 + (1 : Int32)).toInt from by first | (exact cov_one (cov_uw r_COVK (zuw_put zuw_rfl (by decide))) rfl (by omega) (by omega) (Or.inl (by rw [mu_self]; decide))) | (exact fun hp => cov_one (cov_push (r_COVK hp) (by decide)) rfl (by omega) (by omega) (Or.inr (by rw [mu_self]; decide))) | (exact fun hp => cov_push (r_COVK hp) (by decide)) | (exfalso; omega; done) | (exfalso; contradiction; done))
        · skip
          have g26 := i_ne h19
          first | have e27 : (l1 + (1 : Int32)).toInt = l1.toInt + (1) := i_addk rfl (by omega) (by omega) | have b28 := i_bd (l1 + (1 : Int32))
          exact IH (16 - (l1 + (1 : Int32)).toInt).toNat (by omega) _ ((l1 + (1 : Int32))) rfl hF hV (by omega) r_UW (show zcov (m 110) (m 113) (l1 + (1 : Int32)).toInt from by first | (exact cov_one r_COVK rfl (by omega) (by omega) (Or.inl (by omega))) | (exact cov_one r_COVK rfl (by omega) (by omega) (Or.inr (by assumption))) | (exact fun hp => cov_0 (by decide)) | (exact fun hp => cov_one (r_COVK hp) rfl (by omega) (by omega) (Or.inl (by omega))) | (exact fun hp => cov_one (r_COVK hp) rfl (by omega) (by omega) (Or.inr (by assumption))) | (exact fun hp => cov_cut (r_COVK hp) (by omega)) | (exfalso; omega; done) | (exfalso; contradiction; done))
theorem sp_199 {X : Nat × (Nat → Int32)} {P : Option ma_V → (Nat → Nat → Int32) → Prop} {m : Nat → Nat → Int32}  (hV : zV m)  (KZ : ∀ m₉, zV (zov wr_199 m m₉) → (zuw (m 113) (m₉ 113)) → (zcov (m 110) (m₉ 113) 16) → P none (zov wr_199 m m₉)) : zm X 0 0 199 0 [(0, .inr (.inr (some 94)))] m P := by
  have K : ∀ m₉, zF wr_199 m m₉ → zV m₉ → (zuw (m 113) (m₉ 113)) → (zcov (m₉ 110) (m₉ 113) 16) → P none m₉ := by
    intro m₉ hf z q0 q1
    have e := zov_eq hf
    rw [e] at z ⊢
    try rw [e] at q0
    try rw [e] at q1
    exact KZ m₉ z q0 q1
  refine g_199_0  ?_
  have li1 : (0 : Int32).toInt = 0 := rfl
  exact lp_199_2 hV K _ _ ((0 : Int32)) rfl zF_rfl hV (by omega) (show zuw (m 113) (m 113) from by first | (exact zuw_rfl) | (exfalso; omega; done) | (exfalso; contradiction; done)) (show zcov (m 110) (m 113) (0 : Int32).toInt from by first | (exact cov_0 (by decide)) | (exact fun hp => cov_0 (by decide)) | (exfalso; omega; done) | (exfalso; contradiction; done))

/-! from 94.415 -/
/-! the reference (written by wip/tools/gen94m.py) -/
set_option maxRecDepth 100000 in
theorem hm_197 : ma_md 197 = some (12, yX12_toWishes, cX12_toWishes, 2, none) := rfl
theorem s_105 : zs 105 = some (20, 3100) := rfl
theorem r_94_37 : zfi 94 37 = some 105 := rfl
theorem f_12_46_12 : ma_fld 12 46 12 = some 37 := by decide +kernel
theorem f_12_199_12 : ma_fld 12 199 12 = some 10 := by decide +kernel
theorem p_12_261_12 : ma_pk 12 261 12 55 = true := by decide +kernel
theorem v_12_317_12 : ma_vl 12 317 12 = some (1, 198, 1) := by decide +kernel
theorem dX12_toWishes_0 : decode cX12_toWishes 0 = .ok (.aload_n 0, 1) := by decide +kernel
theorem dX12_toWishes_1 : decode cX12_toWishes 1 = .ok (.iload_n 1, 1) := by decide +kernel
theorem dX12_toWishes_2 : decode cX12_toWishes 2 = .ok (.invokevirtual 317, 3) := by decide +kernel
theorem dX12_toWishes_5 : decode cX12_toWishes 5 = .ok (.aload_n 0, 1) := by decide +kernel
theorem dX12_toWishes_9 : decode cX12_toWishes 9 = .ok (.iload_n 1, 1) := by decide +kernel
theorem dX12_toWishes_10 : decode cX12_toWishes 10 = .ok (.iconst 0, 1) := by decide +kernel
theorem dX12_toWishes_12 : decode cX12_toWishes 12 = .ok (.aload_n 0, 1) := by decide +kernel
theorem dX12_toWishes_16 : decode cX12_toWishes 16 = .ok (.aload_n 0, 1) := by decide +kernel
theorem dX12_toWishes_20 : decode cX12_toWishes 20 = .ok (.iload_n 1, 1) := by decide +kernel
theorem dX12_toWishes_22 : decode cX12_toWishes 22 = .ok (.aload_n 0, 1) := by decide +kernel
theorem dX12_toWishes_23 : decode cX12_toWishes 23 = .ok (.dup, 1) := by decide +kernel
theorem dX12_toWishes_27 : decode cX12_toWishes 27 = .ok (.iconst 1, 1) := by decide +kernel
theorem dX12_toWishes_28 : decode cX12_toWishes 28 = .ok (.iadd, 1) := by decide +kernel
theorem dX12_toWishes_32 : decode cX12_toWishes 32 = .ok (.aload_n 0, 1) := by decide +kernel
theorem dX12_toWishes_36 : decode cX12_toWishes 36 = .ok (.iconst 4, 1) := by decide +kernel
theorem dX12_toWishes_50 : decode cX12_toWishes 50 = .ok (.return_, 1) := by decide +kernel
theorem dX12_toWishes_40 : decode cX12_toWishes 40 = .ok (.aload_n 0, 1) := by decide +kernel
theorem dX12_toWishes_44 : decode cX12_toWishes 44 = .ok (.iload_n 1, 1) := by decide +kernel
theorem dX12_toWishes_45 : decode cX12_toWishes 45 = .ok (.dup2, 1) := by decide +kernel
theorem dX12_toWishes_47 : decode cX12_toWishes 47 = .ok (.iconst 1, 1) := by decide +kernel
theorem dX12_toWishes_48 : decode cX12_toWishes 48 = .ok (.iadd, 1) := by decide +kernel
theorem dX12_toWishes_49 : decode cX12_toWishes 49 = .ok (.iastore, 1) := by decide +kernel
theorem dX12_toWishes_46 : decode cX12_toWishes 46 = .ok (.iaload, 1) := by decide +kernel
theorem dX12_toWishes_41 : decode cX12_toWishes 41 = .ok (.getfield 46, 3) := by decide +kernel
theorem dX12_toWishes_37 : decode cX12_toWishes 37 = .ok (.if_icmp .ne 13, 3) := by decide +kernel
theorem dX12_toWishes_33 : decode cX12_toWishes 33 = .ok (.getfield 199, 3) := by decide +kernel
theorem dX12_toWishes_29 : decode cX12_toWishes 29 = .ok (.putfield 261, 3) := by decide +kernel
theorem dX12_toWishes_24 : decode cX12_toWishes 24 = .ok (.getfield 261, 3) := by decide +kernel
theorem dX12_toWishes_21 : decode cX12_toWishes 21 = .ok (.iastore, 1) := by decide +kernel
theorem dX12_toWishes_17 : decode cX12_toWishes 17 = .ok (.getfield 261, 3) := by decide +kernel
theorem dX12_toWishes_13 : decode cX12_toWishes 13 = .ok (.getfield 74, 3) := by decide +kernel
theorem dX12_toWishes_11 : decode cX12_toWishes 11 = .ok (.bastore, 1) := by decide +kernel
theorem dX12_toWishes_6 : decode cX12_toWishes 6 = .ok (.getfield 59, 3) := by decide +kernel
def wr_197 (c k : Nat) : Bool := Nat.beq c 105 || Nat.beq c 109 || Nat.beq c 113 || Nat.beq c 114 || (Nat.beq c 94 && (Nat.beq k 55))
theorem ws_198_197 : ∀ c k, wr_198 c k = true → wr_197 c k = true := by
  intro c k h
  simp only [wr_198, wr_197, Bool.or_eq_true, Bool.and_eq_true, Nat.beq_eq] at h ⊢
  omega
theorem g_197_0 {X : Nat × (Nat → Int32)} {m : Nat → Nat → Int32} {P : Option ma_V → (Nat → Nat → Int32) → Prop} (s : Int32) (h : zm X 0 0 198 0 [(0, .inr (.inr (some 94))), (1, .inl s)] m (zmv (fun m1 => (0 ≤ s ∧ s.toNatClampNeg < 3100) ∧ ((0 ≤ (m1 94 55) ∧ (m1 94 55).toNatClampNeg < 3100) ∧ (if (m1 94 10) = (4 : Int32) then ((0 ≤ s ∧ s.toNatClampNeg < 3100) ∧ ((0 ≤ s ∧ s.toNatClampNeg < 3100) ∧ (P none (ma_u (ma_u (ma_u (ma_u m1 109 s.toNatClampNeg (0 : Int32)) 114 (m1 94 55).toNatClampNeg s) 94 55 ((m1 94 55) + (1 : Int32))) 105 s.toNatClampNeg ((m1 105 s.toNatClampNeg) + (1 : Int32)))))) else (P none (ma_u (ma_u (ma_u m1 109 s.toNatClampNeg (0 : Int32)) 114 (m1 94 55).toNatClampNeg s) 94 55 ((m1 94 55) + (1 : Int32))))))))) : zm X 1 22 197 0 [(0, .inr (.inr (some 94))), (1, .inl s)] m P := by
  intro d w S Q hd hw hS hm HQ
  subst hm
  refine zw_push hm_197 dX12_toWishes_0 (v := .inr (.inr (some 94))) rfl ?_
  refine zw_push hm_197 dX12_toWishes_1 (v := .inl s) rfl ?_
  refine zw_cv hm_197 dX12_toWishes_2 v_12_317_12 hm_198 [.inl s] [] rfl (zT_rt hS s_94 rfl) ⟨by omega, by omega⟩ rfl (h _ _ S _ (by omega) (by omega) hS rfl (fun o9 m1 hv => ?_))
  obtain ⟨rfl, h⟩ := zmv_of hv
  show ma_wp X d w 197 5 [(0, .inr (.inr (some 94))), (1, .inl s)] [] (zst S m1) _
  refine zw_push hm_197 dX12_toWishes_5 (v := .inr (.inr (some 94))) rfl ?_
  refine zw_gf hm_197 dX12_toWishes_6 (v := .inr (.inr (some 109))) (zT_is (zT_zst hS m1) s_94) (zT_t (zT_zst hS m1) s_94) rfl f_12_59_12 (zT_f (zT_zst hS m1) r_94_41) ?_
  refine zw_push hm_197 dX12_toWishes_9 (v := .inl s) rfl ?_
  refine zw_push hm_197 dX12_toWishes_10 (v := .inl (0 : Int32)) rfl ?_
  obtain ⟨hg, h⟩ := h
  refine zw_bas22l hm_197 dX12_toWishes_11 (hx := by decide) (yv := (0 : Int32)) (zT_is (zT_zst hS m1) s_109) (zT_h (zT_zst hS m1) s_109) rfl hg ?_
  refine zw_push hm_197 dX12_toWishes_12 (v := .inr (.inr (some 94))) rfl ?_
  refine zw_gf hm_197 dX12_toWishes_13 (v := .inr (.inr (some 114))) (zT_is (zT_pi (zT_zst hS m1)) s_94) (zT_t (zT_pi (zT_zst hS m1)) s_94) rfl f_12_74_12 (zT_f (zT_pi (zT_zst hS m1)) r_94_53) ?_
  refine zw_push hm_197 dX12_toWishes_16 (v := .inr (.inr (some 94))) rfl ?_
  refine zw_gf hm_197 dX12_toWishes_17 (v := .inl (m1 94 55)) (zT_is (zT_pi (zT_zst hS m1)) s_94) (zT_t (zT_pi (zT_zst hS m1)) s_94) rfl f_12_261_12 rfl ?_
  refine zw_push hm_197 dX12_toWishes_20 (v := .inl s) rfl ?_
  obtain ⟨hg, h⟩ := h
  refine zw_ias hm_197 dX12_toWishes_21 (zT_is (zT_pi (zT_zst hS m1)) s_114) (zT_h (zT_pi (zT_zst hS m1)) s_114) rfl hg ?_
  refine zw_push hm_197 dX12_toWishes_22 (v := .inr (.inr (some 94))) rfl ?_
  refine zw_stk hm_197 dX12_toWishes_23 (st₉ := [.inr (.inr (some 94)), .inr (.inr (some 94))]) rfl rfl ?_
  refine zw_gf hm_197 dX12_toWishes_24 (v := .inl (m1 94 55)) (zT_is (zT_pi (zT_pi (zT_zst hS m1))) s_94) (zT_t (zT_pi (zT_pi (zT_zst hS m1))) s_94) rfl f_12_261_12 rfl ?_
  refine zw_push hm_197 dX12_toWishes_27 (v := .inl (1 : Int32)) rfl ?_
  refine zw_stk hm_197 dX12_toWishes_28 (st₉ := [.inl ((m1 94 55) + (1 : Int32)), .inr (.inr (some 94))]) rfl rfl ?_
  refine zw_pf hm_197 dX12_toWishes_29 (zT_is (zT_pi (zT_pi (zT_zst hS m1))) s_94) (zT_t (zT_pi (zT_pi (zT_zst hS m1))) s_94) p_12_261_12 zk_int ?_
  refine zw_push hm_197 dX12_toWishes_32 (v := .inr (.inr (some 94))) rfl ?_
  refine zw_gf hm_197 dX12_toWishes_33 (v := .inl (m1 94 10)) (zT_is (zT_pi (zT_pi (zT_pi (zT_zst hS m1)))) s_94) (zT_t (zT_pi (zT_pi (zT_pi (zT_zst hS m1)))) s_94) rfl f_12_199_12 rfl ?_
  refine zw_push hm_197 dX12_toWishes_36 (v := .inl (4 : Int32)) rfl ?_
  refine zw_if2 hm_197 dX12_toWishes_37 (t := 50) rfl zc2_ne ?_ ?_
  · intro hc
    rw [if_neg hc] at h
    exact zw_vret hm_197 dX12_toWishes_50 (HQ _ _ h)
  · intro hc
    rw [if_pos (Classical.not_not.mp hc)] at h
    refine zw_push hm_197 dX12_toWishes_40 (v := .inr (.inr (some 94))) rfl ?_
    refine zw_gf hm_197 dX12_toWishes_41 (v := .inr (.inr (some 105))) (zT_is (zT_pi (zT_pi (zT_pi (zT_zst hS m1)))) s_94) (zT_t (zT_pi (zT_pi (zT_pi (zT_zst hS m1)))) s_94) rfl f_12_46_12 (zT_f (zT_pi (zT_pi (zT_pi (zT_zst hS m1)))) r_94_37) ?_
    refine zw_push hm_197 dX12_toWishes_44 (v := .inl s) rfl ?_
    refine zw_stk hm_197 dX12_toWishes_45 (st₉ := [.inl s, .inr (.inr (some 105)), .inl s, .inr (.inr (some 105))]) rfl rfl ?_
    obtain ⟨hg, h⟩ := h
    refine zw_ia hm_197 dX12_toWishes_46 (zT_is (zT_pi (zT_pi (zT_pi (zT_zst hS m1)))) s_105) (zT_h (zT_pi (zT_pi (zT_pi (zT_zst hS m1)))) s_105) rfl hg ?_
    show ma_wp X d w 197 47 [(0, .inr (.inr (some 94))), (1, .inl s)] [.inl (m1 105 s.toNatClampNeg), .inl s, .inr (.inr (some 105))] (ma_put (ma_put (ma_put (zst S m1) 109 s.toNatClampNeg (.inl (0 : Int32))) 114 (m1 94 55).toNatClampNeg (.inl s)) 94 55 (.inl ((m1 94 55) + (1 : Int32)))) _
    refine zw_push hm_197 dX12_toWishes_47 (v := .inl (1 : Int32)) rfl ?_
    refine zw_stk hm_197 dX12_toWishes_48 (st₉ := [.inl ((m1 105 s.toNatClampNeg) + (1 : Int32)), .inl s, .inr (.inr (some 105))]) rfl rfl ?_
    obtain ⟨hg, h⟩ := h
    refine zw_ias hm_197 dX12_toWishes_49 (zT_is (zT_pi (zT_pi (zT_pi (zT_zst hS m1)))) s_105) (zT_h (zT_pi (zT_pi (zT_pi (zT_zst hS m1)))) s_105) rfl hg ?_
    exact zw_vret hm_197 dX12_toWishes_50 (HQ _ _ h)
theorem sp_197 {X : Nat × (Nat → Int32)} {P : Option ma_V → (Nat → Nat → Int32) → Prop} {T : Nat} {m : Nat → Nat → Int32} (s : Int32) (hV : zV m) (hpre0 : 0 ≤ s.toInt) (hpre1 : s.toInt ≤ 3099) (r_WI : (m 109) s.toNatClampNeg ≠ 0) (r_GW : zGW T (m 94 55) (m 109)) (KZ : ∀ m₉, zV (zov wr_197 m m₉) → (zGW T (m₉ 94 55) (m₉ 109)) → (zuw (m 113) (m₉ 113)) → (zwx (m 114) (m₉ 114) (m 94 55) s) → ((m₉ 94 55).toInt = (m 94 55).toInt + 1) → P none (zov wr_197 m m₉)) : zm X 1 22 197 0 [(0, .inr (.inr (some 94))), (1, .inl s)] m P := by
  have K : ∀ m₉, zF wr_197 m m₉ → zV m₉ → (zGW T (m₉ 94 55) (m₉ 109)) → (zuw (m 113) (m₉ 113)) → (zwx (m 114) (m₉ 114) (m 94 55) s) → ((m₉ 94 55).toInt = (m 94 55).toInt + 1) → P none m₉ := by
    intro m₉ hf z q0 q1 q2 q3
    have e := zov_eq hf
    rw [e] at z ⊢
    try rw [e] at q0
    try rw [e] at q1
    try rw [e] at q2
    try rw [e] at q3
    exact KZ m₉ z q0 q1 q2 q3
  refine g_197_0 s ?_
  have b1 := i_bd s
  refine sp_198 (s) hV  (fun m1 hV_m1 p0_m1 => zmv_n ?_)
  have p0_m1 : zuw (m 113) (m1 113) := p0_m1
  try have gw := GW_room r_GW
  have hg2 : (0 ≤ s ∧ s.toNatClampNeg < 3100) := i_ix (by omega) (by omega)
  refine ⟨hg2, ?_⟩
  have f3 : 0 ≤ (m 94 55).toInt ∧ (m 94 55).toInt ≤ 3100 := rs_94_55 (m := m) hV
  try have gw := GW_room r_GW
  have hg4 : (0 ≤ (m 94 55) ∧ (m 94 55).toNatClampNeg < 3100) := i_ix (by omega) (by omega)
  refine ⟨hg4, ?_⟩
  have f5 : 0 ≤ (m 94 10).toInt ∧ (m 94 10).toInt ≤ 6 := rs_94_10 (m := m) hV
  have li6 : (4 : Int32).toInt = 4 := rfl
  refine zd (fun (h7 : (m 94 10) = (4 : Int32)) => ?_) (fun (h7 : ¬ (m 94 10) = (4 : Int32)) => ?_)
  · skip
    have g8 := i_eq h7
    have hg9 : (0 ≤ s ∧ s.toNatClampNeg < 3100) := i_ix (by omega) (by omega)
    refine ⟨hg9, ?_⟩
    have hg10 : (0 ≤ s ∧ s.toNatClampNeg < 3100) := i_ix (by omega) (by omega)
    refine ⟨hg10, ?_⟩
    have li12 : (0 : Int32).toInt = 0 := rfl
    have hV11 : zV (ma_u (zov wr_198 m m1) 109 s.toNatClampNeg (0 : Int32)) := ua_109 hV_m1 (by omega) (by omega)
    have hV13 : zV (ma_u (ma_u (zov wr_198 m m1) 109 s.toNatClampNeg (0 : Int32)) 114 (m 94 55).toNatClampNeg s) := ua_114 hV11 (by omega) (by omega)
    first | have e15 : ((m 94 55) + (1 : Int32)).toInt = (m 94 55).toInt + (1) := i_addk rfl (by omega) (by omega) | have b16 := i_bd ((m 94 55) + (1 : Int32))
    have hV14 : zV (ma_u (ma_u (ma_u (zov wr_198 m m1) 109 s.toNatClampNeg (0 : Int32)) 114 (m 94 55).toNatClampNeg s) 94 55 ((m 94 55) + (1 : Int32))) := us_94_55 hV13 (by omega) (by omega)
    have hV17 : zV (ma_u (ma_u (ma_u (ma_u (zov wr_198 m m1) 109 s.toNatClampNeg (0 : Int32)) 114 (m 94 55).toNatClampNeg s) 94 55 ((m 94 55) + (1 : Int32))) 105 s.toNatClampNeg ((m 105 s.toNatClampNeg) + (1 : Int32))) := ua_105 hV14
    exact K _ (zF_u (zF_u (zF_u (zF_u (zF_zov zF_rfl ws_198_197) rfl) rfl) rfl) rfl) hV17 (show zGW T ((m 94 55) + (1 : Int32)) ((ma_u m 109 s.toNatClampNeg (0 : Int32)) 109) from by first | (exact GW_take r_GW r_WI (by omega) (by omega)) | (exfalso; omega; done) | (exfalso; contradiction; done)) p0_m1 (show zwx (m 114) ((ma_u m 114 (m 94 55).toNatClampNeg s) 114) (m 94 55) s from by first | (exact ⟨fun k hk => mu_ne (by rw [tn_eq]; omega), mu_self⟩) | (exfalso; omega; done) | (exfalso; contradiction; done)) (show ((m 94 55) + (1 : Int32)).toInt = (m 94 55).toInt + 1 from by omega)
  · skip
    have g18 := i_ne h7
    have li20 : (0 : Int32).toInt = 0 := rfl
    have hV19 : zV (ma_u (zov wr_198 m m1) 109 s.toNatClampNeg (0 : Int32)) := ua_109 hV_m1 (by omega) (by omega)
    have hV21 : zV (ma_u (ma_u (zov wr_198 m m1) 109 s.toNatClampNeg (0 : Int32)) 114 (m 94 55).toNatClampNeg s) := ua_114 hV19 (by omega) (by omega)
    first | have e23 : ((m 94 55) + (1 : Int32)).toInt = (m 94 55).toInt + (1) := i_addk rfl (by omega) (by omega) | have b24 := i_bd ((m 94 55) + (1 : Int32))
    have hV22 : zV (ma_u (ma_u (ma_u (zov wr_198 m m1) 109 s.toNatClampNeg (0 : Int32)) 114 (m 94 55).toNatClampNeg s) 94 55 ((m 94 55) + (1 : Int32))) := us_94_55 hV21 (by omega) (by omega)
    exact K _ (zF_u (zF_u (zF_u (zF_zov zF_rfl ws_198_197) rfl) rfl) rfl) hV22 (show zGW T ((m 94 55) + (1 : Int32)) ((ma_u m 109 s.toNatClampNeg (0 : Int32)) 109) from by first | (exact GW_take r_GW r_WI (by omega) (by omega)) | (exfalso; omega; done) | (exfalso; contradiction; done)) p0_m1 (show zwx (m 114) ((ma_u m 114 (m 94 55).toNatClampNeg s) 114) (m 94 55) s from by first | (exact ⟨fun k hk => mu_ne (by rw [tn_eq]; omega), mu_self⟩) | (exfalso; omega; done) | (exfalso; contradiction; done)) (show ((m 94 55) + (1 : Int32)).toInt = (m 94 55).toInt + 1 from by omega)

/-! from 94.416 -/
/-! the reference (written by wip/tools/gen94m.py) -/
set_option maxRecDepth 100000 in
theorem hm_194 : ma_md 194 = some (12, yX12_grantAll, cX12_grantAll, 3, none) := rfl
theorem v_12_320_12 : ma_vl 12 320 12 = some (1, 195, 2) := by decide +kernel
theorem v_12_324_12 : ma_vl 12 324 12 = some (1, 197, 1) := by decide +kernel
theorem dX12_grantAll_0 : decode cX12_grantAll 0 = .ok (.iconst (-1), 1) := by decide +kernel
theorem dX12_grantAll_1 : decode cX12_grantAll 1 = .ok (.istore_n 1, 1) := by decide +kernel
theorem dX12_grantAll_2 : decode cX12_grantAll 2 = .ok (.aload_n 0, 1) := by decide +kernel
theorem dX12_grantAll_3 : decode cX12_grantAll 3 = .ok (.iload_n 1, 1) := by decide +kernel
theorem dX12_grantAll_4 : decode cX12_grantAll 4 = .ok (.iconst 0, 1) := by decide +kernel
theorem dX12_grantAll_5 : decode cX12_grantAll 5 = .ok (.invokevirtual 320, 3) := by decide +kernel
theorem dX12_grantAll_8 : decode cX12_grantAll 8 = .ok (.istore_n 2, 1) := by decide +kernel
theorem dX12_grantAll_9 : decode cX12_grantAll 9 = .ok (.iload_n 2, 1) := by decide +kernel
theorem dX12_grantAll_44 : decode cX12_grantAll 44 = .ok (.return_, 1) := by decide +kernel
theorem dX12_grantAll_13 : decode cX12_grantAll 13 = .ok (.aload_n 0, 1) := by decide +kernel
theorem dX12_grantAll_17 : decode cX12_grantAll 17 = .ok (.iload_n 2, 1) := by decide +kernel
theorem dX12_grantAll_19 : decode cX12_grantAll 19 = .ok (.istore_n 1, 1) := by decide +kernel
theorem dX12_grantAll_20 : decode cX12_grantAll 20 = .ok (.aload_n 0, 1) := by decide +kernel
theorem dX12_grantAll_21 : decode cX12_grantAll 21 = .ok (.iload_n 2, 1) := by decide +kernel
theorem dX12_grantAll_22 : decode cX12_grantAll 22 = .ok (.invokevirtual 324, 3) := by decide +kernel
theorem dX12_grantAll_25 : decode cX12_grantAll 25 = .ok (.aload_n 0, 1) := by decide +kernel
theorem dX12_grantAll_26 : decode cX12_grantAll 26 = .ok (.iload_n 2, 1) := by decide +kernel
theorem dX12_grantAll_27 : decode cX12_grantAll 27 = .ok (.invokevirtual 298, 3) := by decide +kernel
theorem dX12_grantAll_30 : decode cX12_grantAll 30 = .ok (.aload_n 0, 1) := by decide +kernel
theorem dX12_grantAll_31 : decode cX12_grantAll 31 = .ok (.invokevirtual 304, 3) := by decide +kernel
theorem dX12_grantAll_34 : decode cX12_grantAll 34 = .ok (.aload_n 0, 1) := by decide +kernel
theorem dX12_grantAll_35 : decode cX12_grantAll 35 = .ok (.iload_n 1, 1) := by decide +kernel
theorem dX12_grantAll_36 : decode cX12_grantAll 36 = .ok (.iconst 0, 1) := by decide +kernel
theorem dX12_grantAll_37 : decode cX12_grantAll 37 = .ok (.invokevirtual 320, 3) := by decide +kernel
theorem dX12_grantAll_40 : decode cX12_grantAll 40 = .ok (.istore_n 2, 1) := by decide +kernel
theorem dX12_grantAll_41 : decode cX12_grantAll 41 = .ok (.goto (-32), 3) := by decide +kernel
theorem dX12_grantAll_18 : decode cX12_grantAll 18 = .ok (.iaload, 1) := by decide +kernel
theorem dX12_grantAll_14 : decode cX12_grantAll 14 = .ok (.getfield 31, 3) := by decide +kernel
theorem dX12_grantAll_10 : decode cX12_grantAll 10 = .ok (.ifCond .lt 34, 3) := by decide +kernel
def wr_194 (c k : Nat) : Bool := Nat.beq c 105 || Nat.beq c 109 || Nat.beq c 110 || Nat.beq c 113 || Nat.beq c 114 || Nat.beq c 118 || (Nat.beq c 94 && (Nat.beq k 55 || Nat.beq k 73))
theorem ws_191_194 : ∀ c k, wr_191 c k = true → wr_194 c k = true := by
  intro c k h
  simp only [wr_191, Bool.or_eq_true, Bool.and_eq_true, Nat.beq_eq] at h
  rcases h with (rfl | rfl) | ⟨rfl, rfl⟩ <;> rfl
theorem ws_195_194 : ∀ c k, wr_195 c k = true → wr_194 c k = true := fun _ _ h => by cases h
theorem ws_197_194 : ∀ c k, wr_197 c k = true → wr_194 c k = true := by
  intro c k h
  simp only [wr_197, Bool.or_eq_true, Bool.and_eq_true, Nat.beq_eq] at h
  rcases h with (((rfl | rfl) | rfl) | rfl) | ⟨rfl, rfl⟩ <;> rfl
theorem g_194_0 {X : Nat × (Nat → Int32)} {m : Nat → Nat → Int32} {P : Option ma_V → (Nat → Nat → Int32) → Prop}  (h : zm X 1 21 195 0 [(0, .inr (.inr (some 94))), (1, .inl (-1 : Int32)), (2, .inl (0 : Int32))] m (zmi (fun v2 m1 => zm X 3 66 194 9 [(0, .inr (.inr (some 94))), (2, .inl v2)] m1 P))) : zm X 3 66 194 0 [(0, .inr (.inr (some 94)))] m P := by
  intro d w S Q hd hw hS hm HQ
  subst hm
  refine zw_push hm_194 dX12_grantAll_0 (v := .inl (-1 : Int32)) rfl ?_
  refine zw_sto hm_194 dX12_grantAll_1 [(1, .inl (-1 : Int32)), (0, .inr (.inr (some 94)))] rfl rfl rfl ?_
  refine zw_push hm_194 dX12_grantAll_2 (v := .inr (.inr (some 94))) rfl ?_
  refine zw_push hm_194 dX12_grantAll_3 (v := .inl (-1 : Int32)) rfl ?_
  refine zw_push hm_194 dX12_grantAll_4 (v := .inl (0 : Int32)) rfl ?_
  refine zw_cv hm_194 dX12_grantAll_5 v_12_320_12 hm_195 [.inl (0 : Int32), .inl (-1 : Int32)] [] rfl (zT_rt hS s_94 rfl) ⟨by omega, by omega⟩ rfl (h _ _ S _ (by omega) (by omega) hS rfl (fun o9 m1 hv => ?_))
  obtain ⟨v2, rfl, h⟩ := zmi_of hv
  show ma_wp X d w 194 8 [(1, .inl (-1 : Int32)), (0, .inr (.inr (some 94)))] [.inl v2] (zst S m1) _
  refine zw_sto hm_194 dX12_grantAll_8 [(2, .inl v2), (1, .inl (-1 : Int32)), (0, .inr (.inr (some 94)))] rfl rfl rfl ?_
  exact zw_sub (ma_nd_of (ks := [0, 2]) rfl (by decide)) (ma_nd_of (ks := [2, 1, 0]) rfl (by decide)) (ma_le_cons rfl (ma_le_cons rfl (ma_le_nil _))) (h d w _ Q (by omega) (by omega) (zT_zst hS m1) rfl HQ)
theorem g_194_9 {X : Nat × (Nat → Int32)} {m : Nat → Nat → Int32} {P : Option ma_V → (Nat → Nat → Int32) → Prop} (l2 : Int32) (h : if l2 < 0 then (P none m) else ((0 ≤ l2 ∧ l2.toNatClampNeg < 3100) ∧ (zm X 1 22 197 0 [(0, .inr (.inr (some 94))), (1, .inl l2)] m (zmv (fun m1 => if l2 < 0 then (zm X 2 44 191 0 [(0, .inr (.inr (some 94)))] m1 (zmv (fun m3 => zm X 1 21 195 0 [(0, .inr (.inr (some 94))), (1, .inl (m 100 l2.toNatClampNeg)), (2, .inl (0 : Int32))] m3 (zmi (fun v6 m5 => zm X 3 66 194 9 [(0, .inr (.inr (some 94))), (2, .inl v6)] m5 P))))) else ((0 ≤ l2 ∧ l2.toNatClampNeg < 3100) ∧ (if (m1 110 l2.toNatClampNeg) = 0 then ((0 ≤ l2 ∧ l2.toNatClampNeg < 3100) ∧ ((0 ≤ (m1 94 73) ∧ (m1 94 73).toNatClampNeg < 3100) ∧ (zm X 2 44 191 0 [(0, .inr (.inr (some 94)))] (ma_u (ma_u (ma_u m1 110 l2.toNatClampNeg (1 : Int32)) 118 (m1 94 73).toNatClampNeg l2) 94 73 ((m1 94 73) + (1 : Int32))) (zmv (fun m7 => zm X 1 21 195 0 [(0, .inr (.inr (some 94))), (1, .inl (m 100 l2.toNatClampNeg)), (2, .inl (0 : Int32))] m7 (zmi (fun v10 m9 => zm X 3 66 194 9 [(0, .inr (.inr (some 94))), (2, .inl v10)] m9 P))))))) else (zm X 2 44 191 0 [(0, .inr (.inr (some 94)))] m1 (zmv (fun m11 => zm X 1 21 195 0 [(0, .inr (.inr (some 94))), (1, .inl (m 100 l2.toNatClampNeg)), (2, .inl (0 : Int32))] m11 (zmi (fun v14 m13 => zm X 3 66 194 9 [(0, .inr (.inr (some 94))), (2, .inl v14)] m13 P)))))))))))) : zm X 3 66 194 9 [(0, .inr (.inr (some 94))), (2, .inl l2)] m P := by
  intro d w S Q hd hw hS hm HQ
  subst hm
  refine zw_push hm_194 dX12_grantAll_9 (v := .inl l2) rfl ?_
  refine zw_if0 hm_194 dX12_grantAll_10 (t := 44) rfl zc0_lt ?_ ?_
  · intro hc
    rw [if_pos hc] at h
    exact zw_vret hm_194 dX12_grantAll_44 (HQ _ _ h)
  · intro hc
    rw [if_neg hc] at h
    refine zw_push hm_194 dX12_grantAll_13 (v := .inr (.inr (some 94))) rfl ?_
    refine zw_gf hm_194 dX12_grantAll_14 (v := .inr (.inr (some 100))) (zT_is hS s_94) (zT_t hS s_94) rfl f_12_31_12 (zT_f hS r_94_32) ?_
    refine zw_push hm_194 dX12_grantAll_17 (v := .inl l2) rfl ?_
    obtain ⟨hg, h⟩ := h
    refine zw_ia hm_194 dX12_grantAll_18 (zT_is hS s_100) (zT_h hS s_100) rfl hg ?_
    show ma_wp X d w 194 19 [(0, .inr (.inr (some 94))), (2, .inl l2)] [.inl ((mI S) 100 l2.toNatClampNeg)] S _
    refine zw_sto hm_194 dX12_grantAll_19 [(1, .inl ((mI S) 100 l2.toNatClampNeg)), (0, .inr (.inr (some 94))), (2, .inl l2)] rfl rfl rfl ?_
    refine zw_push hm_194 dX12_grantAll_20 (v := .inr (.inr (some 94))) rfl ?_
    refine zw_push hm_194 dX12_grantAll_21 (v := .inl l2) rfl ?_
    refine zw_cv hm_194 dX12_grantAll_22 v_12_324_12 hm_197 [.inl l2] [] rfl (zT_rt hS s_94 rfl) ⟨by omega, by omega⟩ rfl (h _ _ S _ (by omega) (by omega) hS rfl (fun o9 m1 hv => ?_))
    obtain ⟨rfl, h⟩ := zmv_of hv
    show ma_wp X d w 194 25 [(1, .inl ((mI S) 100 l2.toNatClampNeg)), (0, .inr (.inr (some 94))), (2, .inl l2)] [] (zst S m1) _
    refine zw_push hm_194 dX12_grantAll_25 (v := .inr (.inr (some 94))) rfl ?_
    refine zw_push hm_194 dX12_grantAll_26 (v := .inl l2) rfl ?_
    refine zw_cv hm_194 dX12_grantAll_27 v_12_298_12 hm_190 [.inl l2] [] rfl (zT_rt (zT_zst hS m1) s_94 rfl) ⟨by omega, by omega⟩ rfl ?_
    show ma_wp X (d - 1) (w - 21) 190 0 [(0, .inr (.inr (some 94))), (1, .inl l2)] [] (zst S m1) _
    refine zw_push hm_190 dX12_keep_0 (v := .inl l2) rfl ?_
    refine zw_if0 hm_190 dX12_keep_1 (t := 13) rfl zc0_lt ?_ ?_
    · intro hc
      rw [if_pos hc] at h
      refine zw_vret hm_190 dX12_keep_13 ?_
      show ma_wp X d w 194 30 [(1, .inl ((mI S) 100 l2.toNatClampNeg)), (0, .inr (.inr (some 94))), (2, .inl l2)] [] (zst S m1) _
      refine zw_push hm_194 dX12_grantAll_30 (v := .inr (.inr (some 94))) rfl ?_
      refine zw_cv hm_194 dX12_grantAll_31 v_12_304_12 hm_191 [] [] rfl (zT_rt (zT_zst hS m1) s_94 rfl) ⟨by omega, by omega⟩ rfl (h _ _ (zst S m1) _ (by omega) (by omega) (zT_zst hS m1) rfl (fun o9 m3 hv => ?_))
      obtain ⟨rfl, h⟩ := zmv_of hv
      show ma_wp X d w 194 34 [(1, .inl ((mI S) 100 l2.toNatClampNeg)), (0, .inr (.inr (some 94))), (2, .inl l2)] [] (zst S m3) _
      refine zw_push hm_194 dX12_grantAll_34 (v := .inr (.inr (some 94))) rfl ?_
      refine zw_push hm_194 dX12_grantAll_35 (v := .inl ((mI S) 100 l2.toNatClampNeg)) rfl ?_
      refine zw_push hm_194 dX12_grantAll_36 (v := .inl (0 : Int32)) rfl ?_
      refine zw_cv hm_194 dX12_grantAll_37 v_12_320_12 hm_195 [.inl (0 : Int32), .inl ((mI S) 100 l2.toNatClampNeg)] [] rfl (zT_rt (zT_zst hS m3) s_94 rfl) ⟨by omega, by omega⟩ rfl (h _ _ (zst S m3) _ (by omega) (by omega) (zT_zst hS m3) rfl (fun o9 m5 hv => ?_))
      obtain ⟨v6, rfl, h⟩ := zmi_of hv
      show ma_wp X d w 194 40 [(1, .inl ((mI S) 100 l2.toNatClampNeg)), (0, .inr (.inr (some 94))), (2, .inl l2)] [.inl v6] (zst S m5) _
      refine zw_sto hm_194 dX12_grantAll_40 [(2, .inl v6), (1, .inl ((mI S) 100 l2.toNatClampNeg)), (0, .inr (.inr (some 94)))] rfl rfl rfl ?_
      refine zw_goto hm_194 dX12_grantAll_41 (t := 9) rfl ?_
      exact zw_sub (ma_nd_of (ks := [0, 2]) rfl (by decide)) (ma_nd_of (ks := [2, 1, 0]) rfl (by decide)) (ma_le_cons rfl (ma_le_cons rfl (ma_le_nil _))) (h d w _ Q (by omega) (by omega) (zT_zst hS m5) rfl HQ)
    · intro hc
      rw [if_neg hc] at h
      refine zw_push hm_190 dX12_keep_4 (v := .inr (.inr (some 94))) rfl ?_
      refine zw_gf hm_190 dX12_keep_5 (v := .inr (.inr (some 110))) (zT_is (zT_zst hS m1) s_94) (zT_t (zT_zst hS m1) s_94) rfl f_12_62_12 (zT_f (zT_zst hS m1) r_94_42) ?_
      refine zw_push hm_190 dX12_keep_8 (v := .inl l2) rfl ?_
      obtain ⟨hg, h⟩ := h
      refine zw_ba hm_190 dX12_keep_9 (zT_is (zT_zst hS m1) s_110) (zT_h (zT_zst hS m1) s_110) rfl rfl hg ?_
      show ma_wp X (d - 1) (w - 21) 190 10 [(0, .inr (.inr (some 94))), (1, .inl l2)] [.inl (m1 110 l2.toNatClampNeg)] (zst S m1) _
      refine zw_if0 hm_190 dX12_keep_10 (t := 14) rfl zc0_eq ?_ ?_
      · intro hc
        rw [if_pos hc] at h
        refine zw_push hm_190 dX12_keep_14 (v := .inr (.inr (some 94))) rfl ?_
        refine zw_gf hm_190 dX12_keep_15 (v := .inr (.inr (some 110))) (zT_is (zT_zst hS m1) s_94) (zT_t (zT_zst hS m1) s_94) rfl f_12_62_12 (zT_f (zT_zst hS m1) r_94_42) ?_
        refine zw_push hm_190 dX12_keep_18 (v := .inl l2) rfl ?_
        refine zw_push hm_190 dX12_keep_19 (v := .inl (1 : Int32)) rfl ?_
        obtain ⟨hg, h⟩ := h
        refine zw_bas22l hm_190 dX12_keep_20 (hx := by decide) (yv := (1 : Int32)) (zT_is (zT_zst hS m1) s_110) (zT_h (zT_zst hS m1) s_110) rfl hg ?_
        refine zw_push hm_190 dX12_keep_21 (v := .inr (.inr (some 94))) rfl ?_
        refine zw_gf hm_190 dX12_keep_22 (v := .inr (.inr (some 118))) (zT_is (zT_pi (zT_zst hS m1)) s_94) (zT_t (zT_pi (zT_zst hS m1)) s_94) rfl f_12_86_12 (zT_f (zT_pi (zT_zst hS m1)) r_94_72) ?_
        refine zw_push hm_190 dX12_keep_25 (v := .inr (.inr (some 94))) rfl ?_
        refine zw_gf hm_190 dX12_keep_26 (v := .inl (m1 94 73)) (zT_is (zT_pi (zT_zst hS m1)) s_94) (zT_t (zT_pi (zT_zst hS m1)) s_94) rfl f_12_291_12 rfl ?_
        refine zw_push hm_190 dX12_keep_29 (v := .inl l2) rfl ?_
        obtain ⟨hg, h⟩ := h
        refine zw_ias hm_190 dX12_keep_30 (zT_is (zT_pi (zT_zst hS m1)) s_118) (zT_h (zT_pi (zT_zst hS m1)) s_118) rfl hg ?_
        refine zw_push hm_190 dX12_keep_31 (v := .inr (.inr (some 94))) rfl ?_
        refine zw_stk hm_190 dX12_keep_32 (st₉ := [.inr (.inr (some 94)), .inr (.inr (some 94))]) rfl rfl ?_
        refine zw_gf hm_190 dX12_keep_33 (v := .inl (m1 94 73)) (zT_is (zT_pi (zT_pi (zT_zst hS m1))) s_94) (zT_t (zT_pi (zT_pi (zT_zst hS m1))) s_94) rfl f_12_291_12 rfl ?_
        refine zw_push hm_190 dX12_keep_36 (v := .inl (1 : Int32)) rfl ?_
        refine zw_stk hm_190 dX12_keep_37 (st₉ := [.inl ((m1 94 73) + (1 : Int32)), .inr (.inr (some 94))]) rfl rfl ?_
        refine zw_pf hm_190 dX12_keep_38 (zT_is (zT_pi (zT_pi (zT_zst hS m1))) s_94) (zT_t (zT_pi (zT_pi (zT_zst hS m1))) s_94) p_12_291_12 zk_int ?_
        refine zw_vret hm_190 dX12_keep_41 ?_
        show ma_wp X d w 194 30 [(1, .inl ((mI S) 100 l2.toNatClampNeg)), (0, .inr (.inr (some 94))), (2, .inl l2)] [] (ma_put (ma_put (ma_put (zst S m1) 110 l2.toNatClampNeg (.inl (1 : Int32))) 118 (m1 94 73).toNatClampNeg (.inl l2)) 94 73 (.inl ((m1 94 73) + (1 : Int32)))) _
        refine zw_push hm_194 dX12_grantAll_30 (v := .inr (.inr (some 94))) rfl ?_
        refine zw_cv hm_194 dX12_grantAll_31 v_12_304_12 hm_191 [] [] rfl (zT_rt (zT_pi (zT_pi (zT_pi (zT_zst hS m1)))) s_94 rfl) ⟨by omega, by omega⟩ rfl (h _ _ (ma_put (ma_put (ma_put (zst S m1) 110 l2.toNatClampNeg (.inl (1 : Int32))) 118 (m1 94 73).toNatClampNeg (.inl l2)) 94 73 (.inl ((m1 94 73) + (1 : Int32)))) _ (by omega) (by omega) (zT_pi (zT_pi (zT_pi (zT_zst hS m1)))) rfl (fun o9 m7 hv => ?_))
        obtain ⟨rfl, h⟩ := zmv_of hv
        show ma_wp X d w 194 34 [(1, .inl ((mI S) 100 l2.toNatClampNeg)), (0, .inr (.inr (some 94))), (2, .inl l2)] [] (zst S m7) _
        refine zw_push hm_194 dX12_grantAll_34 (v := .inr (.inr (some 94))) rfl ?_
        refine zw_push hm_194 dX12_grantAll_35 (v := .inl ((mI S) 100 l2.toNatClampNeg)) rfl ?_
        refine zw_push hm_194 dX12_grantAll_36 (v := .inl (0 : Int32)) rfl ?_
        refine zw_cv hm_194 dX12_grantAll_37 v_12_320_12 hm_195 [.inl (0 : Int32), .inl ((mI S) 100 l2.toNatClampNeg)] [] rfl (zT_rt (zT_zst hS m7) s_94 rfl) ⟨by omega, by omega⟩ rfl (h _ _ (zst S m7) _ (by omega) (by omega) (zT_zst hS m7) rfl (fun o9 m9 hv => ?_))
        obtain ⟨v10, rfl, h⟩ := zmi_of hv
        show ma_wp X d w 194 40 [(1, .inl ((mI S) 100 l2.toNatClampNeg)), (0, .inr (.inr (some 94))), (2, .inl l2)] [.inl v10] (zst S m9) _
        refine zw_sto hm_194 dX12_grantAll_40 [(2, .inl v10), (1, .inl ((mI S) 100 l2.toNatClampNeg)), (0, .inr (.inr (some 94)))] rfl rfl rfl ?_
        refine zw_goto hm_194 dX12_grantAll_41 (t := 9) rfl ?_
        exact zw_sub (ma_nd_of (ks := [0, 2]) rfl (by decide)) (ma_nd_of (ks := [2, 1, 0]) rfl (by decide)) (ma_le_cons rfl (ma_le_cons rfl (ma_le_nil _))) (h d w _ Q (by omega) (by omega) (zT_zst hS m9) rfl HQ)
      · intro hc
        rw [if_neg hc] at h
        refine zw_vret hm_190 dX12_keep_13 ?_
        show ma_wp X d w 194 30 [(1, .inl ((mI S) 100 l2.toNatClampNeg)), (0, .inr (.inr (some 94))), (2, .inl l2)] [] (zst S m1) _
        refine zw_push hm_194 dX12_grantAll_30 (v := .inr (.inr (some 94))) rfl ?_
        refine zw_cv hm_194 dX12_grantAll_31 v_12_304_12 hm_191 [] [] rfl (zT_rt (zT_zst hS m1) s_94 rfl) ⟨by omega, by omega⟩ rfl (h _ _ (zst S m1) _ (by omega) (by omega) (zT_zst hS m1) rfl (fun o9 m11 hv => ?_))
        obtain ⟨rfl, h⟩ := zmv_of hv
        show ma_wp X d w 194 34 [(1, .inl ((mI S) 100 l2.toNatClampNeg)), (0, .inr (.inr (some 94))), (2, .inl l2)] [] (zst S m11) _
        refine zw_push hm_194 dX12_grantAll_34 (v := .inr (.inr (some 94))) rfl ?_
        refine zw_push hm_194 dX12_grantAll_35 (v := .inl ((mI S) 100 l2.toNatClampNeg)) rfl ?_
        refine zw_push hm_194 dX12_grantAll_36 (v := .inl (0 : Int32)) rfl ?_
        refine zw_cv hm_194 dX12_grantAll_37 v_12_320_12 hm_195 [.inl (0 : Int32), .inl ((mI S) 100 l2.toNatClampNeg)] [] rfl (zT_rt (zT_zst hS m11) s_94 rfl) ⟨by omega, by omega⟩ rfl (h _ _ (zst S m11) _ (by omega) (by omega) (zT_zst hS m11) rfl (fun o9 m13 hv => ?_))
        obtain ⟨v14, rfl, h⟩ := zmi_of hv
        show ma_wp X d w 194 40 [(1, .inl ((mI S) 100 l2.toNatClampNeg)), (0, .inr (.inr (some 94))), (2, .inl l2)] [.inl v14] (zst S m13) _
        refine zw_sto hm_194 dX12_grantAll_40 [(2, .inl v14), (1, .inl ((mI S) 100 l2.toNatClampNeg)), (0, .inr (.inr (some 94)))] rfl rfl rfl ?_
        refine zw_goto hm_194 dX12_grantAll_41 (t := 9) rfl ?_
        exact zw_sub (ma_nd_of (ks := [0, 2]) rfl (by decide)) (ma_nd_of (ks := [2, 1, 0]) rfl (by decide)) (ma_le_cons rfl (ma_le_cons rfl (ma_le_nil _))) (h d w _ Q (by omega) (by omega) (zT_zst hS m13) rfl HQ)
theorem lp_194_9 {X : Nat × (Nat → Int32)} {P : Option ma_V → (Nat → Nat → Int32) → Prop} {T : Nat} {m0 : Nat → Nat → Int32} (h0 : zV m0) (K : ∀ m₉, zF wr_194 m0 m₉ → zV m₉ → ((m₉ 94 73).toInt = 0) → (zGW T (m₉ 94 55) (m₉ 109)) → (((m₉ 94 10).toInt = 2 ∨ (m₉ 94 10).toInt = 3) → zCL (m₉ 110) (m₉ 98) (m₉ 101) (m₉ 102) (m₉ 108) (m₉ 118) (m₉ 94 73) 3100 0) → (zKU (m₉ 94 10) (m₉ 99) (m₉ 110)) → (zDX (m₉ 94 10) (m₉ 99) (m₉ 112) (m₉ 113) (m₉ 114) (m₉ 94 55) (m₉ 98) (m₉ 101) (m₉ 102) (m₉ 108)) → (((m₉ 94 10).toInt = 2 ∨ (m₉ 94 10).toInt = 3) → zcov (m₉ 110) (m₉ 112) 16) → (((m₉ 94 10).toInt = 2 ∨ (m₉ 94 10).toInt = 3) → zcov (m₉ 110) (m₉ 114) (m₉ 94 55).toInt) → (zuw (m0 113) (m₉ 113)) → P none m₉) : ∀ (n : Nat) (m : Nat → Nat → Int32) (l2 : Int32), ((zmg (m 100) l2 : Int)).toNat = n → zF wr_194 m0 m → zV m → ((m 94 73).toInt = 0) → (zWS (m 100) (m 99) (m 110) (m 109) (-1 : Int32) l2) → (zW (m 94 7) (m 98) (m 101) (m 102) (m 108)) → (zGW T (m 94 55) (m 109)) → (((m 94 10).toInt = 2 ∨ (m 94 10).toInt = 3) → zCL (m 110) (m 98) (m 101) (m 102) (m 108) (m 118) (m 94 73) 3100 0) → (zKU (m 94 10) (m 99) (m 110)) → (zDX (m 94 10) (m 99) (m 112) (m 113) (m 114) (m 94 55) (m 98) (m 101) (m 102) (m 108)) → (((m 94 10).toInt = 2 ∨ (m 94 10).toInt = 3) → zcov (m 110) (m 112) 16) → (((m 94 10).toInt = 2 ∨ (m 94 10).toInt = 3) → zcov (m 110) (m 114) (m 94 55).toInt) → (zuw (m0 113) (m 113)) → zm X 3 66 194 9 [(0, .inr (.inr (some 94))), (2, .inl l2)] m P := by
  intro n
  induction n using Nat.strongRecOn with
  | _ n IH =>
    intro m l2 hmu hF hV hi0 r_WS r_W r_GW r_CL r_KU r_DX r_COVR r_COVW r_UW
    refine g_194_9 l2 ?_
    have f1 : 0 ≤ (m 94 73).toInt ∧ (m 94 73).toInt ≤ 3100 := rs_94_73 (m := m) hV
    have b2 := i_bd l2
    have li3 : (0 : Int32).toInt = 0 := rfl
    refine zd (fun (h4 : l2 < (0 : Int32)) => ?_) (fun (h4 : ¬ l2 < (0 : Int32)) => ?_)
    · skip
      have g5 := i_lt h4
      try have gw := GW_room r_GW
      exact K _ hF hV (show (m 94 73).toInt = 0 from by omega) r_GW r_CL r_KU r_DX r_COVR r_COVW r_UW
    · skip
      have g6 := i_nlt h4
      try obtain ⟨ws1, ws2, ws3, ws4, ws5, ws6⟩ := WS_ge r_WS (by omega)
      have hg7 : (0 ≤ l2 ∧ l2.toNatClampNeg < 3100) := i_ix (by omega) (by omega)
      refine ⟨hg7, ?_⟩
      refine sp_197 (l2) hV (by omega) (by omega) (show (m 109) l2.toNatClampNeg ≠ 0 from by first | (assumption; done) | (exfalso; omega; done) | (exfalso; contradiction; done)) r_GW (fun m1 hV_m1 p0_m1 p1_m1 p2_m1 p3_m1 => zmv_n ?_)
      have p0_m1 : zGW T (m1 94 55) (m1 109) := p0_m1
      have p1_m1 : zuw (m 113) (m1 113) := p1_m1
      have p2_m1 : zwx (m 114) (m1 114) (m 94 55) l2 := p2_m1
      have p3_m1 : (m1 94 55).toInt = (m 94 55).toInt + 1 := p3_m1
      have f8 : 0 ≤ (m1 94 55).toInt ∧ (m1 94 55).toInt ≤ 3100 := rs_94_55 (m := (zov wr_197 m m1)) hV_m1
      have f9 : 0 ≤ (m 94 55).toInt ∧ (m 94 55).toInt ≤ 3100 := rs_94_55 (m := m) hV
      refine zd (fun (h10 : l2 < (0 : Int32)) => ?_) (fun (h10 : ¬ l2 < (0 : Int32)) => ?_)
      · skip
        have g11 := i_lt h10
        refine sp_191  hV_m1 (show zKS (m 110) (m 94 73) from by first | (exact KS_0 (by omega)) | (exfalso; omega; done) | (exfalso; contradiction; done)) r_W r_CL r_KU (show zDX (m 94 10) (m 99) (m 112) (m1 113) (m1 114) (m1 94 55) (m 98) (m 101) (m 102) (m 108) from by first | (exact DX_wish r_DX p1_m1 p2_m1 (by assumption) (by omega) (by omega)) | (exfalso; omega; done) | (exfalso; contradiction; done)) (fun m3 hV_m3 p0_m3 p1_m3 p2_m3 p3_m3 => zmv_n ?_)
        have p0_m3 : (m3 94 73).toInt = 0 := p0_m3
        have p1_m3 : ((m 94 10).toInt = 2 ∨ (m 94 10).toInt = 3) → zCL (m3 110) (m 98) (m 101) (m 102) (m 108) (m3 118) (m3 94 73) 3100 0 := p1_m3
        have p2_m3 : zle (m 110) (m3 110) := p2_m3
        have p3_m3 : zKU (m 94 10) (m 99) (m3 110) := p3_m3
        have f12 : 0 ≤ (m3 94 73).toInt ∧ (m3 94 73).toInt ≤ 3100 := rs_94_73 (m := (zov wr_191 (zov wr_197 m m1) m3)) hV_m3
        first | have f13 : 0 ≤ (m 100 l2.toNatClampNeg).toInt ∧ (m 100 l2.toNatClampNeg).toInt ≤ 100000 := ra_100 (m := m) hV (k := l2.toNatClampNeg) (i_ix (n := 3100) (by omega) (by omega)).2 | have b14 := i_bd (m 100 l2.toNatClampNeg)
        refine sp_195 ((m 100 l2.toNatClampNeg)) ((0 : Int32)) hV_m3  (fun v6 m5 hV_m5 p0_m5 => zmi_n ?_)
        have p0_m5 : zWS (m 100) (m 99) (m3 110) (m1 109) (m 100 l2.toNatClampNeg) v6 := p0_m5
        try have gw := GW_room p0_m1
        have b15 := i_bd v6
        exact IH ((zmg (m 100) v6 : Int)).toNat (by have zq := zmg_lt (s := l2) (by omega) p0_m5 rfl (by omega) (by omega); omega) _ (v6) rfl (zF_zov (zF_zov (zF_zov hF ws_197_194) ws_191_194) ws_195_194) hV_m5 (show (m3 94 73).toInt = 0 from by omega) (show zWS (m 100) (m 99) (m3 110) (m1 109) (-1 : Int32) v6 from by first | (exact WS_weak p0_m5 (by omega)) | (exact p0_m5) | (exact Or.inl (by decide)) | (exact Or.inr ⟨by omega, by omega, by assumption, by assumption, by assumption, by omega⟩) | (exfalso; omega; done) | (exfalso; contradiction; done)) r_W p0_m1 p1_m3 p3_m3 (show zDX (m 94 10) (m 99) (m 112) (m1 113) (m1 114) (m1 94 55) (m 98) (m 101) (m 102) (m 108) from by first | (exact DX_wish r_DX p1_m1 p2_m1 (by assumption) (by omega) (by omega)) | (exfalso; omega; done) | (exfalso; contradiction; done)) (show ((m 94 10).toInt = 2 ∨ (m 94 10).toInt = 3) → zcov (m3 110) (m 112) 16 from by first | (exact fun hp => cov_le (r_COVR hp) p2_m3 (fun k hk => (ra_112 hV_m5 (by omega)).2)) | (exact fun hp => cov_le (cov_push (r_COVR hp) (by decide)) p2_m3 (fun k hk => (ra_112 hV_m5 (by omega)).2)) | (exact fun hp => cov_0 (by decide)) | (exact fun hp => cov_one (r_COVR hp) rfl (by omega) (by omega) (Or.inl (by omega))) | (exact fun hp => cov_one (r_COVR hp) rfl (by omega) (by omega) (Or.inr (by assumption))) | (exact fun hp => cov_cut (r_COVR hp) (by omega)) | (exact fun hp => cov_le (r_COVR hp) p2_m3 (fun k hk => (ra_112 hV_m5 (by omega)).2)) | (exact fun hp => cov_le (r_COVR hp) p2_m3 (fun k hk => (ra_114 hV_m5 (by have := rs_94_55 hV; omega)).2)) | (exfalso; omega; done) | (exfalso; contradiction; done)) (show ((m 94 10).toInt = 2 ∨ (m 94 10).toInt = 3) → zcov (m3 110) (m1 114) (m1 94 55).toInt from by first | (exfalso; omega; done) | (exact fun hp => cov_le (cov_wx (cov_push (r_COVW hp) (by decide)) p2_m1 (by rw [mu_self]; decide) (by omega) (by omega)) p2_m3 (fun k hk => (ra_114 hV_m5 (by have := GW_room p0_m1; omega)).2)) | (exact fun hp => cov_0 (by decide)) | (exact fun hp => cov_one (r_COVW hp) rfl (by omega) (by omega) (Or.inl (by omega))) | (exact fun hp => cov_one (r_COVW hp) rfl (by omega) (by omega) (Or.inr (by assumption))) | (exact fun hp => cov_cut (r_COVW hp) (by omega)) | (exact fun hp => cov_le (r_COVW hp) p2_m3 (fun k hk => (ra_112 hV_m5 (by omega)).2)) | (exact fun hp => cov_le (r_COVW hp) p2_m3 (fun k hk => (ra_114 hV_m5 (by have := rs_94_55 hV; omega)).2)) | (exfalso; contradiction; done)) (show zuw (m0 113) (m1 113) from by first | (exact zuw_tr r_UW p1_m1) | (exact zuw_rfl) | (exfalso; omega; done) | (exfalso; contradiction; done))
      · skip
        have g16 := i_nlt h10
        have hg17 : (0 ≤ l2 ∧ l2.toNatClampNeg < 3100) := i_ix (by omega) (by omega)
        refine ⟨hg17, ?_⟩
        first | have f18 : 0 ≤ (m 110 l2.toNatClampNeg).toInt ∧ (m 110 l2.toNatClampNeg).toInt ≤ 1 := ra_110 (m := m) hV (k := l2.toNatClampNeg) (i_ix (n := 3100) (by omega) (by omega)).2 | have b19 := i_bd (m 110 l2.toNatClampNeg)
        refine zd (fun (h20 : (m 110 l2.toNatClampNeg) = (0 : Int32)) => ?_) (fun (h20 : ¬ (m 110 l2.toNatClampNeg) = (0 : Int32)) => ?_)
        · skip
          have g21 := i_eq h20
          have hg22 : (0 ≤ l2 ∧ l2.toNatClampNeg < 3100) := i_ix (by omega) (by omega)
          refine ⟨hg22, ?_⟩
          have hg23 : (0 ≤ (m 94 73) ∧ (m 94 73).toNatClampNeg < 3100) := i_ix (by omega) (by omega)
          refine ⟨hg23, ?_⟩
          have li25 : (1 : Int32).toInt = 1 := rfl
          have hV24 : zV (ma_u (zov wr_197 m m1) 110 l2.toNatClampNeg (1 : Int32)) := ua_110 hV_m1 (by omega) (by omega)
          have hV26 : zV (ma_u (ma_u (zov wr_197 m m1) 110 l2.toNatClampNeg (1 : Int32)) 118 (m 94 73).toNatClampNeg l2) := ua_118 hV24 (by omega) (by omega)
          first | have e28 : ((m 94 73) + (1 : Int32)).toInt = (m 94 73).toInt + (1) := i_addk rfl (by omega) (by omega) | have b29 := i_bd ((m 94 73) + (1 : Int32))
          have hV27 : zV (ma_u (ma_u (ma_u (zov wr_197 m m1) 110 l2.toNatClampNeg (1 : Int32)) 118 (m 94 73).toNatClampNeg l2) 94 73 ((m 94 73) + (1 : Int32))) := us_94_73 hV26 (by omega) (by omega)
          refine sp_191  hV27 (show zKS ((ma_u m 110 l2.toNatClampNeg (1 : Int32)) 110) ((m 94 73) + (1 : Int32)) from by first | (exact KS_push (KS_0 (r := m 110) (y := m 94 73) (by omega)) (by assumption) (by omega) (by decide) (by assumption)) | (exfalso; omega; done) | (exfalso; contradiction; done)) r_W (show ((m 94 10).toInt = 2 ∨ (m 94 10).toInt = 3) → zCL ((ma_u m 110 l2.toNatClampNeg (1 : Int32)) 110) (m 98) (m 101) (m 102) (m 108) ((ma_u m 118 (m 94 73).toNatClampNeg l2) 118) ((m 94 73) + (1 : Int32)) 3100 0 from by first | (exact fun hp => CL_push (r_CL hp) (by decide) (by omega) rfl (by assumption)) | (exfalso; omega; done) | (exfalso; contradiction; done)) (show zKU (m 94 10) (m 99) ((ma_u m 110 l2.toNatClampNeg (1 : Int32)) 110) from by first | (exact KU_push r_KU (fun _ => by assumption)) | (exfalso; omega; done) | (exfalso; contradiction; done)) (show zDX (m 94 10) (m 99) (m 112) (m1 113) (m1 114) (m1 94 55) (m 98) (m 101) (m 102) (m 108) from by first | (exact DX_wish r_DX p1_m1 p2_m1 (by assumption) (by omega) (by omega)) | (exfalso; omega; done) | (exfalso; contradiction; done)) (fun m7 hV_m7 p0_m7 p1_m7 p2_m7 p3_m7 => zmv_n ?_)
          have p0_m7 : (m7 94 73).toInt = 0 := p0_m7
          have p1_m7 : ((m 94 10).toInt = 2 ∨ (m 94 10).toInt = 3) → zCL (m7 110) (m 98) (m 101) (m 102) (m 108) (m7 118) (m7 94 73) 3100 0 := p1_m7
          have p2_m7 : zle ((ma_u m 110 l2.toNatClampNeg (1 : Int32)) 110) (m7 110) := p2_m7
          have p3_m7 : zKU (m 94 10) (m 99) (m7 110) := p3_m7
          have f30 : 0 ≤ (m7 94 73).toInt ∧ (m7 94 73).toInt ≤ 3100 := rs_94_73 (m := (zov wr_191 (ma_u (ma_u (ma_u (zov wr_197 m m1) 110 l2.toNatClampNeg (1 : Int32)) 118 (m 94 73).toNatClampNeg l2) 94 73 ((m 94 73) + (1 : Int32))) m7)) hV_m7
          first | have f31 : 0 ≤ (m 100 l2.toNatClampNeg).toInt ∧ (m 100 l2.toNatClampNeg).toInt ≤ 100000 := ra_100 (m := m) hV (k := l2.toNatClampNeg) (i_ix (n := 3100) (by omega) (by omega)).2 | have b32 := i_bd (m 100 l2.toNatClampNeg)
          refine sp_195 ((m 100 l2.toNatClampNeg)) ((0 : Int32)) hV_m7  (fun v10 m9 hV_m9 p0_m9 => zmi_n ?_)
          have p0_m9 : zWS (m 100) (m 99) (m7 110) (m1 109) (m 100 l2.toNatClampNeg) v10 := p0_m9
          try have gw := GW_room p0_m1
          have b33 := i_bd v10
          exact IH ((zmg (m 100) v10 : Int)).toNat (by have zq := zmg_lt (s := l2) (by omega) p0_m9 rfl (by omega) (by omega); omega) _ (v10) rfl (zF_zov (zF_zov (zF_u (zF_u (zF_u (zF_zov hF ws_197_194) rfl) rfl) rfl) ws_191_194) ws_195_194) hV_m9 (show (m7 94 73).toInt = 0 from by omega) (show zWS (m 100) (m 99) (m7 110) (m1 109) (-1 : Int32) v10 from by first | (exact WS_weak p0_m9 (by omega)) | (exact p0_m9) | (exact Or.inl (by decide)) | (exact Or.inr ⟨by omega, by omega, by assumption, by assumption, by assumption, by omega⟩) | (exfalso; omega; done) | (exfalso; contradiction; done)) r_W p0_m1 p1_m7 p3_m7 (show zDX (m 94 10) (m 99) (m 112) (m1 113) (m1 114) (m1 94 55) (m 98) (m 101) (m 102) (m 108) from by first | (exact DX_wish r_DX p1_m1 p2_m1 (by assumption) (by omega) (by omega)) | (exfalso; omega; done) | (exfalso; contradiction; done)) (show ((m 94 10).toInt = 2 ∨ (m 94 10).toInt = 3) → zcov (m7 110) (m 112) 16 from by first | (exact fun hp => cov_le (cov_push (r_COVR hp) (by decide)) p2_m7 (fun k hk => (ra_112 hV_m9 (by omega)).2)) | (exact fun hp => cov_le (r_COVR hp) p2_m7 (fun k hk => (ra_112 hV_m9 (by omega)).2)) | (exact fun hp => cov_0 (by decide)) | (exact fun hp => cov_one (r_COVR hp) rfl (by omega) (by omega) (Or.inl (by omega))) | (exact fun hp => cov_one (r_COVR hp) rfl (by omega) (by omega) (Or.inr (by assumption))) | (exact fun hp => cov_cut (r_COVR hp) (by omega)) | (exact fun hp => cov_le (r_COVR hp) p2_m7 (fun k hk => (ra_112 hV_m9 (by omega)).2)) | (exact fun hp => cov_le (r_COVR hp) p2_m7 (fun k hk => (ra_114 hV_m9 (by have := rs_94_55 hV; omega)).2)) | (exfalso; omega; done) | (exfalso; contradiction; done)) (show ((m 94 10).toInt = 2 ∨ (m 94 10).toInt = 3) → zcov (m7 110) (m1 114) (m1 94 55).toInt from by first | (exact fun hp => cov_le (cov_wx (cov_push (r_COVW hp) (by decide)) p2_m1 (by rw [mu_self]; decide) (by omega) (by omega)) p2_m7 (fun k hk => (ra_114 hV_m9 (by have := GW_room p0_m1; omega)).2)) | (exact fun hp => cov_0 (by decide)) | (exact fun hp => cov_one (r_COVW hp) rfl (by omega) (by omega) (Or.inl (by omega))) | (exact fun hp => cov_one (r_COVW hp) rfl (by omega) (by omega) (Or.inr (by assumption))) | (exact fun hp => cov_cut (r_COVW hp) (by omega)) | (exact fun hp => cov_le (r_COVW hp) p2_m7 (fun k hk => (ra_112 hV_m9 (by omega)).2)) | (exact fun hp => cov_le (r_COVW hp) p2_m7 (fun k hk => (ra_114 hV_m9 (by have := rs_94_55 hV; omega)).2)) | (exfalso; omega; done) | (exfalso; contradiction; done)) (show zuw (m0 113) (m1 113) from by first | (exact zuw_tr r_UW p1_m1) | (exact zuw_rfl) | (exfalso; omega; done) | (exfalso; contradiction; done))
        · skip
          have g34 := i_ne h20
          refine sp_191  hV_m1 (show zKS (m 110) (m 94 73) from by first | (exact KS_0 (by omega)) | (exfalso; omega; done) | (exfalso; contradiction; done)) r_W r_CL r_KU (show zDX (m 94 10) (m 99) (m 112) (m1 113) (m1 114) (m1 94 55) (m 98) (m 101) (m 102) (m 108) from by first | (exact DX_wish r_DX p1_m1 p2_m1 (by assumption) (by omega) (by omega)) | (exfalso; omega; done) | (exfalso; contradiction; done)) (fun m11 hV_m11 p0_m11 p1_m11 p2_m11 p3_m11 => zmv_n ?_)
          have p0_m11 : (m11 94 73).toInt = 0 := p0_m11
          have p1_m11 : ((m 94 10).toInt = 2 ∨ (m 94 10).toInt = 3) → zCL (m11 110) (m 98) (m 101) (m 102) (m 108) (m11 118) (m11 94 73) 3100 0 := p1_m11
          have p2_m11 : zle (m 110) (m11 110) := p2_m11
          have p3_m11 : zKU (m 94 10) (m 99) (m11 110) := p3_m11
          have f35 : 0 ≤ (m11 94 73).toInt ∧ (m11 94 73).toInt ≤ 3100 := rs_94_73 (m := (zov wr_191 (zov wr_197 m m1) m11)) hV_m11
          first | have f36 : 0 ≤ (m 100 l2.toNatClampNeg).toInt ∧ (m 100 l2.toNatClampNeg).toInt ≤ 100000 := ra_100 (m := m) hV (k := l2.toNatClampNeg) (i_ix (n := 3100) (by omega) (by omega)).2 | have b37 := i_bd (m 100 l2.toNatClampNeg)
          refine sp_195 ((m 100 l2.toNatClampNeg)) ((0 : Int32)) hV_m11  (fun v14 m13 hV_m13 p0_m13 => zmi_n ?_)
          have p0_m13 : zWS (m 100) (m 99) (m11 110) (m1 109) (m 100 l2.toNatClampNeg) v14 := p0_m13
          try have gw := GW_room p0_m1
          have b38 := i_bd v14
          exact IH ((zmg (m 100) v14 : Int)).toNat (by have zq := zmg_lt (s := l2) (by omega) p0_m13 rfl (by omega) (by omega); omega) _ (v14) rfl (zF_zov (zF_zov (zF_zov hF ws_197_194) ws_191_194) ws_195_194) hV_m13 (show (m11 94 73).toInt = 0 from by omega) (show zWS (m 100) (m 99) (m11 110) (m1 109) (-1 : Int32) v14 from by first | (exact WS_weak p0_m13 (by omega)) | (exact p0_m13) | (exact Or.inl (by decide)) | (exact Or.inr ⟨by omega, by omega, by assumption, by assumption, by assumption, by omega⟩) | (exfalso; omega; done) | (exfalso; contradiction; done)) r_W p0_m1 p1_m11 p3_m11 (show zDX (m 94 10) (m 99) (m 112) (m1 113) (m1 114) (m1 94 55) (m 98) (m 101) (m 102) (m 108) from by first | (exact DX_wish r_DX p1_m1 p2_m1 (by assumption) (by omega) (by omega)) | (exfalso; omega; done) | (exfalso; contradiction; done)) (show ((m 94 10).toInt = 2 ∨ (m 94 10).toInt = 3) → zcov (m11 110) (m 112) 16 from by first | (exact fun hp => cov_le (r_COVR hp) p2_m11 (fun k hk => (ra_112 hV_m13 (by omega)).2)) | (exact fun hp => cov_le (cov_push (r_COVR hp) (by decide)) p2_m11 (fun k hk => (ra_112 hV_m13 (by omega)).2)) | (exact fun hp => cov_0 (by decide)) | (exact fun hp => cov_one (r_COVR hp) rfl (by omega) (by omega) (Or.inl (by omega))) | (exact fun hp => cov_one (r_COVR hp) rfl (by omega) (by omega) (Or.inr (by assumption))) | (exact fun hp => cov_cut (r_COVR hp) (by omega)) | (exact fun hp => cov_le (r_COVR hp) p2_m11 (fun k hk => (ra_112 hV_m13 (by omega)).2)) | (exact fun hp => cov_le (r_COVR hp) p2_m11 (fun k hk => (ra_114 hV_m13 (by have := rs_94_55 hV; omega)).2)) | (exfalso; omega; done) | (exfalso; contradiction; done)) (show ((m 94 10).toInt = 2 ∨ (m 94 10).toInt = 3) → zcov (m11 110) (m1 114) (m1 94 55).toInt from by first | (exfalso; contradiction; done) | (exact fun hp => cov_le (cov_wx (cov_push (r_COVW hp) (by decide)) p2_m1 (by rw [mu_self]; decide) (by omega) (by omega)) p2_m11 (fun k hk => (ra_114 hV_m13 (by have := GW_room p0_m1; omega)).2)) | (exact fun hp => cov_0 (by decide)) | (exact fun hp => cov_one (r_COVW hp) rfl (by omega) (by omega) (Or.inl (by omega))) | (exact fun hp => cov_one (r_COVW hp) rfl (by omega) (by omega) (Or.inr (by assumption))) | (exact fun hp => cov_cut (r_COVW hp) (by omega)) | (exact fun hp => cov_le (r_COVW hp) p2_m11 (fun k hk => (ra_112 hV_m13 (by omega)).2)) | (exact fun hp => cov_le (r_COVW hp) p2_m11 (fun k hk => (ra_114 hV_m13 (by have := rs_94_55 hV; omega)).2)) | (exfalso; omega; done)) (show zuw (m0 113) (m1 113) from by first | (exact zuw_tr r_UW p1_m1) | (exact zuw_rfl) | (exfalso; omega; done) | (exfalso; contradiction; done))
theorem sp_194 {X : Nat × (Nat → Int32)} {P : Option ma_V → (Nat → Nat → Int32) → Prop} {T : Nat} {m : Nat → Nat → Int32}  (hV : zV m) (hpre0 : (m 94 73).toInt = 0) (r_W : zW (m 94 7) (m 98) (m 101) (m 102) (m 108)) (r_GW : zGW T (m 94 55) (m 109)) (r_CL : ((m 94 10).toInt = 2 ∨ (m 94 10).toInt = 3) → zCL (m 110) (m 98) (m 101) (m 102) (m 108) (m 118) (m 94 73) 3100 0) (r_KU : zKU (m 94 10) (m 99) (m 110)) (r_DX : zDX (m 94 10) (m 99) (m 112) (m 113) (m 114) (m 94 55) (m 98) (m 101) (m 102) (m 108)) (r_COVR : ((m 94 10).toInt = 2 ∨ (m 94 10).toInt = 3) → zcov (m 110) (m 112) 16) (r_COVW : ((m 94 10).toInt = 2 ∨ (m 94 10).toInt = 3) → zcov (m 110) (m 114) (m 94 55).toInt) (KZ : ∀ m₉, zV (zov wr_194 m m₉) → ((m₉ 94 73).toInt = 0) → (zGW T (m₉ 94 55) (m₉ 109)) → (((m 94 10).toInt = 2 ∨ (m 94 10).toInt = 3) → zCL (m₉ 110) (m 98) (m 101) (m 102) (m 108) (m₉ 118) (m₉ 94 73) 3100 0) → (zKU (m 94 10) (m 99) (m₉ 110)) → (zDX (m 94 10) (m 99) (m 112) (m₉ 113) (m₉ 114) (m₉ 94 55) (m 98) (m 101) (m 102) (m 108)) → (((m 94 10).toInt = 2 ∨ (m 94 10).toInt = 3) → zcov (m₉ 110) (m 112) 16) → (((m 94 10).toInt = 2 ∨ (m 94 10).toInt = 3) → zcov (m₉ 110) (m₉ 114) (m₉ 94 55).toInt) → (zuw (m 113) (m₉ 113)) → P none (zov wr_194 m m₉)) : zm X 3 66 194 0 [(0, .inr (.inr (some 94)))] m P := by
  have K : ∀ m₉, zF wr_194 m m₉ → zV m₉ → ((m₉ 94 73).toInt = 0) → (zGW T (m₉ 94 55) (m₉ 109)) → (((m₉ 94 10).toInt = 2 ∨ (m₉ 94 10).toInt = 3) → zCL (m₉ 110) (m₉ 98) (m₉ 101) (m₉ 102) (m₉ 108) (m₉ 118) (m₉ 94 73) 3100 0) → (zKU (m₉ 94 10) (m₉ 99) (m₉ 110)) → (zDX (m₉ 94 10) (m₉ 99) (m₉ 112) (m₉ 113) (m₉ 114) (m₉ 94 55) (m₉ 98) (m₉ 101) (m₉ 102) (m₉ 108)) → (((m₉ 94 10).toInt = 2 ∨ (m₉ 94 10).toInt = 3) → zcov (m₉ 110) (m₉ 112) 16) → (((m₉ 94 10).toInt = 2 ∨ (m₉ 94 10).toInt = 3) → zcov (m₉ 110) (m₉ 114) (m₉ 94 55).toInt) → (zuw (m 113) (m₉ 113)) → P none m₉ := by
    intro m₉ hf z q0 q1 q2 q3 q4 q5 q6 q7
    have e := zov_eq hf
    rw [e] at z ⊢
    try rw [e] at q0
    try rw [e] at q1
    try rw [e] at q2
    try rw [e] at q3
    try rw [e] at q4
    try rw [e] at q5
    try rw [e] at q6
    try rw [e] at q7
    exact KZ m₉ z q0 q1 q2 q3 q4 q5 q6 q7
  refine g_194_0  ?_
  have f1 : 0 ≤ (m 94 73).toInt ∧ (m 94 73).toInt ≤ 3100 := rs_94_73 (m := m) hV
  have li2 : (-1 : Int32).toInt = -1 := rfl
  have li3 : (0 : Int32).toInt = 0 := rfl
  refine sp_195 ((-1 : Int32)) ((0 : Int32)) hV  (fun v2 m1 hV_m1 p0_m1 => zmi_n ?_)
  have p0_m1 : zWS (m 100) (m 99) (m 110) (m 109) (-1 : Int32) v2 := p0_m1
  try have gw := GW_room r_GW
  have b4 := i_bd v2
  exact lp_194_9 hV K _ _ (v2) rfl (zF_zov zF_rfl ws_195_194) hV_m1 (show (m 94 73).toInt = 0 from by omega) p0_m1 r_W r_GW r_CL r_KU r_DX r_COVR r_COVW (show zuw (m 113) (m 113) from by first | (exact zuw_rfl) | (exact zuw_rfl) | (exfalso; omega; done) | (exfalso; contradiction; done))

/-! from 94.417 -/
/-! removing, moving -/
section RM2
variable {m ma mo : Nat → Nat → Int32} {c ca co k t : Nat} {kp us us₉ at₉ ow : Nat → Int32} {x b v : Int32} {l s : Nat}
theorem rm_us (h : zrm us us₉ kp l) (hl : l < 3100) (hu : us₉ l ≠ 0) : us l ≠ 0 := by
  rw [← (h l hl).2 (Nat.le_refl _)]
  exact hu
theorem rm_end (h : zrm us us₉ kp l) (hl : 3100 ≤ l) : zrm us us₉ kp 3100 := fun s hs => ⟨fun _ => (h s hs).1 (by omega), fun z => by omega⟩
/-- one moves: where it was, it begins no more -/
theorem Ow_mv1 (h : zOw us (ma ca) (mo co)) (hu : us s ≠ 0) (hx : x.toInt < 0) (hl : (ma ca s).toInt = (l : Int)) (hv : v.toNatClampNeg = s) (hb : b.toInt = (t : Int)) : zOw us (ma_u ma ca s b ca) (ma_u (ma_u mo co l x) co t v co) := by
  intro p hp ho
  by_cases e : p = t
  · rw [e, mu_self, hv, mu_self]
    exact ⟨hu, hb⟩
  · rw [mu_ne e] at ho ⊢
    by_cases e2 : p = l
    · rw [e2, mu_self] at ho; omega
    · rw [mu_ne e2] at ho ⊢
      have := h p hp ho
      have e3 : (mo co p).toNatClampNeg ≠ s := fun z => by rw [z] at this; omega
      rw [mu_ne e3]
      exact this
theorem Ow_mv2 (h : zOw us (ma ca) (mo co)) (hu : us s ≠ 0) (hl : (ma ca s).toInt = (l : Int)) (hn : mo co l ≠ v) (hv0 : 0 ≤ v.toInt) (hv : v.toNatClampNeg = s) (hb : b.toInt = (t : Int)) : zOw us (ma_u ma ca s b ca) (ma_u mo co t v co) := by
  intro p hp ho
  by_cases e : p = t
  · rw [e, mu_self, hv, mu_self]
    exact ⟨hu, hb⟩
  · rw [mu_ne e] at ho ⊢
    have := h p hp ho
    have e3 : (mo co p).toNatClampNeg ≠ s := by
      intro z
      rw [z] at this
      have hpl : p = l := by omega
      rw [hpl] at z ho
      refine hn ?_
      refine Int32.toInt_inj.mp ?_
      have z2 : (mo co l).toNatClampNeg = v.toNatClampNeg := by rw [z, hv]
      rw [tn_eq, tn_eq] at z2
      have hvv : v.toNatClampNeg = v.toInt.toNat := rfl
      omega
    rw [mu_ne e3]
    exact this
end RM2

