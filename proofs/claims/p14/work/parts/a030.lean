/-! from 94.424 -/
/-! the reference (written by wip/tools/gen94m.py) -/
set_option maxRecDepth 100000 in
theorem hm_223 : ma_md 223 = some (12, yX12_lookEmpty, cX12_lookEmpty, 2, (some (FieldType.int))) := rfl
theorem f_12_228_12 : ma_fld 12 228 12 = some 9 := by decide +kernel
theorem dX12_lookEmpty_0 : decode cX12_lookEmpty 0 = .ok (.aload_n 0, 1) := by decide +kernel
theorem dX12_lookEmpty_4 : decode cX12_lookEmpty 4 = .ok (.aload_n 0, 1) := by decide +kernel
theorem dX12_lookEmpty_13 : decode cX12_lookEmpty 13 = .ok (.aload_n 0, 1) := by decide +kernel
theorem dX12_lookEmpty_24 : decode cX12_lookEmpty 24 = .ok (.aload_n 0, 1) := by decide +kernel
theorem dX12_lookEmpty_28 : decode cX12_lookEmpty 28 = .ok (.aload_n 0, 1) := by decide +kernel
theorem dX12_lookEmpty_37 : decode cX12_lookEmpty 37 = .ok (.aload_n 0, 1) := by decide +kernel
theorem dX12_lookEmpty_38 : decode cX12_lookEmpty 38 = .ok (.dup, 1) := by decide +kernel
theorem dX12_lookEmpty_42 : decode cX12_lookEmpty 42 = .ok (.iconst 1, 1) := by decide +kernel
theorem dX12_lookEmpty_43 : decode cX12_lookEmpty 43 = .ok (.iadd, 1) := by decide +kernel
theorem dX12_lookEmpty_47 : decode cX12_lookEmpty 47 = .ok (.iconst 0, 1) := by decide +kernel
theorem dX12_lookEmpty_48 : decode cX12_lookEmpty 48 = .ok (.istore_n 1, 1) := by decide +kernel
theorem dX12_lookEmpty_44 : decode cX12_lookEmpty 44 = .ok (.putfield 249, 3) := by decide +kernel
theorem dX12_lookEmpty_39 : decode cX12_lookEmpty 39 = .ok (.getfield 249, 3) := by decide +kernel
theorem dX12_lookEmpty_35 : decode cX12_lookEmpty 35 = .ok (.iconst 0, 1) := by decide +kernel
theorem dX12_lookEmpty_36 : decode cX12_lookEmpty 36 = .ok (.ireturn, 1) := by decide +kernel
theorem dX12_lookEmpty_32 : decode cX12_lookEmpty 32 = .ok (.if_icmp .ge 5, 3) := by decide +kernel
theorem dX12_lookEmpty_29 : decode cX12_lookEmpty 29 = .ok (.getfield 264, 3) := by decide +kernel
theorem dX12_lookEmpty_25 : decode cX12_lookEmpty 25 = .ok (.getfield 267, 3) := by decide +kernel
theorem dX12_lookEmpty_20 : decode cX12_lookEmpty 20 = .ok (.aload_n 0, 1) := by decide +kernel
theorem dX12_lookEmpty_21 : decode cX12_lookEmpty 21 = .ok (.invokevirtual 399, 3) := by decide +kernel
theorem dX12_lookEmpty_17 : decode cX12_lookEmpty 17 = .ok (.ifCond .ne 7, 3) := by decide +kernel
theorem dX12_lookEmpty_14 : decode cX12_lookEmpty 14 = .ok (.getfield 228, 3) := by decide +kernel
theorem dX12_lookEmpty_11 : decode cX12_lookEmpty 11 = .ok (.iconst 0, 1) := by decide +kernel
theorem dX12_lookEmpty_12 : decode cX12_lookEmpty 12 = .ok (.ireturn, 1) := by decide +kernel
theorem dX12_lookEmpty_8 : decode cX12_lookEmpty 8 = .ok (.if_icmp .ge 5, 3) := by decide +kernel
theorem dX12_lookEmpty_5 : decode cX12_lookEmpty 5 = .ok (.getfield 264, 3) := by decide +kernel
theorem dX12_lookEmpty_1 : decode cX12_lookEmpty 1 = .ok (.getfield 267, 3) := by decide +kernel
theorem dX12_lookEmpty_49 : decode cX12_lookEmpty 49 = .ok (.iload_n 1, 1) := by decide +kernel
theorem dX12_lookEmpty_50 : decode cX12_lookEmpty 50 = .ok (.sipush 3100, 3) := by decide +kernel
theorem dX12_lookEmpty_91 : decode cX12_lookEmpty 91 = .ok (.aload_n 0, 1) := by decide +kernel
theorem dX12_lookEmpty_92 : decode cX12_lookEmpty 92 = .ok (.iconst 0, 1) := by decide +kernel
theorem dX12_lookEmpty_96 : decode cX12_lookEmpty 96 = .ok (.aload_n 0, 1) := by decide +kernel
theorem dX12_lookEmpty_97 : decode cX12_lookEmpty 97 = .ok (.invokevirtual 336, 3) := by decide +kernel
theorem dX12_lookEmpty_100 : decode cX12_lookEmpty 100 = .ok (.aload_n 0, 1) := by decide +kernel
theorem dX12_lookEmpty_101 : decode cX12_lookEmpty 101 = .ok (.invokevirtual 339, 3) := by decide +kernel
theorem dX12_lookEmpty_104 : decode cX12_lookEmpty 104 = .ok (.aload_n 0, 1) := by decide +kernel
theorem dX12_lookEmpty_105 : decode cX12_lookEmpty 105 = .ok (.iconst 0, 1) := by decide +kernel
theorem dX12_lookEmpty_109 : decode cX12_lookEmpty 109 = .ok (.aload_n 0, 1) := by decide +kernel
theorem dX12_lookEmpty_110 : decode cX12_lookEmpty 110 = .ok (.invokevirtual 342, 3) := by decide +kernel
theorem dX12_lookEmpty_113 : decode cX12_lookEmpty 113 = .ok (.ireturn, 1) := by decide +kernel
theorem dX12_lookEmpty_106 : decode cX12_lookEmpty 106 = .ok (.putfield 270, 3) := by decide +kernel
theorem dX12_lookEmpty_93 : decode cX12_lookEmpty 93 = .ok (.putfield 291, 3) := by decide +kernel
theorem dX12_lookEmpty_56 : decode cX12_lookEmpty 56 = .ok (.aload_n 0, 1) := by decide +kernel
theorem dX12_lookEmpty_60 : decode cX12_lookEmpty 60 = .ok (.iload_n 1, 1) := by decide +kernel
theorem dX12_lookEmpty_61 : decode cX12_lookEmpty 61 = .ok (.aload_n 0, 1) := by decide +kernel
theorem dX12_lookEmpty_65 : decode cX12_lookEmpty 65 = .ok (.iload_n 1, 1) := by decide +kernel
theorem dX12_lookEmpty_83 : decode cX12_lookEmpty 83 = .ok (.iconst 0, 1) := by decide +kernel
theorem dX12_lookEmpty_85 : decode cX12_lookEmpty 85 = .ok (.iinc 1 1, 3) := by decide +kernel
theorem dX12_lookEmpty_88 : decode cX12_lookEmpty 88 = .ok (.goto (-39), 3) := by decide +kernel
theorem dX12_lookEmpty_84 : decode cX12_lookEmpty 84 = .ok (.bastore, 1) := by decide +kernel
theorem dX12_lookEmpty_70 : decode cX12_lookEmpty 70 = .ok (.aload_n 0, 1) := by decide +kernel
theorem dX12_lookEmpty_74 : decode cX12_lookEmpty 74 = .ok (.iload_n 1, 1) := by decide +kernel
theorem dX12_lookEmpty_79 : decode cX12_lookEmpty 79 = .ok (.iconst 1, 1) := by decide +kernel
theorem dX12_lookEmpty_80 : decode cX12_lookEmpty 80 = .ok (.goto 4, 3) := by decide +kernel
theorem dX12_lookEmpty_76 : decode cX12_lookEmpty 76 = .ok (.ifCond .eq 7, 3) := by decide +kernel
theorem dX12_lookEmpty_75 : decode cX12_lookEmpty 75 = .ok (.iaload, 1) := by decide +kernel
theorem dX12_lookEmpty_71 : decode cX12_lookEmpty 71 = .ok (.getfield 49, 3) := by decide +kernel
theorem dX12_lookEmpty_67 : decode cX12_lookEmpty 67 = .ok (.ifCond .eq 16, 3) := by decide +kernel
theorem dX12_lookEmpty_66 : decode cX12_lookEmpty 66 = .ok (.baload, 1) := by decide +kernel
theorem dX12_lookEmpty_62 : decode cX12_lookEmpty 62 = .ok (.getfield 27, 3) := by decide +kernel
theorem dX12_lookEmpty_57 : decode cX12_lookEmpty 57 = .ok (.getfield 62, 3) := by decide +kernel
theorem dX12_lookEmpty_53 : decode cX12_lookEmpty 53 = .ok (.if_icmp .ge 38, 3) := by decide +kernel
def wr_223 (c k : Nat) : Bool := Nat.beq c 99 || Nat.beq c 105 || Nat.beq c 106 || Nat.beq c 109 || Nat.beq c 110 || Nat.beq c 111 || Nat.beq c 113 || Nat.beq c 114 || Nat.beq c 115 || Nat.beq c 118 || (Nat.beq c 94 && (Nat.beq k 44 || Nat.beq k 45 || Nat.beq k 47 || Nat.beq k 49 || Nat.beq k 55 || Nat.beq k 56 || Nat.beq k 58 || Nat.beq k 73))
theorem ws_194_223 : ∀ c k, wr_194 c k = true → wr_223 c k = true := by
  intro c k h
  simp only [wr_194, wr_223, Bool.or_eq_true, Bool.and_eq_true, Nat.beq_eq] at h ⊢
  omega
theorem ws_199_223 : ∀ c k, wr_199 c k = true → wr_223 c k = true := by
  intro c k h
  simp only [wr_199, wr_223, Bool.or_eq_true, Bool.and_eq_true, Nat.beq_eq] at h ⊢
  omega
theorem ws_200_223 : ∀ c k, wr_200 c k = true → wr_223 c k = true := by
  intro c k h
  simp only [wr_200, wr_223, Bool.or_eq_true, Bool.and_eq_true, Nat.beq_eq] at h ⊢
  omega
theorem ws_220_223 : ∀ c k, wr_220 c k = true → wr_223 c k = true := by
  intro c k h
  simp only [wr_220, wr_223, Bool.or_eq_true, Bool.and_eq_true, Nat.beq_eq] at h ⊢
  omega
theorem g_223_0 {X : Nat × (Nat → Int32)} {m : Nat → Nat → Int32} {P : Option ma_V → (Nat → Nat → Int32) → Prop}  (h : if (m 94 56) ≤ (m 94 57) then (if (m 94 9) = 0 then (zm X 1 21 220 0 [(0, .inr (.inr (some 94)))] m (zmv (fun m1 => if (m1 94 56) ≤ (m1 94 57) then (zm X 4 88 223 49 [(0, .inr (.inr (some 94))), (1, .inl (0 : Int32))] (ma_u m1 94 47 ((m1 94 47) + (1 : Int32))) P) else (P (some (.inl (0 : Int32))) m1)))) else (if (m 94 56) ≤ (m 94 57) then (zm X 4 88 223 49 [(0, .inr (.inr (some 94))), (1, .inl (0 : Int32))] (ma_u m 94 47 ((m 94 47) + (1 : Int32))) P) else (P (some (.inl (0 : Int32))) m))) else (P (some (.inl (0 : Int32))) m)) : zm X 4 88 223 0 [(0, .inr (.inr (some 94)))] m P := by
  intro d w S Q hd hw hS hm HQ
  subst hm
  refine zw_push hm_223 dX12_lookEmpty_0 (v := .inr (.inr (some 94))) rfl ?_
  refine zw_gf hm_223 dX12_lookEmpty_1 (v := .inl ((mI S) 94 57)) (zT_is hS s_94) (zT_t hS s_94) rfl f_12_267_12 rfl ?_
  refine zw_push hm_223 dX12_lookEmpty_4 (v := .inr (.inr (some 94))) rfl ?_
  refine zw_gf hm_223 dX12_lookEmpty_5 (v := .inl ((mI S) 94 56)) (zT_is hS s_94) (zT_t hS s_94) rfl f_12_264_12 rfl ?_
  refine zw_if2 hm_223 dX12_lookEmpty_8 (t := 13) rfl zc2_ge ?_ ?_
  · intro hc
    rw [if_pos hc] at h
    refine zw_push hm_223 dX12_lookEmpty_13 (v := .inr (.inr (some 94))) rfl ?_
    refine zw_gf hm_223 dX12_lookEmpty_14 (v := .inl ((mI S) 94 9)) (zT_is hS s_94) (zT_t hS s_94) rfl f_12_228_12 rfl ?_
    refine zw_if0 hm_223 dX12_lookEmpty_17 (t := 24) rfl zc0_ne ?_ ?_
    · intro hc
      rw [if_neg hc] at h
      refine zw_push hm_223 dX12_lookEmpty_24 (v := .inr (.inr (some 94))) rfl ?_
      refine zw_gf hm_223 dX12_lookEmpty_25 (v := .inl ((mI S) 94 57)) (zT_is hS s_94) (zT_t hS s_94) rfl f_12_267_12 rfl ?_
      refine zw_push hm_223 dX12_lookEmpty_28 (v := .inr (.inr (some 94))) rfl ?_
      refine zw_gf hm_223 dX12_lookEmpty_29 (v := .inl ((mI S) 94 56)) (zT_is hS s_94) (zT_t hS s_94) rfl f_12_264_12 rfl ?_
      refine zw_if2 hm_223 dX12_lookEmpty_32 (t := 37) rfl zc2_ge ?_ ?_
      · intro hc
        rw [if_pos hc] at h
        refine zw_push hm_223 dX12_lookEmpty_37 (v := .inr (.inr (some 94))) rfl ?_
        refine zw_stk hm_223 dX12_lookEmpty_38 (st₉ := [.inr (.inr (some 94)), .inr (.inr (some 94))]) rfl rfl ?_
        refine zw_gf hm_223 dX12_lookEmpty_39 (v := .inl ((mI S) 94 47)) (zT_is hS s_94) (zT_t hS s_94) rfl f_12_249_12 rfl ?_
        refine zw_push hm_223 dX12_lookEmpty_42 (v := .inl (1 : Int32)) rfl ?_
        refine zw_stk hm_223 dX12_lookEmpty_43 (st₉ := [.inl (((mI S) 94 47) + (1 : Int32)), .inr (.inr (some 94))]) rfl rfl ?_
        refine zw_pf hm_223 dX12_lookEmpty_44 (zT_is hS s_94) (zT_t hS s_94) p_12_249_12 zk_int ?_
        refine zw_push hm_223 dX12_lookEmpty_47 (v := .inl (0 : Int32)) rfl ?_
        refine zw_sto hm_223 dX12_lookEmpty_48 [(1, .inl (0 : Int32)), (0, .inr (.inr (some 94)))] rfl rfl rfl ?_
        exact zw_sub (ma_nd_of (ks := [0, 1]) rfl (by decide)) (ma_nd_of (ks := [1, 0]) rfl (by decide)) (ma_le_cons rfl (ma_le_cons rfl (ma_le_nil _))) (h d w _ Q (by omega) (by omega) (zT_pi hS) rfl HQ)
      · intro hc
        rw [if_neg hc] at h
        refine zw_push hm_223 dX12_lookEmpty_35 (v := .inl (0 : Int32)) rfl ?_
        exact zw_iret hm_223 dX12_lookEmpty_36 (HQ _ _ h)
    · intro hc
      rw [if_pos (Classical.not_not.mp hc)] at h
      refine zw_push hm_223 dX12_lookEmpty_20 (v := .inr (.inr (some 94))) rfl ?_
      refine zw_cv hm_223 dX12_lookEmpty_21 v_12_399_12 hm_220 [] [] rfl (zT_rt hS s_94 rfl) ⟨by omega, by omega⟩ rfl (h _ _ S _ (by omega) (by omega) hS rfl (fun o9 m1 hv => ?_))
      obtain ⟨rfl, h⟩ := zmv_of hv
      show ma_wp X d w 223 24 [(0, .inr (.inr (some 94)))] [] (zst S m1) _
      refine zw_push hm_223 dX12_lookEmpty_24 (v := .inr (.inr (some 94))) rfl ?_
      refine zw_gf hm_223 dX12_lookEmpty_25 (v := .inl (m1 94 57)) (zT_is (zT_zst hS m1) s_94) (zT_t (zT_zst hS m1) s_94) rfl f_12_267_12 rfl ?_
      refine zw_push hm_223 dX12_lookEmpty_28 (v := .inr (.inr (some 94))) rfl ?_
      refine zw_gf hm_223 dX12_lookEmpty_29 (v := .inl (m1 94 56)) (zT_is (zT_zst hS m1) s_94) (zT_t (zT_zst hS m1) s_94) rfl f_12_264_12 rfl ?_
      refine zw_if2 hm_223 dX12_lookEmpty_32 (t := 37) rfl zc2_ge ?_ ?_
      · intro hc
        rw [if_pos hc] at h
        refine zw_push hm_223 dX12_lookEmpty_37 (v := .inr (.inr (some 94))) rfl ?_
        refine zw_stk hm_223 dX12_lookEmpty_38 (st₉ := [.inr (.inr (some 94)), .inr (.inr (some 94))]) rfl rfl ?_
        refine zw_gf hm_223 dX12_lookEmpty_39 (v := .inl (m1 94 47)) (zT_is (zT_zst hS m1) s_94) (zT_t (zT_zst hS m1) s_94) rfl f_12_249_12 rfl ?_
        refine zw_push hm_223 dX12_lookEmpty_42 (v := .inl (1 : Int32)) rfl ?_
        refine zw_stk hm_223 dX12_lookEmpty_43 (st₉ := [.inl ((m1 94 47) + (1 : Int32)), .inr (.inr (some 94))]) rfl rfl ?_
        refine zw_pf hm_223 dX12_lookEmpty_44 (zT_is (zT_zst hS m1) s_94) (zT_t (zT_zst hS m1) s_94) p_12_249_12 zk_int ?_
        refine zw_push hm_223 dX12_lookEmpty_47 (v := .inl (0 : Int32)) rfl ?_
        refine zw_sto hm_223 dX12_lookEmpty_48 [(1, .inl (0 : Int32)), (0, .inr (.inr (some 94)))] rfl rfl rfl ?_
        exact zw_sub (ma_nd_of (ks := [0, 1]) rfl (by decide)) (ma_nd_of (ks := [1, 0]) rfl (by decide)) (ma_le_cons rfl (ma_le_cons rfl (ma_le_nil _))) (h d w _ Q (by omega) (by omega) (zT_pi (zT_zst hS m1)) rfl HQ)
      · intro hc
        rw [if_neg hc] at h
        refine zw_push hm_223 dX12_lookEmpty_35 (v := .inl (0 : Int32)) rfl ?_
        exact zw_iret hm_223 dX12_lookEmpty_36 (HQ _ _ h)
  · intro hc
    rw [if_neg hc] at h
    refine zw_push hm_223 dX12_lookEmpty_11 (v := .inl (0 : Int32)) rfl ?_
    exact zw_iret hm_223 dX12_lookEmpty_12 (HQ _ _ h)
theorem g_223_49 {X : Nat × (Nat → Int32)} {m : Nat → Nat → Int32} {P : Option ma_V → (Nat → Nat → Int32) → Prop} (l1 : Int32) (h : if (3100 : Int32) ≤ l1 then (zm X 3 66 194 0 [(0, .inr (.inr (some 94)))] (ma_u m 94 73 (0 : Int32)) (zmv (fun m1 => zm X 0 0 199 0 [(0, .inr (.inr (some 94)))] m1 (zmv (fun m3 => zm X 2 44 200 0 [(0, .inr (.inr (some 94)))] (ma_u m3 94 58 (0 : Int32)) (zmi (fun v6 m5 => P (some (.inl v6)) m5))))))) else ((0 ≤ l1 ∧ l1.toNatClampNeg < 3100) ∧ (if (m 99 l1.toNatClampNeg) = 0 then ((0 ≤ l1 ∧ l1.toNatClampNeg < 3100) ∧ (zm X 4 88 223 49 [(0, .inr (.inr (some 94))), (1, .inl (l1 + (1 : Int32)))] (ma_u m 110 l1.toNatClampNeg (0 : Int32)) P)) else ((0 ≤ l1 ∧ l1.toNatClampNeg < 3100) ∧ (if (m 106 l1.toNatClampNeg) = 0 then ((0 ≤ l1 ∧ l1.toNatClampNeg < 3100) ∧ (zm X 4 88 223 49 [(0, .inr (.inr (some 94))), (1, .inl (l1 + (1 : Int32)))] (ma_u m 110 l1.toNatClampNeg (0 : Int32)) P)) else ((0 ≤ l1 ∧ l1.toNatClampNeg < 3100) ∧ (zm X 4 88 223 49 [(0, .inr (.inr (some 94))), (1, .inl (l1 + (1 : Int32)))] (ma_u m 110 l1.toNatClampNeg (1 : Int32)) P))))))) : zm X 4 88 223 49 [(0, .inr (.inr (some 94))), (1, .inl l1)] m P := by
  intro d w S Q hd hw hS hm HQ
  subst hm
  refine zw_push hm_223 dX12_lookEmpty_49 (v := .inl l1) rfl ?_
  refine zw_push hm_223 dX12_lookEmpty_50 (v := .inl (3100 : Int32)) rfl ?_
  refine zw_if2 hm_223 dX12_lookEmpty_53 (t := 91) rfl zc2_ge ?_ ?_
  · intro hc
    rw [if_pos hc] at h
    refine zw_push hm_223 dX12_lookEmpty_91 (v := .inr (.inr (some 94))) rfl ?_
    refine zw_push hm_223 dX12_lookEmpty_92 (v := .inl (0 : Int32)) rfl ?_
    refine zw_pf hm_223 dX12_lookEmpty_93 (zT_is hS s_94) (zT_t hS s_94) p_12_291_12 zk_int ?_
    refine zw_push hm_223 dX12_lookEmpty_96 (v := .inr (.inr (some 94))) rfl ?_
    refine zw_cv hm_223 dX12_lookEmpty_97 v_12_336_12 hm_194 [] [] rfl (zT_rt (zT_pi hS) s_94 rfl) ⟨by omega, by omega⟩ rfl (h _ _ (ma_put S 94 73 (.inl (0 : Int32))) _ (by omega) (by omega) (zT_pi hS) rfl (fun o9 m1 hv => ?_))
    obtain ⟨rfl, h⟩ := zmv_of hv
    show ma_wp X d w 223 100 [(0, .inr (.inr (some 94))), (1, .inl l1)] [] (zst S m1) _
    refine zw_push hm_223 dX12_lookEmpty_100 (v := .inr (.inr (some 94))) rfl ?_
    refine zw_cv hm_223 dX12_lookEmpty_101 v_12_339_12 hm_199 [] [] rfl (zT_rt (zT_zst hS m1) s_94 rfl) ⟨by omega, by omega⟩ rfl (h _ _ (zst S m1) _ (by omega) (by omega) (zT_zst hS m1) rfl (fun o9 m3 hv => ?_))
    obtain ⟨rfl, h⟩ := zmv_of hv
    show ma_wp X d w 223 104 [(0, .inr (.inr (some 94))), (1, .inl l1)] [] (zst S m3) _
    refine zw_push hm_223 dX12_lookEmpty_104 (v := .inr (.inr (some 94))) rfl ?_
    refine zw_push hm_223 dX12_lookEmpty_105 (v := .inl (0 : Int32)) rfl ?_
    refine zw_pf hm_223 dX12_lookEmpty_106 (zT_is (zT_zst hS m3) s_94) (zT_t (zT_zst hS m3) s_94) p_12_270_12 (zk_bool (by decide)) ?_
    refine zw_push hm_223 dX12_lookEmpty_109 (v := .inr (.inr (some 94))) rfl ?_
    refine zw_cv hm_223 dX12_lookEmpty_110 v_12_342_12 hm_200 [] [] rfl (zT_rt (zT_pi (zT_zst hS m3)) s_94 rfl) ⟨by omega, by omega⟩ rfl (h _ _ (ma_put (zst S m3) 94 58 (.inl (0 : Int32))) _ (by omega) (by omega) (zT_pi (zT_zst hS m3)) rfl (fun o9 m5 hv => ?_))
    obtain ⟨v6, rfl, h⟩ := zmi_of hv
    show ma_wp X d w 223 113 [(0, .inr (.inr (some 94))), (1, .inl l1)] [.inl v6] (zst S m5) _
    exact zw_iret hm_223 dX12_lookEmpty_113 (HQ _ _ h)
  · intro hc
    rw [if_neg hc] at h
    refine zw_push hm_223 dX12_lookEmpty_56 (v := .inr (.inr (some 94))) rfl ?_
    refine zw_gf hm_223 dX12_lookEmpty_57 (v := .inr (.inr (some 110))) (zT_is hS s_94) (zT_t hS s_94) rfl f_12_62_12 (zT_f hS r_94_42) ?_
    refine zw_push hm_223 dX12_lookEmpty_60 (v := .inl l1) rfl ?_
    refine zw_push hm_223 dX12_lookEmpty_61 (v := .inr (.inr (some 94))) rfl ?_
    refine zw_gf hm_223 dX12_lookEmpty_62 (v := .inr (.inr (some 99))) (zT_is hS s_94) (zT_t hS s_94) rfl f_12_27_12 (zT_f hS r_94_31) ?_
    refine zw_push hm_223 dX12_lookEmpty_65 (v := .inl l1) rfl ?_
    obtain ⟨hg, h⟩ := h
    refine zw_ba hm_223 dX12_lookEmpty_66 (zT_is hS s_99) (zT_h hS s_99) rfl rfl hg ?_
    show ma_wp X d w 223 67 [(0, .inr (.inr (some 94))), (1, .inl l1)] [.inl ((mI S) 99 l1.toNatClampNeg), .inl l1, .inr (.inr (some 110))] S _
    refine zw_if0 hm_223 dX12_lookEmpty_67 (t := 83) rfl zc0_eq ?_ ?_
    · intro hc
      rw [if_pos hc] at h
      refine zw_push hm_223 dX12_lookEmpty_83 (v := .inl (0 : Int32)) rfl ?_
      obtain ⟨hg, h⟩ := h
      refine zw_bas22l hm_223 dX12_lookEmpty_84 (hx := by decide) (yv := (0 : Int32)) (zT_is hS s_110) (zT_h hS s_110) rfl hg ?_
      refine zw_sto hm_223 dX12_lookEmpty_85 [(1, .inl (l1 + (1 : Int32))), (0, .inr (.inr (some 94)))] rfl rfl rfl ?_
      refine zw_goto hm_223 dX12_lookEmpty_88 (t := 49) rfl ?_
      exact zw_sub (ma_nd_of (ks := [0, 1]) rfl (by decide)) (ma_nd_of (ks := [1, 0]) rfl (by decide)) (ma_le_cons rfl (ma_le_cons rfl (ma_le_nil _))) (h d w _ Q (by omega) (by omega) (zT_pi hS) rfl HQ)
    · intro hc
      rw [if_neg hc] at h
      refine zw_push hm_223 dX12_lookEmpty_70 (v := .inr (.inr (some 94))) rfl ?_
      refine zw_gf hm_223 dX12_lookEmpty_71 (v := .inr (.inr (some 106))) (zT_is hS s_94) (zT_t hS s_94) rfl f_12_49_12 (zT_f hS r_94_38) ?_
      refine zw_push hm_223 dX12_lookEmpty_74 (v := .inl l1) rfl ?_
      obtain ⟨hg, h⟩ := h
      refine zw_ia hm_223 dX12_lookEmpty_75 (zT_is hS s_106) (zT_h hS s_106) rfl hg ?_
      show ma_wp X d w 223 76 [(0, .inr (.inr (some 94))), (1, .inl l1)] [.inl ((mI S) 106 l1.toNatClampNeg), .inl l1, .inr (.inr (some 110))] S _
      refine zw_if0 hm_223 dX12_lookEmpty_76 (t := 83) rfl zc0_eq ?_ ?_
      · intro hc
        rw [if_pos hc] at h
        refine zw_push hm_223 dX12_lookEmpty_83 (v := .inl (0 : Int32)) rfl ?_
        obtain ⟨hg, h⟩ := h
        refine zw_bas22l hm_223 dX12_lookEmpty_84 (hx := by decide) (yv := (0 : Int32)) (zT_is hS s_110) (zT_h hS s_110) rfl hg ?_
        refine zw_sto hm_223 dX12_lookEmpty_85 [(1, .inl (l1 + (1 : Int32))), (0, .inr (.inr (some 94)))] rfl rfl rfl ?_
        refine zw_goto hm_223 dX12_lookEmpty_88 (t := 49) rfl ?_
        exact zw_sub (ma_nd_of (ks := [0, 1]) rfl (by decide)) (ma_nd_of (ks := [1, 0]) rfl (by decide)) (ma_le_cons rfl (ma_le_cons rfl (ma_le_nil _))) (h d w _ Q (by omega) (by omega) (zT_pi hS) rfl HQ)
      · intro hc
        rw [if_neg hc] at h
        refine zw_push hm_223 dX12_lookEmpty_79 (v := .inl (1 : Int32)) rfl ?_
        refine zw_goto hm_223 dX12_lookEmpty_80 (t := 84) rfl ?_
        obtain ⟨hg, h⟩ := h
        refine zw_bas22l hm_223 dX12_lookEmpty_84 (hx := by decide) (yv := (1 : Int32)) (zT_is hS s_110) (zT_h hS s_110) rfl hg ?_
        refine zw_sto hm_223 dX12_lookEmpty_85 [(1, .inl (l1 + (1 : Int32))), (0, .inr (.inr (some 94)))] rfl rfl rfl ?_
        refine zw_goto hm_223 dX12_lookEmpty_88 (t := 49) rfl ?_
        exact zw_sub (ma_nd_of (ks := [0, 1]) rfl (by decide)) (ma_nd_of (ks := [1, 0]) rfl (by decide)) (ma_le_cons rfl (ma_le_cons rfl (ma_le_nil _))) (h d w _ Q (by omega) (by omega) (zT_pi hS) rfl HQ)
theorem lp_223_49 {X : Nat × (Nat → Int32)} {P : Option ma_V → (Nat → Nat → Int32) → Prop} {T : Nat} {m0 : Nat → Nat → Int32} (h0 : zV m0) (K : ∀ v m₉, zF wr_223 m0 m₉ → zV m₉ → (zGW T (m₉ 94 55) (m₉ 109)) → (zGU T (m₉ 94 46) (m₉ 99)) → (zOw (m₉ 99) (m₉ 103) (m₉ 111)) → (zDX (m₉ 94 10) (m₉ 99) (m₉ 112) (m₉ 113) (m₉ 114) (m₉ 94 55) (m₉ 98) (m₉ 101) (m₉ 102) (m₉ 108)) → (zGG (m₉ 94 58) (m₉ 94 56) (m₉ 94 57) (m₉ 106)) → ((m₉ 94 58).toInt = 0 ∨ ((m₉ 94 58).toInt = 1 ∧ (m₉ 94 57).toInt < (m₉ 94 56).toInt ∧ (m₉ 94 57).toInt = (m0 94 57).toInt)) → P (some (.inl v)) m₉) : ∀ (n : Nat) (m : Nat → Nat → Int32) (l1 : Int32), (3100 - l1.toInt).toNat = n → zF wr_223 m0 m → zV m → (0 ≤ l1.toInt) → (zW (m 94 7) (m 98) (m 101) (m 102) (m 108)) → (zGW T (m 94 55) (m 109)) → (zGU T (m 94 46) (m 99)) → (zOw (m 99) (m 103) (m 111)) → (zDX (m 94 10) (m 99) (m 112) (m 113) (m 114) (m 94 55) (m 98) (m 101) (m 102) (m 108)) → ((m 94 10).toInt = 5) → ((m 94 57).toInt = (m0 94 57).toInt) → zm X 4 88 223 49 [(0, .inr (.inr (some 94))), (1, .inl l1)] m P := by
  intro n
  induction n using Nat.strongRecOn with
  | _ n IH =>
    intro m l1 hmu hF hV hi0 r_W r_GW r_GU r_OW r_DX hi6 hi7
    refine g_223_49 l1 ?_
    have f1 : 0 ≤ (m 94 10).toInt ∧ (m 94 10).toInt ≤ 6 := rs_94_10 (m := m) hV
    have f2 : 0 ≤ (m 94 57).toInt ∧ (m 94 57).toInt ≤ 3100 := rs_94_57 (m := m) hV
    have f3 : 0 ≤ (m0 94 57).toInt ∧ (m0 94 57).toInt ≤ 3100 := rs_94_57 (m := m0) h0
    have li4 : (3100 : Int32).toInt = 3100 := rfl
    have b5 := i_bd l1
    refine zd (fun (h6 : (3100 : Int32) ≤ l1) => ?_) (fun (h6 : ¬ (3100 : Int32) ≤ l1) => ?_)
    · skip
      have g7 := i_le h6
      have li9 : (0 : Int32).toInt = 0 := rfl
      have hV8 : zV (ma_u m 94 73 (0 : Int32)) := us_94_73 hV (by omega) (by omega)
      refine sp_194  hV8 (show (0 : Int32).toInt = 0 from by omega) r_W r_GW (show ((m 94 10).toInt = 2 ∨ (m 94 10).toInt = 3) → zCL (m 110) (m 98) (m 101) (m 102) (m 108) (m 118) (0 : Int32) 3100 0 from by first | (exact fun hp => absurd hp (by omega)) | (exfalso; omega; done) | (exfalso; contradiction; done)) (show zKU (m 94 10) (m 99) (m 110) from by first | (exact fun hp => absurd hp (by omega)) | (exfalso; omega; done) | (exfalso; contradiction; done)) r_DX (show ((m 94 10).toInt = 2 ∨ (m 94 10).toInt = 3) → zcov (m 110) (m 112) 16 from by first | (exact fun hp => absurd hp (by omega)) | (exact fun hp => cov_0 (by decide)) | (exfalso; omega; done) | (exfalso; contradiction; done)) (show ((m 94 10).toInt = 2 ∨ (m 94 10).toInt = 3) → zcov (m 110) (m 114) (m 94 55).toInt from by first | (exact fun hp => absurd hp (by omega)) | (exact fun hp => cov_0 (by decide)) | (exfalso; omega; done) | (exfalso; contradiction; done)) (fun m1 hV_m1 p0_m1 p1_m1 p2_m1 p3_m1 p4_m1 p5_m1 p6_m1 p7_m1 => zmv_n ?_)
      have p0_m1 : (m1 94 73).toInt = 0 := p0_m1
      have p1_m1 : zGW T (m1 94 55) (m1 109) := p1_m1
      have p2_m1 : ((m 94 10).toInt = 2 ∨ (m 94 10).toInt = 3) → zCL (m1 110) (m 98) (m 101) (m 102) (m 108) (m1 118) (m1 94 73) 3100 0 := p2_m1
      have p3_m1 : zKU (m 94 10) (m 99) (m1 110) := p3_m1
      have p4_m1 : zDX (m 94 10) (m 99) (m 112) (m1 113) (m1 114) (m1 94 55) (m 98) (m 101) (m 102) (m 108) := p4_m1
      have p5_m1 : ((m 94 10).toInt = 2 ∨ (m 94 10).toInt = 3) → zcov (m1 110) (m 112) 16 := p5_m1
      have p6_m1 : ((m 94 10).toInt = 2 ∨ (m 94 10).toInt = 3) → zcov (m1 110) (m1 114) (m1 94 55).toInt := p6_m1
      have p7_m1 : zuw (m 113) (m1 113) := p7_m1
      have f10 : 0 ≤ (m1 94 73).toInt ∧ (m1 94 73).toInt ≤ 3100 := rs_94_73 (m := (zov wr_194 (ma_u m 94 73 (0 : Int32)) m1)) hV_m1
      refine sp_199  hV_m1  (fun m3 hV_m3 p0_m3 p1_m3 => zmv_n ?_)
      have p0_m3 : zuw (m1 113) (m3 113) := p0_m3
      have p1_m3 : zcov (m1 110) (m3 113) 16 := p1_m3
      have hV11 : zV (ma_u (zov wr_199 (zov wr_194 (ma_u m 94 73 (0 : Int32)) m1) m3) 94 58 (0 : Int32)) := us_94_58 hV_m3 (by omega) (by omega)
      refine sp_200  hV11 r_W r_GU r_OW (fun v6 m5 hV_m5 p0_m5 p1_m5 p2_m5 p3_m5 => zmi_n ?_)
      have p0_m5 : zrm (m 99) (m5 99) (m1 110) 3100 := p0_m5
      have p1_m5 : zowr (m 111) (m5 111) (m 99) (m1 110) (m 103) := p1_m5
      have p2_m5 : zGU T (m 94 46) (m5 99) := p2_m5
      have p3_m5 : zOw (m5 99) (m 103) (m5 111) := p3_m5
      have b12 := i_bd v6
      have f13 : 0 ≤ (m 94 56).toInt ∧ (m 94 56).toInt ≤ 3100 := rs_94_56 (m := m) hV
      exact K (v6) _ (zF_zov (zF_u (zF_zov (zF_zov (zF_u hF rfl) ws_194_223) ws_199_223) rfl) ws_200_223) hV_m5 p1_m1 p2_m5 p3_m5 (show zDX (m 94 10) (m5 99) (m 112) (m3 113) (m1 114) (m1 94 55) (m 98) (m 101) (m 102) (m 108) from by first | (exact fun hp => absurd hp (by omega)) | (exfalso; omega; done) | (exfalso; contradiction; done)) (show zGG (0 : Int32) (m 94 56) (m 94 57) (m 106) from by first | (exact fun z => absurd z (by decide)) | (exact fun z => absurd z (by omega)) | (exfalso; omega; done) | (exfalso; contradiction; done)) (show (0 : Int32).toInt = 0 ∨ ((0 : Int32).toInt = 1 ∧ (m 94 57).toInt < (m 94 56).toInt ∧ (m 94 57).toInt = (m0 94 57).toInt) from by omega)
    · skip
      have g14 := i_nle h6
      have hg15 : (0 ≤ l1 ∧ l1.toNatClampNeg < 3100) := i_ix (by omega) (by omega)
      refine ⟨hg15, ?_⟩
      first | have f16 : 0 ≤ (m 99 l1.toNatClampNeg).toInt ∧ (m 99 l1.toNatClampNeg).toInt ≤ 1 := ra_99 (m := m) hV (k := l1.toNatClampNeg) (i_ix (n := 3100) (by omega) (by omega)).2 | have b17 := i_bd (m 99 l1.toNatClampNeg)
      have li18 : (0 : Int32).toInt = 0 := rfl
      refine zd (fun (h19 : (m 99 l1.toNatClampNeg) = (0 : Int32)) => ?_) (fun (h19 : ¬ (m 99 l1.toNatClampNeg) = (0 : Int32)) => ?_)
      · skip
        have g20 := i_eq h19
        have hg21 : (0 ≤ l1 ∧ l1.toNatClampNeg < 3100) := i_ix (by omega) (by omega)
        refine ⟨hg21, ?_⟩
        have hV22 : zV (ma_u m 110 l1.toNatClampNeg (0 : Int32)) := ua_110 hV (by omega) (by omega)
        first | have e23 : (l1 + (1 : Int32)).toInt = l1.toInt + (1) := i_addk rfl (by omega) (by omega) | have b24 := i_bd (l1 + (1 : Int32))
        exact IH (3100 - (l1 + (1 : Int32)).toInt).toNat (by omega) _ ((l1 + (1 : Int32))) rfl (zF_u hF rfl) hV22 (by omega) r_W r_GW r_GU r_OW r_DX (show (m 94 10).toInt = 5 from by omega) (show (m 94 57).toInt = (m0 94 57).toInt from by omega)
      · skip
        have g25 := i_ne h19
        have hg26 : (0 ≤ l1 ∧ l1.toNatClampNeg < 3100) := i_ix (by omega) (by omega)
        refine ⟨hg26, ?_⟩
        have b27 := i_bd (m 106 l1.toNatClampNeg)
        refine zd (fun (h28 : (m 106 l1.toNatClampNeg) = (0 : Int32)) => ?_) (fun (h28 : ¬ (m 106 l1.toNatClampNeg) = (0 : Int32)) => ?_)
        · skip
          have g29 := i_eq h28
          have hg30 : (0 ≤ l1 ∧ l1.toNatClampNeg < 3100) := i_ix (by omega) (by omega)
          refine ⟨hg30, ?_⟩
          have hV31 : zV (ma_u m 110 l1.toNatClampNeg (0 : Int32)) := ua_110 hV (by omega) (by omega)
          first | have e32 : (l1 + (1 : Int32)).toInt = l1.toInt + (1) := i_addk rfl (by omega) (by omega) | have b33 := i_bd (l1 + (1 : Int32))
          exact IH (3100 - (l1 + (1 : Int32)).toInt).toNat (by omega) _ ((l1 + (1 : Int32))) rfl (zF_u hF rfl) hV31 (by omega) r_W r_GW r_GU r_OW r_DX (show (m 94 10).toInt = 5 from by omega) (show (m 94 57).toInt = (m0 94 57).toInt from by omega)
        · skip
          have g34 := i_ne h28
          have hg35 : (0 ≤ l1 ∧ l1.toNatClampNeg < 3100) := i_ix (by omega) (by omega)
          refine ⟨hg35, ?_⟩
          have li37 : (1 : Int32).toInt = 1 := rfl
          have hV36 : zV (ma_u m 110 l1.toNatClampNeg (1 : Int32)) := ua_110 hV (by omega) (by omega)
          first | have e38 : (l1 + (1 : Int32)).toInt = l1.toInt + (1) := i_addk rfl (by omega) (by omega) | have b39 := i_bd (l1 + (1 : Int32))
          exact IH (3100 - (l1 + (1 : Int32)).toInt).toNat (by omega) _ ((l1 + (1 : Int32))) rfl (zF_u hF rfl) hV36 (by omega) r_W r_GW r_GU r_OW r_DX (show (m 94 10).toInt = 5 from by omega) (show (m 94 57).toInt = (m0 94 57).toInt from by omega)
theorem sp_223 {X : Nat × (Nat → Int32)} {P : Option ma_V → (Nat → Nat → Int32) → Prop} {T : Nat} {m : Nat → Nat → Int32}  (hV : zV m) (r_W : zW (m 94 7) (m 98) (m 101) (m 102) (m 108)) (r_GW : zGW T (m 94 55) (m 109)) (r_GU : zGU T (m 94 46) (m 99)) (r_OW : zOw (m 99) (m 103) (m 111)) (r_DX : zDX (m 94 10) (m 99) (m 112) (m 113) (m 114) (m 94 55) (m 98) (m 101) (m 102) (m 108)) (r_G1 : zG1 (m 94 56) (m 94 57) (m 106)) (hpre6 : (m 94 10).toInt = 5) (hpre7 : (m 94 58).toInt = 1) (KZ : ∀ v m₉, zV (zov wr_223 m m₉) → (zGW T (m₉ 94 55) (m₉ 109)) → (zGU T (m 94 46) (m₉ 99)) → (zOw (m₉ 99) (m 103) (m₉ 111)) → (zDX (m 94 10) (m₉ 99) (m 112) (m₉ 113) (m₉ 114) (m₉ 94 55) (m 98) (m 101) (m 102) (m 108)) → (zGG (m₉ 94 58) (m₉ 94 56) (m 94 57) (m₉ 106)) → ((m₉ 94 58).toInt = 0 ∨ ((m₉ 94 58).toInt = 1 ∧ (m 94 57).toInt < (m₉ 94 56).toInt ∧ (m 94 57).toInt = (m 94 57).toInt)) → P (some (.inl v)) (zov wr_223 m m₉)) : zm X 4 88 223 0 [(0, .inr (.inr (some 94)))] m P := by
  have K : ∀ v m₉, zF wr_223 m m₉ → zV m₉ → (zGW T (m₉ 94 55) (m₉ 109)) → (zGU T (m₉ 94 46) (m₉ 99)) → (zOw (m₉ 99) (m₉ 103) (m₉ 111)) → (zDX (m₉ 94 10) (m₉ 99) (m₉ 112) (m₉ 113) (m₉ 114) (m₉ 94 55) (m₉ 98) (m₉ 101) (m₉ 102) (m₉ 108)) → (zGG (m₉ 94 58) (m₉ 94 56) (m₉ 94 57) (m₉ 106)) → ((m₉ 94 58).toInt = 0 ∨ ((m₉ 94 58).toInt = 1 ∧ (m₉ 94 57).toInt < (m₉ 94 56).toInt ∧ (m₉ 94 57).toInt = (m 94 57).toInt)) → P (some (.inl v)) m₉ := by
    intro v m₉ hf z q0 q1 q2 q3 q4 q5
    have e := zov_eq hf
    rw [e] at z ⊢
    try rw [e] at q0
    try rw [e] at q1
    try rw [e] at q2
    try rw [e] at q3
    try rw [e] at q4
    try rw [e] at q5
    exact KZ v m₉ z q0 q1 q2 q3 q4 q5
  refine g_223_0  ?_
  have f1 : 0 ≤ (m 94 10).toInt ∧ (m 94 10).toInt ≤ 6 := rs_94_10 (m := m) hV
  have f2 : 0 ≤ (m 94 58).toInt ∧ (m 94 58).toInt ≤ 1 := rs_94_58 (m := m) hV
  have f3 : 0 ≤ (m 94 56).toInt ∧ (m 94 56).toInt ≤ 3100 := rs_94_56 (m := m) hV
  have f4 : 0 ≤ (m 94 57).toInt ∧ (m 94 57).toInt ≤ 3100 := rs_94_57 (m := m) hV
  refine zd (fun (h5 : (m 94 56) ≤ (m 94 57)) => ?_) (fun (h5 : ¬ (m 94 56) ≤ (m 94 57)) => ?_)
  · skip
    have g6 := i_le h5
    have f7 : 0 ≤ (m 94 9).toInt ∧ (m 94 9).toInt ≤ 1 := rs_94_9 (m := m) hV
    have li8 : (0 : Int32).toInt = 0 := rfl
    refine zd (fun (h9 : (m 94 9) = (0 : Int32)) => ?_) (fun (h9 : ¬ (m 94 9) = (0 : Int32)) => ?_)
    · skip
      have g10 := i_eq h9
      refine sp_220  hV r_G1 (fun m1 hV_m1 p0_m1 p1_m1 => zmv_n ?_)
      have p0_m1 : zG1 (m1 94 56) (m 94 57) (m1 106) := p0_m1
      have p1_m1 : (m 94 56).toInt ≤ (m1 94 56).toInt := p1_m1
      have f11 : 0 ≤ (m1 94 56).toInt ∧ (m1 94 56).toInt ≤ 3100 := rs_94_56 (m := (zov wr_220 m m1)) hV_m1
      refine zd (fun (h12 : (m1 94 56) ≤ (m 94 57)) => ?_) (fun (h12 : ¬ (m1 94 56) ≤ (m 94 57)) => ?_)
      · skip
        have g13 := i_le h12
        have hV14 : zV (ma_u (zov wr_220 m m1) 94 47 ((m 94 47) + (1 : Int32))) := uf_94_47 hV_m1
        exact lp_223_49 hV K _ _ ((0 : Int32)) rfl (zF_u (zF_zov zF_rfl ws_220_223) rfl) hV14 (by omega) r_W r_GW r_GU r_OW r_DX (show (m 94 10).toInt = 5 from by omega) (show (m 94 57).toInt = (m 94 57).toInt from by omega)
      · skip
        have g15 := i_nle h12
        exact K ((0 : Int32)) _ (zF_zov zF_rfl ws_220_223) hV_m1 r_GW r_GU r_OW r_DX (show zGG (m 94 58) (m1 94 56) (m 94 57) (m1 106) from by first | (exact fun _ => p0_m1) | (exact fun z => absurd z (by decide)) | (exact fun z => absurd z (by omega)) | (exfalso; omega; done) | (exfalso; contradiction; done)) (show (m 94 58).toInt = 0 ∨ ((m 94 58).toInt = 1 ∧ (m 94 57).toInt < (m1 94 56).toInt ∧ (m 94 57).toInt = (m 94 57).toInt) from by omega)
    · skip
      have g16 := i_ne h9
      refine zd (fun (h17 : (m 94 56) ≤ (m 94 57)) => ?_) (fun (h17 : ¬ (m 94 56) ≤ (m 94 57)) => ?_)
      · skip
        have g18 := i_le h17
        have hV19 : zV (ma_u m 94 47 ((m 94 47) + (1 : Int32))) := uf_94_47 hV
        exact lp_223_49 hV K _ _ ((0 : Int32)) rfl (zF_u zF_rfl rfl) hV19 (by omega) r_W r_GW r_GU r_OW r_DX (show (m 94 10).toInt = 5 from by omega) (show (m 94 57).toInt = (m 94 57).toInt from by omega)
      · skip
        have g20 := i_nle h17
        exact K ((0 : Int32)) _ zF_rfl hV r_GW r_GU r_OW r_DX (show zGG (m 94 58) (m 94 56) (m 94 57) (m 106) from by first | (exact fun _ => r_G1) | (exact fun z => absurd z (by decide)) | (exact fun z => absurd z (by omega)) | (exfalso; omega; done) | (exfalso; contradiction; done)) (show (m 94 58).toInt = 0 ∨ ((m 94 58).toInt = 1 ∧ (m 94 57).toInt < (m 94 56).toInt ∧ (m 94 57).toInt = (m 94 57).toInt) from by omega)
  · skip
    have g21 := i_nle h5
    have li22 : (0 : Int32).toInt = 0 := rfl
    exact K ((0 : Int32)) _ zF_rfl hV r_GW r_GU r_OW r_DX (show zGG (m 94 58) (m 94 56) (m 94 57) (m 106) from by first | (exact fun _ => r_G1) | (exact fun z => absurd z (by decide)) | (exact fun z => absurd z (by omega)) | (exfalso; omega; done) | (exfalso; contradiction; done)) (show (m 94 58).toInt = 0 ∨ ((m 94 58).toInt = 1 ∧ (m 94 57).toInt < (m 94 56).toInt ∧ (m 94 57).toInt = (m 94 57).toInt) from by omega)

/-! from 94.425 -/
/-! the reference (written by wip/tools/gen94m.py) -/
set_option maxRecDepth 100000 in
theorem hm_230 : ma_md 230 = some (12, yX12_finish, cX12_finish, 3, (some (FieldType.int))) := rfl
theorem f_12_270_12 : ma_fld 12 270 12 = some 58 := by decide +kernel
theorem v_12_402_12 : ma_vl 12 402 12 = some (1, 222, 1) := by decide +kernel
theorem v_12_405_12 : ma_vl 12 405 12 = some (1, 223, 0) := by decide +kernel
theorem dX12_finish_0 : decode cX12_finish 0 = .ok (.iconst 0, 1) := by decide +kernel
theorem dX12_finish_1 : decode cX12_finish 1 = .ok (.istore_n 1, 1) := by decide +kernel
theorem dX12_finish_2 : decode cX12_finish 2 = .ok (.aload_n 0, 1) := by decide +kernel
theorem dX12_finish_27 : decode cX12_finish 27 = .ok (.iload_n 1, 1) := by decide +kernel
theorem dX12_finish_28 : decode cX12_finish 28 = .ok (.ireturn, 1) := by decide +kernel
theorem dX12_finish_9 : decode cX12_finish 9 = .ok (.aload_n 0, 1) := by decide +kernel
theorem dX12_finish_10 : decode cX12_finish 10 = .ok (.sipush 3100, 3) := by decide +kernel
theorem dX12_finish_13 : decode cX12_finish 13 = .ok (.invokevirtual 402, 3) := by decide +kernel
theorem dX12_finish_16 : decode cX12_finish 16 = .ok (.istore_n 2, 1) := by decide +kernel
theorem dX12_finish_17 : decode cX12_finish 17 = .ok (.iload_n 1, 1) := by decide +kernel
theorem dX12_finish_18 : decode cX12_finish 18 = .ok (.aload_n 0, 1) := by decide +kernel
theorem dX12_finish_19 : decode cX12_finish 19 = .ok (.invokevirtual 405, 3) := by decide +kernel
theorem dX12_finish_22 : decode cX12_finish 22 = .ok (.iadd, 1) := by decide +kernel
theorem dX12_finish_23 : decode cX12_finish 23 = .ok (.istore_n 1, 1) := by decide +kernel
theorem dX12_finish_24 : decode cX12_finish 24 = .ok (.goto (-22), 3) := by decide +kernel
theorem dX12_finish_6 : decode cX12_finish 6 = .ok (.ifCond .eq 21, 3) := by decide +kernel
theorem dX12_finish_3 : decode cX12_finish 3 = .ok (.getfield 270, 3) := by decide +kernel
def wr_230 (c k : Nat) : Bool := Nat.beq c 99 || Nat.beq c 105 || Nat.beq c 106 || Nat.beq c 109 || Nat.beq c 110 || Nat.beq c 111 || Nat.beq c 113 || Nat.beq c 114 || Nat.beq c 115 || Nat.beq c 118 || (Nat.beq c 94 && (Nat.beq k 44 || Nat.beq k 45 || Nat.beq k 47 || Nat.beq k 49 || Nat.beq k 55 || Nat.beq k 56 || Nat.beq k 57 || Nat.beq k 58 || Nat.beq k 73))
theorem ws_222_230 : ∀ c k, wr_222 c k = true → wr_230 c k = true := by
  intro c k h
  simp only [wr_222, wr_230, Bool.or_eq_true, Bool.and_eq_true, Nat.beq_eq] at h ⊢
  omega
theorem ws_223_230 : ∀ c k, wr_223 c k = true → wr_230 c k = true := by
  intro c k h
  simp only [wr_223, wr_230, Bool.or_eq_true, Bool.and_eq_true, Nat.beq_eq] at h ⊢
  omega
theorem g_230_0 {X : Nat × (Nat → Int32)} {m : Nat → Nat → Int32} {P : Option ma_V → (Nat → Nat → Int32) → Prop}  (h : zm X 5 109 230 2 [(0, .inr (.inr (some 94))), (1, .inl (0 : Int32))] m P) : zm X 5 109 230 0 [(0, .inr (.inr (some 94)))] m P := by
  intro d w S Q hd hw hS hm HQ
  subst hm
  refine zw_push hm_230 dX12_finish_0 (v := .inl (0 : Int32)) rfl ?_
  refine zw_sto hm_230 dX12_finish_1 [(1, .inl (0 : Int32)), (0, .inr (.inr (some 94)))] rfl rfl rfl ?_
  exact zw_sub (ma_nd_of (ks := [0, 1]) rfl (by decide)) (ma_nd_of (ks := [1, 0]) rfl (by decide)) (ma_le_cons rfl (ma_le_cons rfl (ma_le_nil _))) (h d w _ Q (by omega) (by omega) hS rfl HQ)
theorem g_230_2 {X : Nat × (Nat → Int32)} {m : Nat → Nat → Int32} {P : Option ma_V → (Nat → Nat → Int32) → Prop} (l1 : Int32) (h : if (m 94 58) = 0 then (P (some (.inl l1)) m) else (zm X 2 44 222 0 [(0, .inr (.inr (some 94))), (1, .inl (3100 : Int32))] m (zmi (fun v2 m1 => zm X 4 88 223 0 [(0, .inr (.inr (some 94)))] m1 (zmi (fun v4 m3 => zm X 5 109 230 2 [(0, .inr (.inr (some 94))), (1, .inl (l1 + v4))] m3 P)))))) : zm X 5 109 230 2 [(0, .inr (.inr (some 94))), (1, .inl l1)] m P := by
  intro d w S Q hd hw hS hm HQ
  subst hm
  refine zw_push hm_230 dX12_finish_2 (v := .inr (.inr (some 94))) rfl ?_
  refine zw_gf hm_230 dX12_finish_3 (v := .inl ((mI S) 94 58)) (zT_is hS s_94) (zT_t hS s_94) rfl f_12_270_12 rfl ?_
  refine zw_if0 hm_230 dX12_finish_6 (t := 27) rfl zc0_eq ?_ ?_
  · intro hc
    rw [if_pos hc] at h
    refine zw_push hm_230 dX12_finish_27 (v := .inl l1) rfl ?_
    exact zw_iret hm_230 dX12_finish_28 (HQ _ _ h)
  · intro hc
    rw [if_neg hc] at h
    refine zw_push hm_230 dX12_finish_9 (v := .inr (.inr (some 94))) rfl ?_
    refine zw_push hm_230 dX12_finish_10 (v := .inl (3100 : Int32)) rfl ?_
    refine zw_cv hm_230 dX12_finish_13 v_12_402_12 hm_222 [.inl (3100 : Int32)] [] rfl (zT_rt hS s_94 rfl) ⟨by omega, by omega⟩ rfl (h _ _ S _ (by omega) (by omega) hS rfl (fun o9 m1 hv => ?_))
    obtain ⟨v2, rfl, h⟩ := zmi_of hv
    show ma_wp X d w 230 16 [(0, .inr (.inr (some 94))), (1, .inl l1)] [.inl v2] (zst S m1) _
    refine zw_sto hm_230 dX12_finish_16 [(2, .inl v2), (0, .inr (.inr (some 94))), (1, .inl l1)] rfl rfl rfl ?_
    refine zw_push hm_230 dX12_finish_17 (v := .inl l1) rfl ?_
    refine zw_push hm_230 dX12_finish_18 (v := .inr (.inr (some 94))) rfl ?_
    refine zw_cv hm_230 dX12_finish_19 v_12_405_12 hm_223 [] [.inl l1] rfl (zT_rt (zT_zst hS m1) s_94 rfl) ⟨by omega, by omega⟩ rfl (h _ _ (zst S m1) _ (by omega) (by omega) (zT_zst hS m1) rfl (fun o9 m3 hv => ?_))
    obtain ⟨v4, rfl, h⟩ := zmi_of hv
    show ma_wp X d w 230 22 [(2, .inl v2), (0, .inr (.inr (some 94))), (1, .inl l1)] [.inl v4, .inl l1] (zst S m3) _
    refine zw_stk hm_230 dX12_finish_22 (st₉ := [.inl (l1 + v4)]) rfl rfl ?_
    refine zw_sto hm_230 dX12_finish_23 [(1, .inl (l1 + v4)), (2, .inl v2), (0, .inr (.inr (some 94)))] rfl rfl rfl ?_
    refine zw_goto hm_230 dX12_finish_24 (t := 2) rfl ?_
    exact zw_sub (ma_nd_of (ks := [0, 1]) rfl (by decide)) (ma_nd_of (ks := [1, 2, 0]) rfl (by decide)) (ma_le_cons rfl (ma_le_cons rfl (ma_le_nil _))) (h d w _ Q (by omega) (by omega) (zT_zst hS m3) rfl HQ)
theorem lp_230_2 {X : Nat × (Nat → Int32)} {P : Option ma_V → (Nat → Nat → Int32) → Prop} {T : Nat} {m0 : Nat → Nat → Int32} (h0 : zV m0) (K : ∀ v m₉, zF wr_230 m0 m₉ → zV m₉ → (zGW T (m₉ 94 55) (m₉ 109)) → (zGU T (m₉ 94 46) (m₉ 99)) → (zOw (m₉ 99) (m₉ 103) (m₉ 111)) → (zDX (m₉ 94 10) (m₉ 99) (m₉ 112) (m₉ 113) (m₉ 114) (m₉ 94 55) (m₉ 98) (m₉ 101) (m₉ 102) (m₉ 108)) → (zGG (m₉ 94 58) (m₉ 94 56) (m₉ 94 57) (m₉ 106)) → ((m₉ 94 58).toInt = 0) → P (some (.inl v)) m₉) : ∀ (n : Nat) (m : Nat → Nat → Int32) (l1 : Int32), ((zfm (m 94 58) (m 94 57) (m 94 56) : Int)).toNat = n → zF wr_230 m0 m → zV m → (zW (m 94 7) (m 98) (m 101) (m 102) (m 108)) → (zGW T (m 94 55) (m 109)) → (zGU T (m 94 46) (m 99)) → (zOw (m 99) (m 103) (m 111)) → (zDX (m 94 10) (m 99) (m 112) (m 113) (m 114) (m 94 55) (m 98) (m 101) (m 102) (m 108)) → (zGG (m 94 58) (m 94 56) (m 94 57) (m 106)) → ((m 94 10).toInt = 5) → zm X 5 109 230 2 [(0, .inr (.inr (some 94))), (1, .inl l1)] m P := by
  intro n
  induction n using Nat.strongRecOn with
  | _ n IH =>
    intro m l1 hmu hF hV r_W r_GW r_GU r_OW r_DX r_GG hi6
    refine g_230_2 l1 ?_
    have f1 : 0 ≤ (m 94 10).toInt ∧ (m 94 10).toInt ≤ 6 := rs_94_10 (m := m) hV
    have f2 : 0 ≤ (m 94 58).toInt ∧ (m 94 58).toInt ≤ 1 := rs_94_58 (m := m) hV
    have li3 : (0 : Int32).toInt = 0 := rfl
    refine zd (fun (h4 : (m 94 58) = (0 : Int32)) => ?_) (fun (h4 : ¬ (m 94 58) = (0 : Int32)) => ?_)
    · skip
      have g5 := i_eq h4
      try have g0 := (r_GG (by omega)).1
      have b6 := i_bd l1
      exact K (l1) _ hF hV r_GW r_GU r_OW r_DX r_GG (show (m 94 58).toInt = 0 from by omega)
    · skip
      have g7 := i_ne h4
      have li8 : (3100 : Int32).toInt = 3100 := rfl
      refine sp_222 ((3100 : Int32)) hV r_W (show zG1 (m 94 56) (m 94 57) (m 106) from by first | (exact G1_0 (by omega) (by omega)) | (exact r_GG (by omega)) | (exfalso; omega; done) | (exfalso; contradiction; done)) (fun v2 m1 hV_m1 p0_m1 p1_m1 p2_m1 => zmi_n ?_)
      have p0_m1 : zG1 (m1 94 56) (m1 94 57) (m1 106) := p0_m1
      have p1_m1 : (m 94 56).toInt ≤ (m1 94 56).toInt := p1_m1
      have p2_m1 : (m 94 57).toInt ≤ (m1 94 57).toInt ∧ ((m1 94 56).toInt ≤ (m1 94 57).toInt ∨ (m 94 57).toInt + (3100 : Int32).toInt ≤ (m1 94 57).toInt) := p2_m1
      have f9 : 0 ≤ (m 94 56).toInt ∧ (m 94 56).toInt ≤ 3100 := rs_94_56 (m := m) hV
      have f10 : 0 ≤ (m1 94 56).toInt ∧ (m1 94 56).toInt ≤ 3100 := rs_94_56 (m := (zov wr_222 m m1)) hV_m1
      have f11 : 0 ≤ (m 94 57).toInt ∧ (m 94 57).toInt ≤ 3100 := rs_94_57 (m := m) hV
      have f12 : 0 ≤ (m1 94 57).toInt ∧ (m1 94 57).toInt ≤ 3100 := rs_94_57 (m := (zov wr_222 m m1)) hV_m1
      refine sp_223  hV_m1 r_W r_GW r_GU r_OW r_DX p0_m1 (show (m 94 10).toInt = 5 from by omega) (show (m 94 58).toInt = 1 from by omega) (fun v4 m3 hV_m3 p0_m3 p1_m3 p2_m3 p3_m3 p4_m3 p5_m3 => zmi_n ?_)
      have p0_m3 : zGW T (m3 94 55) (m3 109) := p0_m3
      have p1_m3 : zGU T (m 94 46) (m3 99) := p1_m3
      have p2_m3 : zOw (m3 99) (m 103) (m3 111) := p2_m3
      have p3_m3 : zDX (m 94 10) (m3 99) (m 112) (m3 113) (m3 114) (m3 94 55) (m 98) (m 101) (m 102) (m 108) := p3_m3
      have p4_m3 : zGG (m3 94 58) (m3 94 56) (m1 94 57) (m3 106) := p4_m3
      have p5_m3 : (m3 94 58).toInt = 0 ∨ ((m3 94 58).toInt = 1 ∧ (m1 94 57).toInt < (m3 94 56).toInt ∧ (m1 94 57).toInt = (m1 94 57).toInt) := p5_m3
      have f13 : 0 ≤ (m3 94 58).toInt ∧ (m3 94 58).toInt ≤ 1 := rs_94_58 (m := (zov wr_223 (zov wr_222 m m1) m3)) hV_m3
      have f14 : 0 ≤ (m3 94 56).toInt ∧ (m3 94 56).toInt ≤ 3100 := rs_94_56 (m := (zov wr_223 (zov wr_222 m m1) m3)) hV_m3
      try have g1 := p0_m1.1
      try have g0 := (r_GG (by omega)).1
      have b15 := i_bd l1
      have b16 := i_bd v4
      first | have e17 : (l1 + v4).toInt = l1.toInt + v4.toInt := i_add (by omega) (by omega) | have b18 := i_bd (l1 + v4)
      exact IH ((zfm (m3 94 58) (m1 94 57) (m3 94 56) : Int)).toNat (by have zq := zfm_lt (im := m 94 58) (ga := m 94 57) (gm := m 94 56) (im₉ := (m3 94 58)) (ga₉ := (m1 94 57)) (gm₉ := (m3 94 56)) (by omega) (by omega) (by omega) (by omega); omega) _ ((l1 + v4)) rfl (zF_zov (zF_zov hF ws_222_230) ws_223_230) hV_m3 r_W p0_m3 p1_m3 p2_m3 p3_m3 p4_m3 (show (m 94 10).toInt = 5 from by omega)
theorem sp_230 {X : Nat × (Nat → Int32)} {P : Option ma_V → (Nat → Nat → Int32) → Prop} {T : Nat} {m : Nat → Nat → Int32}  (hV : zV m) (r_W : zW (m 94 7) (m 98) (m 101) (m 102) (m 108)) (r_GW : zGW T (m 94 55) (m 109)) (r_GU : zGU T (m 94 46) (m 99)) (r_OW : zOw (m 99) (m 103) (m 111)) (r_DX : zDX (m 94 10) (m 99) (m 112) (m 113) (m 114) (m 94 55) (m 98) (m 101) (m 102) (m 108)) (r_GG : zGG (m 94 58) (m 94 56) (m 94 57) (m 106)) (hpre6 : (m 94 10).toInt = 5) (KZ : ∀ v m₉, zV (zov wr_230 m m₉) → (zGW T (m₉ 94 55) (m₉ 109)) → (zGU T (m 94 46) (m₉ 99)) → (zOw (m₉ 99) (m 103) (m₉ 111)) → (zDX (m 94 10) (m₉ 99) (m 112) (m₉ 113) (m₉ 114) (m₉ 94 55) (m 98) (m 101) (m 102) (m 108)) → (zGG (m₉ 94 58) (m₉ 94 56) (m₉ 94 57) (m₉ 106)) → ((m₉ 94 58).toInt = 0) → P (some (.inl v)) (zov wr_230 m m₉)) : zm X 5 109 230 0 [(0, .inr (.inr (some 94)))] m P := by
  have K : ∀ v m₉, zF wr_230 m m₉ → zV m₉ → (zGW T (m₉ 94 55) (m₉ 109)) → (zGU T (m₉ 94 46) (m₉ 99)) → (zOw (m₉ 99) (m₉ 103) (m₉ 111)) → (zDX (m₉ 94 10) (m₉ 99) (m₉ 112) (m₉ 113) (m₉ 114) (m₉ 94 55) (m₉ 98) (m₉ 101) (m₉ 102) (m₉ 108)) → (zGG (m₉ 94 58) (m₉ 94 56) (m₉ 94 57) (m₉ 106)) → ((m₉ 94 58).toInt = 0) → P (some (.inl v)) m₉ := by
    intro v m₉ hf z q0 q1 q2 q3 q4 q5
    have e := zov_eq hf
    rw [e] at z ⊢
    try rw [e] at q0
    try rw [e] at q1
    try rw [e] at q2
    try rw [e] at q3
    try rw [e] at q4
    try rw [e] at q5
    exact KZ v m₉ z q0 q1 q2 q3 q4 q5
  refine g_230_0  ?_
  have f1 : 0 ≤ (m 94 10).toInt ∧ (m 94 10).toInt ≤ 6 := rs_94_10 (m := m) hV
  try have g0 := (r_GG (by omega)).1
  have li2 : (0 : Int32).toInt = 0 := rfl
  have f3 : 0 ≤ (m 94 58).toInt ∧ (m 94 58).toInt ≤ 1 := rs_94_58 (m := m) hV
  have f4 : 0 ≤ (m 94 57).toInt ∧ (m 94 57).toInt ≤ 3100 := rs_94_57 (m := m) hV
  have f5 : 0 ≤ (m 94 56).toInt ∧ (m 94 56).toInt ≤ 3100 := rs_94_56 (m := m) hV
  exact lp_230_2 hV K _ _ ((0 : Int32)) rfl zF_rfl hV r_W r_GW r_GU r_OW r_DX r_GG (show (m 94 10).toInt = 5 from by omega)
set_option maxRecDepth 100000 in
theorem hm_229 : ma_md 229 = some (12, yX12_whole, cX12_whole, 1, (some (FieldType.int))) := rfl
theorem v_12_408_12 : ma_vl 12 408 12 = some (1, 219, 0) := by decide +kernel
theorem v_12_411_12 : ma_vl 12 411 12 = some (1, 230, 0) := by decide +kernel
theorem dX12_whole_0 : decode cX12_whole 0 = .ok (.aload_n 0, 1) := by decide +kernel
theorem dX12_whole_1 : decode cX12_whole 1 = .ok (.invokevirtual 408, 3) := by decide +kernel
theorem dX12_whole_4 : decode cX12_whole 4 = .ok (.aload_n 0, 1) := by decide +kernel
theorem dX12_whole_5 : decode cX12_whole 5 = .ok (.invokevirtual 411, 3) := by decide +kernel
theorem dX12_whole_8 : decode cX12_whole 8 = .ok (.ireturn, 1) := by decide +kernel
def wr_229 (c k : Nat) : Bool := Nat.beq c 99 || Nat.beq c 105 || Nat.beq c 106 || Nat.beq c 109 || Nat.beq c 110 || Nat.beq c 111 || Nat.beq c 113 || Nat.beq c 114 || Nat.beq c 115 || Nat.beq c 118 || (Nat.beq c 94 && (Nat.beq k 44 || Nat.beq k 45 || Nat.beq k 47 || Nat.beq k 49 || Nat.beq k 55 || Nat.beq k 56 || Nat.beq k 57 || Nat.beq k 58 || Nat.beq k 73))
theorem ws_219_229 : ∀ c k, wr_219 c k = true → wr_229 c k = true := by
  intro c k h
  simp only [wr_219, wr_229, Bool.or_eq_true, Bool.and_eq_true, Nat.beq_eq] at h ⊢
  omega
theorem ws_230_229 : ∀ c k, wr_230 c k = true → wr_229 c k = true := by
  intro c k h
  simp only [wr_230, wr_229, Bool.or_eq_true, Bool.and_eq_true, Nat.beq_eq] at h ⊢
  omega
theorem g_229_0 {X : Nat × (Nat → Int32)} {m : Nat → Nat → Int32} {P : Option ma_V → (Nat → Nat → Int32) → Prop}  (h : zm X 2 44 219 0 [(0, .inr (.inr (some 94)))] m (zmv (fun m1 => zm X 5 109 230 0 [(0, .inr (.inr (some 94)))] m1 (zmi (fun v4 m3 => P (some (.inl v4)) m3))))) : zm X 6 131 229 0 [(0, .inr (.inr (some 94)))] m P := by
  intro d w S Q hd hw hS hm HQ
  subst hm
  refine zw_push hm_229 dX12_whole_0 (v := .inr (.inr (some 94))) rfl ?_
  refine zw_cv hm_229 dX12_whole_1 v_12_408_12 hm_219 [] [] rfl (zT_rt hS s_94 rfl) ⟨by omega, by omega⟩ rfl (h _ _ S _ (by omega) (by omega) hS rfl (fun o9 m1 hv => ?_))
  obtain ⟨rfl, h⟩ := zmv_of hv
  show ma_wp X d w 229 4 [(0, .inr (.inr (some 94)))] [] (zst S m1) _
  refine zw_push hm_229 dX12_whole_4 (v := .inr (.inr (some 94))) rfl ?_
  refine zw_cv hm_229 dX12_whole_5 v_12_411_12 hm_230 [] [] rfl (zT_rt (zT_zst hS m1) s_94 rfl) ⟨by omega, by omega⟩ rfl (h _ _ (zst S m1) _ (by omega) (by omega) (zT_zst hS m1) rfl (fun o9 m3 hv => ?_))
  obtain ⟨v4, rfl, h⟩ := zmi_of hv
  show ma_wp X d w 229 8 [(0, .inr (.inr (some 94)))] [.inl v4] (zst S m3) _
  exact zw_iret hm_229 dX12_whole_8 (HQ _ _ h)
theorem sp_229 {X : Nat × (Nat → Int32)} {P : Option ma_V → (Nat → Nat → Int32) → Prop} {T : Nat} {m : Nat → Nat → Int32}  (hV : zV m) (r_W : zW (m 94 7) (m 98) (m 101) (m 102) (m 108)) (r_GW : zGW T (m 94 55) (m 109)) (r_GU : zGU T (m 94 46) (m 99)) (r_OW : zOw (m 99) (m 103) (m 111)) (r_DX : zDX (m 94 10) (m 99) (m 112) (m 113) (m 114) (m 94 55) (m 98) (m 101) (m 102) (m 108)) (hpre5 : (m 94 10).toInt = 5) (KZ : ∀ v m₉, zV (zov wr_229 m m₉) → (zGW T (m₉ 94 55) (m₉ 109)) → (zGU T (m 94 46) (m₉ 99)) → (zOw (m₉ 99) (m 103) (m₉ 111)) → (zDX (m 94 10) (m₉ 99) (m 112) (m₉ 113) (m₉ 114) (m₉ 94 55) (m 98) (m 101) (m 102) (m 108)) → (zGG (m₉ 94 58) (m₉ 94 56) (m₉ 94 57) (m₉ 106)) → ((m₉ 94 58).toInt = 0) → P (some (.inl v)) (zov wr_229 m m₉)) : zm X 6 131 229 0 [(0, .inr (.inr (some 94)))] m P := by
  have K : ∀ v m₉, zF wr_229 m m₉ → zV m₉ → (zGW T (m₉ 94 55) (m₉ 109)) → (zGU T (m₉ 94 46) (m₉ 99)) → (zOw (m₉ 99) (m₉ 103) (m₉ 111)) → (zDX (m₉ 94 10) (m₉ 99) (m₉ 112) (m₉ 113) (m₉ 114) (m₉ 94 55) (m₉ 98) (m₉ 101) (m₉ 102) (m₉ 108)) → (zGG (m₉ 94 58) (m₉ 94 56) (m₉ 94 57) (m₉ 106)) → ((m₉ 94 58).toInt = 0) → P (some (.inl v)) m₉ := by
    intro v m₉ hf z q0 q1 q2 q3 q4 q5
    have e := zov_eq hf
    rw [e] at z ⊢
    try rw [e] at q0
    try rw [e] at q1
    try rw [e] at q2
    try rw [e] at q3
    try rw [e] at q4
    try rw [e] at q5
    exact KZ v m₉ z q0 q1 q2 q3 q4 q5
  refine g_229_0  ?_
  have f1 : 0 ≤ (m 94 10).toInt ∧ (m 94 10).toInt ≤ 6 := rs_94_10 (m := m) hV
  refine sp_219  hV  (fun m1 hV_m1 p0_m1 p1_m1 => zmv_n ?_)
  have p0_m1 : zG1 (m1 94 56) (m1 94 57) (m1 106) := p0_m1
  have p1_m1 : (m1 94 58).toInt = 1 := p1_m1
  have f2 : 0 ≤ (m1 94 58).toInt ∧ (m1 94 58).toInt ≤ 1 := rs_94_58 (m := (zov wr_219 m m1)) hV_m1
  refine sp_230  hV_m1 r_W r_GW r_GU r_OW r_DX (show zGG (m1 94 58) (m1 94 56) (m1 94 57) (m1 106) from by first | (exact fun _ => p0_m1) | (exact fun z => absurd z (by decide)) | (exact fun z => absurd z (by omega)) | (exfalso; omega; done) | (exfalso; contradiction; done)) (show (m 94 10).toInt = 5 from by omega) (fun v4 m3 hV_m3 p0_m3 p1_m3 p2_m3 p3_m3 p4_m3 p5_m3 => zmi_n ?_)
  have p0_m3 : zGW T (m3 94 55) (m3 109) := p0_m3
  have p1_m3 : zGU T (m 94 46) (m3 99) := p1_m3
  have p2_m3 : zOw (m3 99) (m 103) (m3 111) := p2_m3
  have p3_m3 : zDX (m 94 10) (m3 99) (m 112) (m3 113) (m3 114) (m3 94 55) (m 98) (m 101) (m 102) (m 108) := p3_m3
  have p4_m3 : zGG (m3 94 58) (m3 94 56) (m3 94 57) (m3 106) := p4_m3
  have p5_m3 : (m3 94 58).toInt = 0 := p5_m3
  have f3 : 0 ≤ (m3 94 58).toInt ∧ (m3 94 58).toInt ≤ 1 := rs_94_58 (m := (zov wr_230 (zov wr_219 m m1) m3)) hV_m3
  have b4 := i_bd v4
  exact K (v4) _ (zF_zov (zF_zov zF_rfl ws_219_229) ws_230_229) hV_m3 p0_m3 p1_m3 p2_m3 p3_m3 p4_m3 (show (m3 94 58).toInt = 0 from by omega)

