/-! the reference (written by wip/tools/gen94m.py) -/
set_option maxRecDepth 100000 in
theorem hm_223 : ma_md 223 = some (12, yX12_lookEmpty, cX12_lookEmpty, 2, (some (FieldType.int))) := rfl
theorem f_12_228_12 : ma_fld 12 228 12 = some 9 := by decide +kernel
theorem dX12_lookEmpty_0 : decode cX12_lookEmpty 0 = .ok (.aload_n 0, 1) := by decide +kernel
theorem dX12_lookEmpty_4 : decode cX12_lookEmpty 4 = .ok (.aload_n 0, 1) := by decide +kernel
theorem dX12_lookEmpty_13 : decode cX12_lookEmpty 13 = .ok (.aload_n 0, 1) := by decide +kernel
theorem dX12_lookEmpty_24 : decode cX12_lookEmpty 24 = .ok (.aload_n 0, 1) := by decide +kernel
theorem dX12_lookEmpty_28 : decode cX12_lookEmpty 28 = .ok (.aload_n 0, 1) := by decide +kernel
theorem dX12_lookEmpty_37 : decode cX12_lookEmpty 37 = .ok (.aload_n 0, 1) := by decide +kernel
theorem dX12_lookEmpty_38 : decode cX12_lookEmpty 38 = .ok (.dup, 1) := by decide +kernel
theorem dX12_lookEmpty_42 : decode cX12_lookEmpty 42 = .ok (.iconst 1, 1) := by decide +kernel
theorem dX12_lookEmpty_43 : decode cX12_lookEmpty 43 = .ok (.iadd, 1) := by decide +kernel
theorem dX12_lookEmpty_47 : decode cX12_lookEmpty 47 = .ok (.iconst 0, 1) := by decide +kernel
theorem dX12_lookEmpty_48 : decode cX12_lookEmpty 48 = .ok (.istore_n 1, 1) := by decide +kernel
theorem dX12_lookEmpty_44 : decode cX12_lookEmpty 44 = .ok (.putfield 249, 3) := by decide +kernel
theorem dX12_lookEmpty_39 : decode cX12_lookEmpty 39 = .ok (.getfield 249, 3) := by decide +kernel
theorem dX12_lookEmpty_35 : decode cX12_lookEmpty 35 = .ok (.iconst 0, 1) := by decide +kernel
theorem dX12_lookEmpty_36 : decode cX12_lookEmpty 36 = .ok (.ireturn, 1) := by decide +kernel
theorem dX12_lookEmpty_32 : decode cX12_lookEmpty 32 = .ok (.if_icmp .ge 5, 3) := by decide +kernel
theorem dX12_lookEmpty_29 : decode cX12_lookEmpty 29 = .ok (.getfield 264, 3) := by decide +kernel
theorem dX12_lookEmpty_25 : decode cX12_lookEmpty 25 = .ok (.getfield 267, 3) := by decide +kernel
theorem dX12_lookEmpty_20 : decode cX12_lookEmpty 20 = .ok (.aload_n 0, 1) := by decide +kernel
theorem dX12_lookEmpty_21 : decode cX12_lookEmpty 21 = .ok (.invokevirtual 399, 3) := by decide +kernel
theorem dX12_lookEmpty_17 : decode cX12_lookEmpty 17 = .ok (.ifCond .ne 7, 3) := by decide +kernel
theorem dX12_lookEmpty_14 : decode cX12_lookEmpty 14 = .ok (.getfield 228, 3) := by decide +kernel
theorem dX12_lookEmpty_11 : decode cX12_lookEmpty 11 = .ok (.iconst 0, 1) := by decide +kernel
theorem dX12_lookEmpty_12 : decode cX12_lookEmpty 12 = .ok (.ireturn, 1) := by decide +kernel
theorem dX12_lookEmpty_8 : decode cX12_lookEmpty 8 = .ok (.if_icmp .ge 5, 3) := by decide +kernel
theorem dX12_lookEmpty_5 : decode cX12_lookEmpty 5 = .ok (.getfield 264, 3) := by decide +kernel
theorem dX12_lookEmpty_1 : decode cX12_lookEmpty 1 = .ok (.getfield 267, 3) := by decide +kernel
theorem dX12_lookEmpty_49 : decode cX12_lookEmpty 49 = .ok (.iload_n 1, 1) := by decide +kernel
theorem dX12_lookEmpty_50 : decode cX12_lookEmpty 50 = .ok (.sipush 3100, 3) := by decide +kernel
theorem dX12_lookEmpty_91 : decode cX12_lookEmpty 91 = .ok (.aload_n 0, 1) := by decide +kernel
theorem dX12_lookEmpty_92 : decode cX12_lookEmpty 92 = .ok (.iconst 0, 1) := by decide +kernel
theorem dX12_lookEmpty_96 : decode cX12_lookEmpty 96 = .ok (.aload_n 0, 1) := by decide +kernel
theorem dX12_lookEmpty_97 : decode cX12_lookEmpty 97 = .ok (.invokevirtual 336, 3) := by decide +kernel
theorem dX12_lookEmpty_100 : decode cX12_lookEmpty 100 = .ok (.aload_n 0, 1) := by decide +kernel
theorem dX12_lookEmpty_101 : decode cX12_lookEmpty 101 = .ok (.invokevirtual 339, 3) := by decide +kernel
theorem dX12_lookEmpty_104 : decode cX12_lookEmpty 104 = .ok (.aload_n 0, 1) := by decide +kernel
theorem dX12_lookEmpty_105 : decode cX12_lookEmpty 105 = .ok (.iconst 0, 1) := by decide +kernel
theorem dX12_lookEmpty_109 : decode cX12_lookEmpty 109 = .ok (.aload_n 0, 1) := by decide +kernel
theorem dX12_lookEmpty_110 : decode cX12_lookEmpty 110 = .ok (.invokevirtual 342, 3) := by decide +kernel
theorem dX12_lookEmpty_113 : decode cX12_lookEmpty 113 = .ok (.ireturn, 1) := by decide +kernel
theorem dX12_lookEmpty_106 : decode cX12_lookEmpty 106 = .ok (.putfield 270, 3) := by decide +kernel
theorem dX12_lookEmpty_93 : decode cX12_lookEmpty 93 = .ok (.putfield 291, 3) := by decide +kernel
theorem dX12_lookEmpty_56 : decode cX12_lookEmpty 56 = .ok (.aload_n 0, 1) := by decide +kernel
theorem dX12_lookEmpty_60 : decode cX12_lookEmpty 60 = .ok (.iload_n 1, 1) := by decide +kernel
theorem dX12_lookEmpty_61 : decode cX12_lookEmpty 61 = .ok (.aload_n 0, 1) := by decide +kernel
theorem dX12_lookEmpty_65 : decode cX12_lookEmpty 65 = .ok (.iload_n 1, 1) := by decide +kernel
theorem dX12_lookEmpty_83 : decode cX12_lookEmpty 83 = .ok (.iconst 0, 1) := by decide +kernel
theorem dX12_lookEmpty_85 : decode cX12_lookEmpty 85 = .ok (.iinc 1 1, 3) := by decide +kernel
theorem dX12_lookEmpty_88 : decode cX12_lookEmpty 88 = .ok (.goto (-39), 3) := by decide +kernel
theorem dX12_lookEmpty_84 : decode cX12_lookEmpty 84 = .ok (.bastore, 1) := by decide +kernel
theorem dX12_lookEmpty_70 : decode cX12_lookEmpty 70 = .ok (.aload_n 0, 1) := by decide +kernel
theorem dX12_lookEmpty_74 : decode cX12_lookEmpty 74 = .ok (.iload_n 1, 1) := by decide +kernel
theorem dX12_lookEmpty_79 : decode cX12_lookEmpty 79 = .ok (.iconst 1, 1) := by decide +kernel
theorem dX12_lookEmpty_80 : decode cX12_lookEmpty 80 = .ok (.goto 4, 3) := by decide +kernel
theorem dX12_lookEmpty_76 : decode cX12_lookEmpty 76 = .ok (.ifCond .eq 7, 3) := by decide +kernel
theorem dX12_lookEmpty_75 : decode cX12_lookEmpty 75 = .ok (.iaload, 1) := by decide +kernel
theorem dX12_lookEmpty_71 : decode cX12_lookEmpty 71 = .ok (.getfield 49, 3) := by decide +kernel
theorem dX12_lookEmpty_67 : decode cX12_lookEmpty 67 = .ok (.ifCond .eq 16, 3) := by decide +kernel
theorem dX12_lookEmpty_66 : decode cX12_lookEmpty 66 = .ok (.baload, 1) := by decide +kernel
theorem dX12_lookEmpty_62 : decode cX12_lookEmpty 62 = .ok (.getfield 27, 3) := by decide +kernel
theorem dX12_lookEmpty_57 : decode cX12_lookEmpty 57 = .ok (.getfield 62, 3) := by decide +kernel
theorem dX12_lookEmpty_53 : decode cX12_lookEmpty 53 = .ok (.if_icmp .ge 38, 3) := by decide +kernel
def wr_223 (c k : Nat) : Bool := Nat.beq c 99 || Nat.beq c 105 || Nat.beq c 106 || Nat.beq c 109 || Nat.beq c 110 || Nat.beq c 111 || Nat.beq c 113 || Nat.beq c 114 || Nat.beq c 115 || Nat.beq c 118 || (Nat.beq c 94 && (Nat.beq k 44 || Nat.beq k 45 || Nat.beq k 47 || Nat.beq k 49 || Nat.beq k 55 || Nat.beq k 56 || Nat.beq k 58 || Nat.beq k 73))
theorem ws_194_223 : ∀ c k, wr_194 c k = true → wr_223 c k = true := by
  intro c k h
  simp only [wr_194, wr_223, Bool.or_eq_true, Bool.and_eq_true, Nat.beq_eq] at h ⊢
  omega
theorem ws_199_223 : ∀ c k, wr_199 c k = true → wr_223 c k = true := by
  intro c k h
  simp only [wr_199, wr_223, Bool.or_eq_true, Bool.and_eq_true, Nat.beq_eq] at h ⊢
  omega
theorem ws_200_223 : ∀ c k, wr_200 c k = true → wr_223 c k = true := by
  intro c k h
  simp only [wr_200, wr_223, Bool.or_eq_true, Bool.and_eq_true, Nat.beq_eq] at h ⊢
  omega
theorem ws_220_223 : ∀ c k, wr_220 c k = true → wr_223 c k = true := by
  intro c k h
  simp only [wr_220, wr_223, Bool.or_eq_true, Bool.and_eq_true, Nat.beq_eq] at h ⊢
  omega
theorem g_223_0 {X : Nat × (Nat → Int32)} {m : Nat → Nat → Int32} {P : Option ma_V → (Nat → Nat → Int32) → Prop}  (h : if (m 94 56) ≤ (m 94 57) then (if (m 94 9) = 0 then (zm X 1 21 220 0 [(0, .inr (.inr (some 94)))] m (zmv (fun m1 => if (m1 94 56) ≤ (m1 94 57) then (zm X 4 88 223 49 [(0, .inr (.inr (some 94))), (1, .inl (0 : Int32))] (ma_u m1 94 47 ((m1 94 47) + (1 : Int32))) P) else (P (some (.inl (0 : Int32))) m1)))) else (if (m 94 56) ≤ (m 94 57) then (zm X 4 88 223 49 [(0, .inr (.inr (some 94))), (1, .inl (0 : Int32))] (ma_u m 94 47 ((m 94 47) + (1 : Int32))) P) else (P (some (.inl (0 : Int32))) m))) else (P (some (.inl (0 : Int32))) m)) : zm X 4 88 223 0 [(0, .inr (.inr (some 94)))] m P := by
  intro d w S Q hd hw hS hm HQ
  subst hm
  refine zw_push hm_223 dX12_lookEmpty_0 (v := .inr (.inr (some 94))) rfl ?_
  refine zw_gf hm_223 dX12_lookEmpty_1 (v := .inl ((mI S) 94 57)) (zT_is hS s_94) (zT_t hS s_94) rfl f_12_267_12 rfl ?_
  refine zw_push hm_223 dX12_lookEmpty_4 (v := .inr (.inr (some 94))) rfl ?_
  refine zw_gf hm_223 dX12_lookEmpty_5 (v := .inl ((mI S) 94 56)) (zT_is hS s_94) (zT_t hS s_94) rfl f_12_264_12 rfl ?_
  refine zw_if2 hm_223 dX12_lookEmpty_8 (t := 13) rfl zc2_ge ?_ ?_
  · intro hc
    rw [if_pos hc] at h
    refine zw_push hm_223 dX12_lookEmpty_13 (v := .inr (.inr (some 94))) rfl ?_
    refine zw_gf hm_223 dX12_lookEmpty_14 (v := .inl ((mI S) 94 9)) (zT_is hS s_94) (zT_t hS s_94) rfl f_12_228_12 rfl ?_
    refine zw_if0 hm_223 dX12_lookEmpty_17 (t := 24) rfl zc0_ne ?_ ?_
    · intro hc
      rw [if_neg hc] at h
      refine zw_push hm_223 dX12_lookEmpty_24 (v := .inr (.inr (some 94))) rfl ?_
      refine zw_gf hm_223 dX12_lookEmpty_25 (v := .inl ((mI S) 94 57)) (zT_is hS s_94) (zT_t hS s_94) rfl f_12_267_12 rfl ?_
      refine zw_push hm_223 dX12_lookEmpty_28 (v := .inr (.inr (some 94))) rfl ?_
      refine zw_gf hm_223 dX12_lookEmpty_29 (v := .inl ((mI S) 94 56)) (zT_is hS s_94) (zT_t hS s_94) rfl f_12_264_12 rfl ?_
      refine zw_if2 hm_223 dX12_lookEmpty_32 (t := 37) rfl zc2_ge ?_ ?_
      · intro hc
        rw [if_pos hc] at h
        refine zw_push hm_223 dX12_lookEmpty_37 (v := .inr (.inr (some 94))) rfl ?_
        refine zw_stk hm_223 dX12_lookEmpty_38 (st' := [.inr (.inr (some 94)), .inr (.inr (some 94))]) rfl rfl ?_
        refine zw_gf hm_223 dX12_lookEmpty_39 (v := .inl ((mI S) 94 47)) (zT_is hS s_94) (zT_t hS s_94) rfl f_12_249_12 rfl ?_
        refine zw_push hm_223 dX12_lookEmpty_42 (v := .inl (1 : Int32)) rfl ?_
        refine zw_stk hm_223 dX12_lookEmpty_43 (st' := [.inl (((mI S) 94 47) + (1 : Int32)), .inr (.inr (some 94))]) rfl rfl ?_
        refine zw_pf hm_223 dX12_lookEmpty_44 (zT_is hS s_94) (zT_t hS s_94) p_12_249_12 zk_int ?_
        refine zw_push hm_223 dX12_lookEmpty_47 (v := .inl (0 : Int32)) rfl ?_
        refine zw_sto hm_223 dX12_lookEmpty_48 [(1, .inl (0 : Int32)), (0, .inr (.inr (some 94)))] rfl rfl rfl ?_
        exact zw_sub (ma_nd_of (ks := [0, 1]) rfl (by decide)) (ma_nd_of (ks := [1, 0]) rfl (by decide)) (ma_le_cons rfl (ma_le_cons rfl (ma_le_nil _))) (h d w _ Q (by omega) (by omega) (zT_pi hS) rfl HQ)
      · intro hc
        rw [if_neg hc] at h
        refine zw_push hm_223 dX12_lookEmpty_35 (v := .inl (0 : Int32)) rfl ?_
        exact zw_iret hm_223 dX12_lookEmpty_36 (HQ _ _ h)
    · intro hc
      rw [if_pos (Classical.not_not.mp hc)] at h
      refine zw_push hm_223 dX12_lookEmpty_20 (v := .inr (.inr (some 94))) rfl ?_
      refine zw_cv hm_223 dX12_lookEmpty_21 v_12_399_12 hm_220 [] [] rfl (zT_rt hS s_94 rfl) ⟨by omega, by omega⟩ rfl (h _ _ S _ (by omega) (by omega) hS rfl (fun o9 m1 hv => ?_))
      obtain ⟨rfl, h⟩ := zmv_of hv
      show ma_wp X d w 223 24 [(0, .inr (.inr (some 94)))] [] (zst S m1) _
      refine zw_push hm_223 dX12_lookEmpty_24 (v := .inr (.inr (some 94))) rfl ?_
      refine zw_gf hm_223 dX12_lookEmpty_25 (v := .inl (m1 94 57)) (zT_is (zT_zst hS m1) s_94) (zT_t (zT_zst hS m1) s_94) rfl f_12_267_12 rfl ?_
      refine zw_push hm_223 dX12_lookEmpty_28 (v := .inr (.inr (some 94))) rfl ?_
      refine zw_gf hm_223 dX12_lookEmpty_29 (v := .inl (m1 94 56)) (zT_is (zT_zst hS m1) s_94) (zT_t (zT_zst hS m1) s_94) rfl f_12_264_12 rfl ?_
      refine zw_if2 hm_223 dX12_lookEmpty_32 (t := 37) rfl zc2_ge ?_ ?_
      · intro hc
        rw [if_pos hc] at h
        refine zw_push hm_223 dX12_lookEmpty_37 (v := .inr (.inr (some 94))) rfl ?_
        refine zw_stk hm_223 dX12_lookEmpty_38 (st' := [.inr (.inr (some 94)), .inr (.inr (some 94))]) rfl rfl ?_
        refine zw_gf hm_223 dX12_lookEmpty_39 (v := .inl (m1 94 47)) (zT_is (zT_zst hS m1) s_94) (zT_t (zT_zst hS m1) s_94) rfl f_12_249_12 rfl ?_
        refine zw_push hm_223 dX12_lookEmpty_42 (v := .inl (1 : Int32)) rfl ?_
        refine zw_stk hm_223 dX12_lookEmpty_43 (st' := [.inl ((m1 94 47) + (1 : Int32)), .inr (.inr (some 94))]) rfl rfl ?_
        refine zw_pf hm_223 dX12_lookEmpty_44 (zT_is (zT_zst hS m1) s_94) (zT_t (zT_zst hS m1) s_94) p_12_249_12 zk_int ?_
        refine zw_push hm_223 dX12_lookEmpty_47 (v := .inl (0 : Int32)) rfl ?_
        refine zw_sto hm_223 dX12_lookEmpty_48 [(1, .inl (0 : Int32)), (0, .inr (.inr (some 94)))] rfl rfl rfl ?_
        exact zw_sub (ma_nd_of (ks := [0, 1]) rfl (by decide)) (ma_nd_of (ks := [1, 0]) rfl (by decide)) (ma_le_cons rfl (ma_le_cons rfl (ma_le_nil _))) (h d w _ Q (by omega) (by omega) (zT_pi (zT_zst hS m1)) rfl HQ)
      · intro hc
        rw [if_neg hc] at h
        refine zw_push hm_223 dX12_lookEmpty_35 (v := .inl (0 : Int32)) rfl ?_
        exact zw_iret hm_223 dX12_lookEmpty_36 (HQ _ _ h)
  · intro hc
    rw [if_neg hc] at h
    refine zw_push hm_223 dX12_lookEmpty_11 (v := .inl (0 : Int32)) rfl ?_
    exact zw_iret hm_223 dX12_lookEmpty_12 (HQ _ _ h)
theorem g_223_49 {X : Nat × (Nat → Int32)} {m : Nat → Nat → Int32} {P : Option ma_V → (Nat → Nat → Int32) → Prop} (l1 : Int32) (h : if (3100 : Int32) ≤ l1 then (zm X 3 66 194 0 [(0, .inr (.inr (some 94)))] (ma_u m 94 73 (0 : Int32)) (zmv (fun m1 => zm X 0 0 199 0 [(0, .inr (.inr (some 94)))] m1 (zmv (fun m3 => zm X 2 44 200 0 [(0, .inr (.inr (some 94)))] (ma_u m3 94 58 (0 : Int32)) (zmi (fun v6 m5 => P (some (.inl v6)) m5))))))) else ((0 ≤ l1 ∧ l1.toNatClampNeg < 3100) ∧ (if (m 99 l1.toNatClampNeg) = 0 then ((0 ≤ l1 ∧ l1.toNatClampNeg < 3100) ∧ (zm X 4 88 223 49 [(0, .inr (.inr (some 94))), (1, .inl (l1 + (1 : Int32)))] (ma_u m 110 l1.toNatClampNeg (0 : Int32)) P)) else ((0 ≤ l1 ∧ l1.toNatClampNeg < 3100) ∧ (if (m 106 l1.toNatClampNeg) = 0 then ((0 ≤ l1 ∧ l1.toNatClampNeg < 3100) ∧ (zm X 4 88 223 49 [(0, .inr (.inr (some 94))), (1, .inl (l1 + (1 : Int32)))] (ma_u m 110 l1.toNatClampNeg (0 : Int32)) P)) else ((0 ≤ l1 ∧ l1.toNatClampNeg < 3100) ∧ (zm X 4 88 223 49 [(0, .inr (.inr (some 94))), (1, .inl (l1 + (1 : Int32)))] (ma_u m 110 l1.toNatClampNeg (1 : Int32)) P))))))) : zm X 4 88 223 49 [(0, .inr (.inr (some 94))), (1, .inl l1)] m P := by
  intro d w S Q hd hw hS hm HQ
  subst hm
  refine zw_push hm_223 dX12_lookEmpty_49 (v := .inl l1) rfl ?_
  refine zw_push hm_223 dX12_lookEmpty_50 (v := .inl (3100 : Int32)) rfl ?_
  refine zw_if2 hm_223 dX12_lookEmpty_53 (t := 91) rfl zc2_ge ?_ ?_
  · intro hc
    rw [if_pos hc] at h
    refine zw_push hm_223 dX12_lookEmpty_91 (v := .inr (.inr (some 94))) rfl ?_
    refine zw_push hm_223 dX12_lookEmpty_92 (v := .inl (0 : Int32)) rfl ?_
    refine zw_pf hm_223 dX12_lookEmpty_93 (zT_is hS s_94) (zT_t hS s_94) p_12_291_12 zk_int ?_
    refine zw_push hm_223 dX12_lookEmpty_96 (v := .inr (.inr (some 94))) rfl ?_
    refine zw_cv hm_223 dX12_lookEmpty_97 v_12_336_12 hm_194 [] [] rfl (zT_rt (zT_pi hS) s_94 rfl) ⟨by omega, by omega⟩ rfl (h _ _ (ma_put S 94 73 (.inl (0 : Int32))) _ (by omega) (by omega) (zT_pi hS) rfl (fun o9 m1 hv => ?_))
    obtain ⟨rfl, h⟩ := zmv_of hv
    show ma_wp X d w 223 100 [(0, .inr (.inr (some 94))), (1, .inl l1)] [] (zst S m1) _
    refine zw_push hm_223 dX12_lookEmpty_100 (v := .inr (.inr (some 94))) rfl ?_
    refine zw_cv hm_223 dX12_lookEmpty_101 v_12_339_12 hm_199 [] [] rfl (zT_rt (zT_zst hS m1) s_94 rfl) ⟨by omega, by omega⟩ rfl (h _ _ (zst S m1) _ (by omega) (by omega) (zT_zst hS m1) rfl (fun o9 m3 hv => ?_))
    obtain ⟨rfl, h⟩ := zmv_of hv
    show ma_wp X d w 223 104 [(0, .inr (.inr (some 94))), (1, .inl l1)] [] (zst S m3) _
    refine zw_push hm_223 dX12_lookEmpty_104 (v := .inr (.inr (some 94))) rfl ?_
    refine zw_push hm_223 dX12_lookEmpty_105 (v := .inl (0 : Int32)) rfl ?_
    refine zw_pf hm_223 dX12_lookEmpty_106 (zT_is (zT_zst hS m3) s_94) (zT_t (zT_zst hS m3) s_94) p_12_270_12 (zk_bool (by decide)) ?_
    refine zw_push hm_223 dX12_lookEmpty_109 (v := .inr (.inr (some 94))) rfl ?_
    refine zw_cv hm_223 dX12_lookEmpty_110 v_12_342_12 hm_200 [] [] rfl (zT_rt (zT_pi (zT_zst hS m3)) s_94 rfl) ⟨by omega, by omega⟩ rfl (h _ _ (ma_put (zst S m3) 94 58 (.inl (0 : Int32))) _ (by omega) (by omega) (zT_pi (zT_zst hS m3)) rfl (fun o9 m5 hv => ?_))
    obtain ⟨v6, rfl, h⟩ := zmi_of hv
    show ma_wp X d w 223 113 [(0, .inr (.inr (some 94))), (1, .inl l1)] [.inl v6] (zst S m5) _
    exact zw_iret hm_223 dX12_lookEmpty_113 (HQ _ _ h)
  · intro hc
    rw [if_neg hc] at h
    refine zw_push hm_223 dX12_lookEmpty_56 (v := .inr (.inr (some 94))) rfl ?_
    refine zw_gf hm_223 dX12_lookEmpty_57 (v := .inr (.inr (some 110))) (zT_is hS s_94) (zT_t hS s_94) rfl f_12_62_12 (zT_f hS r_94_42) ?_
    refine zw_push hm_223 dX12_lookEmpty_60 (v := .inl l1) rfl ?_
    refine zw_push hm_223 dX12_lookEmpty_61 (v := .inr (.inr (some 94))) rfl ?_
    refine zw_gf hm_223 dX12_lookEmpty_62 (v := .inr (.inr (some 99))) (zT_is hS s_94) (zT_t hS s_94) rfl f_12_27_12 (zT_f hS r_94_31) ?_
    refine zw_push hm_223 dX12_lookEmpty_65 (v := .inl l1) rfl ?_
    obtain ⟨hg, h⟩ := h
    refine zw_ba hm_223 dX12_lookEmpty_66 (zT_is hS s_99) (zT_h hS s_99) rfl rfl hg ?_
    show ma_wp X d w 223 67 [(0, .inr (.inr (some 94))), (1, .inl l1)] [.inl ((mI S) 99 l1.toNatClampNeg), .inl l1, .inr (.inr (some 110))] S _
    refine zw_if0 hm_223 dX12_lookEmpty_67 (t := 83) rfl zc0_eq ?_ ?_
    · intro hc
      rw [if_pos hc] at h
      refine zw_push hm_223 dX12_lookEmpty_83 (v := .inl (0 : Int32)) rfl ?_
      obtain ⟨hg, h⟩ := h
      refine zw_bas22l hm_223 dX12_lookEmpty_84 (hx := by decide) (yv := (0 : Int32)) (zT_is hS s_110) (zT_h hS s_110) rfl hg ?_
      refine zw_sto hm_223 dX12_lookEmpty_85 [(1, .inl (l1 + (1 : Int32))), (0, .inr (.inr (some 94)))] rfl rfl rfl ?_
      refine zw_goto hm_223 dX12_lookEmpty_88 (t := 49) rfl ?_
      exact zw_sub (ma_nd_of (ks := [0, 1]) rfl (by decide)) (ma_nd_of (ks := [1, 0]) rfl (by decide)) (ma_le_cons rfl (ma_le_cons rfl (ma_le_nil _))) (h d w _ Q (by omega) (by omega) (zT_pi hS) rfl HQ)
    · intro hc
      rw [if_neg hc] at h
      refine zw_push hm_223 dX12_lookEmpty_70 (v := .inr (.inr (some 94))) rfl ?_
      refine zw_gf hm_223 dX12_lookEmpty_71 (v := .inr (.inr (some 106))) (zT_is hS s_94) (zT_t hS s_94) rfl f_12_49_12 (zT_f hS r_94_38) ?_
      refine zw_push hm_223 dX12_lookEmpty_74 (v := .inl l1) rfl ?_
      obtain ⟨hg, h⟩ := h
      refine zw_ia hm_223 dX12_lookEmpty_75 (zT_is hS s_106) (zT_h hS s_106) rfl hg ?_
      show ma_wp X d w 223 76 [(0, .inr (.inr (some 94))), (1, .inl l1)] [.inl ((mI S) 106 l1.toNatClampNeg), .inl l1, .inr (.inr (some 110))] S _
      refine zw_if0 hm_223 dX12_lookEmpty_76 (t := 83) rfl zc0_eq ?_ ?_
      · intro hc
        rw [if_pos hc] at h
        refine zw_push hm_223 dX12_lookEmpty_83 (v := .inl (0 : Int32)) rfl ?_
        obtain ⟨hg, h⟩ := h
        refine zw_bas22l hm_223 dX12_lookEmpty_84 (hx := by decide) (yv := (0 : Int32)) (zT_is hS s_110) (zT_h hS s_110) rfl hg ?_
        refine zw_sto hm_223 dX12_lookEmpty_85 [(1, .inl (l1 + (1 : Int32))), (0, .inr (.inr (some 94)))] rfl rfl rfl ?_
        refine zw_goto hm_223 dX12_lookEmpty_88 (t := 49) rfl ?_
        exact zw_sub (ma_nd_of (ks := [0, 1]) rfl (by decide)) (ma_nd_of (ks := [1, 0]) rfl (by decide)) (ma_le_cons rfl (ma_le_cons rfl (ma_le_nil _))) (h d w _ Q (by omega) (by omega) (zT_pi hS) rfl HQ)
      · intro hc
        rw [if_neg hc] at h
        refine zw_push hm_223 dX12_lookEmpty_79 (v := .inl (1 : Int32)) rfl ?_
        refine zw_goto hm_223 dX12_lookEmpty_80 (t := 84) rfl ?_
        obtain ⟨hg, h⟩ := h
        refine zw_bas22l hm_223 dX12_lookEmpty_84 (hx := by decide) (yv := (1 : Int32)) (zT_is hS s_110) (zT_h hS s_110) rfl hg ?_
        refine zw_sto hm_223 dX12_lookEmpty_85 [(1, .inl (l1 + (1 : Int32))), (0, .inr (.inr (some 94)))] rfl rfl rfl ?_
        refine zw_goto hm_223 dX12_lookEmpty_88 (t := 49) rfl ?_
        exact zw_sub (ma_nd_of (ks := [0, 1]) rfl (by decide)) (ma_nd_of (ks := [1, 0]) rfl (by decide)) (ma_le_cons rfl (ma_le_cons rfl (ma_le_nil _))) (h d w _ Q (by omega) (by omega) (zT_pi hS) rfl HQ)
theorem lp_223_49 {X : Nat × (Nat → Int32)} {P : Option ma_V → (Nat → Nat → Int32) → Prop} {T : Nat} {m0 : Nat → Nat → Int32} (h0 : zV m0) (K : ∀ v m', zF wr_223 m0 m' → zV m' → (zGW T (m' 94 55) (m' 109)) → (zGU T (m' 94 46) (m' 99)) → (zOw (m' 99) (m' 103) (m' 111)) → (zDX (m' 94 10) (m' 99) (m' 112) (m' 113) (m' 114) (m' 94 55) (m' 98) (m' 101) (m' 102) (m' 108)) → (zGG (m' 94 58) (m' 94 56) (m' 94 57) (m' 106)) → ((m' 94 58).toInt = 0 ∨ ((m' 94 58).toInt = 1 ∧ (m' 94 57).toInt < (m' 94 56).toInt ∧ (m' 94 57).toInt = (m0 94 57).toInt)) → P (some (.inl v)) m') : ∀ (n : Nat) (m : Nat → Nat → Int32) (l1 : Int32), (3100 - l1.toInt).toNat = n → zF wr_223 m0 m → zV m → (0 ≤ l1.toInt) → (zW (m 94 7) (m 98) (m 101) (m 102) (m 108)) → (zGW T (m 94 55) (m 109)) → (zGU T (m 94 46) (m 99)) → (zOw (m 99) (m 103) (m 111)) → (zDX (m 94 10) (m 99) (m 112) (m 113) (m 114) (m 94 55) (m 98) (m 101) (m 102) (m 108)) → ((m 94 10).toInt = 5) → ((m 94 57).toInt = (m0 94 57).toInt) → zm X 4 88 223 49 [(0, .inr (.inr (some 94))), (1, .inl l1)] m P := by
  intro n
  induction n using Nat.strongRecOn with
  | _ n IH =>
    intro m l1 hmu hF hV hi0 r_W r_GW r_GU r_OW r_DX hi6 hi7
    refine g_223_49 l1 ?_
    have f1 : 0 ≤ (m 94 10).toInt ∧ (m 94 10).toInt ≤ 6 := rs_94_10 (m := m) hV
    have f2 : 0 ≤ (m 94 57).toInt ∧ (m 94 57).toInt ≤ 3100 := rs_94_57 (m := m) hV
    have f3 : 0 ≤ (m0 94 57).toInt ∧ (m0 94 57).toInt ≤ 3100 := rs_94_57 (m := m0) h0
    have li4 : (3100 : Int32).toInt = 3100 := rfl
    have b5 := i_bd l1
    refine zd (fun (h6 : (3100 : Int32) ≤ l1) => ?_) (fun (h6 : ¬ (3100 : Int32) ≤ l1) => ?_)
    · skip
      have g7 := i_le h6
      have li9 : (0 : Int32).toInt = 0 := rfl
      have hV8 : zV (ma_u m 94 73 (0 : Int32)) := us_94_73 hV (by omega) (by omega)
      refine sp_194  hV8 (show (0 : Int32).toInt = 0 from by omega) r_W r_GW (show ((m 94 10).toInt = 2 ∨ (m 94 10).toInt = 3) → zCL (m 110) (m 98) (m 101) (m 102) (m 108) (m 118) (0 : Int32) 3100 0 from by first | (exact fun hp => absurd hp (by omega)) | (exfalso; omega; done) | (exfalso; contradiction; done)) (show zKU (m 94 10) (m 99) (m 110) from by first | (exact fun hp => absurd hp (by omega)) | (exfalso; omega; done) | (exfalso; contradiction; done)) r_DX (show ((m 94 10).toInt = 2 ∨ (m 94 10).toInt = 3) → zcov (m 110) (m 112) 16 from by first | (exact fun hp => absurd hp (by omega)) | (exact fun hp => cov_0 (by decide)) | (exfalso; omega; done) | (exfalso; contradiction; done)) (show ((m 94 10).toInt = 2 ∨ (m 94 10).toInt = 3) → zcov (m 110) (m 114) (m 94 55).toInt from by first | (exact fun hp => absurd hp (by omega)) | (exact fun hp => cov_0 (by decide)) | (exfalso; omega; done) | (exfalso; contradiction; done)) (fun m1 hV_m1 p0_m1 p1_m1 p2_m1 p3_m1 p4_m1 p5_m1 p6_m1 p7_m1 => zmv_n ?_)
      have p0_m1 : (m1 94 73).toInt = 0 := p0_m1
      have p1_m1 : zGW T (m1 94 55) (m1 109) := p1_m1
      have p2_m1 : ((m 94 10).toInt = 2 ∨ (m 94 10).toInt = 3) → zCL (m1 110) (m 98) (m 101) (m 102) (m 108) (m1 118) (m1 94 73) 3100 0 := p2_m1
      have p3_m1 : zKU (m 94 10) (m 99) (m1 110) := p3_m1
      have p4_m1 : zDX (m 94 10) (m 99) (m 112) (m1 113) (m1 114) (m1 94 55) (m 98) (m 101) (m 102) (m 108) := p4_m1
      have p5_m1 : ((m 94 10).toInt = 2 ∨ (m 94 10).toInt = 3) → zcov (m1 110) (m 112) 16 := p5_m1
      have p6_m1 : ((m 94 10).toInt = 2 ∨ (m 94 10).toInt = 3) → zcov (m1 110) (m1 114) (m1 94 55).toInt := p6_m1
      have p7_m1 : zuw (m 113) (m1 113) := p7_m1
      have f10 : 0 ≤ (m1 94 73).toInt ∧ (m1 94 73).toInt ≤ 3100 := rs_94_73 (m := (zov wr_194 (ma_u m 94 73 (0 : Int32)) m1)) hV_m1
      refine sp_199  hV_m1  (fun m3 hV_m3 p0_m3 p1_m3 => zmv_n ?_)
      have p0_m3 : zuw (m1 113) (m3 113) := p0_m3
      have p1_m3 : zcov (m1 110) (m3 113) 16 := p1_m3
      have hV11 : zV (ma_u (zov wr_199 (zov wr_194 (ma_u m 94 73 (0 : Int32)) m1) m3) 94 58 (0 : Int32)) := us_94_58 hV_m3 (by omega) (by omega)
      refine sp_200  hV11 r_W r_GU r_OW (fun v6 m5 hV_m5 p0_m5 p1_m5 p2_m5 p3_m5 => zmi_n ?_)
      have p0_m5 : zrm (m 99) (m5 99) (m1 110) 3100 := p0_m5
      have p1_m5 : zowr (m 111) (m5 111) (m 99) (m1 110) (m 103) := p1_m5
      have p2_m5 : zGU T (m 94 46) (m5 99) := p2_m5
      have p3_m5 : zOw (m5 99) (m 103) (m5 111) := p3_m5
      have b12 := i_bd v6
      have f13 : 0 ≤ (m 94 56).toInt ∧ (m 94 56).toInt ≤ 3100 := rs_94_56 (m := m) hV
      exact K (v6) _ (zF_zov (zF_u (zF_zov (zF_zov (zF_u hF rfl) ws_194_223) ws_199_223) rfl) ws_200_223) hV_m5 p1_m1 p2_m5 p3_m5 (show zDX (m 94 10) (m5 99) (m 112) (m3 113) (m1 114) (m1 94 55) (m 98) (m 101) (m 102) (m 108) from by first | (exact fun hp => absurd hp (by omega)) | (exfalso; omega; done) | (exfalso; contradiction; done)) (show zGG (0 : Int32) (m 94 56) (m 94 57) (m 106) from by first | (exact fun z => absurd z (by decide)) | (exact fun z => absurd z (by omega)) | (exfalso; omega; done) | (exfalso; contradiction; done)) (show (0 : Int32).toInt = 0 ∨ ((0 : Int32).toInt = 1 ∧ (m 94 57).toInt < (m 94 56).toInt ∧ (m 94 57).toInt = (m0 94 57).toInt) from by omega)
    · skip
      have g14 := i_nle h6
      have hg15 : (0 ≤ l1 ∧ l1.toNatClampNeg < 3100) := i_ix (by omega) (by omega)
      refine ⟨hg15, ?_⟩
      first | have f16 : 0 ≤ (m 99 l1.toNatClampNeg).toInt ∧ (m 99 l1.toNatClampNeg).toInt ≤ 1 := ra_99 (m := m) hV (k := l1.toNatClampNeg) (i_ix (n := 3100) (by omega) (by omega)).2 | have b17 := i_bd (m 99 l1.toNatClampNeg)
      have li18 : (0 : Int32).toInt = 0 := rfl
      refine zd (fun (h19 : (m 99 l1.toNatClampNeg) = (0 : Int32)) => ?_) (fun (h19 : ¬ (m 99 l1.toNatClampNeg) = (0 : Int32)) => ?_)
      · skip
        have g20 := i_eq h19
        have hg21 : (0 ≤ l1 ∧ l1.toNatClampNeg < 3100) := i_ix (by omega) (by omega)
        refine ⟨hg21, ?_⟩
        have hV22 : zV (ma_u m 110 l1.toNatClampNeg (0 : Int32)) := ua_110 hV (by omega) (by omega)
        first | have e23 : (l1 + (1 : Int32)).toInt = l1.toInt + (1) := i_addk rfl (by omega) (by omega) | have b24 := i_bd (l1 + (1 : Int32))
        exact IH (3100 - (l1 + (1 : Int32)).toInt).toNat (by omega) _ ((l1 + (1 : Int32))) rfl (zF_u hF rfl) hV22 (by omega) r_W r_GW r_GU r_OW r_DX (show (m 94 10).toInt = 5 from by omega) (show (m 94 57).toInt = (m0 94 57).toInt from by omega)
      · skip
        have g25 := i_ne h19
        have hg26 : (0 ≤ l1 ∧ l1.toNatClampNeg < 3100) := i_ix (by omega) (by omega)
        refine ⟨hg26, ?_⟩
        have b27 := i_bd (m 106 l1.toNatClampNeg)
        refine zd (fun (h28 : (m 106 l1.toNatClampNeg) = (0 : Int32)) => ?_) (fun (h28 : ¬ (m 106 l1.toNatClampNeg) = (0 : Int32)) => ?_)
        · skip
          have g29 := i_eq h28
          have hg30 : (0 ≤ l1 ∧ l1.toNatClampNeg < 3100) := i_ix (by omega) (by omega)
          refine ⟨hg30, ?_⟩
          have hV31 : zV (ma_u m 110 l1.toNatClampNeg (0 : Int32)) := ua_110 hV (by omega) (by omega)
          first | have e32 : (l1 + (1 : Int32)).toInt = l1.toInt + (1) := i_addk rfl (by omega) (by omega) | have b33 := i_bd (l1 + (1 : Int32))
          exact IH (3100 - (l1 + (1 : Int32)).toInt).toNat (by omega) _ ((l1 + (1 : Int32))) rfl (zF_u hF rfl) hV31 (by omega) r_W r_GW r_GU r_OW r_DX (show (m 94 10).toInt = 5 from by omega) (show (m 94 57).toInt = (m0 94 57).toInt from by omega)
        · skip
          have g34 := i_ne h28
          have hg35 : (0 ≤ l1 ∧ l1.toNatClampNeg < 3100) := i_ix (by omega) (by omega)
          refine ⟨hg35, ?_⟩
          have li37 : (1 : Int32).toInt = 1 := rfl
          have hV36 : zV (ma_u m 110 l1.toNatClampNeg (1 : Int32)) := ua_110 hV (by omega) (by omega)
          first | have e38 : (l1 + (1 : Int32)).toInt = l1.toInt + (1) := i_addk rfl (by omega) (by omega) | have b39 := i_bd (l1 + (1 : Int32))
          exact IH (3100 - (l1 + (1 : Int32)).toInt).toNat (by omega) _ ((l1 + (1 : Int32))) rfl (zF_u hF rfl) hV36 (by omega) r_W r_GW r_GU r_OW r_DX (show (m 94 10).toInt = 5 from by omega) (show (m 94 57).toInt = (m0 94 57).toInt from by omega)
theorem sp_223 {X : Nat × (Nat → Int32)} {P : Option ma_V → (Nat → Nat → Int32) → Prop} {T : Nat} {m : Nat → Nat → Int32}  (hV : zV m) (r_W : zW (m 94 7) (m 98) (m 101) (m 102) (m 108)) (r_GW : zGW T (m 94 55) (m 109)) (r_GU : zGU T (m 94 46) (m 99)) (r_OW : zOw (m 99) (m 103) (m 111)) (r_DX : zDX (m 94 10) (m 99) (m 112) (m 113) (m 114) (m 94 55) (m 98) (m 101) (m 102) (m 108)) (r_G1 : zG1 (m 94 56) (m 94 57) (m 106)) (hpre6 : (m 94 10).toInt = 5) (hpre7 : (m 94 58).toInt = 1) (KZ : ∀ v m', zV (zov wr_223 m m') → (zGW T (m' 94 55) (m' 109)) → (zGU T (m 94 46) (m' 99)) → (zOw (m' 99) (m 103) (m' 111)) → (zDX (m 94 10) (m' 99) (m 112) (m' 113) (m' 114) (m' 94 55) (m 98) (m 101) (m 102) (m 108)) → (zGG (m' 94 58) (m' 94 56) (m 94 57) (m' 106)) → ((m' 94 58).toInt = 0 ∨ ((m' 94 58).toInt = 1 ∧ (m 94 57).toInt < (m' 94 56).toInt ∧ (m 94 57).toInt = (m 94 57).toInt)) → P (some (.inl v)) (zov wr_223 m m')) : zm X 4 88 223 0 [(0, .inr (.inr (some 94)))] m P := by
  have K : ∀ v m', zF wr_223 m m' → zV m' → (zGW T (m' 94 55) (m' 109)) → (zGU T (m' 94 46) (m' 99)) → (zOw (m' 99) (m' 103) (m' 111)) → (zDX (m' 94 10) (m' 99) (m' 112) (m' 113) (m' 114) (m' 94 55) (m' 98) (m' 101) (m' 102) (m' 108)) → (zGG (m' 94 58) (m' 94 56) (m' 94 57) (m' 106)) → ((m' 94 58).toInt = 0 ∨ ((m' 94 58).toInt = 1 ∧ (m' 94 57).toInt < (m' 94 56).toInt ∧ (m' 94 57).toInt = (m 94 57).toInt)) → P (some (.inl v)) m' := by
    intro v m' hf z q0 q1 q2 q3 q4 q5
    have e := zov_eq hf
    rw [e] at z ⊢
    try rw [e] at q0
    try rw [e] at q1
    try rw [e] at q2
    try rw [e] at q3
    try rw [e] at q4
    try rw [e] at q5
    exact KZ v m' z q0 q1 q2 q3 q4 q5
  refine g_223_0  ?_
  have f1 : 0 ≤ (m 94 10).toInt ∧ (m 94 10).toInt ≤ 6 := rs_94_10 (m := m) hV
  have f2 : 0 ≤ (m 94 58).toInt ∧ (m 94 58).toInt ≤ 1 := rs_94_58 (m := m) hV
  have f3 : 0 ≤ (m 94 56).toInt ∧ (m 94 56).toInt ≤ 3100 := rs_94_56 (m := m) hV
  have f4 : 0 ≤ (m 94 57).toInt ∧ (m 94 57).toInt ≤ 3100 := rs_94_57 (m := m) hV
  refine zd (fun (h5 : (m 94 56) ≤ (m 94 57)) => ?_) (fun (h5 : ¬ (m 94 56) ≤ (m 94 57)) => ?_)
  · skip
    have g6 := i_le h5
    have f7 : 0 ≤ (m 94 9).toInt ∧ (m 94 9).toInt ≤ 1 := rs_94_9 (m := m) hV
    have li8 : (0 : Int32).toInt = 0 := rfl
    refine zd (fun (h9 : (m 94 9) = (0 : Int32)) => ?_) (fun (h9 : ¬ (m 94 9) = (0 : Int32)) => ?_)
    · skip
      have g10 := i_eq h9
      refine sp_220  hV r_G1 (fun m1 hV_m1 p0_m1 p1_m1 => zmv_n ?_)
      have p0_m1 : zG1 (m1 94 56) (m 94 57) (m1 106) := p0_m1
      have p1_m1 : (m 94 56).toInt ≤ (m1 94 56).toInt := p1_m1
      have f11 : 0 ≤ (m1 94 56).toInt ∧ (m1 94 56).toInt ≤ 3100 := rs_94_56 (m := (zov wr_220 m m1)) hV_m1
      refine zd (fun (h12 : (m1 94 56) ≤ (m 94 57)) => ?_) (fun (h12 : ¬ (m1 94 56) ≤ (m 94 57)) => ?_)
      · skip
        have g13 := i_le h12
        have hV14 : zV (ma_u (zov wr_220 m m1) 94 47 ((m 94 47) + (1 : Int32))) := uf_94_47 hV_m1
        exact lp_223_49 hV K _ _ ((0 : Int32)) rfl (zF_u (zF_zov zF_rfl ws_220_223) rfl) hV14 (by omega) r_W r_GW r_GU r_OW r_DX (show (m 94 10).toInt = 5 from by omega) (show (m 94 57).toInt = (m 94 57).toInt from by omega)
      · skip
        have g15 := i_nle h12
        exact K ((0 : Int32)) _ (zF_zov zF_rfl ws_220_223) hV_m1 r_GW r_GU r_OW r_DX (show zGG (m 94 58) (m1 94 56) (m 94 57) (m1 106) from by first | (exact fun _ => p0_m1) | (exact fun z => absurd z (by decide)) | (exact fun z => absurd z (by omega)) | (exfalso; omega; done) | (exfalso; contradiction; done)) (show (m 94 58).toInt = 0 ∨ ((m 94 58).toInt = 1 ∧ (m 94 57).toInt < (m1 94 56).toInt ∧ (m 94 57).toInt = (m 94 57).toInt) from by omega)
    · skip
      have g16 := i_ne h9
      refine zd (fun (h17 : (m 94 56) ≤ (m 94 57)) => ?_) (fun (h17 : ¬ (m 94 56) ≤ (m 94 57)) => ?_)
      · skip
        have g18 := i_le h17
        have hV19 : zV (ma_u m 94 47 ((m 94 47) + (1 : Int32))) := uf_94_47 hV
        exact lp_223_49 hV K _ _ ((0 : Int32)) rfl (zF_u zF_rfl rfl) hV19 (by omega) r_W r_GW r_GU r_OW r_DX (show (m 94 10).toInt = 5 from by omega) (show (m 94 57).toInt = (m 94 57).toInt from by omega)
      · skip
        have g20 := i_nle h17
        exact K ((0 : Int32)) _ zF_rfl hV r_GW r_GU r_OW r_DX (show zGG (m 94 58) (m 94 56) (m 94 57) (m 106) from by first | (exact fun _ => r_G1) | (exact fun z => absurd z (by decide)) | (exact fun z => absurd z (by omega)) | (exfalso; omega; done) | (exfalso; contradiction; done)) (show (m 94 58).toInt = 0 ∨ ((m 94 58).toInt = 1 ∧ (m 94 57).toInt < (m 94 56).toInt ∧ (m 94 57).toInt = (m 94 57).toInt) from by omega)
  · skip
    have g21 := i_nle h5
    have li22 : (0 : Int32).toInt = 0 := rfl
    exact K ((0 : Int32)) _ zF_rfl hV r_GW r_GU r_OW r_DX (show zGG (m 94 58) (m 94 56) (m 94 57) (m 106) from by first | (exact fun _ => r_G1) | (exact fun z => absurd z (by decide)) | (exact fun z => absurd z (by omega)) | (exfalso; omega; done) | (exfalso; contradiction; done)) (show (m 94 58).toInt = 0 ∨ ((m 94 58).toInt = 1 ∧ (m 94 57).toInt < (m 94 56).toInt ∧ (m 94 57).toInt = (m 94 57).toInt) from by omega)
