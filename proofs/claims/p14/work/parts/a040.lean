/-! from 94.448 -/
/-! the reference (written by wip/tools/gen94m.py) -/
set_option maxRecDepth 100000 in
theorem hm_167 : ma_md 167 = some (12, yX12_fails, cX12_fails, 2, (some (FieldType.boolean))) := rfl
set_option maxRecDepth 100000 in
theorem hm_244 : ma_md 244 = some (12, yX12_put, cX12_put, 6, (some (FieldType.int))) := rfl
theorem f_12_237_12 : ma_fld 12 237 12 = some 8 := by decide +kernel
theorem p_12_1_12 : ma_pk 12 1 12 0 = true := by decide +kernel
theorem v_12_110_12 : ma_vl 12 110 12 = some (1, 167, 1) := by decide +kernel
theorem v_12_499_12 : ma_vl 12 499 12 = some (1, 245, 1) := by decide +kernel
theorem dX12_put_0 : decode cX12_put 0 = .ok (.aload_n 0, 1) := by decide +kernel
theorem dX12_put_1 : decode cX12_put 1 = .ok (.aload_n 0, 1) := by decide +kernel
theorem dX12_put_12 : decode cX12_put 12 = .ok (.iconst 0, 1) := by decide +kernel
theorem dX12_put_13 : decode cX12_put 13 = .ok (.invokevirtual 110, 3) := by decide +kernel
theorem dX12_fails_0 : decode cX12_fails 0 = .ok (.aload_n 0, 1) := by decide +kernel
theorem dX12_fails_1 : decode cX12_fails 1 = .ok (.iload_n 1, 1) := by decide +kernel
theorem dX12_fails_5 : decode cX12_fails 5 = .ok (.iload_n 1, 1) := by decide +kernel
theorem dX12_fails_6 : decode cX12_fails 6 = .ok (.ifCond .eq 7, 3) := by decide +kernel
theorem dX12_fails_13 : decode cX12_fails 13 = .ok (.iconst 0, 1) := by decide +kernel
theorem dX12_put_16 : decode cX12_put 16 = .ok (.ifCond .eq 5, 3) := by decide +kernel
theorem dX12_put_21 : decode cX12_put 21 = .ok (.aload_n 0, 1) := by decide +kernel
theorem dX12_put_22 : decode cX12_put 22 = .ok (.iload_n 1, 1) := by decide +kernel
theorem dX12_put_23 : decode cX12_put 23 = .ok (.invokevirtual 499, 3) := by decide +kernel
theorem dX12_put_26 : decode cX12_put 26 = .ok (.istore 4, 2) := by decide +kernel
theorem dX12_put_28 : decode cX12_put 28 = .ok (.aload_n 0, 1) := by decide +kernel
theorem dX12_put_29 : decode cX12_put 29 = .ok (.iload 4, 2) := by decide +kernel
theorem dX12_put_38 : decode cX12_put 38 = .ok (.iload_n 2, 1) := by decide +kernel
theorem dX12_put_53 : decode cX12_put 53 = .ok (.iconst 3, 1) := by decide +kernel
theorem dX12_put_54 : decode cX12_put 54 = .ok (.goto 18, 3) := by decide +kernel
theorem dX12_put_72 : decode cX12_put 72 = .ok (.invokevirtual 110, 3) := by decide +kernel
theorem dX12_fails_9 : decode cX12_fails 9 = .ok (.iconst 1, 1) := by decide +kernel
theorem dX12_fails_10 : decode cX12_fails 10 = .ok (.goto 4, 3) := by decide +kernel
theorem dX12_put_75 : decode cX12_put 75 = .ok (.ifCond .eq 5, 3) := by decide +kernel
theorem dX12_put_78 : decode cX12_put 78 = .ok (.iconst 0, 1) := by decide +kernel
theorem dX12_put_79 : decode cX12_put 79 = .ok (.ireturn, 1) := by decide +kernel
theorem dX12_fails_14 : decode cX12_fails 14 = .ok (.ireturn, 1) := by decide +kernel
theorem dX12_fails_2 : decode cX12_fails 2 = .ok (.putfield 1, 3) := by decide +kernel
theorem dX12_put_42 : decode cX12_put 42 = .ok (.iload_n 2, 1) := by decide +kernel
theorem dX12_put_43 : decode cX12_put 43 = .ok (.aload_n 0, 1) := by decide +kernel
theorem dX12_put_47 : decode cX12_put 47 = .ok (.iload 4, 2) := by decide +kernel
theorem dX12_put_57 : decode cX12_put 57 = .ok (.aload_n 0, 1) := by decide +kernel
theorem dX12_put_58 : decode cX12_put 58 = .ok (.iload 4, 2) := by decide +kernel
theorem dX12_put_60 : decode cX12_put 60 = .ok (.iload_n 2, 1) := by decide +kernel
theorem dX12_put_61 : decode cX12_put 61 = .ok (.invokevirtual 288, 3) := by decide +kernel
theorem dX12_put_64 : decode cX12_put 64 = .ok (.ifCond .eq 7, 3) := by decide +kernel
theorem dX12_put_67 : decode cX12_put 67 = .ok (.iconst 4, 1) := by decide +kernel
theorem dX12_put_68 : decode cX12_put 68 = .ok (.goto 4, 3) := by decide +kernel
theorem dX12_put_71 : decode cX12_put 71 = .ok (.iconst 0, 1) := by decide +kernel
theorem dX12_put_80 : decode cX12_put 80 = .ok (.aload_n 0, 1) := by decide +kernel
theorem dX12_put_84 : decode cX12_put 84 = .ok (.iload 4, 2) := by decide +kernel
theorem dX12_put_86 : decode cX12_put 86 = .ok (.bipush 60, 2) := by decide +kernel
theorem dX12_put_88 : decode cX12_put 88 = .ok (.imul, 1) := by decide +kernel
theorem dX12_put_89 : decode cX12_put 89 = .ok (.iload_n 2, 1) := by decide +kernel
theorem dX12_put_90 : decode cX12_put 90 = .ok (.iadd, 1) := by decide +kernel
theorem dX12_put_92 : decode cX12_put 92 = .ok (.istore 5, 2) := by decide +kernel
theorem dX12_put_94 : decode cX12_put 94 = .ok (.aload_n 0, 1) := by decide +kernel
theorem dX12_put_98 : decode cX12_put 98 = .ok (.iload 4, 2) := by decide +kernel
theorem dX12_put_100 : decode cX12_put 100 = .ok (.bipush 60, 2) := by decide +kernel
theorem dX12_put_102 : decode cX12_put 102 = .ok (.imul, 1) := by decide +kernel
theorem dX12_put_103 : decode cX12_put 103 = .ok (.iload_n 2, 1) := by decide +kernel
theorem dX12_put_104 : decode cX12_put 104 = .ok (.iadd, 1) := by decide +kernel
theorem dX12_put_105 : decode cX12_put 105 = .ok (.iload_n 3, 1) := by decide +kernel
theorem dX12_put_107 : decode cX12_put 107 = .ok (.iload 5, 2) := by decide +kernel
theorem dX12_put_109 : decode cX12_put 109 = .ok (.ireturn, 1) := by decide +kernel
theorem dX12_put_106 : decode cX12_put 106 = .ok (.iastore, 1) := by decide +kernel
theorem dX12_put_95 : decode cX12_put 95 = .ok (.getfield 56, 3) := by decide +kernel
theorem dX12_put_91 : decode cX12_put 91 = .ok (.iaload, 1) := by decide +kernel
theorem dX12_put_81 : decode cX12_put 81 = .ok (.getfield 56, 3) := by decide +kernel
theorem dX12_put_50 : decode cX12_put 50 = .ok (.if_icmp .lt 7, 3) := by decide +kernel
theorem dX12_put_49 : decode cX12_put 49 = .ok (.iaload, 1) := by decide +kernel
theorem dX12_put_44 : decode cX12_put 44 = .ok (.getfield 37, 3) := by decide +kernel
theorem dX12_put_39 : decode cX12_put 39 = .ok (.ifCond .lt 14, 3) := by decide +kernel
theorem dX12_put_34 : decode cX12_put 34 = .ok (.iconst 2, 1) := by decide +kernel
theorem dX12_put_35 : decode cX12_put 35 = .ok (.goto 37, 3) := by decide +kernel
theorem dX12_put_31 : decode cX12_put 31 = .ok (.ifCond .ge 7, 3) := by decide +kernel
theorem dX12_put_8 : decode cX12_put 8 = .ok (.iconst 1, 1) := by decide +kernel
theorem dX12_put_9 : decode cX12_put 9 = .ok (.goto 4, 3) := by decide +kernel
theorem dX12_put_19 : decode cX12_put 19 = .ok (.iconst 0, 1) := by decide +kernel
theorem dX12_put_20 : decode cX12_put 20 = .ok (.ireturn, 1) := by decide +kernel
theorem dX12_put_5 : decode cX12_put 5 = .ok (.ifCond .ne 7, 3) := by decide +kernel
theorem dX12_put_2 : decode cX12_put 2 = .ok (.getfield 237, 3) := by decide +kernel
def wr_244 (c k : Nat) : Bool := Nat.beq c 108 || Nat.beq c 110 || Nat.beq c 118 || (Nat.beq c 94 && (Nat.beq k 0 || Nat.beq k 73))
theorem ws_245_244 : ∀ c k, wr_245 c k = true → wr_244 c k = true := by
  intro c k h
  simp only [wr_245, wr_244, Bool.or_eq_true, Bool.and_eq_true, Nat.beq_eq] at h ⊢
  omega
theorem g_244_0 {X : Nat × (Nat → Int32)} {m : Nat → Nat → Int32} {P : Option ma_V → (Nat → Nat → Int32) → Prop} (ob : Int32) (ix : Int32) (va : Int32) (h : if (m 94 8) = 0 then (P (some (.inl (0 : Int32))) (ma_u m 94 0 (1 : Int32))) else (zm X 4 87 245 0 [(0, .inr (.inr (some 94))), (1, .inl ob)] (ma_u m 94 0 (0 : Int32)) (zmi (fun v2 m1 => if 0 ≤ v2 then (if ix < 0 then (P (some (.inl (0 : Int32))) (ma_u m1 94 0 (3 : Int32))) else ((0 ≤ v2 ∧ v2.toNatClampNeg < 3100) ∧ (if ix < (m1 102 v2.toNatClampNeg) then ((0 ≤ v2 ∧ v2.toNatClampNeg < 3100) ∧ (if (m1 101 v2.toNatClampNeg) = (16 : Int32) then (P (some (.inl (0 : Int32))) (ma_u m1 94 0 (4 : Int32))) else ((0 ≤ v2 ∧ v2.toNatClampNeg < 3100) ∧ (if (16 : Int32) ≤ (m1 101 v2.toNatClampNeg) then ((0 ≤ ((v2 * (60 : Int32)) + ix) ∧ ((v2 * (60 : Int32)) + ix).toNatClampNeg < 186000) ∧ ((0 ≤ ((v2 * (60 : Int32)) + ix) ∧ ((v2 * (60 : Int32)) + ix).toNatClampNeg < 186000) ∧ (P (some (.inl (m1 108 ((v2 * (60 : Int32)) + ix).toNatClampNeg))) (ma_u (ma_u m1 94 0 (0 : Int32)) 108 ((v2 * (60 : Int32)) + ix).toNatClampNeg va)))) else ((0 ≤ v2 ∧ v2.toNatClampNeg < 3100) ∧ ((0 ≤ (m1 101 v2.toNatClampNeg) ∧ (m1 101 v2.toNatClampNeg).toNatClampNeg < 16) ∧ (if (((m1 98 (m1 101 v2.toNatClampNeg).toNatClampNeg) >>> (ix &&& 31)) &&& (1 : Int32)) = (1 : Int32) then (P (some (.inl (0 : Int32))) (ma_u m1 94 0 (4 : Int32))) else ((0 ≤ ((v2 * (60 : Int32)) + ix) ∧ ((v2 * (60 : Int32)) + ix).toNatClampNeg < 186000) ∧ ((0 ≤ ((v2 * (60 : Int32)) + ix) ∧ ((v2 * (60 : Int32)) + ix).toNatClampNeg < 186000) ∧ (P (some (.inl (m1 108 ((v2 * (60 : Int32)) + ix).toNatClampNeg))) (ma_u (ma_u m1 94 0 (0 : Int32)) 108 ((v2 * (60 : Int32)) + ix).toNatClampNeg va))))))))))) else (P (some (.inl (0 : Int32))) (ma_u m1 94 0 (3 : Int32)))))) else (P (some (.inl (0 : Int32))) (ma_u m1 94 0 (2 : Int32))))))) : zm X 5 109 244 0 [(0, .inr (.inr (some 94))), (1, .inl ob), (2, .inl ix), (3, .inl va)] m P := by
  intro d w S Q hd hw hS hm HQ
  subst hm
  refine zw_push hm_244 dX12_put_0 (v := .inr (.inr (some 94))) rfl ?_
  refine zw_push hm_244 dX12_put_1 (v := .inr (.inr (some 94))) rfl ?_
  refine zw_gf hm_244 dX12_put_2 (v := .inl ((mI S) 94 8)) (zT_is hS s_94) (zT_t hS s_94) rfl f_12_237_12 rfl ?_
  refine zw_if0 hm_244 dX12_put_5 (t := 12) rfl zc0_ne ?_ ?_
  · intro hc
    rw [if_neg hc] at h
    refine zw_push hm_244 dX12_put_12 (v := .inl (0 : Int32)) rfl ?_
    refine zw_cv hm_244 dX12_put_13 v_12_110_12 hm_167 [.inl (0 : Int32)] [] rfl (zT_rt hS s_94 rfl) ⟨by omega, by omega⟩ rfl ?_
    show ma_wp X (d - 1) (w - 21) 167 0 [(0, .inr (.inr (some 94))), (1, .inl (0 : Int32))] [] S _
    refine zw_push hm_167 dX12_fails_0 (v := .inr (.inr (some 94))) rfl ?_
    refine zw_push hm_167 dX12_fails_1 (v := .inl (0 : Int32)) rfl ?_
    refine zw_pf hm_167 dX12_fails_2 (zT_is hS s_94) (zT_t hS s_94) p_12_1_12 zk_int ?_
    refine zw_push hm_167 dX12_fails_5 (v := .inl (0 : Int32)) rfl ?_
    refine zw_if0 hm_167 dX12_fails_6 (t := 13) rfl zc0_eq (fun _ => ?_) (fun hc => absurd (by decide) hc)
    refine zw_push hm_167 dX12_fails_13 (v := .inl (0 : Int32)) rfl ?_
    refine zw_bret hm_167 dX12_fails_14 (by decide) ?_
    show ma_wp X d w 244 16 [(0, .inr (.inr (some 94))), (1, .inl ob), (2, .inl ix), (3, .inl va)] [.inl (0 : Int32)] (ma_put S 94 0 (.inl (0 : Int32))) _
    refine zw_if0 hm_244 dX12_put_16 (t := 21) rfl zc0_eq (fun _ => ?_) (fun hc => absurd (by decide) hc)
    refine zw_push hm_244 dX12_put_21 (v := .inr (.inr (some 94))) rfl ?_
    refine zw_push hm_244 dX12_put_22 (v := .inl ob) rfl ?_
    refine zw_cv hm_244 dX12_put_23 v_12_499_12 hm_245 [.inl ob] [] rfl (zT_rt (zT_pi hS) s_94 rfl) ⟨by omega, by omega⟩ rfl (h _ _ (ma_put S 94 0 (.inl (0 : Int32))) _ (by omega) (by omega) (zT_pi hS) rfl (fun o9 m1 hv => ?_))
    obtain ⟨v2, rfl, h⟩ := zmi_of hv
    show ma_wp X d w 244 26 [(0, .inr (.inr (some 94))), (1, .inl ob), (2, .inl ix), (3, .inl va)] [.inl v2] (zst S m1) _
    refine zw_sto hm_244 dX12_put_26 [(4, .inl v2), (0, .inr (.inr (some 94))), (1, .inl ob), (2, .inl ix), (3, .inl va)] rfl rfl rfl ?_
    refine zw_push hm_244 dX12_put_28 (v := .inr (.inr (some 94))) rfl ?_
    refine zw_push hm_244 dX12_put_29 (v := .inl v2) rfl ?_
    refine zw_if0 hm_244 dX12_put_31 (t := 38) rfl zc0_ge ?_ ?_
    · intro hc
      rw [if_pos hc] at h
      refine zw_push hm_244 dX12_put_38 (v := .inl ix) rfl ?_
      refine zw_if0 hm_244 dX12_put_39 (t := 53) rfl zc0_lt ?_ ?_
      · intro hc
        rw [if_pos hc] at h
        refine zw_push hm_244 dX12_put_53 (v := .inl (3 : Int32)) rfl ?_
        refine zw_goto hm_244 dX12_put_54 (t := 72) rfl ?_
        refine zw_cv hm_244 dX12_put_72 v_12_110_12 hm_167 [.inl (3 : Int32)] [] rfl (zT_rt (zT_zst hS m1) s_94 rfl) ⟨by omega, by omega⟩ rfl ?_
        show ma_wp X (d - 1) (w - 21) 167 0 [(0, .inr (.inr (some 94))), (1, .inl (3 : Int32))] [] (zst S m1) _
        refine zw_push hm_167 dX12_fails_0 (v := .inr (.inr (some 94))) rfl ?_
        refine zw_push hm_167 dX12_fails_1 (v := .inl (3 : Int32)) rfl ?_
        refine zw_pf hm_167 dX12_fails_2 (zT_is (zT_zst hS m1) s_94) (zT_t (zT_zst hS m1) s_94) p_12_1_12 zk_int ?_
        refine zw_push hm_167 dX12_fails_5 (v := .inl (3 : Int32)) rfl ?_
        refine zw_if0 hm_167 dX12_fails_6 (t := 13) rfl zc0_eq (fun hc => absurd hc (by decide)) (fun _ => ?_)
        refine zw_push hm_167 dX12_fails_9 (v := .inl (1 : Int32)) rfl ?_
        refine zw_goto hm_167 dX12_fails_10 (t := 14) rfl ?_
        refine zw_bret hm_167 dX12_fails_14 (by decide) ?_
        show ma_wp X d w 244 75 [(4, .inl v2), (0, .inr (.inr (some 94))), (1, .inl ob), (2, .inl ix), (3, .inl va)] [.inl (1 : Int32)] (ma_put (zst S m1) 94 0 (.inl (3 : Int32))) _
        refine zw_if0 hm_244 dX12_put_75 (t := 80) rfl zc0_eq (fun hc => absurd hc (by decide)) (fun _ => ?_)
        refine zw_push hm_244 dX12_put_78 (v := .inl (0 : Int32)) rfl ?_
        exact zw_iret hm_244 dX12_put_79 (HQ _ _ h)
      · intro hc
        rw [if_neg hc] at h
        refine zw_push hm_244 dX12_put_42 (v := .inl ix) rfl ?_
        refine zw_push hm_244 dX12_put_43 (v := .inr (.inr (some 94))) rfl ?_
        refine zw_gf hm_244 dX12_put_44 (v := .inr (.inr (some 102))) (zT_is (zT_zst hS m1) s_94) (zT_t (zT_zst hS m1) s_94) rfl f_12_37_12 (zT_f (zT_zst hS m1) r_94_34) ?_
        refine zw_push hm_244 dX12_put_47 (v := .inl v2) rfl ?_
        obtain ⟨hg, h⟩ := h
        refine zw_ia hm_244 dX12_put_49 (zT_is (zT_zst hS m1) s_102) (zT_h (zT_zst hS m1) s_102) rfl hg ?_
        show ma_wp X d w 244 50 [(4, .inl v2), (0, .inr (.inr (some 94))), (1, .inl ob), (2, .inl ix), (3, .inl va)] [.inl (m1 102 v2.toNatClampNeg), .inl ix, .inr (.inr (some 94))] (zst S m1) _
        refine zw_if2 hm_244 dX12_put_50 (t := 57) rfl zc2_lt ?_ ?_
        · intro hc
          rw [if_pos hc] at h
          refine zw_push hm_244 dX12_put_57 (v := .inr (.inr (some 94))) rfl ?_
          refine zw_push hm_244 dX12_put_58 (v := .inl v2) rfl ?_
          refine zw_push hm_244 dX12_put_60 (v := .inl ix) rfl ?_
          refine zw_cv hm_244 dX12_put_61 v_12_288_12 hm_193 [.inl ix, .inl v2] [.inr (.inr (some 94))] rfl (zT_rt (zT_zst hS m1) s_94 rfl) ⟨by omega, by omega⟩ rfl ?_
          show ma_wp X (d - 1) (w - 22) 193 0 [(0, .inr (.inr (some 94))), (1, .inl v2), (2, .inl ix)] [] (zst S m1) _
          refine zw_push hm_193 dX12_isReference_0 (v := .inr (.inr (some 94))) rfl ?_
          refine zw_gf hm_193 dX12_isReference_1 (v := .inr (.inr (some 101))) (zT_is (zT_zst hS m1) s_94) (zT_t (zT_zst hS m1) s_94) rfl f_12_34_12 (zT_f (zT_zst hS m1) r_94_33) ?_
          refine zw_push hm_193 dX12_isReference_4 (v := .inl v2) rfl ?_
          obtain ⟨hg, h⟩ := h
          refine zw_ia hm_193 dX12_isReference_5 (zT_is (zT_zst hS m1) s_101) (zT_h (zT_zst hS m1) s_101) rfl hg ?_
          show ma_wp X (d - 1) (w - 22) 193 6 [(0, .inr (.inr (some 94))), (1, .inl v2), (2, .inl ix)] [.inl (m1 101 v2.toNatClampNeg)] (zst S m1) _
          refine zw_push hm_193 dX12_isReference_6 (v := .inl (16 : Int32)) rfl ?_
          refine zw_if2 hm_193 dX12_isReference_8 (t := 41) rfl zc2_eq ?_ ?_
          · intro hc
            rw [if_pos hc] at h
            refine zw_push hm_193 dX12_isReference_41 (v := .inl (1 : Int32)) rfl ?_
            refine zw_goto hm_193 dX12_isReference_42 (t := 46) rfl ?_
            refine zw_bret hm_193 dX12_isReference_46 (by decide) ?_
            show ma_wp X d w 244 64 [(4, .inl v2), (0, .inr (.inr (some 94))), (1, .inl ob), (2, .inl ix), (3, .inl va)] [.inl (1 : Int32), .inr (.inr (some 94))] (zst S m1) _
            refine zw_if0 hm_244 dX12_put_64 (t := 71) rfl zc0_eq (fun hc => absurd hc (by decide)) (fun _ => ?_)
            refine zw_push hm_244 dX12_put_67 (v := .inl (4 : Int32)) rfl ?_
            refine zw_goto hm_244 dX12_put_68 (t := 72) rfl ?_
            refine zw_cv hm_244 dX12_put_72 v_12_110_12 hm_167 [.inl (4 : Int32)] [] rfl (zT_rt (zT_zst hS m1) s_94 rfl) ⟨by omega, by omega⟩ rfl ?_
            show ma_wp X (d - 1) (w - 21) 167 0 [(0, .inr (.inr (some 94))), (1, .inl (4 : Int32))] [] (zst S m1) _
            refine zw_push hm_167 dX12_fails_0 (v := .inr (.inr (some 94))) rfl ?_
            refine zw_push hm_167 dX12_fails_1 (v := .inl (4 : Int32)) rfl ?_
            refine zw_pf hm_167 dX12_fails_2 (zT_is (zT_zst hS m1) s_94) (zT_t (zT_zst hS m1) s_94) p_12_1_12 zk_int ?_
            refine zw_push hm_167 dX12_fails_5 (v := .inl (4 : Int32)) rfl ?_
            refine zw_if0 hm_167 dX12_fails_6 (t := 13) rfl zc0_eq (fun hc => absurd hc (by decide)) (fun _ => ?_)
            refine zw_push hm_167 dX12_fails_9 (v := .inl (1 : Int32)) rfl ?_
            refine zw_goto hm_167 dX12_fails_10 (t := 14) rfl ?_
            refine zw_bret hm_167 dX12_fails_14 (by decide) ?_
            show ma_wp X d w 244 75 [(4, .inl v2), (0, .inr (.inr (some 94))), (1, .inl ob), (2, .inl ix), (3, .inl va)] [.inl (1 : Int32)] (ma_put (zst S m1) 94 0 (.inl (4 : Int32))) _
            refine zw_if0 hm_244 dX12_put_75 (t := 80) rfl zc0_eq (fun hc => absurd hc (by decide)) (fun _ => ?_)
            refine zw_push hm_244 dX12_put_78 (v := .inl (0 : Int32)) rfl ?_
            exact zw_iret hm_244 dX12_put_79 (HQ _ _ h)
          · intro hc
            rw [if_neg hc] at h
            refine zw_push hm_193 dX12_isReference_11 (v := .inr (.inr (some 94))) rfl ?_
            refine zw_gf hm_193 dX12_isReference_12 (v := .inr (.inr (some 101))) (zT_is (zT_zst hS m1) s_94) (zT_t (zT_zst hS m1) s_94) rfl f_12_34_12 (zT_f (zT_zst hS m1) r_94_33) ?_
            refine zw_push hm_193 dX12_isReference_15 (v := .inl v2) rfl ?_
            obtain ⟨hg, h⟩ := h
            refine zw_ia hm_193 dX12_isReference_16 (zT_is (zT_zst hS m1) s_101) (zT_h (zT_zst hS m1) s_101) rfl hg ?_
            show ma_wp X (d - 1) (w - 22) 193 17 [(0, .inr (.inr (some 94))), (1, .inl v2), (2, .inl ix)] [.inl (m1 101 v2.toNatClampNeg)] (zst S m1) _
            refine zw_push hm_193 dX12_isReference_17 (v := .inl (16 : Int32)) rfl ?_
            refine zw_if2 hm_193 dX12_isReference_19 (t := 45) rfl zc2_ge ?_ ?_
            · intro hc
              rw [if_pos hc] at h
              refine zw_push hm_193 dX12_isReference_45 (v := .inl (0 : Int32)) rfl ?_
              refine zw_bret hm_193 dX12_isReference_46 (by decide) ?_
              show ma_wp X d w 244 64 [(4, .inl v2), (0, .inr (.inr (some 94))), (1, .inl ob), (2, .inl ix), (3, .inl va)] [.inl (0 : Int32), .inr (.inr (some 94))] (zst S m1) _
              refine zw_if0 hm_244 dX12_put_64 (t := 71) rfl zc0_eq (fun _ => ?_) (fun hc => absurd (by decide) hc)
              refine zw_push hm_244 dX12_put_71 (v := .inl (0 : Int32)) rfl ?_
              refine zw_cv hm_244 dX12_put_72 v_12_110_12 hm_167 [.inl (0 : Int32)] [] rfl (zT_rt (zT_zst hS m1) s_94 rfl) ⟨by omega, by omega⟩ rfl ?_
              show ma_wp X (d - 1) (w - 21) 167 0 [(0, .inr (.inr (some 94))), (1, .inl (0 : Int32))] [] (zst S m1) _
              refine zw_push hm_167 dX12_fails_0 (v := .inr (.inr (some 94))) rfl ?_
              refine zw_push hm_167 dX12_fails_1 (v := .inl (0 : Int32)) rfl ?_
              refine zw_pf hm_167 dX12_fails_2 (zT_is (zT_zst hS m1) s_94) (zT_t (zT_zst hS m1) s_94) p_12_1_12 zk_int ?_
              refine zw_push hm_167 dX12_fails_5 (v := .inl (0 : Int32)) rfl ?_
              refine zw_if0 hm_167 dX12_fails_6 (t := 13) rfl zc0_eq (fun _ => ?_) (fun hc => absurd (by decide) hc)
              refine zw_push hm_167 dX12_fails_13 (v := .inl (0 : Int32)) rfl ?_
              refine zw_bret hm_167 dX12_fails_14 (by decide) ?_
              show ma_wp X d w 244 75 [(4, .inl v2), (0, .inr (.inr (some 94))), (1, .inl ob), (2, .inl ix), (3, .inl va)] [.inl (0 : Int32)] (ma_put (zst S m1) 94 0 (.inl (0 : Int32))) _
              refine zw_if0 hm_244 dX12_put_75 (t := 80) rfl zc0_eq (fun _ => ?_) (fun hc => absurd (by decide) hc)
              refine zw_push hm_244 dX12_put_80 (v := .inr (.inr (some 94))) rfl ?_
              refine zw_gf hm_244 dX12_put_81 (v := .inr (.inr (some 108))) (zT_is (zT_pi (zT_zst hS m1)) s_94) (zT_t (zT_pi (zT_zst hS m1)) s_94) rfl f_12_56_12 (zT_f (zT_pi (zT_zst hS m1)) r_94_40) ?_
              refine zw_push hm_244 dX12_put_84 (v := .inl v2) rfl ?_
              refine zw_push hm_244 dX12_put_86 (v := .inl (60 : Int32)) rfl ?_
              refine zw_stk hm_244 dX12_put_88 (st₉ := [.inl (v2 * (60 : Int32)), .inr (.inr (some 108))]) rfl rfl ?_
              refine zw_push hm_244 dX12_put_89 (v := .inl ix) rfl ?_
              refine zw_stk hm_244 dX12_put_90 (st₉ := [.inl ((v2 * (60 : Int32)) + ix), .inr (.inr (some 108))]) rfl rfl ?_
              obtain ⟨hg, h⟩ := h
              refine zw_ia hm_244 dX12_put_91 (zT_is (zT_pi (zT_zst hS m1)) s_108) (zT_h (zT_pi (zT_zst hS m1)) s_108) rfl hg ?_
              show ma_wp X d w 244 92 [(4, .inl v2), (0, .inr (.inr (some 94))), (1, .inl ob), (2, .inl ix), (3, .inl va)] [.inl (m1 108 ((v2 * (60 : Int32)) + ix).toNatClampNeg)] (ma_put (zst S m1) 94 0 (.inl (0 : Int32))) _
              refine zw_sto hm_244 dX12_put_92 [(5, .inl (m1 108 ((v2 * (60 : Int32)) + ix).toNatClampNeg)), (4, .inl v2), (0, .inr (.inr (some 94))), (1, .inl ob), (2, .inl ix), (3, .inl va)] rfl rfl rfl ?_
              refine zw_push hm_244 dX12_put_94 (v := .inr (.inr (some 94))) rfl ?_
              refine zw_gf hm_244 dX12_put_95 (v := .inr (.inr (some 108))) (zT_is (zT_pi (zT_zst hS m1)) s_94) (zT_t (zT_pi (zT_zst hS m1)) s_94) rfl f_12_56_12 (zT_f (zT_pi (zT_zst hS m1)) r_94_40) ?_
              refine zw_push hm_244 dX12_put_98 (v := .inl v2) rfl ?_
              refine zw_push hm_244 dX12_put_100 (v := .inl (60 : Int32)) rfl ?_
              refine zw_stk hm_244 dX12_put_102 (st₉ := [.inl (v2 * (60 : Int32)), .inr (.inr (some 108))]) rfl rfl ?_
              refine zw_push hm_244 dX12_put_103 (v := .inl ix) rfl ?_
              refine zw_stk hm_244 dX12_put_104 (st₉ := [.inl ((v2 * (60 : Int32)) + ix), .inr (.inr (some 108))]) rfl rfl ?_
              refine zw_push hm_244 dX12_put_105 (v := .inl va) rfl ?_
              obtain ⟨hg, h⟩ := h
              refine zw_ias hm_244 dX12_put_106 (zT_is (zT_pi (zT_zst hS m1)) s_108) (zT_h (zT_pi (zT_zst hS m1)) s_108) rfl hg ?_
              refine zw_push hm_244 dX12_put_107 (v := .inl (m1 108 ((v2 * (60 : Int32)) + ix).toNatClampNeg)) rfl ?_
              exact zw_iret hm_244 dX12_put_109 (HQ _ _ h)
            · intro hc
              rw [if_neg hc] at h
              refine zw_push hm_193 dX12_isReference_22 (v := .inr (.inr (some 94))) rfl ?_
              refine zw_gf hm_193 dX12_isReference_23 (v := .inr (.inr (some 98))) (zT_is (zT_zst hS m1) s_94) (zT_t (zT_zst hS m1) s_94) rfl f_12_24_12 (zT_f (zT_zst hS m1) r_94_6) ?_
              refine zw_push hm_193 dX12_isReference_26 (v := .inr (.inr (some 94))) rfl ?_
              refine zw_gf hm_193 dX12_isReference_27 (v := .inr (.inr (some 101))) (zT_is (zT_zst hS m1) s_94) (zT_t (zT_zst hS m1) s_94) rfl f_12_34_12 (zT_f (zT_zst hS m1) r_94_33) ?_
              refine zw_push hm_193 dX12_isReference_30 (v := .inl v2) rfl ?_
              obtain ⟨hg, h⟩ := h
              refine zw_ia hm_193 dX12_isReference_31 (zT_is (zT_zst hS m1) s_101) (zT_h (zT_zst hS m1) s_101) rfl hg ?_
              show ma_wp X (d - 1) (w - 22) 193 32 [(0, .inr (.inr (some 94))), (1, .inl v2), (2, .inl ix)] [.inl (m1 101 v2.toNatClampNeg), .inr (.inr (some 98))] (zst S m1) _
              obtain ⟨hg, h⟩ := h
              refine zw_ia hm_193 dX12_isReference_32 (zT_is (zT_zst hS m1) s_98) (zT_h (zT_zst hS m1) s_98) rfl hg ?_
              show ma_wp X (d - 1) (w - 22) 193 33 [(0, .inr (.inr (some 94))), (1, .inl v2), (2, .inl ix)] [.inl (m1 98 (m1 101 v2.toNatClampNeg).toNatClampNeg)] (zst S m1) _
              refine zw_push hm_193 dX12_isReference_33 (v := .inl ix) rfl ?_
              refine zw_stk hm_193 dX12_isReference_34 (st₉ := [.inl ((m1 98 (m1 101 v2.toNatClampNeg).toNatClampNeg) >>> (ix &&& 31))]) rfl rfl ?_
              refine zw_push hm_193 dX12_isReference_35 (v := .inl (1 : Int32)) rfl ?_
              refine zw_stk hm_193 dX12_isReference_36 (st₉ := [.inl (((m1 98 (m1 101 v2.toNatClampNeg).toNatClampNeg) >>> (ix &&& 31)) &&& (1 : Int32))]) rfl rfl ?_
              refine zw_push hm_193 dX12_isReference_37 (v := .inl (1 : Int32)) rfl ?_
              refine zw_if2 hm_193 dX12_isReference_38 (t := 45) rfl zc2_ne ?_ ?_
              · intro hc
                rw [if_neg hc] at h
                refine zw_push hm_193 dX12_isReference_45 (v := .inl (0 : Int32)) rfl ?_
                refine zw_bret hm_193 dX12_isReference_46 (by decide) ?_
                show ma_wp X d w 244 64 [(4, .inl v2), (0, .inr (.inr (some 94))), (1, .inl ob), (2, .inl ix), (3, .inl va)] [.inl (0 : Int32), .inr (.inr (some 94))] (zst S m1) _
                refine zw_if0 hm_244 dX12_put_64 (t := 71) rfl zc0_eq (fun _ => ?_) (fun hc => absurd (by decide) hc)
                refine zw_push hm_244 dX12_put_71 (v := .inl (0 : Int32)) rfl ?_
                refine zw_cv hm_244 dX12_put_72 v_12_110_12 hm_167 [.inl (0 : Int32)] [] rfl (zT_rt (zT_zst hS m1) s_94 rfl) ⟨by omega, by omega⟩ rfl ?_
                show ma_wp X (d - 1) (w - 21) 167 0 [(0, .inr (.inr (some 94))), (1, .inl (0 : Int32))] [] (zst S m1) _
                refine zw_push hm_167 dX12_fails_0 (v := .inr (.inr (some 94))) rfl ?_
                refine zw_push hm_167 dX12_fails_1 (v := .inl (0 : Int32)) rfl ?_
                refine zw_pf hm_167 dX12_fails_2 (zT_is (zT_zst hS m1) s_94) (zT_t (zT_zst hS m1) s_94) p_12_1_12 zk_int ?_
                refine zw_push hm_167 dX12_fails_5 (v := .inl (0 : Int32)) rfl ?_
                refine zw_if0 hm_167 dX12_fails_6 (t := 13) rfl zc0_eq (fun _ => ?_) (fun hc => absurd (by decide) hc)
                refine zw_push hm_167 dX12_fails_13 (v := .inl (0 : Int32)) rfl ?_
                refine zw_bret hm_167 dX12_fails_14 (by decide) ?_
                show ma_wp X d w 244 75 [(4, .inl v2), (0, .inr (.inr (some 94))), (1, .inl ob), (2, .inl ix), (3, .inl va)] [.inl (0 : Int32)] (ma_put (zst S m1) 94 0 (.inl (0 : Int32))) _
                refine zw_if0 hm_244 dX12_put_75 (t := 80) rfl zc0_eq (fun _ => ?_) (fun hc => absurd (by decide) hc)
                refine zw_push hm_244 dX12_put_80 (v := .inr (.inr (some 94))) rfl ?_
                refine zw_gf hm_244 dX12_put_81 (v := .inr (.inr (some 108))) (zT_is (zT_pi (zT_zst hS m1)) s_94) (zT_t (zT_pi (zT_zst hS m1)) s_94) rfl f_12_56_12 (zT_f (zT_pi (zT_zst hS m1)) r_94_40) ?_
                refine zw_push hm_244 dX12_put_84 (v := .inl v2) rfl ?_
                refine zw_push hm_244 dX12_put_86 (v := .inl (60 : Int32)) rfl ?_
                refine zw_stk hm_244 dX12_put_88 (st₉ := [.inl (v2 * (60 : Int32)), .inr (.inr (some 108))]) rfl rfl ?_
                refine zw_push hm_244 dX12_put_89 (v := .inl ix) rfl ?_
                refine zw_stk hm_244 dX12_put_90 (st₉ := [.inl ((v2 * (60 : Int32)) + ix), .inr (.inr (some 108))]) rfl rfl ?_
                obtain ⟨hg, h⟩ := h
                refine zw_ia hm_244 dX12_put_91 (zT_is (zT_pi (zT_zst hS m1)) s_108) (zT_h (zT_pi (zT_zst hS m1)) s_108) rfl hg ?_
                show ma_wp X d w 244 92 [(4, .inl v2), (0, .inr (.inr (some 94))), (1, .inl ob), (2, .inl ix), (3, .inl va)] [.inl (m1 108 ((v2 * (60 : Int32)) + ix).toNatClampNeg)] (ma_put (zst S m1) 94 0 (.inl (0 : Int32))) _
                refine zw_sto hm_244 dX12_put_92 [(5, .inl (m1 108 ((v2 * (60 : Int32)) + ix).toNatClampNeg)), (4, .inl v2), (0, .inr (.inr (some 94))), (1, .inl ob), (2, .inl ix), (3, .inl va)] rfl rfl rfl ?_
                refine zw_push hm_244 dX12_put_94 (v := .inr (.inr (some 94))) rfl ?_
                refine zw_gf hm_244 dX12_put_95 (v := .inr (.inr (some 108))) (zT_is (zT_pi (zT_zst hS m1)) s_94) (zT_t (zT_pi (zT_zst hS m1)) s_94) rfl f_12_56_12 (zT_f (zT_pi (zT_zst hS m1)) r_94_40) ?_
                refine zw_push hm_244 dX12_put_98 (v := .inl v2) rfl ?_
                refine zw_push hm_244 dX12_put_100 (v := .inl (60 : Int32)) rfl ?_
                refine zw_stk hm_244 dX12_put_102 (st₉ := [.inl (v2 * (60 : Int32)), .inr (.inr (some 108))]) rfl rfl ?_
                refine zw_push hm_244 dX12_put_103 (v := .inl ix) rfl ?_
                refine zw_stk hm_244 dX12_put_104 (st₉ := [.inl ((v2 * (60 : Int32)) + ix), .inr (.inr (some 108))]) rfl rfl ?_
                refine zw_push hm_244 dX12_put_105 (v := .inl va) rfl ?_
                obtain ⟨hg, h⟩ := h
                refine zw_ias hm_244 dX12_put_106 (zT_is (zT_pi (zT_zst hS m1)) s_108) (zT_h (zT_pi (zT_zst hS m1)) s_108) rfl hg ?_
                refine zw_push hm_244 dX12_put_107 (v := .inl (m1 108 ((v2 * (60 : Int32)) + ix).toNatClampNeg)) rfl ?_
                exact zw_iret hm_244 dX12_put_109 (HQ _ _ h)
              · intro hc
                rw [if_pos (Classical.not_not.mp hc)] at h
                refine zw_push hm_193 dX12_isReference_41 (v := .inl (1 : Int32)) rfl ?_
                refine zw_goto hm_193 dX12_isReference_42 (t := 46) rfl ?_
                refine zw_bret hm_193 dX12_isReference_46 (by decide) ?_
                show ma_wp X d w 244 64 [(4, .inl v2), (0, .inr (.inr (some 94))), (1, .inl ob), (2, .inl ix), (3, .inl va)] [.inl (1 : Int32), .inr (.inr (some 94))] (zst S m1) _
                refine zw_if0 hm_244 dX12_put_64 (t := 71) rfl zc0_eq (fun hc => absurd hc (by decide)) (fun _ => ?_)
                refine zw_push hm_244 dX12_put_67 (v := .inl (4 : Int32)) rfl ?_
                refine zw_goto hm_244 dX12_put_68 (t := 72) rfl ?_
                refine zw_cv hm_244 dX12_put_72 v_12_110_12 hm_167 [.inl (4 : Int32)] [] rfl (zT_rt (zT_zst hS m1) s_94 rfl) ⟨by omega, by omega⟩ rfl ?_
                show ma_wp X (d - 1) (w - 21) 167 0 [(0, .inr (.inr (some 94))), (1, .inl (4 : Int32))] [] (zst S m1) _
                refine zw_push hm_167 dX12_fails_0 (v := .inr (.inr (some 94))) rfl ?_
                refine zw_push hm_167 dX12_fails_1 (v := .inl (4 : Int32)) rfl ?_
                refine zw_pf hm_167 dX12_fails_2 (zT_is (zT_zst hS m1) s_94) (zT_t (zT_zst hS m1) s_94) p_12_1_12 zk_int ?_
                refine zw_push hm_167 dX12_fails_5 (v := .inl (4 : Int32)) rfl ?_
                refine zw_if0 hm_167 dX12_fails_6 (t := 13) rfl zc0_eq (fun hc => absurd hc (by decide)) (fun _ => ?_)
                refine zw_push hm_167 dX12_fails_9 (v := .inl (1 : Int32)) rfl ?_
                refine zw_goto hm_167 dX12_fails_10 (t := 14) rfl ?_
                refine zw_bret hm_167 dX12_fails_14 (by decide) ?_
                show ma_wp X d w 244 75 [(4, .inl v2), (0, .inr (.inr (some 94))), (1, .inl ob), (2, .inl ix), (3, .inl va)] [.inl (1 : Int32)] (ma_put (zst S m1) 94 0 (.inl (4 : Int32))) _
                refine zw_if0 hm_244 dX12_put_75 (t := 80) rfl zc0_eq (fun hc => absurd hc (by decide)) (fun _ => ?_)
                refine zw_push hm_244 dX12_put_78 (v := .inl (0 : Int32)) rfl ?_
                exact zw_iret hm_244 dX12_put_79 (HQ _ _ h)
        · intro hc
          rw [if_neg hc] at h
          refine zw_push hm_244 dX12_put_53 (v := .inl (3 : Int32)) rfl ?_
          refine zw_goto hm_244 dX12_put_54 (t := 72) rfl ?_
          refine zw_cv hm_244 dX12_put_72 v_12_110_12 hm_167 [.inl (3 : Int32)] [] rfl (zT_rt (zT_zst hS m1) s_94 rfl) ⟨by omega, by omega⟩ rfl ?_
          show ma_wp X (d - 1) (w - 21) 167 0 [(0, .inr (.inr (some 94))), (1, .inl (3 : Int32))] [] (zst S m1) _
          refine zw_push hm_167 dX12_fails_0 (v := .inr (.inr (some 94))) rfl ?_
          refine zw_push hm_167 dX12_fails_1 (v := .inl (3 : Int32)) rfl ?_
          refine zw_pf hm_167 dX12_fails_2 (zT_is (zT_zst hS m1) s_94) (zT_t (zT_zst hS m1) s_94) p_12_1_12 zk_int ?_
          refine zw_push hm_167 dX12_fails_5 (v := .inl (3 : Int32)) rfl ?_
          refine zw_if0 hm_167 dX12_fails_6 (t := 13) rfl zc0_eq (fun hc => absurd hc (by decide)) (fun _ => ?_)
          refine zw_push hm_167 dX12_fails_9 (v := .inl (1 : Int32)) rfl ?_
          refine zw_goto hm_167 dX12_fails_10 (t := 14) rfl ?_
          refine zw_bret hm_167 dX12_fails_14 (by decide) ?_
          show ma_wp X d w 244 75 [(4, .inl v2), (0, .inr (.inr (some 94))), (1, .inl ob), (2, .inl ix), (3, .inl va)] [.inl (1 : Int32)] (ma_put (zst S m1) 94 0 (.inl (3 : Int32))) _
          refine zw_if0 hm_244 dX12_put_75 (t := 80) rfl zc0_eq (fun hc => absurd hc (by decide)) (fun _ => ?_)
          refine zw_push hm_244 dX12_put_78 (v := .inl (0 : Int32)) rfl ?_
          exact zw_iret hm_244 dX12_put_79 (HQ _ _ h)
    · intro hc
      rw [if_neg hc] at h
      refine zw_push hm_244 dX12_put_34 (v := .inl (2 : Int32)) rfl ?_
      refine zw_goto hm_244 dX12_put_35 (t := 72) rfl ?_
      refine zw_cv hm_244 dX12_put_72 v_12_110_12 hm_167 [.inl (2 : Int32)] [] rfl (zT_rt (zT_zst hS m1) s_94 rfl) ⟨by omega, by omega⟩ rfl ?_
      show ma_wp X (d - 1) (w - 21) 167 0 [(0, .inr (.inr (some 94))), (1, .inl (2 : Int32))] [] (zst S m1) _
      refine zw_push hm_167 dX12_fails_0 (v := .inr (.inr (some 94))) rfl ?_
      refine zw_push hm_167 dX12_fails_1 (v := .inl (2 : Int32)) rfl ?_
      refine zw_pf hm_167 dX12_fails_2 (zT_is (zT_zst hS m1) s_94) (zT_t (zT_zst hS m1) s_94) p_12_1_12 zk_int ?_
      refine zw_push hm_167 dX12_fails_5 (v := .inl (2 : Int32)) rfl ?_
      refine zw_if0 hm_167 dX12_fails_6 (t := 13) rfl zc0_eq (fun hc => absurd hc (by decide)) (fun _ => ?_)
      refine zw_push hm_167 dX12_fails_9 (v := .inl (1 : Int32)) rfl ?_
      refine zw_goto hm_167 dX12_fails_10 (t := 14) rfl ?_
      refine zw_bret hm_167 dX12_fails_14 (by decide) ?_
      show ma_wp X d w 244 75 [(4, .inl v2), (0, .inr (.inr (some 94))), (1, .inl ob), (2, .inl ix), (3, .inl va)] [.inl (1 : Int32)] (ma_put (zst S m1) 94 0 (.inl (2 : Int32))) _
      refine zw_if0 hm_244 dX12_put_75 (t := 80) rfl zc0_eq (fun hc => absurd hc (by decide)) (fun _ => ?_)
      refine zw_push hm_244 dX12_put_78 (v := .inl (0 : Int32)) rfl ?_
      exact zw_iret hm_244 dX12_put_79 (HQ _ _ h)
  · intro hc
    rw [if_pos (Classical.not_not.mp hc)] at h
    refine zw_push hm_244 dX12_put_8 (v := .inl (1 : Int32)) rfl ?_
    refine zw_goto hm_244 dX12_put_9 (t := 13) rfl ?_
    refine zw_cv hm_244 dX12_put_13 v_12_110_12 hm_167 [.inl (1 : Int32)] [] rfl (zT_rt hS s_94 rfl) ⟨by omega, by omega⟩ rfl ?_
    show ma_wp X (d - 1) (w - 21) 167 0 [(0, .inr (.inr (some 94))), (1, .inl (1 : Int32))] [] S _
    refine zw_push hm_167 dX12_fails_0 (v := .inr (.inr (some 94))) rfl ?_
    refine zw_push hm_167 dX12_fails_1 (v := .inl (1 : Int32)) rfl ?_
    refine zw_pf hm_167 dX12_fails_2 (zT_is hS s_94) (zT_t hS s_94) p_12_1_12 zk_int ?_
    refine zw_push hm_167 dX12_fails_5 (v := .inl (1 : Int32)) rfl ?_
    refine zw_if0 hm_167 dX12_fails_6 (t := 13) rfl zc0_eq (fun hc => absurd hc (by decide)) (fun _ => ?_)
    refine zw_push hm_167 dX12_fails_9 (v := .inl (1 : Int32)) rfl ?_
    refine zw_goto hm_167 dX12_fails_10 (t := 14) rfl ?_
    refine zw_bret hm_167 dX12_fails_14 (by decide) ?_
    show ma_wp X d w 244 16 [(0, .inr (.inr (some 94))), (1, .inl ob), (2, .inl ix), (3, .inl va)] [.inl (1 : Int32)] (ma_put S 94 0 (.inl (1 : Int32))) _
    refine zw_if0 hm_244 dX12_put_16 (t := 21) rfl zc0_eq (fun hc => absurd hc (by decide)) (fun _ => ?_)
    refine zw_push hm_244 dX12_put_19 (v := .inl (0 : Int32)) rfl ?_
    exact zw_iret hm_244 dX12_put_20 (HQ _ _ h)
theorem sp_244 {X : Nat × (Nat → Int32)} {P : Option ma_V → (Nat → Nat → Int32) → Prop} {T : Nat} {m : Nat → Nat → Int32} (ob : Int32) (ix : Int32) (va : Int32) (hV : zV m) (r_W : zW (m 94 7) (m 98) (m 101) (m 102) (m 108)) (r_GW : zGW T (m 94 55) (m 109)) (r_GU : zGU T (m 94 46) (m 99)) (r_OW : zOw (m 99) (m 103) (m 111)) (r_DX : zDX (m 94 10) (m 99) (m 112) (m 113) (m 114) (m 94 55) (m 98) (m 101) (m 102) (m 108)) (r_GG : zGG (m 94 58) (m 94 56) (m 94 57) (m 106)) (r_HA : zHA (m 94 10) (m 94 11) (m 94 13) (m 94 14) (m 94 16) (m 94 61) (m 94 59) (m 94 60) (m 99) (m 102) (m 103) (m 111) (m 117) (m 98) (m 101) (m 108)) (r_RGc : zRG (m 94 10) (m 94 18) (m 94 64) (m 94 63) (m 99) (m 103) (m 102) (m 116)) (hpre8 : (m 94 58).toInt = 0 ∨ (m 94 10).toInt = 5) (KZ : ∀ v m₉, zV (zov wr_244 m m₉) → (zW (m 94 7) (m 98) (m 101) (m 102) (m₉ 108)) → (zGW T (m 94 55) (m 109)) → (zGU T (m 94 46) (m 99)) → (zOw (m 99) (m 103) (m 111)) → (zDX (m 94 10) (m 99) (m 112) (m 113) (m 114) (m 94 55) (m 98) (m 101) (m 102) (m₉ 108)) → (zGG (m 94 58) (m 94 56) (m 94 57) (m 106)) → (zHA (m 94 10) (m 94 11) (m 94 13) (m 94 14) (m 94 16) (m 94 61) (m 94 59) (m 94 60) (m 99) (m 102) (m 103) (m 111) (m 117) (m 98) (m 101) (m₉ 108)) → (zRG (m 94 10) (m 94 18) (m 94 64) (m 94 63) (m 99) (m 103) (m 102) (m 116)) → ((m 94 58).toInt = 0 ∨ (m 94 10).toInt = 5) → P (some (.inl v)) (zov wr_244 m m₉)) : zm X 5 109 244 0 [(0, .inr (.inr (some 94))), (1, .inl ob), (2, .inl ix), (3, .inl va)] m P := by
  have K : ∀ v m₉, zF wr_244 m m₉ → zV m₉ → (zW (m₉ 94 7) (m₉ 98) (m₉ 101) (m₉ 102) (m₉ 108)) → (zGW T (m₉ 94 55) (m₉ 109)) → (zGU T (m₉ 94 46) (m₉ 99)) → (zOw (m₉ 99) (m₉ 103) (m₉ 111)) → (zDX (m₉ 94 10) (m₉ 99) (m₉ 112) (m₉ 113) (m₉ 114) (m₉ 94 55) (m₉ 98) (m₉ 101) (m₉ 102) (m₉ 108)) → (zGG (m₉ 94 58) (m₉ 94 56) (m₉ 94 57) (m₉ 106)) → (zHA (m₉ 94 10) (m₉ 94 11) (m₉ 94 13) (m₉ 94 14) (m₉ 94 16) (m₉ 94 61) (m₉ 94 59) (m₉ 94 60) (m₉ 99) (m₉ 102) (m₉ 103) (m₉ 111) (m₉ 117) (m₉ 98) (m₉ 101) (m₉ 108)) → (zRG (m₉ 94 10) (m₉ 94 18) (m₉ 94 64) (m₉ 94 63) (m₉ 99) (m₉ 103) (m₉ 102) (m₉ 116)) → ((m₉ 94 58).toInt = 0 ∨ (m₉ 94 10).toInt = 5) → P (some (.inl v)) m₉ := by
    intro v m₉ hf z q0 q1 q2 q3 q4 q5 q6 q7 q8
    have e := zov_eq hf
    rw [e] at z ⊢
    try rw [e] at q0
    try rw [e] at q1
    try rw [e] at q2
    try rw [e] at q3
    try rw [e] at q4
    try rw [e] at q5
    try rw [e] at q6
    try rw [e] at q7
    try rw [e] at q8
    exact KZ v m₉ z q0 q1 q2 q3 q4 q5 q6 q7 q8
  refine g_244_0 ob ix va ?_
  have f1 : 0 ≤ (m 94 58).toInt ∧ (m 94 58).toInt ≤ 1 := rs_94_58 (m := m) hV
  have f2 : 0 ≤ (m 94 10).toInt ∧ (m 94 10).toInt ≤ 6 := rs_94_10 (m := m) hV
  have f3 : 0 ≤ (m 94 8).toInt ∧ (m 94 8).toInt ≤ 1 := rs_94_8 (m := m) hV
  have li4 : (0 : Int32).toInt = 0 := rfl
  refine zd (fun (h5 : (m 94 8) = (0 : Int32)) => ?_) (fun (h5 : ¬ (m 94 8) = (0 : Int32)) => ?_)
  · skip
    have g6 := i_eq h5
    have hV7 : zV (ma_u m 94 0 (1 : Int32)) := uf_94_0 hV
    exact K ((0 : Int32)) _ (zF_u zF_rfl rfl) hV7 r_W r_GW r_GU r_OW r_DX r_GG r_HA r_RGc (show (m 94 58).toInt = 0 ∨ (m 94 10).toInt = 5 from by omega)
  · skip
    have g8 := i_ne h5
    have b9 := i_bd ob
    have hV10 : zV (ma_u m 94 0 (0 : Int32)) := uf_94_0 hV
    refine sp_245 (ob) hV10 r_W r_DX (fun v2 m1 hV_m1 p0_m1 p1_m1 => zmi_n ?_)
    have p0_m1 : -1 ≤ v2.toInt ∧ v2.toInt ≤ 3099 := p0_m1
    have p1_m1 : v2.toInt < 0 ∨ (m 99) v2.toNatClampNeg ≠ 0 := p1_m1
    have b11 := i_bd v2
    refine zd (fun (h12 : (0 : Int32) ≤ v2) => ?_) (fun (h12 : ¬ (0 : Int32) ≤ v2) => ?_)
    · skip
      have g13 := i_le h12
      have b14 := i_bd ix
      refine zd (fun (h15 : ix < (0 : Int32)) => ?_) (fun (h15 : ¬ ix < (0 : Int32)) => ?_)
      · skip
        have g16 := i_lt h15
        have hV17 : zV (ma_u (zov wr_245 (ma_u m 94 0 (0 : Int32)) m1) 94 0 (3 : Int32)) := uf_94_0 hV_m1
        exact K ((0 : Int32)) _ (zF_u (zF_zov (zF_u zF_rfl rfl) ws_245_244) rfl) hV17 r_W r_GW r_GU r_OW r_DX r_GG r_HA r_RGc (show (m 94 58).toInt = 0 ∨ (m 94 10).toInt = 5 from by omega)
      · skip
        have g18 := i_nlt h15
        have hg19 : (0 ≤ v2 ∧ v2.toNatClampNeg < 3100) := i_ix (by omega) (by omega)
        refine ⟨hg19, ?_⟩
        first | have f20 : 0 ≤ (m 102 v2.toNatClampNeg).toInt ∧ (m 102 v2.toNatClampNeg).toInt ≤ 60 := ra_102 (m := m) hV (k := v2.toNatClampNeg) (i_ix (n := 3100) (by omega) (by omega)).2 | have b21 := i_bd (m 102 v2.toNatClampNeg)
        refine zd (fun (h22 : ix < (m 102 v2.toNatClampNeg)) => ?_) (fun (h22 : ¬ ix < (m 102 v2.toNatClampNeg)) => ?_)
        · skip
          have g23 := i_lt h22
          have hg24 : (0 ≤ v2 ∧ v2.toNatClampNeg < 3100) := i_ix (by omega) (by omega)
          refine ⟨hg24, ?_⟩
          first | have f25 : 0 ≤ (m 101 v2.toNatClampNeg).toInt ∧ (m 101 v2.toNatClampNeg).toInt ≤ 17 := ra_101 (m := m) hV (k := v2.toNatClampNeg) (i_ix (n := 3100) (by omega) (by omega)).2 | have b26 := i_bd (m 101 v2.toNatClampNeg)
          have li27 : (16 : Int32).toInt = 16 := rfl
          refine zd (fun (h28 : (m 101 v2.toNatClampNeg) = (16 : Int32)) => ?_) (fun (h28 : ¬ (m 101 v2.toNatClampNeg) = (16 : Int32)) => ?_)
          · skip
            have g29 := i_eq h28
            have hV30 : zV (ma_u (zov wr_245 (ma_u m 94 0 (0 : Int32)) m1) 94 0 (4 : Int32)) := uf_94_0 hV_m1
            exact K ((0 : Int32)) _ (zF_u (zF_zov (zF_u zF_rfl rfl) ws_245_244) rfl) hV30 r_W r_GW r_GU r_OW r_DX r_GG r_HA r_RGc (show (m 94 58).toInt = 0 ∨ (m 94 10).toInt = 5 from by omega)
          · skip
            have g31 := i_ne h28
            have hg32 : (0 ≤ v2 ∧ v2.toNatClampNeg < 3100) := i_ix (by omega) (by omega)
            refine ⟨hg32, ?_⟩
            refine zd (fun (h33 : (16 : Int32) ≤ (m 101 v2.toNatClampNeg)) => ?_) (fun (h33 : ¬ (16 : Int32) ≤ (m 101 v2.toNatClampNeg)) => ?_)
            · skip
              have g34 := i_le h33
              have li35 : (60 : Int32).toInt = 60 := rfl
              first | have e36 : (v2 * (60 : Int32)).toInt = v2.toInt * 60 := i_mulk rfl (by omega) (by omega) | have b37 := i_bd (v2 * (60 : Int32))
              first | have e38 : ((v2 * (60 : Int32)) + ix).toInt = (v2 * (60 : Int32)).toInt + ix.toInt := i_add (by omega) (by omega) | have b39 := i_bd ((v2 * (60 : Int32)) + ix)
              have hg40 : (0 ≤ ((v2 * (60 : Int32)) + ix) ∧ ((v2 * (60 : Int32)) + ix).toNatClampNeg < 186000) := i_ix (by omega) (by omega)
              refine ⟨hg40, ?_⟩
              have hg41 : (0 ≤ ((v2 * (60 : Int32)) + ix) ∧ ((v2 * (60 : Int32)) + ix).toNatClampNeg < 186000) := i_ix (by omega) (by omega)
              refine ⟨hg41, ?_⟩
              have hV42 : zV (ma_u (zov wr_245 (ma_u m 94 0 (0 : Int32)) m1) 94 0 (0 : Int32)) := uf_94_0 hV_m1
              have hV43 : zV (ma_u (ma_u (zov wr_245 (ma_u m 94 0 (0 : Int32)) m1) 94 0 (0 : Int32)) 108 ((v2 * (60 : Int32)) + ix).toNatClampNeg va) := ua_108 hV42
              have b44 := i_bd (m 108 ((v2 * (60 : Int32)) + ix).toNatClampNeg)
              exact K ((m 108 ((v2 * (60 : Int32)) + ix).toNatClampNeg)) _ (zF_u (zF_u (zF_zov (zF_u zF_rfl rfl) ws_245_244) rfl) rfl) hV43 (show zW (m 94 7) (m 98) (m 101) (m 102) ((ma_u m 108 ((v2 * (60 : Int32)) + ix).toNatClampNeg va) 108) from by first | (exact W_same r_W (by omega) (fun s2 i2 hs2 hi2 => zrf_put (by omega) (by omega) (by omega) (by omega) (by assumption) (fun z => by first | exact absurd (Int32.lt_iff_toInt_lt.mp z.1) (by omega) | exact absurd z.2 (by assumption)) s2 i2 (by have := (ra_102 hV hs2).2; omega))) | (exfalso; omega; done) | (exfalso; contradiction; done)) r_GW r_GU r_OW (show zDX (m 94 10) (m 99) (m 112) (m 113) (m 114) (m 94 55) (m 98) (m 101) (m 102) ((ma_u m 108 ((v2 * (60 : Int32)) + ix).toNatClampNeg va) 108) from by first | (exact DX_same r_DX (fun s2 i2 hs2 hi2 => zrf_put (by omega) (by omega) (by omega) (by omega) (by assumption) (fun z => by first | exact absurd (Int32.lt_iff_toInt_lt.mp z.1) (by omega) | exact absurd z.2 (by assumption)) s2 i2 (by have := (ra_102 hV hs2).2; omega))) | (exfalso; omega; done) | (exfalso; contradiction; done)) r_GG (show zHA (m 94 10) (m 94 11) (m 94 13) (m 94 14) (m 94 16) (m 94 61) (m 94 59) (m 94 60) (m 99) (m 102) (m 103) (m 111) (m 117) (m 98) (m 101) ((ma_u m 108 ((v2 * (60 : Int32)) + ix).toNatClampNeg va) 108) from by first | (exact HA_same r_HA (fun s2 i2 hs2 hi2 => zrf_put (by omega) (by omega) (by omega) (by omega) (by assumption) (fun z => by first | exact absurd (Int32.lt_iff_toInt_lt.mp z.1) (by omega) | exact absurd z.2 (by assumption)) s2 i2 (by have := (ra_102 hV hs2).2; omega))) | (exfalso; omega; done) | (exfalso; contradiction; done)) r_RGc (show (m 94 58).toInt = 0 ∨ (m 94 10).toInt = 5 from by omega)
            · skip
              have g45 := i_nle h33
              have hg46 : (0 ≤ v2 ∧ v2.toNatClampNeg < 3100) := i_ix (by omega) (by omega)
              refine ⟨hg46, ?_⟩
              have hg47 : (0 ≤ (m 101 v2.toNatClampNeg) ∧ (m 101 v2.toNatClampNeg).toNatClampNeg < 16) := i_ix (by omega) (by omega)
              refine ⟨hg47, ?_⟩
              have b48 := i_bd (((m 98 (m 101 v2.toNatClampNeg).toNatClampNeg) >>> (ix &&& 31)) &&& (1 : Int32))
              have li49 : (1 : Int32).toInt = 1 := rfl
              refine zd (fun (h50 : (((m 98 (m 101 v2.toNatClampNeg).toNatClampNeg) >>> (ix &&& 31)) &&& (1 : Int32)) = (1 : Int32)) => ?_) (fun (h50 : ¬ (((m 98 (m 101 v2.toNatClampNeg).toNatClampNeg) >>> (ix &&& 31)) &&& (1 : Int32)) = (1 : Int32)) => ?_)
              · skip
                have g51 := i_eq h50
                have hV52 : zV (ma_u (zov wr_245 (ma_u m 94 0 (0 : Int32)) m1) 94 0 (4 : Int32)) := uf_94_0 hV_m1
                exact K ((0 : Int32)) _ (zF_u (zF_zov (zF_u zF_rfl rfl) ws_245_244) rfl) hV52 r_W r_GW r_GU r_OW r_DX r_GG r_HA r_RGc (show (m 94 58).toInt = 0 ∨ (m 94 10).toInt = 5 from by omega)
              · skip
                have g53 := i_ne h50
                have li54 : (60 : Int32).toInt = 60 := rfl
                first | have e55 : (v2 * (60 : Int32)).toInt = v2.toInt * 60 := i_mulk rfl (by omega) (by omega) | have b56 := i_bd (v2 * (60 : Int32))
                first | have e57 : ((v2 * (60 : Int32)) + ix).toInt = (v2 * (60 : Int32)).toInt + ix.toInt := i_add (by omega) (by omega) | have b58 := i_bd ((v2 * (60 : Int32)) + ix)
                have hg59 : (0 ≤ ((v2 * (60 : Int32)) + ix) ∧ ((v2 * (60 : Int32)) + ix).toNatClampNeg < 186000) := i_ix (by omega) (by omega)
                refine ⟨hg59, ?_⟩
                have hg60 : (0 ≤ ((v2 * (60 : Int32)) + ix) ∧ ((v2 * (60 : Int32)) + ix).toNatClampNeg < 186000) := i_ix (by omega) (by omega)
                refine ⟨hg60, ?_⟩
                have hV61 : zV (ma_u (zov wr_245 (ma_u m 94 0 (0 : Int32)) m1) 94 0 (0 : Int32)) := uf_94_0 hV_m1
                have hV62 : zV (ma_u (ma_u (zov wr_245 (ma_u m 94 0 (0 : Int32)) m1) 94 0 (0 : Int32)) 108 ((v2 * (60 : Int32)) + ix).toNatClampNeg va) := ua_108 hV61
                have b63 := i_bd (m 108 ((v2 * (60 : Int32)) + ix).toNatClampNeg)
                exact K ((m 108 ((v2 * (60 : Int32)) + ix).toNatClampNeg)) _ (zF_u (zF_u (zF_zov (zF_u zF_rfl rfl) ws_245_244) rfl) rfl) hV62 (show zW (m 94 7) (m 98) (m 101) (m 102) ((ma_u m 108 ((v2 * (60 : Int32)) + ix).toNatClampNeg va) 108) from by first | (exact W_same r_W (by omega) (fun s2 i2 hs2 hi2 => zrf_put (by omega) (by omega) (by omega) (by omega) (by assumption) (fun z => by first | exact absurd (Int32.lt_iff_toInt_lt.mp z.1) (by omega) | exact absurd z.2 (by assumption)) s2 i2 (by have := (ra_102 hV hs2).2; omega))) | (exfalso; omega; done) | (exfalso; contradiction; done)) r_GW r_GU r_OW (show zDX (m 94 10) (m 99) (m 112) (m 113) (m 114) (m 94 55) (m 98) (m 101) (m 102) ((ma_u m 108 ((v2 * (60 : Int32)) + ix).toNatClampNeg va) 108) from by first | (exact DX_same r_DX (fun s2 i2 hs2 hi2 => zrf_put (by omega) (by omega) (by omega) (by omega) (by assumption) (fun z => by first | exact absurd (Int32.lt_iff_toInt_lt.mp z.1) (by omega) | exact absurd z.2 (by assumption)) s2 i2 (by have := (ra_102 hV hs2).2; omega))) | (exfalso; omega; done) | (exfalso; contradiction; done)) r_GG (show zHA (m 94 10) (m 94 11) (m 94 13) (m 94 14) (m 94 16) (m 94 61) (m 94 59) (m 94 60) (m 99) (m 102) (m 103) (m 111) (m 117) (m 98) (m 101) ((ma_u m 108 ((v2 * (60 : Int32)) + ix).toNatClampNeg va) 108) from by first | (exact HA_same r_HA (fun s2 i2 hs2 hi2 => zrf_put (by omega) (by omega) (by omega) (by omega) (by assumption) (fun z => by first | exact absurd (Int32.lt_iff_toInt_lt.mp z.1) (by omega) | exact absurd z.2 (by assumption)) s2 i2 (by have := (ra_102 hV hs2).2; omega))) | (exfalso; omega; done) | (exfalso; contradiction; done)) r_RGc (show (m 94 58).toInt = 0 ∨ (m 94 10).toInt = 5 from by omega)
        · skip
          have g64 := i_nlt h22
          have hV65 : zV (ma_u (zov wr_245 (ma_u m 94 0 (0 : Int32)) m1) 94 0 (3 : Int32)) := uf_94_0 hV_m1
          exact K ((0 : Int32)) _ (zF_u (zF_zov (zF_u zF_rfl rfl) ws_245_244) rfl) hV65 r_W r_GW r_GU r_OW r_DX r_GG r_HA r_RGc (show (m 94 58).toInt = 0 ∨ (m 94 10).toInt = 5 from by omega)
    · skip
      have g66 := i_nle h12
      have hV67 : zV (ma_u (zov wr_245 (ma_u m 94 0 (0 : Int32)) m1) 94 0 (2 : Int32)) := uf_94_0 hV_m1
      exact K ((0 : Int32)) _ (zF_u (zF_zov (zF_u zF_rfl rfl) ws_245_244) rfl) hV67 r_W r_GW r_GU r_OW r_DX r_GG r_HA r_RGc (show (m 94 58).toInt = 0 ∨ (m 94 10).toInt = 5 from by omega)

