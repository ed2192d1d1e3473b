/-! from 94.458 -/
/-! the reference (written by wip/tools/gen94m.py) -/
set_option maxRecDepth 100000 in
theorem hm_259 : ma_md 259 = some (12, yX12_block, cX12_block, 6, (some (FieldType.int))) := rfl
theorem dX12_block_0 : decode cX12_block 0 = .ok (.aload_n 0, 1) := by decide +kernel
theorem dX12_block_23 : decode cX12_block 23 = .ok (.iconst 1, 1) := by decide +kernel
theorem dX12_block_24 : decode cX12_block 24 = .ok (.goto 4, 3) := by decide +kernel
theorem dX12_block_28 : decode cX12_block 28 = .ok (.istore_n 3, 1) := by decide +kernel
theorem dX12_block_29 : decode cX12_block 29 = .ok (.aload_n 0, 1) := by decide +kernel
theorem dX12_block_30 : decode cX12_block 30 = .ok (.iload_n 2, 1) := by decide +kernel
theorem dX12_block_39 : decode cX12_block 39 = .ok (.iconst 1, 1) := by decide +kernel
theorem dX12_block_40 : decode cX12_block 40 = .ok (.goto 23, 3) := by decide +kernel
theorem dX12_block_63 : decode cX12_block 63 = .ok (.invokevirtual 110, 3) := by decide +kernel
theorem dX12_block_66 : decode cX12_block 66 = .ok (.ifCond .eq 5, 3) := by decide +kernel
theorem dX12_block_69 : decode cX12_block 69 = .ok (.iconst 0, 1) := by decide +kernel
theorem dX12_block_70 : decode cX12_block 70 = .ok (.ireturn, 1) := by decide +kernel
theorem dX12_block_34 : decode cX12_block 34 = .ok (.iload_n 2, 1) := by decide +kernel
theorem dX12_block_35 : decode cX12_block 35 = .ok (.iconst 1, 1) := by decide +kernel
theorem dX12_block_43 : decode cX12_block 43 = .ok (.aload_n 0, 1) := by decide +kernel
theorem dX12_block_54 : decode cX12_block 54 = .ok (.iload_n 3, 1) := by decide +kernel
theorem dX12_block_55 : decode cX12_block 55 = .ok (.ifCond .ne 7, 3) := by decide +kernel
theorem dX12_block_62 : decode cX12_block 62 = .ok (.iconst 0, 1) := by decide +kernel
theorem dX12_block_71 : decode cX12_block 71 = .ok (.aload_n 0, 1) := by decide +kernel
theorem dX12_block_72 : decode cX12_block 72 = .ok (.iconst 0, 1) := by decide +kernel
theorem dX12_block_73 : decode cX12_block 73 = .ok (.aload_n 0, 1) := by decide +kernel
theorem dX12_block_77 : decode cX12_block 77 = .ok (.invokevirtual 423, 3) := by decide +kernel
theorem dX12_block_80 : decode cX12_block 80 = .ok (.istore 4, 2) := by decide +kernel
theorem dX12_block_82 : decode cX12_block 82 = .ok (.iconst 0, 1) := by decide +kernel
theorem dX12_block_83 : decode cX12_block 83 = .ok (.istore 5, 2) := by decide +kernel
theorem dX12_block_74 : decode cX12_block 74 = .ok (.getfield 202, 3) := by decide +kernel
theorem dX12_block_50 : decode cX12_block 50 = .ok (.iconst 2, 1) := by decide +kernel
theorem dX12_block_51 : decode cX12_block 51 = .ok (.goto 12, 3) := by decide +kernel
theorem dX12_block_47 : decode cX12_block 47 = .ok (.ifCond .ne 7, 3) := by decide +kernel
theorem dX12_block_44 : decode cX12_block 44 = .ok (.getfield 237, 3) := by decide +kernel
theorem dX12_block_36 : decode cX12_block 36 = .ok (.if_icmp .le 7, 3) := by decide +kernel
theorem dX12_block_31 : decode cX12_block 31 = .ok (.ifCond .lt 8, 3) := by decide +kernel
theorem dX12_block_7 : decode cX12_block 7 = .ok (.aload_n 0, 1) := by decide +kernel
theorem dX12_block_11 : decode cX12_block 11 = .ok (.iconst 4, 1) := by decide +kernel
theorem dX12_block_15 : decode cX12_block 15 = .ok (.aload_n 0, 1) := by decide +kernel
theorem dX12_block_19 : decode cX12_block 19 = .ok (.iconst 5, 1) := by decide +kernel
theorem dX12_block_27 : decode cX12_block 27 = .ok (.iconst 0, 1) := by decide +kernel
theorem dX12_block_58 : decode cX12_block 58 = .ok (.iconst 3, 1) := by decide +kernel
theorem dX12_block_59 : decode cX12_block 59 = .ok (.goto 4, 3) := by decide +kernel
theorem dX12_block_20 : decode cX12_block 20 = .ok (.if_icmp .ne 7, 3) := by decide +kernel
theorem dX12_block_16 : decode cX12_block 16 = .ok (.getfield 199, 3) := by decide +kernel
theorem dX12_block_12 : decode cX12_block 12 = .ok (.if_icmp .eq 11, 3) := by decide +kernel
theorem dX12_block_8 : decode cX12_block 8 = .ok (.getfield 199, 3) := by decide +kernel
theorem dX12_block_4 : decode cX12_block 4 = .ok (.ifCond .eq 19, 3) := by decide +kernel
theorem dX12_block_1 : decode cX12_block 1 = .ok (.getfield 199, 3) := by decide +kernel
theorem dX12_block_85 : decode cX12_block 85 = .ok (.iload 5, 2) := by decide +kernel
theorem dX12_block_87 : decode cX12_block 87 = .ok (.iload_n 1, 1) := by decide +kernel
theorem dX12_block_119 : decode cX12_block 119 = .ok (.aload_n 0, 1) := by decide +kernel
theorem dX12_block_120 : decode cX12_block 120 = .ok (.iload_n 1, 1) := by decide +kernel
theorem dX12_block_129 : decode cX12_block 129 = .ok (.iconst 4, 1) := by decide +kernel
theorem dX12_block_130 : decode cX12_block 130 = .ok (.goto 4, 3) := by decide +kernel
theorem dX12_block_134 : decode cX12_block 134 = .ok (.invokevirtual 110, 3) := by decide +kernel
theorem dX12_block_137 : decode cX12_block 137 = .ok (.ifCond .eq 5, 3) := by decide +kernel
theorem dX12_block_140 : decode cX12_block 140 = .ok (.iconst 0, 1) := by decide +kernel
theorem dX12_block_141 : decode cX12_block 141 = .ok (.ireturn, 1) := by decide +kernel
theorem dX12_block_124 : decode cX12_block 124 = .ok (.iload 4, 2) := by decide +kernel
theorem dX12_block_133 : decode cX12_block 133 = .ok (.iconst 0, 1) := by decide +kernel
theorem dX12_block_142 : decode cX12_block 142 = .ok (.iload_n 2, 1) := by decide +kernel
theorem dX12_block_151 : decode cX12_block 151 = .ok (.aload_n 0, 1) := by decide +kernel
theorem dX12_block_155 : decode cX12_block 155 = .ok (.ireturn, 1) := by decide +kernel
theorem dX12_block_152 : decode cX12_block 152 = .ok (.getfield 420, 3) := by decide +kernel
theorem dX12_block_146 : decode cX12_block 146 = .ok (.iload 4, 2) := by decide +kernel
theorem dX12_block_148 : decode cX12_block 148 = .ok (.goto 7, 3) := by decide +kernel
theorem dX12_block_143 : decode cX12_block 143 = .ok (.ifCond .ne 8, 3) := by decide +kernel
theorem dX12_block_126 : decode cX12_block 126 = .ok (.ifCond .ge 7, 3) := by decide +kernel
theorem dX12_block_121 : decode cX12_block 121 = .ok (.ifCond .lt 8, 3) := by decide +kernel
theorem dX12_block_91 : decode cX12_block 91 = .ok (.iload 4, 2) := by decide +kernel
theorem dX12_block_96 : decode cX12_block 96 = .ok (.aload_n 0, 1) := by decide +kernel
theorem dX12_block_97 : decode cX12_block 97 = .ok (.iload 4, 2) := by decide +kernel
theorem dX12_block_99 : decode cX12_block 99 = .ok (.aload_n 0, 1) := by decide +kernel
theorem dX12_block_103 : decode cX12_block 103 = .ok (.iadd, 1) := by decide +kernel
theorem dX12_block_104 : decode cX12_block 104 = .ok (.aload_n 0, 1) := by decide +kernel
theorem dX12_block_108 : decode cX12_block 108 = .ok (.invokevirtual 423, 3) := by decide +kernel
theorem dX12_block_111 : decode cX12_block 111 = .ok (.istore 4, 2) := by decide +kernel
theorem dX12_block_113 : decode cX12_block 113 = .ok (.iinc 5 1, 3) := by decide +kernel
theorem dX12_block_116 : decode cX12_block 116 = .ok (.goto (-31), 3) := by decide +kernel
theorem dX12_block_105 : decode cX12_block 105 = .ok (.getfield 202, 3) := by decide +kernel
theorem dX12_block_100 : decode cX12_block 100 = .ok (.getfield 420, 3) := by decide +kernel
theorem dX12_block_93 : decode cX12_block 93 = .ok (.ifCond .lt 26, 3) := by decide +kernel
theorem dX12_block_88 : decode cX12_block 88 = .ok (.if_icmp .ge 31, 3) := by decide +kernel
def wr_259 (c k : Nat) : Bool := (Nat.beq c 94 && (Nat.beq k 0 || Nat.beq k 84))
theorem ws_226_259 : ∀ c k, wr_226 c k = true → wr_259 c k = true := by
  intro c k h
  simp only [wr_226, wr_259, Bool.or_eq_true, Bool.and_eq_true, Nat.beq_eq] at h ⊢
  omega
theorem g_259_0 {X : Nat × (Nat → Int32)} {m : Nat → Nat → Int32} {P : Option ma_V → (Nat → Nat → Int32) → Prop} (ix : Int32) (pa : Int32) (h : if (m 94 10) = 0 then (if pa < 0 then (P (some (.inl (0 : Int32))) (ma_u m 94 0 (1 : Int32))) else (if pa ≤ (1 : Int32) then (if (m 94 8) = 0 then (P (some (.inl (0 : Int32))) (ma_u m 94 0 (2 : Int32))) else (zm X 1 21 226 0 [(0, .inr (.inr (some 94))), (1, .inl (0 : Int32)), (2, .inl (m 94 11))] (ma_u m 94 0 (0 : Int32)) (zmi (fun v2 m1 => zm X 2 45 259 85 [(0, .inr (.inr (some 94))), (1, .inl ix), (2, .inl pa), (4, .inl v2), (5, .inl (0 : Int32))] m1 P)))) else (P (some (.inl (0 : Int32))) (ma_u m 94 0 (1 : Int32))))) else (if (m 94 10) = (4 : Int32) then (if pa < 0 then (P (some (.inl (0 : Int32))) (ma_u m 94 0 (1 : Int32))) else (if pa ≤ (1 : Int32) then (if (m 94 8) = 0 then (P (some (.inl (0 : Int32))) (ma_u m 94 0 (2 : Int32))) else (zm X 1 21 226 0 [(0, .inr (.inr (some 94))), (1, .inl (0 : Int32)), (2, .inl (m 94 11))] (ma_u m 94 0 (0 : Int32)) (zmi (fun v4 m3 => zm X 2 45 259 85 [(0, .inr (.inr (some 94))), (1, .inl ix), (2, .inl pa), (4, .inl v4), (5, .inl (0 : Int32))] m3 P)))) else (P (some (.inl (0 : Int32))) (ma_u m 94 0 (1 : Int32))))) else (if (m 94 10) = (5 : Int32) then (if pa < 0 then (P (some (.inl (0 : Int32))) (ma_u m 94 0 (1 : Int32))) else (if pa ≤ (1 : Int32) then (if (m 94 8) = 0 then (P (some (.inl (0 : Int32))) (ma_u m 94 0 (2 : Int32))) else (zm X 1 21 226 0 [(0, .inr (.inr (some 94))), (1, .inl (0 : Int32)), (2, .inl (m 94 11))] (ma_u m 94 0 (0 : Int32)) (zmi (fun v6 m5 => zm X 2 45 259 85 [(0, .inr (.inr (some 94))), (1, .inl ix), (2, .inl pa), (4, .inl v6), (5, .inl (0 : Int32))] m5 P)))) else (P (some (.inl (0 : Int32))) (ma_u m 94 0 (1 : Int32))))) else (if pa < 0 then (P (some (.inl (0 : Int32))) (ma_u m 94 0 (1 : Int32))) else (if pa ≤ (1 : Int32) then (if (m 94 8) = 0 then (P (some (.inl (0 : Int32))) (ma_u m 94 0 (2 : Int32))) else (P (some (.inl (0 : Int32))) (ma_u m 94 0 (3 : Int32)))) else (P (some (.inl (0 : Int32))) (ma_u m 94 0 (1 : Int32)))))))) : zm X 2 45 259 0 [(0, .inr (.inr (some 94))), (1, .inl ix), (2, .inl pa)] m P := by
  intro d w S Q hd hw hS hm HQ
  subst hm
  refine zw_push hm_259 dX12_block_0 (v := .inr (.inr (some 94))) rfl ?_
  refine zw_gf hm_259 dX12_block_1 (v := .inl ((mI S) 94 10)) (zT_is hS s_94) (zT_t hS s_94) rfl f_12_199_12 rfl ?_
  refine zw_if0 hm_259 dX12_block_4 (t := 23) rfl zc0_eq ?_ ?_
  · intro hc
    rw [if_pos hc] at h
    refine zw_push hm_259 dX12_block_23 (v := .inl (1 : Int32)) rfl ?_
    refine zw_goto hm_259 dX12_block_24 (t := 28) rfl ?_
    refine zw_sto hm_259 dX12_block_28 [(3, .inl (1 : Int32)), (0, .inr (.inr (some 94))), (1, .inl ix), (2, .inl pa)] rfl rfl rfl ?_
    refine zw_push hm_259 dX12_block_29 (v := .inr (.inr (some 94))) rfl ?_
    refine zw_push hm_259 dX12_block_30 (v := .inl pa) rfl ?_
    refine zw_if0 hm_259 dX12_block_31 (t := 39) rfl zc0_lt ?_ ?_
    · intro hc
      rw [if_pos hc] at h
      refine zw_push hm_259 dX12_block_39 (v := .inl (1 : Int32)) rfl ?_
      refine zw_goto hm_259 dX12_block_40 (t := 63) rfl ?_
      refine zw_cv hm_259 dX12_block_63 v_12_110_12 hm_167 [.inl (1 : Int32)] [] rfl (zT_rt hS s_94 rfl) ⟨by omega, by omega⟩ rfl ?_
      show ma_wp X (d - 1) (w - 21) 167 0 [(0, .inr (.inr (some 94))), (1, .inl (1 : Int32))] [] S _
      refine zw_push hm_167 dX12_fails_0 (v := .inr (.inr (some 94))) rfl ?_
      refine zw_push hm_167 dX12_fails_1 (v := .inl (1 : Int32)) rfl ?_
      refine zw_pf hm_167 dX12_fails_2 (zT_is hS s_94) (zT_t hS s_94) p_12_1_12 zk_int ?_
      refine zw_push hm_167 dX12_fails_5 (v := .inl (1 : Int32)) rfl ?_
      refine zw_if0 hm_167 dX12_fails_6 (t := 13) rfl zc0_eq (fun hc => absurd hc (by decide)) (fun _ => ?_)
      refine zw_push hm_167 dX12_fails_9 (v := .inl (1 : Int32)) rfl ?_
      refine zw_goto hm_167 dX12_fails_10 (t := 14) rfl ?_
      refine zw_bret hm_167 dX12_fails_14 (by decide) ?_
      show ma_wp X d w 259 66 [(3, .inl (1 : Int32)), (0, .inr (.inr (some 94))), (1, .inl ix), (2, .inl pa)] [.inl (1 : Int32)] (ma_put S 94 0 (.inl (1 : Int32))) _
      refine zw_if0 hm_259 dX12_block_66 (t := 71) rfl zc0_eq (fun hc => absurd hc (by decide)) (fun _ => ?_)
      refine zw_push hm_259 dX12_block_69 (v := .inl (0 : Int32)) rfl ?_
      exact zw_iret hm_259 dX12_block_70 (HQ _ _ h)
    · intro hc
      rw [if_neg hc] at h
      refine zw_push hm_259 dX12_block_34 (v := .inl pa) rfl ?_
      refine zw_push hm_259 dX12_block_35 (v := .inl (1 : Int32)) rfl ?_
      refine zw_if2 hm_259 dX12_block_36 (t := 43) rfl zc2_le ?_ ?_
      · intro hc
        rw [if_pos hc] at h
        refine zw_push hm_259 dX12_block_43 (v := .inr (.inr (some 94))) rfl ?_
        refine zw_gf hm_259 dX12_block_44 (v := .inl ((mI S) 94 8)) (zT_is hS s_94) (zT_t hS s_94) rfl f_12_237_12 rfl ?_
        refine zw_if0 hm_259 dX12_block_47 (t := 54) rfl zc0_ne ?_ ?_
        · intro hc
          rw [if_neg hc] at h
          refine zw_push hm_259 dX12_block_54 (v := .inl (1 : Int32)) rfl ?_
          refine zw_if0 hm_259 dX12_block_55 (t := 62) rfl zc0_ne (fun _ => ?_) (fun hc => absurd (by decide) hc)
          refine zw_push hm_259 dX12_block_62 (v := .inl (0 : Int32)) rfl ?_
          refine zw_cv hm_259 dX12_block_63 v_12_110_12 hm_167 [.inl (0 : Int32)] [] rfl (zT_rt hS s_94 rfl) ⟨by omega, by omega⟩ rfl ?_
          show ma_wp X (d - 1) (w - 21) 167 0 [(0, .inr (.inr (some 94))), (1, .inl (0 : Int32))] [] S _
          refine zw_push hm_167 dX12_fails_0 (v := .inr (.inr (some 94))) rfl ?_
          refine zw_push hm_167 dX12_fails_1 (v := .inl (0 : Int32)) rfl ?_
          refine zw_pf hm_167 dX12_fails_2 (zT_is hS s_94) (zT_t hS s_94) p_12_1_12 zk_int ?_
          refine zw_push hm_167 dX12_fails_5 (v := .inl (0 : Int32)) rfl ?_
          refine zw_if0 hm_167 dX12_fails_6 (t := 13) rfl zc0_eq (fun _ => ?_) (fun hc => absurd (by decide) hc)
          refine zw_push hm_167 dX12_fails_13 (v := .inl (0 : Int32)) rfl ?_
          refine zw_bret hm_167 dX12_fails_14 (by decide) ?_
          show ma_wp X d w 259 66 [(3, .inl (1 : Int32)), (0, .inr (.inr (some 94))), (1, .inl ix), (2, .inl pa)] [.inl (0 : Int32)] (ma_put S 94 0 (.inl (0 : Int32))) _
          refine zw_if0 hm_259 dX12_block_66 (t := 71) rfl zc0_eq (fun _ => ?_) (fun hc => absurd (by decide) hc)
          refine zw_push hm_259 dX12_block_71 (v := .inr (.inr (some 94))) rfl ?_
          refine zw_push hm_259 dX12_block_72 (v := .inl (0 : Int32)) rfl ?_
          refine zw_push hm_259 dX12_block_73 (v := .inr (.inr (some 94))) rfl ?_
          refine zw_gf hm_259 dX12_block_74 (v := .inl ((mI S) 94 11)) (zT_is (zT_pi hS) s_94) (zT_t (zT_pi hS) s_94) rfl f_12_202_12 rfl ?_
          refine zw_cv hm_259 dX12_block_77 v_12_423_12 hm_226 [.inl ((mI S) 94 11), .inl (0 : Int32)] [] rfl (zT_rt (zT_pi hS) s_94 rfl) ⟨by omega, by omega⟩ rfl (h _ _ (ma_put S 94 0 (.inl (0 : Int32))) _ (by omega) (by omega) (zT_pi hS) rfl (fun o9 m1 hv => ?_))
          obtain ⟨v2, rfl, h⟩ := zmi_of hv
          show ma_wp X d w 259 80 [(3, .inl (1 : Int32)), (0, .inr (.inr (some 94))), (1, .inl ix), (2, .inl pa)] [.inl v2] (zst S m1) _
          refine zw_sto hm_259 dX12_block_80 [(4, .inl v2), (3, .inl (1 : Int32)), (0, .inr (.inr (some 94))), (1, .inl ix), (2, .inl pa)] rfl rfl rfl ?_
          refine zw_push hm_259 dX12_block_82 (v := .inl (0 : Int32)) rfl ?_
          refine zw_sto hm_259 dX12_block_83 [(5, .inl (0 : Int32)), (4, .inl v2), (3, .inl (1 : Int32)), (0, .inr (.inr (some 94))), (1, .inl ix), (2, .inl pa)] rfl rfl rfl ?_
          exact zw_sub (ma_nd_of (ks := [0, 1, 2, 4, 5]) rfl (by decide)) (ma_nd_of (ks := [5, 4, 3, 0, 1, 2]) rfl (by decide)) (ma_le_cons rfl (ma_le_cons rfl (ma_le_cons rfl (ma_le_cons rfl (ma_le_cons rfl (ma_le_nil _)))))) (h d w _ Q (by omega) (by omega) (zT_zst hS m1) rfl HQ)
        · intro hc
          rw [if_pos (Classical.not_not.mp hc)] at h
          refine zw_push hm_259 dX12_block_50 (v := .inl (2 : Int32)) rfl ?_
          refine zw_goto hm_259 dX12_block_51 (t := 63) rfl ?_
          refine zw_cv hm_259 dX12_block_63 v_12_110_12 hm_167 [.inl (2 : Int32)] [] rfl (zT_rt hS s_94 rfl) ⟨by omega, by omega⟩ rfl ?_
          show ma_wp X (d - 1) (w - 21) 167 0 [(0, .inr (.inr (some 94))), (1, .inl (2 : Int32))] [] S _
          refine zw_push hm_167 dX12_fails_0 (v := .inr (.inr (some 94))) rfl ?_
          refine zw_push hm_167 dX12_fails_1 (v := .inl (2 : Int32)) rfl ?_
          refine zw_pf hm_167 dX12_fails_2 (zT_is hS s_94) (zT_t hS s_94) p_12_1_12 zk_int ?_
          refine zw_push hm_167 dX12_fails_5 (v := .inl (2 : Int32)) rfl ?_
          refine zw_if0 hm_167 dX12_fails_6 (t := 13) rfl zc0_eq (fun hc => absurd hc (by decide)) (fun _ => ?_)
          refine zw_push hm_167 dX12_fails_9 (v := .inl (1 : Int32)) rfl ?_
          refine zw_goto hm_167 dX12_fails_10 (t := 14) rfl ?_
          refine zw_bret hm_167 dX12_fails_14 (by decide) ?_
          show ma_wp X d w 259 66 [(3, .inl (1 : Int32)), (0, .inr (.inr (some 94))), (1, .inl ix), (2, .inl pa)] [.inl (1 : Int32)] (ma_put S 94 0 (.inl (2 : Int32))) _
          refine zw_if0 hm_259 dX12_block_66 (t := 71) rfl zc0_eq (fun hc => absurd hc (by decide)) (fun _ => ?_)
          refine zw_push hm_259 dX12_block_69 (v := .inl (0 : Int32)) rfl ?_
          exact zw_iret hm_259 dX12_block_70 (HQ _ _ h)
      · intro hc
        rw [if_neg hc] at h
        refine zw_push hm_259 dX12_block_39 (v := .inl (1 : Int32)) rfl ?_
        refine zw_goto hm_259 dX12_block_40 (t := 63) rfl ?_
        refine zw_cv hm_259 dX12_block_63 v_12_110_12 hm_167 [.inl (1 : Int32)] [] rfl (zT_rt hS s_94 rfl) ⟨by omega, by omega⟩ rfl ?_
        show ma_wp X (d - 1) (w - 21) 167 0 [(0, .inr (.inr (some 94))), (1, .inl (1 : Int32))] [] S _
        refine zw_push hm_167 dX12_fails_0 (v := .inr (.inr (some 94))) rfl ?_
        refine zw_push hm_167 dX12_fails_1 (v := .inl (1 : Int32)) rfl ?_
        refine zw_pf hm_167 dX12_fails_2 (zT_is hS s_94) (zT_t hS s_94) p_12_1_12 zk_int ?_
        refine zw_push hm_167 dX12_fails_5 (v := .inl (1 : Int32)) rfl ?_
        refine zw_if0 hm_167 dX12_fails_6 (t := 13) rfl zc0_eq (fun hc => absurd hc (by decide)) (fun _ => ?_)
        refine zw_push hm_167 dX12_fails_9 (v := .inl (1 : Int32)) rfl ?_
        refine zw_goto hm_167 dX12_fails_10 (t := 14) rfl ?_
        refine zw_bret hm_167 dX12_fails_14 (by decide) ?_
        show ma_wp X d w 259 66 [(3, .inl (1 : Int32)), (0, .inr (.inr (some 94))), (1, .inl ix), (2, .inl pa)] [.inl (1 : Int32)] (ma_put S 94 0 (.inl (1 : Int32))) _
        refine zw_if0 hm_259 dX12_block_66 (t := 71) rfl zc0_eq (fun hc => absurd hc (by decide)) (fun _ => ?_)
        refine zw_push hm_259 dX12_block_69 (v := .inl (0 : Int32)) rfl ?_
        exact zw_iret hm_259 dX12_block_70 (HQ _ _ h)
  · intro hc
    rw [if_neg hc] at h
    refine zw_push hm_259 dX12_block_7 (v := .inr (.inr (some 94))) rfl ?_
    refine zw_gf hm_259 dX12_block_8 (v := .inl ((mI S) 94 10)) (zT_is hS s_94) (zT_t hS s_94) rfl f_12_199_12 rfl ?_
    refine zw_push hm_259 dX12_block_11 (v := .inl (4 : Int32)) rfl ?_
    refine zw_if2 hm_259 dX12_block_12 (t := 23) rfl zc2_eq ?_ ?_
    · intro hc
      rw [if_pos hc] at h
      refine zw_push hm_259 dX12_block_23 (v := .inl (1 : Int32)) rfl ?_
      refine zw_goto hm_259 dX12_block_24 (t := 28) rfl ?_
      refine zw_sto hm_259 dX12_block_28 [(3, .inl (1 : Int32)), (0, .inr (.inr (some 94))), (1, .inl ix), (2, .inl pa)] rfl rfl rfl ?_
      refine zw_push hm_259 dX12_block_29 (v := .inr (.inr (some 94))) rfl ?_
      refine zw_push hm_259 dX12_block_30 (v := .inl pa) rfl ?_
      refine zw_if0 hm_259 dX12_block_31 (t := 39) rfl zc0_lt ?_ ?_
      · intro hc
        rw [if_pos hc] at h
        refine zw_push hm_259 dX12_block_39 (v := .inl (1 : Int32)) rfl ?_
        refine zw_goto hm_259 dX12_block_40 (t := 63) rfl ?_
        refine zw_cv hm_259 dX12_block_63 v_12_110_12 hm_167 [.inl (1 : Int32)] [] rfl (zT_rt hS s_94 rfl) ⟨by omega, by omega⟩ rfl ?_
        show ma_wp X (d - 1) (w - 21) 167 0 [(0, .inr (.inr (some 94))), (1, .inl (1 : Int32))] [] S _
        refine zw_push hm_167 dX12_fails_0 (v := .inr (.inr (some 94))) rfl ?_
        refine zw_push hm_167 dX12_fails_1 (v := .inl (1 : Int32)) rfl ?_
        refine zw_pf hm_167 dX12_fails_2 (zT_is hS s_94) (zT_t hS s_94) p_12_1_12 zk_int ?_
        refine zw_push hm_167 dX12_fails_5 (v := .inl (1 : Int32)) rfl ?_
        refine zw_if0 hm_167 dX12_fails_6 (t := 13) rfl zc0_eq (fun hc => absurd hc (by decide)) (fun _ => ?_)
        refine zw_push hm_167 dX12_fails_9 (v := .inl (1 : Int32)) rfl ?_
        refine zw_goto hm_167 dX12_fails_10 (t := 14) rfl ?_
        refine zw_bret hm_167 dX12_fails_14 (by decide) ?_
        show ma_wp X d w 259 66 [(3, .inl (1 : Int32)), (0, .inr (.inr (some 94))), (1, .inl ix), (2, .inl pa)] [.inl (1 : Int32)] (ma_put S 94 0 (.inl (1 : Int32))) _
        refine zw_if0 hm_259 dX12_block_66 (t := 71) rfl zc0_eq (fun hc => absurd hc (by decide)) (fun _ => ?_)
        refine zw_push hm_259 dX12_block_69 (v := .inl (0 : Int32)) rfl ?_
        exact zw_iret hm_259 dX12_block_70 (HQ _ _ h)
      · intro hc
        rw [if_neg hc] at h
        refine zw_push hm_259 dX12_block_34 (v := .inl pa) rfl ?_
        refine zw_push hm_259 dX12_block_35 (v := .inl (1 : Int32)) rfl ?_
        refine zw_if2 hm_259 dX12_block_36 (t := 43) rfl zc2_le ?_ ?_
        · intro hc
          rw [if_pos hc] at h
          refine zw_push hm_259 dX12_block_43 (v := .inr (.inr (some 94))) rfl ?_
          refine zw_gf hm_259 dX12_block_44 (v := .inl ((mI S) 94 8)) (zT_is hS s_94) (zT_t hS s_94) rfl f_12_237_12 rfl ?_
          refine zw_if0 hm_259 dX12_block_47 (t := 54) rfl zc0_ne ?_ ?_
          · intro hc
            rw [if_neg hc] at h
            refine zw_push hm_259 dX12_block_54 (v := .inl (1 : Int32)) rfl ?_
            refine zw_if0 hm_259 dX12_block_55 (t := 62) rfl zc0_ne (fun _ => ?_) (fun hc => absurd (by decide) hc)
            refine zw_push hm_259 dX12_block_62 (v := .inl (0 : Int32)) rfl ?_
            refine zw_cv hm_259 dX12_block_63 v_12_110_12 hm_167 [.inl (0 : Int32)] [] rfl (zT_rt hS s_94 rfl) ⟨by omega, by omega⟩ rfl ?_
            show ma_wp X (d - 1) (w - 21) 167 0 [(0, .inr (.inr (some 94))), (1, .inl (0 : Int32))] [] S _
            refine zw_push hm_167 dX12_fails_0 (v := .inr (.inr (some 94))) rfl ?_
            refine zw_push hm_167 dX12_fails_1 (v := .inl (0 : Int32)) rfl ?_
            refine zw_pf hm_167 dX12_fails_2 (zT_is hS s_94) (zT_t hS s_94) p_12_1_12 zk_int ?_
            refine zw_push hm_167 dX12_fails_5 (v := .inl (0 : Int32)) rfl ?_
            refine zw_if0 hm_167 dX12_fails_6 (t := 13) rfl zc0_eq (fun _ => ?_) (fun hc => absurd (by decide) hc)
            refine zw_push hm_167 dX12_fails_13 (v := .inl (0 : Int32)) rfl ?_
            refine zw_bret hm_167 dX12_fails_14 (by decide) ?_
            show ma_wp X d w 259 66 [(3, .inl (1 : Int32)), (0, .inr (.inr (some 94))), (1, .inl ix), (2, .inl pa)] [.inl (0 : Int32)] (ma_put S 94 0 (.inl (0 : Int32))) _
            refine zw_if0 hm_259 dX12_block_66 (t := 71) rfl zc0_eq (fun _ => ?_) (fun hc => absurd (by decide) hc)
            refine zw_push hm_259 dX12_block_71 (v := .inr (.inr (some 94))) rfl ?_
            refine zw_push hm_259 dX12_block_72 (v := .inl (0 : Int32)) rfl ?_
            refine zw_push hm_259 dX12_block_73 (v := .inr (.inr (some 94))) rfl ?_
            refine zw_gf hm_259 dX12_block_74 (v := .inl ((mI S) 94 11)) (zT_is (zT_pi hS) s_94) (zT_t (zT_pi hS) s_94) rfl f_12_202_12 rfl ?_
            refine zw_cv hm_259 dX12_block_77 v_12_423_12 hm_226 [.inl ((mI S) 94 11), .inl (0 : Int32)] [] rfl (zT_rt (zT_pi hS) s_94 rfl) ⟨by omega, by omega⟩ rfl (h _ _ (ma_put S 94 0 (.inl (0 : Int32))) _ (by omega) (by omega) (zT_pi hS) rfl (fun o9 m3 hv => ?_))
            obtain ⟨v4, rfl, h⟩ := zmi_of hv
            show ma_wp X d w 259 80 [(3, .inl (1 : Int32)), (0, .inr (.inr (some 94))), (1, .inl ix), (2, .inl pa)] [.inl v4] (zst S m3) _
            refine zw_sto hm_259 dX12_block_80 [(4, .inl v4), (3, .inl (1 : Int32)), (0, .inr (.inr (some 94))), (1, .inl ix), (2, .inl pa)] rfl rfl rfl ?_
            refine zw_push hm_259 dX12_block_82 (v := .inl (0 : Int32)) rfl ?_
            refine zw_sto hm_259 dX12_block_83 [(5, .inl (0 : Int32)), (4, .inl v4), (3, .inl (1 : Int32)), (0, .inr (.inr (some 94))), (1, .inl ix), (2, .inl pa)] rfl rfl rfl ?_
            exact zw_sub (ma_nd_of (ks := [0, 1, 2, 4, 5]) rfl (by decide)) (ma_nd_of (ks := [5, 4, 3, 0, 1, 2]) rfl (by decide)) (ma_le_cons rfl (ma_le_cons rfl (ma_le_cons rfl (ma_le_cons rfl (ma_le_cons rfl (ma_le_nil _)))))) (h d w _ Q (by omega) (by omega) (zT_zst hS m3) rfl HQ)
          · intro hc
            rw [if_pos (Classical.not_not.mp hc)] at h
            refine zw_push hm_259 dX12_block_50 (v := .inl (2 : Int32)) rfl ?_
            refine zw_goto hm_259 dX12_block_51 (t := 63) rfl ?_
            refine zw_cv hm_259 dX12_block_63 v_12_110_12 hm_167 [.inl (2 : Int32)] [] rfl (zT_rt hS s_94 rfl) ⟨by omega, by omega⟩ rfl ?_
            show ma_wp X (d - 1) (w - 21) 167 0 [(0, .inr (.inr (some 94))), (1, .inl (2 : Int32))] [] S _
            refine zw_push hm_167 dX12_fails_0 (v := .inr (.inr (some 94))) rfl ?_
            refine zw_push hm_167 dX12_fails_1 (v := .inl (2 : Int32)) rfl ?_
            refine zw_pf hm_167 dX12_fails_2 (zT_is hS s_94) (zT_t hS s_94) p_12_1_12 zk_int ?_
            refine zw_push hm_167 dX12_fails_5 (v := .inl (2 : Int32)) rfl ?_
            refine zw_if0 hm_167 dX12_fails_6 (t := 13) rfl zc0_eq (fun hc => absurd hc (by decide)) (fun _ => ?_)
            refine zw_push hm_167 dX12_fails_9 (v := .inl (1 : Int32)) rfl ?_
            refine zw_goto hm_167 dX12_fails_10 (t := 14) rfl ?_
            refine zw_bret hm_167 dX12_fails_14 (by decide) ?_
            show ma_wp X d w 259 66 [(3, .inl (1 : Int32)), (0, .inr (.inr (some 94))), (1, .inl ix), (2, .inl pa)] [.inl (1 : Int32)] (ma_put S 94 0 (.inl (2 : Int32))) _
            refine zw_if0 hm_259 dX12_block_66 (t := 71) rfl zc0_eq (fun hc => absurd hc (by decide)) (fun _ => ?_)
            refine zw_push hm_259 dX12_block_69 (v := .inl (0 : Int32)) rfl ?_
            exact zw_iret hm_259 dX12_block_70 (HQ _ _ h)
        · intro hc
          rw [if_neg hc] at h
          refine zw_push hm_259 dX12_block_39 (v := .inl (1 : Int32)) rfl ?_
          refine zw_goto hm_259 dX12_block_40 (t := 63) rfl ?_
          refine zw_cv hm_259 dX12_block_63 v_12_110_12 hm_167 [.inl (1 : Int32)] [] rfl (zT_rt hS s_94 rfl) ⟨by omega, by omega⟩ rfl ?_
          show ma_wp X (d - 1) (w - 21) 167 0 [(0, .inr (.inr (some 94))), (1, .inl (1 : Int32))] [] S _
          refine zw_push hm_167 dX12_fails_0 (v := .inr (.inr (some 94))) rfl ?_
          refine zw_push hm_167 dX12_fails_1 (v := .inl (1 : Int32)) rfl ?_
          refine zw_pf hm_167 dX12_fails_2 (zT_is hS s_94) (zT_t hS s_94) p_12_1_12 zk_int ?_
          refine zw_push hm_167 dX12_fails_5 (v := .inl (1 : Int32)) rfl ?_
          refine zw_if0 hm_167 dX12_fails_6 (t := 13) rfl zc0_eq (fun hc => absurd hc (by decide)) (fun _ => ?_)
          refine zw_push hm_167 dX12_fails_9 (v := .inl (1 : Int32)) rfl ?_
          refine zw_goto hm_167 dX12_fails_10 (t := 14) rfl ?_
          refine zw_bret hm_167 dX12_fails_14 (by decide) ?_
          show ma_wp X d w 259 66 [(3, .inl (1 : Int32)), (0, .inr (.inr (some 94))), (1, .inl ix), (2, .inl pa)] [.inl (1 : Int32)] (ma_put S 94 0 (.inl (1 : Int32))) _
          refine zw_if0 hm_259 dX12_block_66 (t := 71) rfl zc0_eq (fun hc => absurd hc (by decide)) (fun _ => ?_)
          refine zw_push hm_259 dX12_block_69 (v := .inl (0 : Int32)) rfl ?_
          exact zw_iret hm_259 dX12_block_70 (HQ _ _ h)
    · intro hc
      rw [if_neg hc] at h
      refine zw_push hm_259 dX12_block_15 (v := .inr (.inr (some 94))) rfl ?_
      refine zw_gf hm_259 dX12_block_16 (v := .inl ((mI S) 94 10)) (zT_is hS s_94) (zT_t hS s_94) rfl f_12_199_12 rfl ?_
      refine zw_push hm_259 dX12_block_19 (v := .inl (5 : Int32)) rfl ?_
      refine zw_if2 hm_259 dX12_block_20 (t := 27) rfl zc2_ne ?_ ?_
      · intro hc
        rw [if_neg hc] at h
        refine zw_push hm_259 dX12_block_27 (v := .inl (0 : Int32)) rfl ?_
        refine zw_sto hm_259 dX12_block_28 [(3, .inl (0 : Int32)), (0, .inr (.inr (some 94))), (1, .inl ix), (2, .inl pa)] rfl rfl rfl ?_
        refine zw_push hm_259 dX12_block_29 (v := .inr (.inr (some 94))) rfl ?_
        refine zw_push hm_259 dX12_block_30 (v := .inl pa) rfl ?_
        refine zw_if0 hm_259 dX12_block_31 (t := 39) rfl zc0_lt ?_ ?_
        · intro hc
          rw [if_pos hc] at h
          refine zw_push hm_259 dX12_block_39 (v := .inl (1 : Int32)) rfl ?_
          refine zw_goto hm_259 dX12_block_40 (t := 63) rfl ?_
          refine zw_cv hm_259 dX12_block_63 v_12_110_12 hm_167 [.inl (1 : Int32)] [] rfl (zT_rt hS s_94 rfl) ⟨by omega, by omega⟩ rfl ?_
          show ma_wp X (d - 1) (w - 21) 167 0 [(0, .inr (.inr (some 94))), (1, .inl (1 : Int32))] [] S _
          refine zw_push hm_167 dX12_fails_0 (v := .inr (.inr (some 94))) rfl ?_
          refine zw_push hm_167 dX12_fails_1 (v := .inl (1 : Int32)) rfl ?_
          refine zw_pf hm_167 dX12_fails_2 (zT_is hS s_94) (zT_t hS s_94) p_12_1_12 zk_int ?_
          refine zw_push hm_167 dX12_fails_5 (v := .inl (1 : Int32)) rfl ?_
          refine zw_if0 hm_167 dX12_fails_6 (t := 13) rfl zc0_eq (fun hc => absurd hc (by decide)) (fun _ => ?_)
          refine zw_push hm_167 dX12_fails_9 (v := .inl (1 : Int32)) rfl ?_
          refine zw_goto hm_167 dX12_fails_10 (t := 14) rfl ?_
          refine zw_bret hm_167 dX12_fails_14 (by decide) ?_
          show ma_wp X d w 259 66 [(3, .inl (0 : Int32)), (0, .inr (.inr (some 94))), (1, .inl ix), (2, .inl pa)] [.inl (1 : Int32)] (ma_put S 94 0 (.inl (1 : Int32))) _
          refine zw_if0 hm_259 dX12_block_66 (t := 71) rfl zc0_eq (fun hc => absurd hc (by decide)) (fun _ => ?_)
          refine zw_push hm_259 dX12_block_69 (v := .inl (0 : Int32)) rfl ?_
          exact zw_iret hm_259 dX12_block_70 (HQ _ _ h)
        · intro hc
          rw [if_neg hc] at h
          refine zw_push hm_259 dX12_block_34 (v := .inl pa) rfl ?_
          refine zw_push hm_259 dX12_block_35 (v := .inl (1 : Int32)) rfl ?_
          refine zw_if2 hm_259 dX12_block_36 (t := 43) rfl zc2_le ?_ ?_
          · intro hc
            rw [if_pos hc] at h
            refine zw_push hm_259 dX12_block_43 (v := .inr (.inr (some 94))) rfl ?_
            refine zw_gf hm_259 dX12_block_44 (v := .inl ((mI S) 94 8)) (zT_is hS s_94) (zT_t hS s_94) rfl f_12_237_12 rfl ?_
            refine zw_if0 hm_259 dX12_block_47 (t := 54) rfl zc0_ne ?_ ?_
            · intro hc
              rw [if_neg hc] at h
              refine zw_push hm_259 dX12_block_54 (v := .inl (0 : Int32)) rfl ?_
              refine zw_if0 hm_259 dX12_block_55 (t := 62) rfl zc0_ne (fun hc => absurd hc (by decide)) (fun _ => ?_)
              refine zw_push hm_259 dX12_block_58 (v := .inl (3 : Int32)) rfl ?_
              refine zw_goto hm_259 dX12_block_59 (t := 63) rfl ?_
              refine zw_cv hm_259 dX12_block_63 v_12_110_12 hm_167 [.inl (3 : Int32)] [] rfl (zT_rt hS s_94 rfl) ⟨by omega, by omega⟩ rfl ?_
              show ma_wp X (d - 1) (w - 21) 167 0 [(0, .inr (.inr (some 94))), (1, .inl (3 : Int32))] [] S _
              refine zw_push hm_167 dX12_fails_0 (v := .inr (.inr (some 94))) rfl ?_
              refine zw_push hm_167 dX12_fails_1 (v := .inl (3 : Int32)) rfl ?_
              refine zw_pf hm_167 dX12_fails_2 (zT_is hS s_94) (zT_t hS s_94) p_12_1_12 zk_int ?_
              refine zw_push hm_167 dX12_fails_5 (v := .inl (3 : Int32)) rfl ?_
              refine zw_if0 hm_167 dX12_fails_6 (t := 13) rfl zc0_eq (fun hc => absurd hc (by decide)) (fun _ => ?_)
              refine zw_push hm_167 dX12_fails_9 (v := .inl (1 : Int32)) rfl ?_
              refine zw_goto hm_167 dX12_fails_10 (t := 14) rfl ?_
              refine zw_bret hm_167 dX12_fails_14 (by decide) ?_
              show ma_wp X d w 259 66 [(3, .inl (0 : Int32)), (0, .inr (.inr (some 94))), (1, .inl ix), (2, .inl pa)] [.inl (1 : Int32)] (ma_put S 94 0 (.inl (3 : Int32))) _
              refine zw_if0 hm_259 dX12_block_66 (t := 71) rfl zc0_eq (fun hc => absurd hc (by decide)) (fun _ => ?_)
              refine zw_push hm_259 dX12_block_69 (v := .inl (0 : Int32)) rfl ?_
              exact zw_iret hm_259 dX12_block_70 (HQ _ _ h)
            · intro hc
              rw [if_pos (Classical.not_not.mp hc)] at h
              refine zw_push hm_259 dX12_block_50 (v := .inl (2 : Int32)) rfl ?_
              refine zw_goto hm_259 dX12_block_51 (t := 63) rfl ?_
              refine zw_cv hm_259 dX12_block_63 v_12_110_12 hm_167 [.inl (2 : Int32)] [] rfl (zT_rt hS s_94 rfl) ⟨by omega, by omega⟩ rfl ?_
              show ma_wp X (d - 1) (w - 21) 167 0 [(0, .inr (.inr (some 94))), (1, .inl (2 : Int32))] [] S _
              refine zw_push hm_167 dX12_fails_0 (v := .inr (.inr (some 94))) rfl ?_
              refine zw_push hm_167 dX12_fails_1 (v := .inl (2 : Int32)) rfl ?_
              refine zw_pf hm_167 dX12_fails_2 (zT_is hS s_94) (zT_t hS s_94) p_12_1_12 zk_int ?_
              refine zw_push hm_167 dX12_fails_5 (v := .inl (2 : Int32)) rfl ?_
              refine zw_if0 hm_167 dX12_fails_6 (t := 13) rfl zc0_eq (fun hc => absurd hc (by decide)) (fun _ => ?_)
              refine zw_push hm_167 dX12_fails_9 (v := .inl (1 : Int32)) rfl ?_
              refine zw_goto hm_167 dX12_fails_10 (t := 14) rfl ?_
              refine zw_bret hm_167 dX12_fails_14 (by decide) ?_
              show ma_wp X d w 259 66 [(3, .inl (0 : Int32)), (0, .inr (.inr (some 94))), (1, .inl ix), (2, .inl pa)] [.inl (1 : Int32)] (ma_put S 94 0 (.inl (2 : Int32))) _
              refine zw_if0 hm_259 dX12_block_66 (t := 71) rfl zc0_eq (fun hc => absurd hc (by decide)) (fun _ => ?_)
              refine zw_push hm_259 dX12_block_69 (v := .inl (0 : Int32)) rfl ?_
              exact zw_iret hm_259 dX12_block_70 (HQ _ _ h)
          · intro hc
            rw [if_neg hc] at h
            refine zw_push hm_259 dX12_block_39 (v := .inl (1 : Int32)) rfl ?_
            refine zw_goto hm_259 dX12_block_40 (t := 63) rfl ?_
            refine zw_cv hm_259 dX12_block_63 v_12_110_12 hm_167 [.inl (1 : Int32)] [] rfl (zT_rt hS s_94 rfl) ⟨by omega, by omega⟩ rfl ?_
            show ma_wp X (d - 1) (w - 21) 167 0 [(0, .inr (.inr (some 94))), (1, .inl (1 : Int32))] [] S _
            refine zw_push hm_167 dX12_fails_0 (v := .inr (.inr (some 94))) rfl ?_
            refine zw_push hm_167 dX12_fails_1 (v := .inl (1 : Int32)) rfl ?_
            refine zw_pf hm_167 dX12_fails_2 (zT_is hS s_94) (zT_t hS s_94) p_12_1_12 zk_int ?_
            refine zw_push hm_167 dX12_fails_5 (v := .inl (1 : Int32)) rfl ?_
            refine zw_if0 hm_167 dX12_fails_6 (t := 13) rfl zc0_eq (fun hc => absurd hc (by decide)) (fun _ => ?_)
            refine zw_push hm_167 dX12_fails_9 (v := .inl (1 : Int32)) rfl ?_
            refine zw_goto hm_167 dX12_fails_10 (t := 14) rfl ?_
            refine zw_bret hm_167 dX12_fails_14 (by decide) ?_
            show ma_wp X d w 259 66 [(3, .inl (0 : Int32)), (0, .inr (.inr (some 94))), (1, .inl ix), (2, .inl pa)] [.inl (1 : Int32)] (ma_put S 94 0 (.inl (1 : Int32))) _
            refine zw_if0 hm_259 dX12_block_66 (t := 71) rfl zc0_eq (fun hc => absurd hc (by decide)) (fun _ => ?_)
            refine zw_push hm_259 dX12_block_69 (v := .inl (0 : Int32)) rfl ?_
            exact zw_iret hm_259 dX12_block_70 (HQ _ _ h)
      · intro hc
        rw [if_pos (Classical.not_not.mp hc)] at h
        refine zw_push hm_259 dX12_block_23 (v := .inl (1 : Int32)) rfl ?_
        refine zw_goto hm_259 dX12_block_24 (t := 28) rfl ?_
        refine zw_sto hm_259 dX12_block_28 [(3, .inl (1 : Int32)), (0, .inr (.inr (some 94))), (1, .inl ix), (2, .inl pa)] rfl rfl rfl ?_
        refine zw_push hm_259 dX12_block_29 (v := .inr (.inr (some 94))) rfl ?_
        refine zw_push hm_259 dX12_block_30 (v := .inl pa) rfl ?_
        refine zw_if0 hm_259 dX12_block_31 (t := 39) rfl zc0_lt ?_ ?_
        · intro hc
          rw [if_pos hc] at h
          refine zw_push hm_259 dX12_block_39 (v := .inl (1 : Int32)) rfl ?_
          refine zw_goto hm_259 dX12_block_40 (t := 63) rfl ?_
          refine zw_cv hm_259 dX12_block_63 v_12_110_12 hm_167 [.inl (1 : Int32)] [] rfl (zT_rt hS s_94 rfl) ⟨by omega, by omega⟩ rfl ?_
          show ma_wp X (d - 1) (w - 21) 167 0 [(0, .inr (.inr (some 94))), (1, .inl (1 : Int32))] [] S _
          refine zw_push hm_167 dX12_fails_0 (v := .inr (.inr (some 94))) rfl ?_
          refine zw_push hm_167 dX12_fails_1 (v := .inl (1 : Int32)) rfl ?_
          refine zw_pf hm_167 dX12_fails_2 (zT_is hS s_94) (zT_t hS s_94) p_12_1_12 zk_int ?_
          refine zw_push hm_167 dX12_fails_5 (v := .inl (1 : Int32)) rfl ?_
          refine zw_if0 hm_167 dX12_fails_6 (t := 13) rfl zc0_eq (fun hc => absurd hc (by decide)) (fun _ => ?_)
          refine zw_push hm_167 dX12_fails_9 (v := .inl (1 : Int32)) rfl ?_
          refine zw_goto hm_167 dX12_fails_10 (t := 14) rfl ?_
          refine zw_bret hm_167 dX12_fails_14 (by decide) ?_
          show ma_wp X d w 259 66 [(3, .inl (1 : Int32)), (0, .inr (.inr (some 94))), (1, .inl ix), (2, .inl pa)] [.inl (1 : Int32)] (ma_put S 94 0 (.inl (1 : Int32))) _
          refine zw_if0 hm_259 dX12_block_66 (t := 71) rfl zc0_eq (fun hc => absurd hc (by decide)) (fun _ => ?_)
          refine zw_push hm_259 dX12_block_69 (v := .inl (0 : Int32)) rfl ?_
          exact zw_iret hm_259 dX12_block_70 (HQ _ _ h)
        · intro hc
          rw [if_neg hc] at h
          refine zw_push hm_259 dX12_block_34 (v := .inl pa) rfl ?_
          refine zw_push hm_259 dX12_block_35 (v := .inl (1 : Int32)) rfl ?_
          refine zw_if2 hm_259 dX12_block_36 (t := 43) rfl zc2_le ?_ ?_
          · intro hc
            rw [if_pos hc] at h
            refine zw_push hm_259 dX12_block_43 (v := .inr (.inr (some 94))) rfl ?_
            refine zw_gf hm_259 dX12_block_44 (v := .inl ((mI S) 94 8)) (zT_is hS s_94) (zT_t hS s_94) rfl f_12_237_12 rfl ?_
            refine zw_if0 hm_259 dX12_block_47 (t := 54) rfl zc0_ne ?_ ?_
            · intro hc
              rw [if_neg hc] at h
              refine zw_push hm_259 dX12_block_54 (v := .inl (1 : Int32)) rfl ?_
              refine zw_if0 hm_259 dX12_block_55 (t := 62) rfl zc0_ne (fun _ => ?_) (fun hc => absurd (by decide) hc)
              refine zw_push hm_259 dX12_block_62 (v := .inl (0 : Int32)) rfl ?_
              refine zw_cv hm_259 dX12_block_63 v_12_110_12 hm_167 [.inl (0 : Int32)] [] rfl (zT_rt hS s_94 rfl) ⟨by omega, by omega⟩ rfl ?_
              show ma_wp X (d - 1) (w - 21) 167 0 [(0, .inr (.inr (some 94))), (1, .inl (0 : Int32))] [] S _
              refine zw_push hm_167 dX12_fails_0 (v := .inr (.inr (some 94))) rfl ?_
              refine zw_push hm_167 dX12_fails_1 (v := .inl (0 : Int32)) rfl ?_
              refine zw_pf hm_167 dX12_fails_2 (zT_is hS s_94) (zT_t hS s_94) p_12_1_12 zk_int ?_
              refine zw_push hm_167 dX12_fails_5 (v := .inl (0 : Int32)) rfl ?_
              refine zw_if0 hm_167 dX12_fails_6 (t := 13) rfl zc0_eq (fun _ => ?_) (fun hc => absurd (by decide) hc)
              refine zw_push hm_167 dX12_fails_13 (v := .inl (0 : Int32)) rfl ?_
              refine zw_bret hm_167 dX12_fails_14 (by decide) ?_
              show ma_wp X d w 259 66 [(3, .inl (1 : Int32)), (0, .inr (.inr (some 94))), (1, .inl ix), (2, .inl pa)] [.inl (0 : Int32)] (ma_put S 94 0 (.inl (0 : Int32))) _
              refine zw_if0 hm_259 dX12_block_66 (t := 71) rfl zc0_eq (fun _ => ?_) (fun hc => absurd (by decide) hc)
              refine zw_push hm_259 dX12_block_71 (v := .inr (.inr (some 94))) rfl ?_
              refine zw_push hm_259 dX12_block_72 (v := .inl (0 : Int32)) rfl ?_
              refine zw_push hm_259 dX12_block_73 (v := .inr (.inr (some 94))) rfl ?_
              refine zw_gf hm_259 dX12_block_74 (v := .inl ((mI S) 94 11)) (zT_is (zT_pi hS) s_94) (zT_t (zT_pi hS) s_94) rfl f_12_202_12 rfl ?_
              refine zw_cv hm_259 dX12_block_77 v_12_423_12 hm_226 [.inl ((mI S) 94 11), .inl (0 : Int32)] [] rfl (zT_rt (zT_pi hS) s_94 rfl) ⟨by omega, by omega⟩ rfl (h _ _ (ma_put S 94 0 (.inl (0 : Int32))) _ (by omega) (by omega) (zT_pi hS) rfl (fun o9 m5 hv => ?_))
              obtain ⟨v6, rfl, h⟩ := zmi_of hv
              show ma_wp X d w 259 80 [(3, .inl (1 : Int32)), (0, .inr (.inr (some 94))), (1, .inl ix), (2, .inl pa)] [.inl v6] (zst S m5) _
              refine zw_sto hm_259 dX12_block_80 [(4, .inl v6), (3, .inl (1 : Int32)), (0, .inr (.inr (some 94))), (1, .inl ix), (2, .inl pa)] rfl rfl rfl ?_
              refine zw_push hm_259 dX12_block_82 (v := .inl (0 : Int32)) rfl ?_
              refine zw_sto hm_259 dX12_block_83 [(5, .inl (0 : Int32)), (4, .inl v6), (3, .inl (1 : Int32)), (0, .inr (.inr (some 94))), (1, .inl ix), (2, .inl pa)] rfl rfl rfl ?_
              exact zw_sub (ma_nd_of (ks := [0, 1, 2, 4, 5]) rfl (by decide)) (ma_nd_of (ks := [5, 4, 3, 0, 1, 2]) rfl (by decide)) (ma_le_cons rfl (ma_le_cons rfl (ma_le_cons rfl (ma_le_cons rfl (ma_le_cons rfl (ma_le_nil _)))))) (h d w _ Q (by omega) (by omega) (zT_zst hS m5) rfl HQ)
            · intro hc
              rw [if_pos (Classical.not_not.mp hc)] at h
              refine zw_push hm_259 dX12_block_50 (v := .inl (2 : Int32)) rfl ?_
              refine zw_goto hm_259 dX12_block_51 (t := 63) rfl ?_
              refine zw_cv hm_259 dX12_block_63 v_12_110_12 hm_167 [.inl (2 : Int32)] [] rfl (zT_rt hS s_94 rfl) ⟨by omega, by omega⟩ rfl ?_
              show ma_wp X (d - 1) (w - 21) 167 0 [(0, .inr (.inr (some 94))), (1, .inl (2 : Int32))] [] S _
              refine zw_push hm_167 dX12_fails_0 (v := .inr (.inr (some 94))) rfl ?_
              refine zw_push hm_167 dX12_fails_1 (v := .inl (2 : Int32)) rfl ?_
              refine zw_pf hm_167 dX12_fails_2 (zT_is hS s_94) (zT_t hS s_94) p_12_1_12 zk_int ?_
              refine zw_push hm_167 dX12_fails_5 (v := .inl (2 : Int32)) rfl ?_
              refine zw_if0 hm_167 dX12_fails_6 (t := 13) rfl zc0_eq (fun hc => absurd hc (by decide)) (fun _ => ?_)
              refine zw_push hm_167 dX12_fails_9 (v := .inl (1 : Int32)) rfl ?_
              refine zw_goto hm_167 dX12_fails_10 (t := 14) rfl ?_
              refine zw_bret hm_167 dX12_fails_14 (by decide) ?_
              show ma_wp X d w 259 66 [(3, .inl (1 : Int32)), (0, .inr (.inr (some 94))), (1, .inl ix), (2, .inl pa)] [.inl (1 : Int32)] (ma_put S 94 0 (.inl (2 : Int32))) _
              refine zw_if0 hm_259 dX12_block_66 (t := 71) rfl zc0_eq (fun hc => absurd hc (by decide)) (fun _ => ?_)
              refine zw_push hm_259 dX12_block_69 (v := .inl (0 : Int32)) rfl ?_
              exact zw_iret hm_259 dX12_block_70 (HQ _ _ h)
          · intro hc
            rw [if_neg hc] at h
            refine zw_push hm_259 dX12_block_39 (v := .inl (1 : Int32)) rfl ?_
            refine zw_goto hm_259 dX12_block_40 (t := 63) rfl ?_
            refine zw_cv hm_259 dX12_block_63 v_12_110_12 hm_167 [.inl (1 : Int32)] [] rfl (zT_rt hS s_94 rfl) ⟨by omega, by omega⟩ rfl ?_
            show ma_wp X (d - 1) (w - 21) 167 0 [(0, .inr (.inr (some 94))), (1, .inl (1 : Int32))] [] S _
            refine zw_push hm_167 dX12_fails_0 (v := .inr (.inr (some 94))) rfl ?_
            refine zw_push hm_167 dX12_fails_1 (v := .inl (1 : Int32)) rfl ?_
            refine zw_pf hm_167 dX12_fails_2 (zT_is hS s_94) (zT_t hS s_94) p_12_1_12 zk_int ?_
            refine zw_push hm_167 dX12_fails_5 (v := .inl (1 : Int32)) rfl ?_
            refine zw_if0 hm_167 dX12_fails_6 (t := 13) rfl zc0_eq (fun hc => absurd hc (by decide)) (fun _ => ?_)
            refine zw_push hm_167 dX12_fails_9 (v := .inl (1 : Int32)) rfl ?_
            refine zw_goto hm_167 dX12_fails_10 (t := 14) rfl ?_
            refine zw_bret hm_167 dX12_fails_14 (by decide) ?_
            show ma_wp X d w 259 66 [(3, .inl (1 : Int32)), (0, .inr (.inr (some 94))), (1, .inl ix), (2, .inl pa)] [.inl (1 : Int32)] (ma_put S 94 0 (.inl (1 : Int32))) _
            refine zw_if0 hm_259 dX12_block_66 (t := 71) rfl zc0_eq (fun hc => absurd hc (by decide)) (fun _ => ?_)
            refine zw_push hm_259 dX12_block_69 (v := .inl (0 : Int32)) rfl ?_
            exact zw_iret hm_259 dX12_block_70 (HQ _ _ h)
theorem g_259_85 {X : Nat × (Nat → Int32)} {m : Nat → Nat → Int32} {P : Option ma_V → (Nat → Nat → Int32) → Prop} (l1 : Int32) (l2 : Int32) (l4 : Int32) (l5 : Int32) (h : if l1 ≤ l5 then (if l1 < 0 then (P (some (.inl (0 : Int32))) (ma_u m 94 0 (4 : Int32))) else (if 0 ≤ l4 then (if l2 = 0 then (P (some (.inl l4)) (ma_u m 94 0 (0 : Int32))) else (P (some (.inl (m 94 84))) (ma_u m 94 0 (0 : Int32)))) else (P (some (.inl (0 : Int32))) (ma_u m 94 0 (4 : Int32))))) else (if l4 < 0 then (if l1 < 0 then (P (some (.inl (0 : Int32))) (ma_u m 94 0 (4 : Int32))) else (if 0 ≤ l4 then (if l2 = 0 then (P (some (.inl l4)) (ma_u m 94 0 (0 : Int32))) else (P (some (.inl (m 94 84))) (ma_u m 94 0 (0 : Int32)))) else (P (some (.inl (0 : Int32))) (ma_u m 94 0 (4 : Int32))))) else (zm X 1 21 226 0 [(0, .inr (.inr (some 94))), (1, .inl (l4 + (m 94 84))), (2, .inl (m 94 11))] m (zmi (fun v2 m1 => zm X 2 45 259 85 [(0, .inr (.inr (some 94))), (1, .inl l1), (2, .inl l2), (4, .inl v2), (5, .inl (l5 + (1 : Int32)))] m1 P))))) : zm X 2 45 259 85 [(0, .inr (.inr (some 94))), (1, .inl l1), (2, .inl l2), (4, .inl l4), (5, .inl l5)] m P := by
  intro d w S Q hd hw hS hm HQ
  subst hm
  refine zw_push hm_259 dX12_block_85 (v := .inl l5) rfl ?_
  refine zw_push hm_259 dX12_block_87 (v := .inl l1) rfl ?_
  refine zw_if2 hm_259 dX12_block_88 (t := 119) rfl zc2_ge ?_ ?_
  · intro hc
    rw [if_pos hc] at h
    refine zw_push hm_259 dX12_block_119 (v := .inr (.inr (some 94))) rfl ?_
    refine zw_push hm_259 dX12_block_120 (v := .inl l1) rfl ?_
    refine zw_if0 hm_259 dX12_block_121 (t := 129) rfl zc0_lt ?_ ?_
    · intro hc
      rw [if_pos hc] at h
      refine zw_push hm_259 dX12_block_129 (v := .inl (4 : Int32)) rfl ?_
      refine zw_goto hm_259 dX12_block_130 (t := 134) rfl ?_
      refine zw_cv hm_259 dX12_block_134 v_12_110_12 hm_167 [.inl (4 : Int32)] [] rfl (zT_rt hS s_94 rfl) ⟨by omega, by omega⟩ rfl ?_
      show ma_wp X (d - 1) (w - 21) 167 0 [(0, .inr (.inr (some 94))), (1, .inl (4 : Int32))] [] S _
      refine zw_push hm_167 dX12_fails_0 (v := .inr (.inr (some 94))) rfl ?_
      refine zw_push hm_167 dX12_fails_1 (v := .inl (4 : Int32)) rfl ?_
      refine zw_pf hm_167 dX12_fails_2 (zT_is hS s_94) (zT_t hS s_94) p_12_1_12 zk_int ?_
      refine zw_push hm_167 dX12_fails_5 (v := .inl (4 : Int32)) rfl ?_
      refine zw_if0 hm_167 dX12_fails_6 (t := 13) rfl zc0_eq (fun hc => absurd hc (by decide)) (fun _ => ?_)
      refine zw_push hm_167 dX12_fails_9 (v := .inl (1 : Int32)) rfl ?_
      refine zw_goto hm_167 dX12_fails_10 (t := 14) rfl ?_
      refine zw_bret hm_167 dX12_fails_14 (by decide) ?_
      show ma_wp X d w 259 137 [(0, .inr (.inr (some 94))), (1, .inl l1), (2, .inl l2), (4, .inl l4), (5, .inl l5)] [.inl (1 : Int32)] (ma_put S 94 0 (.inl (4 : Int32))) _
      refine zw_if0 hm_259 dX12_block_137 (t := 142) rfl zc0_eq (fun hc => absurd hc (by decide)) (fun _ => ?_)
      refine zw_push hm_259 dX12_block_140 (v := .inl (0 : Int32)) rfl ?_
      exact zw_iret hm_259 dX12_block_141 (HQ _ _ h)
    · intro hc
      rw [if_neg hc] at h
      refine zw_push hm_259 dX12_block_124 (v := .inl l4) rfl ?_
      refine zw_if0 hm_259 dX12_block_126 (t := 133) rfl zc0_ge ?_ ?_
      · intro hc
        rw [if_pos hc] at h
        refine zw_push hm_259 dX12_block_133 (v := .inl (0 : Int32)) rfl ?_
        refine zw_cv hm_259 dX12_block_134 v_12_110_12 hm_167 [.inl (0 : Int32)] [] rfl (zT_rt hS s_94 rfl) ⟨by omega, by omega⟩ rfl ?_
        show ma_wp X (d - 1) (w - 21) 167 0 [(0, .inr (.inr (some 94))), (1, .inl (0 : Int32))] [] S _
        refine zw_push hm_167 dX12_fails_0 (v := .inr (.inr (some 94))) rfl ?_
        refine zw_push hm_167 dX12_fails_1 (v := .inl (0 : Int32)) rfl ?_
        refine zw_pf hm_167 dX12_fails_2 (zT_is hS s_94) (zT_t hS s_94) p_12_1_12 zk_int ?_
        refine zw_push hm_167 dX12_fails_5 (v := .inl (0 : Int32)) rfl ?_
        refine zw_if0 hm_167 dX12_fails_6 (t := 13) rfl zc0_eq (fun _ => ?_) (fun hc => absurd (by decide) hc)
        refine zw_push hm_167 dX12_fails_13 (v := .inl (0 : Int32)) rfl ?_
        refine zw_bret hm_167 dX12_fails_14 (by decide) ?_
        show ma_wp X d w 259 137 [(0, .inr (.inr (some 94))), (1, .inl l1), (2, .inl l2), (4, .inl l4), (5, .inl l5)] [.inl (0 : Int32)] (ma_put S 94 0 (.inl (0 : Int32))) _
        refine zw_if0 hm_259 dX12_block_137 (t := 142) rfl zc0_eq (fun _ => ?_) (fun hc => absurd (by decide) hc)
        refine zw_push hm_259 dX12_block_142 (v := .inl l2) rfl ?_
        refine zw_if0 hm_259 dX12_block_143 (t := 151) rfl zc0_ne ?_ ?_
        · intro hc
          rw [if_neg hc] at h
          refine zw_push hm_259 dX12_block_151 (v := .inr (.inr (some 94))) rfl ?_
          refine zw_gf hm_259 dX12_block_152 (v := .inl ((mI S) 94 84)) (zT_is (zT_pi hS) s_94) (zT_t (zT_pi hS) s_94) rfl f_12_420_12 rfl ?_
          exact zw_iret hm_259 dX12_block_155 (HQ _ _ h)
        · intro hc
          rw [if_pos (Classical.not_not.mp hc)] at h
          refine zw_push hm_259 dX12_block_146 (v := .inl l4) rfl ?_
          refine zw_goto hm_259 dX12_block_148 (t := 155) rfl ?_
          exact zw_iret hm_259 dX12_block_155 (HQ _ _ h)
      · intro hc
        rw [if_neg hc] at h
        refine zw_push hm_259 dX12_block_129 (v := .inl (4 : Int32)) rfl ?_
        refine zw_goto hm_259 dX12_block_130 (t := 134) rfl ?_
        refine zw_cv hm_259 dX12_block_134 v_12_110_12 hm_167 [.inl (4 : Int32)] [] rfl (zT_rt hS s_94 rfl) ⟨by omega, by omega⟩ rfl ?_
        show ma_wp X (d - 1) (w - 21) 167 0 [(0, .inr (.inr (some 94))), (1, .inl (4 : Int32))] [] S _
        refine zw_push hm_167 dX12_fails_0 (v := .inr (.inr (some 94))) rfl ?_
        refine zw_push hm_167 dX12_fails_1 (v := .inl (4 : Int32)) rfl ?_
        refine zw_pf hm_167 dX12_fails_2 (zT_is hS s_94) (zT_t hS s_94) p_12_1_12 zk_int ?_
        refine zw_push hm_167 dX12_fails_5 (v := .inl (4 : Int32)) rfl ?_
        refine zw_if0 hm_167 dX12_fails_6 (t := 13) rfl zc0_eq (fun hc => absurd hc (by decide)) (fun _ => ?_)
        refine zw_push hm_167 dX12_fails_9 (v := .inl (1 : Int32)) rfl ?_
        refine zw_goto hm_167 dX12_fails_10 (t := 14) rfl ?_
        refine zw_bret hm_167 dX12_fails_14 (by decide) ?_
        show ma_wp X d w 259 137 [(0, .inr (.inr (some 94))), (1, .inl l1), (2, .inl l2), (4, .inl l4), (5, .inl l5)] [.inl (1 : Int32)] (ma_put S 94 0 (.inl (4 : Int32))) _
        refine zw_if0 hm_259 dX12_block_137 (t := 142) rfl zc0_eq (fun hc => absurd hc (by decide)) (fun _ => ?_)
        refine zw_push hm_259 dX12_block_140 (v := .inl (0 : Int32)) rfl ?_
        exact zw_iret hm_259 dX12_block_141 (HQ _ _ h)
  · intro hc
    rw [if_neg hc] at h
    refine zw_push hm_259 dX12_block_91 (v := .inl l4) rfl ?_
    refine zw_if0 hm_259 dX12_block_93 (t := 119) rfl zc0_lt ?_ ?_
    · intro hc
      rw [if_pos hc] at h
      refine zw_push hm_259 dX12_block_119 (v := .inr (.inr (some 94))) rfl ?_
      refine zw_push hm_259 dX12_block_120 (v := .inl l1) rfl ?_
      refine zw_if0 hm_259 dX12_block_121 (t := 129) rfl zc0_lt ?_ ?_
      · intro hc
        rw [if_pos hc] at h
        refine zw_push hm_259 dX12_block_129 (v := .inl (4 : Int32)) rfl ?_
        refine zw_goto hm_259 dX12_block_130 (t := 134) rfl ?_
        refine zw_cv hm_259 dX12_block_134 v_12_110_12 hm_167 [.inl (4 : Int32)] [] rfl (zT_rt hS s_94 rfl) ⟨by omega, by omega⟩ rfl ?_
        show ma_wp X (d - 1) (w - 21) 167 0 [(0, .inr (.inr (some 94))), (1, .inl (4 : Int32))] [] S _
        refine zw_push hm_167 dX12_fails_0 (v := .inr (.inr (some 94))) rfl ?_
        refine zw_push hm_167 dX12_fails_1 (v := .inl (4 : Int32)) rfl ?_
        refine zw_pf hm_167 dX12_fails_2 (zT_is hS s_94) (zT_t hS s_94) p_12_1_12 zk_int ?_
        refine zw_push hm_167 dX12_fails_5 (v := .inl (4 : Int32)) rfl ?_
        refine zw_if0 hm_167 dX12_fails_6 (t := 13) rfl zc0_eq (fun hc => absurd hc (by decide)) (fun _ => ?_)
        refine zw_push hm_167 dX12_fails_9 (v := .inl (1 : Int32)) rfl ?_
        refine zw_goto hm_167 dX12_fails_10 (t := 14) rfl ?_
        refine zw_bret hm_167 dX12_fails_14 (by decide) ?_
        show ma_wp X d w 259 137 [(0, .inr (.inr (some 94))), (1, .inl l1), (2, .inl l2), (4, .inl l4), (5, .inl l5)] [.inl (1 : Int32)] (ma_put S 94 0 (.inl (4 : Int32))) _
        refine zw_if0 hm_259 dX12_block_137 (t := 142) rfl zc0_eq (fun hc => absurd hc (by decide)) (fun _ => ?_)
        refine zw_push hm_259 dX12_block_140 (v := .inl (0 : Int32)) rfl ?_
        exact zw_iret hm_259 dX12_block_141 (HQ _ _ h)
      · intro hc
        rw [if_neg hc] at h
        refine zw_push hm_259 dX12_block_124 (v := .inl l4) rfl ?_
        refine zw_if0 hm_259 dX12_block_126 (t := 133) rfl zc0_ge ?_ ?_
        · intro hc
          rw [if_pos hc] at h
          refine zw_push hm_259 dX12_block_133 (v := .inl (0 : Int32)) rfl ?_
          refine zw_cv hm_259 dX12_block_134 v_12_110_12 hm_167 [.inl (0 : Int32)] [] rfl (zT_rt hS s_94 rfl) ⟨by omega, by omega⟩ rfl ?_
          show ma_wp X (d - 1) (w - 21) 167 0 [(0, .inr (.inr (some 94))), (1, .inl (0 : Int32))] [] S _
          refine zw_push hm_167 dX12_fails_0 (v := .inr (.inr (some 94))) rfl ?_
          refine zw_push hm_167 dX12_fails_1 (v := .inl (0 : Int32)) rfl ?_
          refine zw_pf hm_167 dX12_fails_2 (zT_is hS s_94) (zT_t hS s_94) p_12_1_12 zk_int ?_
          refine zw_push hm_167 dX12_fails_5 (v := .inl (0 : Int32)) rfl ?_
          refine zw_if0 hm_167 dX12_fails_6 (t := 13) rfl zc0_eq (fun _ => ?_) (fun hc => absurd (by decide) hc)
          refine zw_push hm_167 dX12_fails_13 (v := .inl (0 : Int32)) rfl ?_
          refine zw_bret hm_167 dX12_fails_14 (by decide) ?_
          show ma_wp X d w 259 137 [(0, .inr (.inr (some 94))), (1, .inl l1), (2, .inl l2), (4, .inl l4), (5, .inl l5)] [.inl (0 : Int32)] (ma_put S 94 0 (.inl (0 : Int32))) _
          refine zw_if0 hm_259 dX12_block_137 (t := 142) rfl zc0_eq (fun _ => ?_) (fun hc => absurd (by decide) hc)
          refine zw_push hm_259 dX12_block_142 (v := .inl l2) rfl ?_
          refine zw_if0 hm_259 dX12_block_143 (t := 151) rfl zc0_ne ?_ ?_
          · intro hc
            rw [if_neg hc] at h
            refine zw_push hm_259 dX12_block_151 (v := .inr (.inr (some 94))) rfl ?_
            refine zw_gf hm_259 dX12_block_152 (v := .inl ((mI S) 94 84)) (zT_is (zT_pi hS) s_94) (zT_t (zT_pi hS) s_94) rfl f_12_420_12 rfl ?_
            exact zw_iret hm_259 dX12_block_155 (HQ _ _ h)
          · intro hc
            rw [if_pos (Classical.not_not.mp hc)] at h
            refine zw_push hm_259 dX12_block_146 (v := .inl l4) rfl ?_
            refine zw_goto hm_259 dX12_block_148 (t := 155) rfl ?_
            exact zw_iret hm_259 dX12_block_155 (HQ _ _ h)
        · intro hc
          rw [if_neg hc] at h
          refine zw_push hm_259 dX12_block_129 (v := .inl (4 : Int32)) rfl ?_
          refine zw_goto hm_259 dX12_block_130 (t := 134) rfl ?_
          refine zw_cv hm_259 dX12_block_134 v_12_110_12 hm_167 [.inl (4 : Int32)] [] rfl (zT_rt hS s_94 rfl) ⟨by omega, by omega⟩ rfl ?_
          show ma_wp X (d - 1) (w - 21) 167 0 [(0, .inr (.inr (some 94))), (1, .inl (4 : Int32))] [] S _
          refine zw_push hm_167 dX12_fails_0 (v := .inr (.inr (some 94))) rfl ?_
          refine zw_push hm_167 dX12_fails_1 (v := .inl (4 : Int32)) rfl ?_
          refine zw_pf hm_167 dX12_fails_2 (zT_is hS s_94) (zT_t hS s_94) p_12_1_12 zk_int ?_
          refine zw_push hm_167 dX12_fails_5 (v := .inl (4 : Int32)) rfl ?_
          refine zw_if0 hm_167 dX12_fails_6 (t := 13) rfl zc0_eq (fun hc => absurd hc (by decide)) (fun _ => ?_)
          refine zw_push hm_167 dX12_fails_9 (v := .inl (1 : Int32)) rfl ?_
          refine zw_goto hm_167 dX12_fails_10 (t := 14) rfl ?_
          refine zw_bret hm_167 dX12_fails_14 (by decide) ?_
          show ma_wp X d w 259 137 [(0, .inr (.inr (some 94))), (1, .inl l1), (2, .inl l2), (4, .inl l4), (5, .inl l5)] [.inl (1 : Int32)] (ma_put S 94 0 (.inl (4 : Int32))) _
          refine zw_if0 hm_259 dX12_block_137 (t := 142) rfl zc0_eq (fun hc => absurd hc (by decide)) (fun _ => ?_)
          refine zw_push hm_259 dX12_block_140 (v := .inl (0 : Int32)) rfl ?_
          exact zw_iret hm_259 dX12_block_141 (HQ _ _ h)
    · intro hc
      rw [if_neg hc] at h
      refine zw_push hm_259 dX12_block_96 (v := .inr (.inr (some 94))) rfl ?_
      refine zw_push hm_259 dX12_block_97 (v := .inl l4) rfl ?_
      refine zw_push hm_259 dX12_block_99 (v := .inr (.inr (some 94))) rfl ?_
      refine zw_gf hm_259 dX12_block_100 (v := .inl ((mI S) 94 84)) (zT_is hS s_94) (zT_t hS s_94) rfl f_12_420_12 rfl ?_
      refine zw_stk hm_259 dX12_block_103 (st₉ := [.inl (l4 + ((mI S) 94 84)), .inr (.inr (some 94))]) rfl rfl ?_
      refine zw_push hm_259 dX12_block_104 (v := .inr (.inr (some 94))) rfl ?_
      refine zw_gf hm_259 dX12_block_105 (v := .inl ((mI S) 94 11)) (zT_is hS s_94) (zT_t hS s_94) rfl f_12_202_12 rfl ?_
      refine zw_cv hm_259 dX12_block_108 v_12_423_12 hm_226 [.inl ((mI S) 94 11), .inl (l4 + ((mI S) 94 84))] [] rfl (zT_rt hS s_94 rfl) ⟨by omega, by omega⟩ rfl (h _ _ S _ (by omega) (by omega) hS rfl (fun o9 m1 hv => ?_))
      obtain ⟨v2, rfl, h⟩ := zmi_of hv
      show ma_wp X d w 259 111 [(0, .inr (.inr (some 94))), (1, .inl l1), (2, .inl l2), (4, .inl l4), (5, .inl l5)] [.inl v2] (zst S m1) _
      refine zw_sto hm_259 dX12_block_111 [(4, .inl v2), (0, .inr (.inr (some 94))), (1, .inl l1), (2, .inl l2), (5, .inl l5)] rfl rfl rfl ?_
      refine zw_sto hm_259 dX12_block_113 [(5, .inl (l5 + (1 : Int32))), (4, .inl v2), (0, .inr (.inr (some 94))), (1, .inl l1), (2, .inl l2)] rfl rfl rfl ?_
      refine zw_goto hm_259 dX12_block_116 (t := 85) rfl ?_
      exact zw_sub (ma_nd_of (ks := [0, 1, 2, 4, 5]) rfl (by decide)) (ma_nd_of (ks := [5, 4, 0, 1, 2]) rfl (by decide)) (ma_le_cons rfl (ma_le_cons rfl (ma_le_cons rfl (ma_le_cons rfl (ma_le_cons rfl (ma_le_nil _)))))) (h d w _ Q (by omega) (by omega) (zT_zst hS m1) rfl HQ)
