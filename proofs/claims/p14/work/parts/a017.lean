/-! from 94.402 -/
/-! the reference (written by wip/tools/gen94m.py) -/
set_option maxRecDepth 100000 in
theorem hm_175 : ma_md 175 = some (12, yX12_is, cX12_is, 9, (some (FieldType.boolean))) := rfl
set_option maxRecDepth 100000 in
theorem hm_176 : ma_md 176 = some (12, yX12_byteIs, cX12_byteIs, 3, (some (FieldType.boolean))) := rfl
theorem v_12_136_12 : ma_vl 12 136 12 = some (1, 176, 2) := by decide +kernel
theorem dX12_is_0 : decode cX12_is 0 = .ok (.iload 5, 2) := by decide +kernel
theorem dX12_is_9 : decode cX12_is 9 = .ok (.iload 6, 2) := by decide +kernel
theorem dX12_is_18 : decode cX12_is 18 = .ok (.iload 7, 2) := by decide +kernel
theorem dX12_is_28 : decode cX12_is 28 = .ok (.bipush 7, 2) := by decide +kernel
theorem dX12_is_30 : decode cX12_is 30 = .ok (.istore 8, 2) := by decide +kernel
theorem dX12_is_32 : decode cX12_is 32 = .ok (.aload_n 0, 1) := by decide +kernel
theorem dX12_is_36 : decode cX12_is 36 = .ok (.iload 8, 2) := by decide +kernel
theorem dX12_is_43 : decode cX12_is 43 = .ok (.aload_n 0, 1) := by decide +kernel
theorem dX12_is_44 : decode cX12_is 44 = .ok (.iconst 0, 1) := by decide +kernel
theorem dX12_is_45 : decode cX12_is 45 = .ok (.iload_n 1, 1) := by decide +kernel
theorem dX12_is_46 : decode cX12_is 46 = .ok (.invokevirtual 136, 3) := by decide +kernel
theorem dX12_byteIs_0 : decode cX12_byteIs 0 = .ok (.aload_n 0, 1) := by decide +kernel
theorem dX12_byteIs_4 : decode cX12_byteIs 4 = .ok (.aload_n 0, 1) := by decide +kernel
theorem dX12_byteIs_8 : decode cX12_byteIs 8 = .ok (.iload_n 1, 1) := by decide +kernel
theorem dX12_byteIs_9 : decode cX12_byteIs 9 = .ok (.iadd, 1) := by decide +kernel
theorem dX12_byteIs_11 : decode cX12_byteIs 11 = .ok (.iload_n 2, 1) := by decide +kernel
theorem dX12_byteIs_19 : decode cX12_byteIs 19 = .ok (.iconst 0, 1) := by decide +kernel
theorem dX12_is_49 : decode cX12_is 49 = .ok (.ifCond .eq 86, 3) := by decide +kernel
theorem dX12_is_135 : decode cX12_is 135 = .ok (.iconst 0, 1) := by decide +kernel
theorem dX12_is_136 : decode cX12_is 136 = .ok (.ireturn, 1) := by decide +kernel
theorem dX12_byteIs_20 : decode cX12_byteIs 20 = .ok (.ireturn, 1) := by decide +kernel
theorem dX12_byteIs_15 : decode cX12_byteIs 15 = .ok (.iconst 1, 1) := by decide +kernel
theorem dX12_byteIs_16 : decode cX12_byteIs 16 = .ok (.goto 4, 3) := by decide +kernel
theorem dX12_is_52 : decode cX12_is 52 = .ok (.aload_n 0, 1) := by decide +kernel
theorem dX12_is_53 : decode cX12_is 53 = .ok (.iconst 1, 1) := by decide +kernel
theorem dX12_is_54 : decode cX12_is 54 = .ok (.iload_n 2, 1) := by decide +kernel
theorem dX12_is_55 : decode cX12_is 55 = .ok (.invokevirtual 136, 3) := by decide +kernel
theorem dX12_is_58 : decode cX12_is 58 = .ok (.ifCond .eq 77, 3) := by decide +kernel
theorem dX12_is_61 : decode cX12_is 61 = .ok (.aload_n 0, 1) := by decide +kernel
theorem dX12_is_62 : decode cX12_is 62 = .ok (.iconst 2, 1) := by decide +kernel
theorem dX12_is_63 : decode cX12_is 63 = .ok (.iload_n 3, 1) := by decide +kernel
theorem dX12_is_64 : decode cX12_is 64 = .ok (.invokevirtual 136, 3) := by decide +kernel
theorem dX12_is_67 : decode cX12_is 67 = .ok (.ifCond .eq 68, 3) := by decide +kernel
theorem dX12_is_70 : decode cX12_is 70 = .ok (.aload_n 0, 1) := by decide +kernel
theorem dX12_is_71 : decode cX12_is 71 = .ok (.iconst 3, 1) := by decide +kernel
theorem dX12_is_72 : decode cX12_is 72 = .ok (.iload 4, 2) := by decide +kernel
theorem dX12_is_74 : decode cX12_is 74 = .ok (.invokevirtual 136, 3) := by decide +kernel
theorem dX12_is_77 : decode cX12_is 77 = .ok (.ifCond .eq 58, 3) := by decide +kernel
theorem dX12_is_80 : decode cX12_is 80 = .ok (.iload 8, 2) := by decide +kernel
theorem dX12_is_82 : decode cX12_is 82 = .ok (.iconst 5, 1) := by decide +kernel
theorem dX12_is_83 : decode cX12_is 83 = .ok (.if_icmp .lt 13, 3) := by decide +kernel
theorem dX12_is_86 : decode cX12_is 86 = .ok (.aload_n 0, 1) := by decide +kernel
theorem dX12_is_87 : decode cX12_is 87 = .ok (.iconst 4, 1) := by decide +kernel
theorem dX12_is_88 : decode cX12_is 88 = .ok (.iload 5, 2) := by decide +kernel
theorem dX12_is_90 : decode cX12_is 90 = .ok (.invokevirtual 136, 3) := by decide +kernel
theorem dX12_is_93 : decode cX12_is 93 = .ok (.ifCond .eq 42, 3) := by decide +kernel
theorem dX12_is_96 : decode cX12_is 96 = .ok (.iload 8, 2) := by decide +kernel
theorem dX12_is_98 : decode cX12_is 98 = .ok (.bipush 6, 2) := by decide +kernel
theorem dX12_is_100 : decode cX12_is 100 = .ok (.if_icmp .lt 13, 3) := by decide +kernel
theorem dX12_is_103 : decode cX12_is 103 = .ok (.aload_n 0, 1) := by decide +kernel
theorem dX12_is_104 : decode cX12_is 104 = .ok (.iconst 5, 1) := by decide +kernel
theorem dX12_is_105 : decode cX12_is 105 = .ok (.iload 6, 2) := by decide +kernel
theorem dX12_is_107 : decode cX12_is 107 = .ok (.invokevirtual 136, 3) := by decide +kernel
theorem dX12_is_110 : decode cX12_is 110 = .ok (.ifCond .eq 25, 3) := by decide +kernel
theorem dX12_is_113 : decode cX12_is 113 = .ok (.iload 8, 2) := by decide +kernel
theorem dX12_is_115 : decode cX12_is 115 = .ok (.bipush 7, 2) := by decide +kernel
theorem dX12_is_117 : decode cX12_is 117 = .ok (.if_icmp .lt 14, 3) := by decide +kernel
theorem dX12_is_120 : decode cX12_is 120 = .ok (.aload_n 0, 1) := by decide +kernel
theorem dX12_is_121 : decode cX12_is 121 = .ok (.bipush 6, 2) := by decide +kernel
theorem dX12_is_123 : decode cX12_is 123 = .ok (.iload 7, 2) := by decide +kernel
theorem dX12_is_125 : decode cX12_is 125 = .ok (.invokevirtual 136, 3) := by decide +kernel
theorem dX12_is_128 : decode cX12_is 128 = .ok (.ifCond .eq 7, 3) := by decide +kernel
theorem dX12_is_131 : decode cX12_is 131 = .ok (.iconst 1, 1) := by decide +kernel
theorem dX12_is_132 : decode cX12_is 132 = .ok (.goto 4, 3) := by decide +kernel
theorem dX12_byteIs_12 : decode cX12_byteIs 12 = .ok (.if_icmp .ne 7, 3) := by decide +kernel
theorem dX12_byteIs_10 : decode cX12_byteIs 10 = .ok (.baload, 1) := by decide +kernel
theorem dX12_byteIs_5 : decode cX12_byteIs 5 = .ok (.getfield 127, 3) := by decide +kernel
theorem dX12_byteIs_1 : decode cX12_byteIs 1 = .ok (.getfield 17, 3) := by decide +kernel
theorem dX12_is_41 : decode cX12_is 41 = .ok (.iconst 0, 1) := by decide +kernel
theorem dX12_is_42 : decode cX12_is 42 = .ok (.ireturn, 1) := by decide +kernel
theorem dX12_is_38 : decode cX12_is 38 = .ok (.if_icmp .eq 5, 3) := by decide +kernel
theorem dX12_is_33 : decode cX12_is 33 = .ok (.getfield 130, 3) := by decide +kernel
theorem dX12_is_23 : decode cX12_is 23 = .ok (.bipush 6, 2) := by decide +kernel
theorem dX12_is_25 : decode cX12_is 25 = .ok (.goto 5, 3) := by decide +kernel
theorem dX12_is_20 : decode cX12_is 20 = .ok (.ifCond .ne 8, 3) := by decide +kernel
theorem dX12_is_14 : decode cX12_is 14 = .ok (.iconst 5, 1) := by decide +kernel
theorem dX12_is_15 : decode cX12_is 15 = .ok (.goto 15, 3) := by decide +kernel
theorem dX12_is_11 : decode cX12_is 11 = .ok (.ifCond .ne 7, 3) := by decide +kernel
theorem dX12_is_5 : decode cX12_is 5 = .ok (.iconst 4, 1) := by decide +kernel
theorem dX12_is_6 : decode cX12_is 6 = .ok (.goto 24, 3) := by decide +kernel
theorem dX12_is_2 : decode cX12_is 2 = .ok (.ifCond .ne 7, 3) := by decide +kernel
def wr_175 (_ _ : Nat) : Bool := false
theorem g_175_0 {X : Nat × (Nat → Int32)} {m : Nat → Nat → Int32} {P : Option ma_V → (Nat → Nat → Int32) → Prop} (xa : Int32) (xb : Int32) (xc : Int32) (xd : Int32) (xe : Int32) (xf : Int32) (xg : Int32) (h : if xe = 0 then (if (m 94 69) = (4 : Int32) then ((0 ≤ ((m 94 68) + (0 : Int32)) ∧ ((m 94 68) + (0 : Int32)).toNatClampNeg < 100) ∧ (if (m 96 ((m 94 68) + (0 : Int32)).toNatClampNeg) = xa then ((0 ≤ ((m 94 68) + (1 : Int32)) ∧ ((m 94 68) + (1 : Int32)).toNatClampNeg < 100) ∧ (if (m 96 ((m 94 68) + (1 : Int32)).toNatClampNeg) = xb then ((0 ≤ ((m 94 68) + (2 : Int32)) ∧ ((m 94 68) + (2 : Int32)).toNatClampNeg < 100) ∧ (if (m 96 ((m 94 68) + (2 : Int32)).toNatClampNeg) = xc then ((0 ≤ ((m 94 68) + (3 : Int32)) ∧ ((m 94 68) + (3 : Int32)).toNatClampNeg < 100) ∧ (if (m 96 ((m 94 68) + (3 : Int32)).toNatClampNeg) = xd then (P (some (.inl (1 : Int32))) m) else (P (some (.inl (0 : Int32))) m))) else (P (some (.inl (0 : Int32))) m))) else (P (some (.inl (0 : Int32))) m))) else (P (some (.inl (0 : Int32))) m))) else (P (some (.inl (0 : Int32))) m)) else (if xf = 0 then (if (m 94 69) = (5 : Int32) then ((0 ≤ ((m 94 68) + (0 : Int32)) ∧ ((m 94 68) + (0 : Int32)).toNatClampNeg < 100) ∧ (if (m 96 ((m 94 68) + (0 : Int32)).toNatClampNeg) = xa then ((0 ≤ ((m 94 68) + (1 : Int32)) ∧ ((m 94 68) + (1 : Int32)).toNatClampNeg < 100) ∧ (if (m 96 ((m 94 68) + (1 : Int32)).toNatClampNeg) = xb then ((0 ≤ ((m 94 68) + (2 : Int32)) ∧ ((m 94 68) + (2 : Int32)).toNatClampNeg < 100) ∧ (if (m 96 ((m 94 68) + (2 : Int32)).toNatClampNeg) = xc then ((0 ≤ ((m 94 68) + (3 : Int32)) ∧ ((m 94 68) + (3 : Int32)).toNatClampNeg < 100) ∧ (if (m 96 ((m 94 68) + (3 : Int32)).toNatClampNeg) = xd then ((0 ≤ ((m 94 68) + (4 : Int32)) ∧ ((m 94 68) + (4 : Int32)).toNatClampNeg < 100) ∧ (if (m 96 ((m 94 68) + (4 : Int32)).toNatClampNeg) = xe then (P (some (.inl (1 : Int32))) m) else (P (some (.inl (0 : Int32))) m))) else (P (some (.inl (0 : Int32))) m))) else (P (some (.inl (0 : Int32))) m))) else (P (some (.inl (0 : Int32))) m))) else (P (some (.inl (0 : Int32))) m))) else (P (some (.inl (0 : Int32))) m)) else (if xg = 0 then (if (m 94 69) = (6 : Int32) then ((0 ≤ ((m 94 68) + (0 : Int32)) ∧ ((m 94 68) + (0 : Int32)).toNatClampNeg < 100) ∧ (if (m 96 ((m 94 68) + (0 : Int32)).toNatClampNeg) = xa then ((0 ≤ ((m 94 68) + (1 : Int32)) ∧ ((m 94 68) + (1 : Int32)).toNatClampNeg < 100) ∧ (if (m 96 ((m 94 68) + (1 : Int32)).toNatClampNeg) = xb then ((0 ≤ ((m 94 68) + (2 : Int32)) ∧ ((m 94 68) + (2 : Int32)).toNatClampNeg < 100) ∧ (if (m 96 ((m 94 68) + (2 : Int32)).toNatClampNeg) = xc then ((0 ≤ ((m 94 68) + (3 : Int32)) ∧ ((m 94 68) + (3 : Int32)).toNatClampNeg < 100) ∧ (if (m 96 ((m 94 68) + (3 : Int32)).toNatClampNeg) = xd then ((0 ≤ ((m 94 68) + (4 : Int32)) ∧ ((m 94 68) + (4 : Int32)).toNatClampNeg < 100) ∧ (if (m 96 ((m 94 68) + (4 : Int32)).toNatClampNeg) = xe then ((0 ≤ ((m 94 68) + (5 : Int32)) ∧ ((m 94 68) + (5 : Int32)).toNatClampNeg < 100) ∧ (if (m 96 ((m 94 68) + (5 : Int32)).toNatClampNeg) = xf then (P (some (.inl (1 : Int32))) m) else (P (some (.inl (0 : Int32))) m))) else (P (some (.inl (0 : Int32))) m))) else (P (some (.inl (0 : Int32))) m))) else (P (some (.inl (0 : Int32))) m))) else (P (some (.inl (0 : Int32))) m))) else (P (some (.inl (0 : Int32))) m))) else (P (some (.inl (0 : Int32))) m)) else (if (m 94 69) = (7 : Int32) then ((0 ≤ ((m 94 68) + (0 : Int32)) ∧ ((m 94 68) + (0 : Int32)).toNatClampNeg < 100) ∧ (if (m 96 ((m 94 68) + (0 : Int32)).toNatClampNeg) = xa then ((0 ≤ ((m 94 68) + (1 : Int32)) ∧ ((m 94 68) + (1 : Int32)).toNatClampNeg < 100) ∧ (if (m 96 ((m 94 68) + (1 : Int32)).toNatClampNeg) = xb then ((0 ≤ ((m 94 68) + (2 : Int32)) ∧ ((m 94 68) + (2 : Int32)).toNatClampNeg < 100) ∧ (if (m 96 ((m 94 68) + (2 : Int32)).toNatClampNeg) = xc then ((0 ≤ ((m 94 68) + (3 : Int32)) ∧ ((m 94 68) + (3 : Int32)).toNatClampNeg < 100) ∧ (if (m 96 ((m 94 68) + (3 : Int32)).toNatClampNeg) = xd then ((0 ≤ ((m 94 68) + (4 : Int32)) ∧ ((m 94 68) + (4 : Int32)).toNatClampNeg < 100) ∧ (if (m 96 ((m 94 68) + (4 : Int32)).toNatClampNeg) = xe then ((0 ≤ ((m 94 68) + (5 : Int32)) ∧ ((m 94 68) + (5 : Int32)).toNatClampNeg < 100) ∧ (if (m 96 ((m 94 68) + (5 : Int32)).toNatClampNeg) = xf then ((0 ≤ ((m 94 68) + (6 : Int32)) ∧ ((m 94 68) + (6 : Int32)).toNatClampNeg < 100) ∧ (if (m 96 ((m 94 68) + (6 : Int32)).toNatClampNeg) = xg then (P (some (.inl (1 : Int32))) m) else (P (some (.inl (0 : Int32))) m))) else (P (some (.inl (0 : Int32))) m))) else (P (some (.inl (0 : Int32))) m))) else (P (some (.inl (0 : Int32))) m))) else (P (some (.inl (0 : Int32))) m))) else (P (some (.inl (0 : Int32))) m))) else (P (some (.inl (0 : Int32))) m))) else (P (some (.inl (0 : Int32))) m))))) : zm X 1 22 175 0 [(0, .inr (.inr (some 94))), (1, .inl xa), (2, .inl xb), (3, .inl xc), (4, .inl xd), (5, .inl xe), (6, .inl xf), (7, .inl xg)] m P := by
  intro d w S Q hd hw hS hm HQ
  subst hm
  refine zw_push hm_175 dX12_is_0 (v := .inl xe) rfl ?_
  refine zw_if0 hm_175 dX12_is_2 (t := 9) rfl zc0_ne ?_ ?_
  · intro hc
    rw [if_neg hc] at h
    refine zw_push hm_175 dX12_is_9 (v := .inl xf) rfl ?_
    refine zw_if0 hm_175 dX12_is_11 (t := 18) rfl zc0_ne ?_ ?_
    · intro hc
      rw [if_neg hc] at h
      refine zw_push hm_175 dX12_is_18 (v := .inl xg) rfl ?_
      refine zw_if0 hm_175 dX12_is_20 (t := 28) rfl zc0_ne ?_ ?_
      · intro hc
        rw [if_neg hc] at h
        refine zw_push hm_175 dX12_is_28 (v := .inl (7 : Int32)) rfl ?_
        refine zw_sto hm_175 dX12_is_30 [(8, .inl (7 : Int32)), (0, .inr (.inr (some 94))), (1, .inl xa), (2, .inl xb), (3, .inl xc), (4, .inl xd), (5, .inl xe), (6, .inl xf), (7, .inl xg)] rfl rfl rfl ?_
        refine zw_push hm_175 dX12_is_32 (v := .inr (.inr (some 94))) rfl ?_
        refine zw_gf hm_175 dX12_is_33 (v := .inl ((mI S) 94 69)) (zT_is hS s_94) (zT_t hS s_94) rfl f_12_130_12 rfl ?_
        refine zw_push hm_175 dX12_is_36 (v := .inl (7 : Int32)) rfl ?_
        refine zw_if2 hm_175 dX12_is_38 (t := 43) rfl zc2_eq ?_ ?_
        · intro hc
          rw [if_pos hc] at h
          refine zw_push hm_175 dX12_is_43 (v := .inr (.inr (some 94))) rfl ?_
          refine zw_push hm_175 dX12_is_44 (v := .inl (0 : Int32)) rfl ?_
          refine zw_push hm_175 dX12_is_45 (v := .inl xa) rfl ?_
          refine zw_cv hm_175 dX12_is_46 v_12_136_12 hm_176 [.inl xa, .inl (0 : Int32)] [] rfl (zT_rt hS s_94 rfl) ⟨by omega, by omega⟩ rfl ?_
          show ma_wp X (d - 1) (w - 22) 176 0 [(0, .inr (.inr (some 94))), (1, .inl (0 : Int32)), (2, .inl xa)] [] S _
          refine zw_push hm_176 dX12_byteIs_0 (v := .inr (.inr (some 94))) rfl ?_
          refine zw_gf hm_176 dX12_byteIs_1 (v := .inr (.inr (some 96))) (zT_is hS s_94) (zT_t hS s_94) rfl f_12_17_12 (zT_f hS r_94_2) ?_
          refine zw_push hm_176 dX12_byteIs_4 (v := .inr (.inr (some 94))) rfl ?_
          refine zw_gf hm_176 dX12_byteIs_5 (v := .inl ((mI S) 94 68)) (zT_is hS s_94) (zT_t hS s_94) rfl f_12_127_12 rfl ?_
          refine zw_push hm_176 dX12_byteIs_8 (v := .inl (0 : Int32)) rfl ?_
          refine zw_stk hm_176 dX12_byteIs_9 (st₉ := [.inl (((mI S) 94 68) + (0 : Int32)), .inr (.inr (some 96))]) rfl rfl ?_
          obtain ⟨hg, h⟩ := h
          refine zw_ba hm_176 dX12_byteIs_10 (zT_is hS s_96) (zT_h hS s_96) rfl rfl hg ?_
          show ma_wp X (d - 1) (w - 22) 176 11 [(0, .inr (.inr (some 94))), (1, .inl (0 : Int32)), (2, .inl xa)] [.inl ((mI S) 96 (((mI S) 94 68) + (0 : Int32)).toNatClampNeg)] S _
          refine zw_push hm_176 dX12_byteIs_11 (v := .inl xa) rfl ?_
          refine zw_if2 hm_176 dX12_byteIs_12 (t := 19) rfl zc2_ne ?_ ?_
          · intro hc
            rw [if_neg hc] at h
            refine zw_push hm_176 dX12_byteIs_19 (v := .inl (0 : Int32)) rfl ?_
            refine zw_bret hm_176 dX12_byteIs_20 (by decide) ?_
            show ma_wp X d w 175 49 [(8, .inl (7 : Int32)), (0, .inr (.inr (some 94))), (1, .inl xa), (2, .inl xb), (3, .inl xc), (4, .inl xd), (5, .inl xe), (6, .inl xf), (7, .inl xg)] [.inl (0 : Int32)] S _
            refine zw_if0 hm_175 dX12_is_49 (t := 135) rfl zc0_eq (fun _ => ?_) (fun hc => absurd (by decide) hc)
            refine zw_push hm_175 dX12_is_135 (v := .inl (0 : Int32)) rfl ?_
            exact zw_bret hm_175 dX12_is_136 (by decide) (HQ _ _ h)
          · intro hc
            rw [if_pos (Classical.not_not.mp hc)] at h
            refine zw_push hm_176 dX12_byteIs_15 (v := .inl (1 : Int32)) rfl ?_
            refine zw_goto hm_176 dX12_byteIs_16 (t := 20) rfl ?_
            refine zw_bret hm_176 dX12_byteIs_20 (by decide) ?_
            show ma_wp X d w 175 49 [(8, .inl (7 : Int32)), (0, .inr (.inr (some 94))), (1, .inl xa), (2, .inl xb), (3, .inl xc), (4, .inl xd), (5, .inl xe), (6, .inl xf), (7, .inl xg)] [.inl (1 : Int32)] S _
            refine zw_if0 hm_175 dX12_is_49 (t := 135) rfl zc0_eq (fun hc => absurd hc (by decide)) (fun _ => ?_)
            refine zw_push hm_175 dX12_is_52 (v := .inr (.inr (some 94))) rfl ?_
            refine zw_push hm_175 dX12_is_53 (v := .inl (1 : Int32)) rfl ?_
            refine zw_push hm_175 dX12_is_54 (v := .inl xb) rfl ?_
            refine zw_cv hm_175 dX12_is_55 v_12_136_12 hm_176 [.inl xb, .inl (1 : Int32)] [] rfl (zT_rt hS s_94 rfl) ⟨by omega, by omega⟩ rfl ?_
            show ma_wp X (d - 1) (w - 22) 176 0 [(0, .inr (.inr (some 94))), (1, .inl (1 : Int32)), (2, .inl xb)] [] S _
            refine zw_push hm_176 dX12_byteIs_0 (v := .inr (.inr (some 94))) rfl ?_
            refine zw_gf hm_176 dX12_byteIs_1 (v := .inr (.inr (some 96))) (zT_is hS s_94) (zT_t hS s_94) rfl f_12_17_12 (zT_f hS r_94_2) ?_
            refine zw_push hm_176 dX12_byteIs_4 (v := .inr (.inr (some 94))) rfl ?_
            refine zw_gf hm_176 dX12_byteIs_5 (v := .inl ((mI S) 94 68)) (zT_is hS s_94) (zT_t hS s_94) rfl f_12_127_12 rfl ?_
            refine zw_push hm_176 dX12_byteIs_8 (v := .inl (1 : Int32)) rfl ?_
            refine zw_stk hm_176 dX12_byteIs_9 (st₉ := [.inl (((mI S) 94 68) + (1 : Int32)), .inr (.inr (some 96))]) rfl rfl ?_
            obtain ⟨hg, h⟩ := h
            refine zw_ba hm_176 dX12_byteIs_10 (zT_is hS s_96) (zT_h hS s_96) rfl rfl hg ?_
            show ma_wp X (d - 1) (w - 22) 176 11 [(0, .inr (.inr (some 94))), (1, .inl (1 : Int32)), (2, .inl xb)] [.inl ((mI S) 96 (((mI S) 94 68) + (1 : Int32)).toNatClampNeg)] S _
            refine zw_push hm_176 dX12_byteIs_11 (v := .inl xb) rfl ?_
            refine zw_if2 hm_176 dX12_byteIs_12 (t := 19) rfl zc2_ne ?_ ?_
            · intro hc
              rw [if_neg hc] at h
              refine zw_push hm_176 dX12_byteIs_19 (v := .inl (0 : Int32)) rfl ?_
              refine zw_bret hm_176 dX12_byteIs_20 (by decide) ?_
              show ma_wp X d w 175 58 [(8, .inl (7 : Int32)), (0, .inr (.inr (some 94))), (1, .inl xa), (2, .inl xb), (3, .inl xc), (4, .inl xd), (5, .inl xe), (6, .inl xf), (7, .inl xg)] [.inl (0 : Int32)] S _
              refine zw_if0 hm_175 dX12_is_58 (t := 135) rfl zc0_eq (fun _ => ?_) (fun hc => absurd (by decide) hc)
              refine zw_push hm_175 dX12_is_135 (v := .inl (0 : Int32)) rfl ?_
              exact zw_bret hm_175 dX12_is_136 (by decide) (HQ _ _ h)
            · intro hc
              rw [if_pos (Classical.not_not.mp hc)] at h
              refine zw_push hm_176 dX12_byteIs_15 (v := .inl (1 : Int32)) rfl ?_
              refine zw_goto hm_176 dX12_byteIs_16 (t := 20) rfl ?_
              refine zw_bret hm_176 dX12_byteIs_20 (by decide) ?_
              show ma_wp X d w 175 58 [(8, .inl (7 : Int32)), (0, .inr (.inr (some 94))), (1, .inl xa), (2, .inl xb), (3, .inl xc), (4, .inl xd), (5, .inl xe), (6, .inl xf), (7, .inl xg)] [.inl (1 : Int32)] S _
              refine zw_if0 hm_175 dX12_is_58 (t := 135) rfl zc0_eq (fun hc => absurd hc (by decide)) (fun _ => ?_)
              refine zw_push hm_175 dX12_is_61 (v := .inr (.inr (some 94))) rfl ?_
              refine zw_push hm_175 dX12_is_62 (v := .inl (2 : Int32)) rfl ?_
              refine zw_push hm_175 dX12_is_63 (v := .inl xc) rfl ?_
              refine zw_cv hm_175 dX12_is_64 v_12_136_12 hm_176 [.inl xc, .inl (2 : Int32)] [] rfl (zT_rt hS s_94 rfl) ⟨by omega, by omega⟩ rfl ?_
              show ma_wp X (d - 1) (w - 22) 176 0 [(0, .inr (.inr (some 94))), (1, .inl (2 : Int32)), (2, .inl xc)] [] S _
              refine zw_push hm_176 dX12_byteIs_0 (v := .inr (.inr (some 94))) rfl ?_
              refine zw_gf hm_176 dX12_byteIs_1 (v := .inr (.inr (some 96))) (zT_is hS s_94) (zT_t hS s_94) rfl f_12_17_12 (zT_f hS r_94_2) ?_
              refine zw_push hm_176 dX12_byteIs_4 (v := .inr (.inr (some 94))) rfl ?_
              refine zw_gf hm_176 dX12_byteIs_5 (v := .inl ((mI S) 94 68)) (zT_is hS s_94) (zT_t hS s_94) rfl f_12_127_12 rfl ?_
              refine zw_push hm_176 dX12_byteIs_8 (v := .inl (2 : Int32)) rfl ?_
              refine zw_stk hm_176 dX12_byteIs_9 (st₉ := [.inl (((mI S) 94 68) + (2 : Int32)), .inr (.inr (some 96))]) rfl rfl ?_
              obtain ⟨hg, h⟩ := h
              refine zw_ba hm_176 dX12_byteIs_10 (zT_is hS s_96) (zT_h hS s_96) rfl rfl hg ?_
              show ma_wp X (d - 1) (w - 22) 176 11 [(0, .inr (.inr (some 94))), (1, .inl (2 : Int32)), (2, .inl xc)] [.inl ((mI S) 96 (((mI S) 94 68) + (2 : Int32)).toNatClampNeg)] S _
              refine zw_push hm_176 dX12_byteIs_11 (v := .inl xc) rfl ?_
              refine zw_if2 hm_176 dX12_byteIs_12 (t := 19) rfl zc2_ne ?_ ?_
              · intro hc
                rw [if_neg hc] at h
                refine zw_push hm_176 dX12_byteIs_19 (v := .inl (0 : Int32)) rfl ?_
                refine zw_bret hm_176 dX12_byteIs_20 (by decide) ?_
                show ma_wp X d w 175 67 [(8, .inl (7 : Int32)), (0, .inr (.inr (some 94))), (1, .inl xa), (2, .inl xb), (3, .inl xc), (4, .inl xd), (5, .inl xe), (6, .inl xf), (7, .inl xg)] [.inl (0 : Int32)] S _
                refine zw_if0 hm_175 dX12_is_67 (t := 135) rfl zc0_eq (fun _ => ?_) (fun hc => absurd (by decide) hc)
                refine zw_push hm_175 dX12_is_135 (v := .inl (0 : Int32)) rfl ?_
                exact zw_bret hm_175 dX12_is_136 (by decide) (HQ _ _ h)
              · intro hc
                rw [if_pos (Classical.not_not.mp hc)] at h
                refine zw_push hm_176 dX12_byteIs_15 (v := .inl (1 : Int32)) rfl ?_
                refine zw_goto hm_176 dX12_byteIs_16 (t := 20) rfl ?_
                refine zw_bret hm_176 dX12_byteIs_20 (by decide) ?_
                show ma_wp X d w 175 67 [(8, .inl (7 : Int32)), (0, .inr (.inr (some 94))), (1, .inl xa), (2, .inl xb), (3, .inl xc), (4, .inl xd), (5, .inl xe), (6, .inl xf), (7, .inl xg)] [.inl (1 : Int32)] S _
                refine zw_if0 hm_175 dX12_is_67 (t := 135) rfl zc0_eq (fun hc => absurd hc (by decide)) (fun _ => ?_)
                refine zw_push hm_175 dX12_is_70 (v := .inr (.inr (some 94))) rfl ?_
                refine zw_push hm_175 dX12_is_71 (v := .inl (3 : Int32)) rfl ?_
                refine zw_push hm_175 dX12_is_72 (v := .inl xd) rfl ?_
                refine zw_cv hm_175 dX12_is_74 v_12_136_12 hm_176 [.inl xd, .inl (3 : Int32)] [] rfl (zT_rt hS s_94 rfl) ⟨by omega, by omega⟩ rfl ?_
                show ma_wp X (d - 1) (w - 22) 176 0 [(0, .inr (.inr (some 94))), (1, .inl (3 : Int32)), (2, .inl xd)] [] S _
                refine zw_push hm_176 dX12_byteIs_0 (v := .inr (.inr (some 94))) rfl ?_
                refine zw_gf hm_176 dX12_byteIs_1 (v := .inr (.inr (some 96))) (zT_is hS s_94) (zT_t hS s_94) rfl f_12_17_12 (zT_f hS r_94_2) ?_
                refine zw_push hm_176 dX12_byteIs_4 (v := .inr (.inr (some 94))) rfl ?_
                refine zw_gf hm_176 dX12_byteIs_5 (v := .inl ((mI S) 94 68)) (zT_is hS s_94) (zT_t hS s_94) rfl f_12_127_12 rfl ?_
                refine zw_push hm_176 dX12_byteIs_8 (v := .inl (3 : Int32)) rfl ?_
                refine zw_stk hm_176 dX12_byteIs_9 (st₉ := [.inl (((mI S) 94 68) + (3 : Int32)), .inr (.inr (some 96))]) rfl rfl ?_
                obtain ⟨hg, h⟩ := h
                refine zw_ba hm_176 dX12_byteIs_10 (zT_is hS s_96) (zT_h hS s_96) rfl rfl hg ?_
                show ma_wp X (d - 1) (w - 22) 176 11 [(0, .inr (.inr (some 94))), (1, .inl (3 : Int32)), (2, .inl xd)] [.inl ((mI S) 96 (((mI S) 94 68) + (3 : Int32)).toNatClampNeg)] S _
                refine zw_push hm_176 dX12_byteIs_11 (v := .inl xd) rfl ?_
                refine zw_if2 hm_176 dX12_byteIs_12 (t := 19) rfl zc2_ne ?_ ?_
                · intro hc
                  rw [if_neg hc] at h
                  refine zw_push hm_176 dX12_byteIs_19 (v := .inl (0 : Int32)) rfl ?_
                  refine zw_bret hm_176 dX12_byteIs_20 (by decide) ?_
                  show ma_wp X d w 175 77 [(8, .inl (7 : Int32)), (0, .inr (.inr (some 94))), (1, .inl xa), (2, .inl xb), (3, .inl xc), (4, .inl xd), (5, .inl xe), (6, .inl xf), (7, .inl xg)] [.inl (0 : Int32)] S _
                  refine zw_if0 hm_175 dX12_is_77 (t := 135) rfl zc0_eq (fun _ => ?_) (fun hc => absurd (by decide) hc)
                  refine zw_push hm_175 dX12_is_135 (v := .inl (0 : Int32)) rfl ?_
                  exact zw_bret hm_175 dX12_is_136 (by decide) (HQ _ _ h)
                · intro hc
                  rw [if_pos (Classical.not_not.mp hc)] at h
                  refine zw_push hm_176 dX12_byteIs_15 (v := .inl (1 : Int32)) rfl ?_
                  refine zw_goto hm_176 dX12_byteIs_16 (t := 20) rfl ?_
                  refine zw_bret hm_176 dX12_byteIs_20 (by decide) ?_
                  show ma_wp X d w 175 77 [(8, .inl (7 : Int32)), (0, .inr (.inr (some 94))), (1, .inl xa), (2, .inl xb), (3, .inl xc), (4, .inl xd), (5, .inl xe), (6, .inl xf), (7, .inl xg)] [.inl (1 : Int32)] S _
                  refine zw_if0 hm_175 dX12_is_77 (t := 135) rfl zc0_eq (fun hc => absurd hc (by decide)) (fun _ => ?_)
                  refine zw_push hm_175 dX12_is_80 (v := .inl (7 : Int32)) rfl ?_
                  refine zw_push hm_175 dX12_is_82 (v := .inl (5 : Int32)) rfl ?_
                  refine zw_if2 hm_175 dX12_is_83 (t := 96) rfl zc2_lt (fun hc => absurd hc (by decide)) (fun _ => ?_)
                  refine zw_push hm_175 dX12_is_86 (v := .inr (.inr (some 94))) rfl ?_
                  refine zw_push hm_175 dX12_is_87 (v := .inl (4 : Int32)) rfl ?_
                  refine zw_push hm_175 dX12_is_88 (v := .inl xe) rfl ?_
                  refine zw_cv hm_175 dX12_is_90 v_12_136_12 hm_176 [.inl xe, .inl (4 : Int32)] [] rfl (zT_rt hS s_94 rfl) ⟨by omega, by omega⟩ rfl ?_
                  show ma_wp X (d - 1) (w - 22) 176 0 [(0, .inr (.inr (some 94))), (1, .inl (4 : Int32)), (2, .inl xe)] [] S _
                  refine zw_push hm_176 dX12_byteIs_0 (v := .inr (.inr (some 94))) rfl ?_
                  refine zw_gf hm_176 dX12_byteIs_1 (v := .inr (.inr (some 96))) (zT_is hS s_94) (zT_t hS s_94) rfl f_12_17_12 (zT_f hS r_94_2) ?_
                  refine zw_push hm_176 dX12_byteIs_4 (v := .inr (.inr (some 94))) rfl ?_
                  refine zw_gf hm_176 dX12_byteIs_5 (v := .inl ((mI S) 94 68)) (zT_is hS s_94) (zT_t hS s_94) rfl f_12_127_12 rfl ?_
                  refine zw_push hm_176 dX12_byteIs_8 (v := .inl (4 : Int32)) rfl ?_
                  refine zw_stk hm_176 dX12_byteIs_9 (st₉ := [.inl (((mI S) 94 68) + (4 : Int32)), .inr (.inr (some 96))]) rfl rfl ?_
                  obtain ⟨hg, h⟩ := h
                  refine zw_ba hm_176 dX12_byteIs_10 (zT_is hS s_96) (zT_h hS s_96) rfl rfl hg ?_
                  show ma_wp X (d - 1) (w - 22) 176 11 [(0, .inr (.inr (some 94))), (1, .inl (4 : Int32)), (2, .inl xe)] [.inl ((mI S) 96 (((mI S) 94 68) + (4 : Int32)).toNatClampNeg)] S _
                  refine zw_push hm_176 dX12_byteIs_11 (v := .inl xe) rfl ?_
                  refine zw_if2 hm_176 dX12_byteIs_12 (t := 19) rfl zc2_ne ?_ ?_
                  · intro hc
                    rw [if_neg hc] at h
                    refine zw_push hm_176 dX12_byteIs_19 (v := .inl (0 : Int32)) rfl ?_
                    refine zw_bret hm_176 dX12_byteIs_20 (by decide) ?_
                    show ma_wp X d w 175 93 [(8, .inl (7 : Int32)), (0, .inr (.inr (some 94))), (1, .inl xa), (2, .inl xb), (3, .inl xc), (4, .inl xd), (5, .inl xe), (6, .inl xf), (7, .inl xg)] [.inl (0 : Int32)] S _
                    refine zw_if0 hm_175 dX12_is_93 (t := 135) rfl zc0_eq (fun _ => ?_) (fun hc => absurd (by decide) hc)
                    refine zw_push hm_175 dX12_is_135 (v := .inl (0 : Int32)) rfl ?_
                    exact zw_bret hm_175 dX12_is_136 (by decide) (HQ _ _ h)
                  · intro hc
                    rw [if_pos (Classical.not_not.mp hc)] at h
                    refine zw_push hm_176 dX12_byteIs_15 (v := .inl (1 : Int32)) rfl ?_
                    refine zw_goto hm_176 dX12_byteIs_16 (t := 20) rfl ?_
                    refine zw_bret hm_176 dX12_byteIs_20 (by decide) ?_
                    show ma_wp X d w 175 93 [(8, .inl (7 : Int32)), (0, .inr (.inr (some 94))), (1, .inl xa), (2, .inl xb), (3, .inl xc), (4, .inl xd), (5, .inl xe), (6, .inl xf), (7, .inl xg)] [.inl (1 : Int32)] S _
                    refine zw_if0 hm_175 dX12_is_93 (t := 135) rfl zc0_eq (fun hc => absurd hc (by decide)) (fun _ => ?_)
                    refine zw_push hm_175 dX12_is_96 (v := .inl (7 : Int32)) rfl ?_
                    refine zw_push hm_175 dX12_is_98 (v := .inl (6 : Int32)) rfl ?_
                    refine zw_if2 hm_175 dX12_is_100 (t := 113) rfl zc2_lt (fun hc => absurd hc (by decide)) (fun _ => ?_)
                    refine zw_push hm_175 dX12_is_103 (v := .inr (.inr (some 94))) rfl ?_
                    refine zw_push hm_175 dX12_is_104 (v := .inl (5 : Int32)) rfl ?_
                    refine zw_push hm_175 dX12_is_105 (v := .inl xf) rfl ?_
                    refine zw_cv hm_175 dX12_is_107 v_12_136_12 hm_176 [.inl xf, .inl (5 : Int32)] [] rfl (zT_rt hS s_94 rfl) ⟨by omega, by omega⟩ rfl ?_
                    show ma_wp X (d - 1) (w - 22) 176 0 [(0, .inr (.inr (some 94))), (1, .inl (5 : Int32)), (2, .inl xf)] [] S _
                    refine zw_push hm_176 dX12_byteIs_0 (v := .inr (.inr (some 94))) rfl ?_
                    refine zw_gf hm_176 dX12_byteIs_1 (v := .inr (.inr (some 96))) (zT_is hS s_94) (zT_t hS s_94) rfl f_12_17_12 (zT_f hS r_94_2) ?_
                    refine zw_push hm_176 dX12_byteIs_4 (v := .inr (.inr (some 94))) rfl ?_
                    refine zw_gf hm_176 dX12_byteIs_5 (v := .inl ((mI S) 94 68)) (zT_is hS s_94) (zT_t hS s_94) rfl f_12_127_12 rfl ?_
                    refine zw_push hm_176 dX12_byteIs_8 (v := .inl (5 : Int32)) rfl ?_
                    refine zw_stk hm_176 dX12_byteIs_9 (st₉ := [.inl (((mI S) 94 68) + (5 : Int32)), .inr (.inr (some 96))]) rfl rfl ?_
                    obtain ⟨hg, h⟩ := h
                    refine zw_ba hm_176 dX12_byteIs_10 (zT_is hS s_96) (zT_h hS s_96) rfl rfl hg ?_
                    show ma_wp X (d - 1) (w - 22) 176 11 [(0, .inr (.inr (some 94))), (1, .inl (5 : Int32)), (2, .inl xf)] [.inl ((mI S) 96 (((mI S) 94 68) + (5 : Int32)).toNatClampNeg)] S _
                    refine zw_push hm_176 dX12_byteIs_11 (v := .inl xf) rfl ?_
                    refine zw_if2 hm_176 dX12_byteIs_12 (t := 19) rfl zc2_ne ?_ ?_
                    · intro hc
                      rw [if_neg hc] at h
                      refine zw_push hm_176 dX12_byteIs_19 (v := .inl (0 : Int32)) rfl ?_
                      refine zw_bret hm_176 dX12_byteIs_20 (by decide) ?_
                      show ma_wp X d w 175 110 [(8, .inl (7 : Int32)), (0, .inr (.inr (some 94))), (1, .inl xa), (2, .inl xb), (3, .inl xc), (4, .inl xd), (5, .inl xe), (6, .inl xf), (7, .inl xg)] [.inl (0 : Int32)] S _
                      refine zw_if0 hm_175 dX12_is_110 (t := 135) rfl zc0_eq (fun _ => ?_) (fun hc => absurd (by decide) hc)
                      refine zw_push hm_175 dX12_is_135 (v := .inl (0 : Int32)) rfl ?_
                      exact zw_bret hm_175 dX12_is_136 (by decide) (HQ _ _ h)
                    · intro hc
                      rw [if_pos (Classical.not_not.mp hc)] at h
                      refine zw_push hm_176 dX12_byteIs_15 (v := .inl (1 : Int32)) rfl ?_
                      refine zw_goto hm_176 dX12_byteIs_16 (t := 20) rfl ?_
                      refine zw_bret hm_176 dX12_byteIs_20 (by decide) ?_
                      show ma_wp X d w 175 110 [(8, .inl (7 : Int32)), (0, .inr (.inr (some 94))), (1, .inl xa), (2, .inl xb), (3, .inl xc), (4, .inl xd), (5, .inl xe), (6, .inl xf), (7, .inl xg)] [.inl (1 : Int32)] S _
                      refine zw_if0 hm_175 dX12_is_110 (t := 135) rfl zc0_eq (fun hc => absurd hc (by decide)) (fun _ => ?_)
                      refine zw_push hm_175 dX12_is_113 (v := .inl (7 : Int32)) rfl ?_
                      refine zw_push hm_175 dX12_is_115 (v := .inl (7 : Int32)) rfl ?_
                      refine zw_if2 hm_175 dX12_is_117 (t := 131) rfl zc2_lt (fun hc => absurd hc (by decide)) (fun _ => ?_)
                      refine zw_push hm_175 dX12_is_120 (v := .inr (.inr (some 94))) rfl ?_
                      refine zw_push hm_175 dX12_is_121 (v := .inl (6 : Int32)) rfl ?_
                      refine zw_push hm_175 dX12_is_123 (v := .inl xg) rfl ?_
                      refine zw_cv hm_175 dX12_is_125 v_12_136_12 hm_176 [.inl xg, .inl (6 : Int32)] [] rfl (zT_rt hS s_94 rfl) ⟨by omega, by omega⟩ rfl ?_
                      show ma_wp X (d - 1) (w - 22) 176 0 [(0, .inr (.inr (some 94))), (1, .inl (6 : Int32)), (2, .inl xg)] [] S _
                      refine zw_push hm_176 dX12_byteIs_0 (v := .inr (.inr (some 94))) rfl ?_
                      refine zw_gf hm_176 dX12_byteIs_1 (v := .inr (.inr (some 96))) (zT_is hS s_94) (zT_t hS s_94) rfl f_12_17_12 (zT_f hS r_94_2) ?_
                      refine zw_push hm_176 dX12_byteIs_4 (v := .inr (.inr (some 94))) rfl ?_
                      refine zw_gf hm_176 dX12_byteIs_5 (v := .inl ((mI S) 94 68)) (zT_is hS s_94) (zT_t hS s_94) rfl f_12_127_12 rfl ?_
                      refine zw_push hm_176 dX12_byteIs_8 (v := .inl (6 : Int32)) rfl ?_
                      refine zw_stk hm_176 dX12_byteIs_9 (st₉ := [.inl (((mI S) 94 68) + (6 : Int32)), .inr (.inr (some 96))]) rfl rfl ?_
                      obtain ⟨hg, h⟩ := h
                      refine zw_ba hm_176 dX12_byteIs_10 (zT_is hS s_96) (zT_h hS s_96) rfl rfl hg ?_
                      show ma_wp X (d - 1) (w - 22) 176 11 [(0, .inr (.inr (some 94))), (1, .inl (6 : Int32)), (2, .inl xg)] [.inl ((mI S) 96 (((mI S) 94 68) + (6 : Int32)).toNatClampNeg)] S _
                      refine zw_push hm_176 dX12_byteIs_11 (v := .inl xg) rfl ?_
                      refine zw_if2 hm_176 dX12_byteIs_12 (t := 19) rfl zc2_ne ?_ ?_
                      · intro hc
                        rw [if_neg hc] at h
                        refine zw_push hm_176 dX12_byteIs_19 (v := .inl (0 : Int32)) rfl ?_
                        refine zw_bret hm_176 dX12_byteIs_20 (by decide) ?_
                        show ma_wp X d w 175 128 [(8, .inl (7 : Int32)), (0, .inr (.inr (some 94))), (1, .inl xa), (2, .inl xb), (3, .inl xc), (4, .inl xd), (5, .inl xe), (6, .inl xf), (7, .inl xg)] [.inl (0 : Int32)] S _
                        refine zw_if0 hm_175 dX12_is_128 (t := 135) rfl zc0_eq (fun _ => ?_) (fun hc => absurd (by decide) hc)
                        refine zw_push hm_175 dX12_is_135 (v := .inl (0 : Int32)) rfl ?_
                        exact zw_bret hm_175 dX12_is_136 (by decide) (HQ _ _ h)
                      · intro hc
                        rw [if_pos (Classical.not_not.mp hc)] at h
                        refine zw_push hm_176 dX12_byteIs_15 (v := .inl (1 : Int32)) rfl ?_
                        refine zw_goto hm_176 dX12_byteIs_16 (t := 20) rfl ?_
                        refine zw_bret hm_176 dX12_byteIs_20 (by decide) ?_
                        show ma_wp X d w 175 128 [(8, .inl (7 : Int32)), (0, .inr (.inr (some 94))), (1, .inl xa), (2, .inl xb), (3, .inl xc), (4, .inl xd), (5, .inl xe), (6, .inl xf), (7, .inl xg)] [.inl (1 : Int32)] S _
                        refine zw_if0 hm_175 dX12_is_128 (t := 135) rfl zc0_eq (fun hc => absurd hc (by decide)) (fun _ => ?_)
                        refine zw_push hm_175 dX12_is_131 (v := .inl (1 : Int32)) rfl ?_
                        refine zw_goto hm_175 dX12_is_132 (t := 136) rfl ?_
                        exact zw_bret hm_175 dX12_is_136 (by decide) (HQ _ _ h)
        · intro hc
          rw [if_neg hc] at h
          refine zw_push hm_175 dX12_is_41 (v := .inl (0 : Int32)) rfl ?_
          exact zw_bret hm_175 dX12_is_42 (by decide) (HQ _ _ h)
      · intro hc
        rw [if_pos (Classical.not_not.mp hc)] at h
        refine zw_push hm_175 dX12_is_23 (v := .inl (6 : Int32)) rfl ?_
        refine zw_goto hm_175 dX12_is_25 (t := 30) rfl ?_
        refine zw_sto hm_175 dX12_is_30 [(8, .inl (6 : Int32)), (0, .inr (.inr (some 94))), (1, .inl xa), (2, .inl xb), (3, .inl xc), (4, .inl xd), (5, .inl xe), (6, .inl xf), (7, .inl xg)] rfl rfl rfl ?_
        refine zw_push hm_175 dX12_is_32 (v := .inr (.inr (some 94))) rfl ?_
        refine zw_gf hm_175 dX12_is_33 (v := .inl ((mI S) 94 69)) (zT_is hS s_94) (zT_t hS s_94) rfl f_12_130_12 rfl ?_
        refine zw_push hm_175 dX12_is_36 (v := .inl (6 : Int32)) rfl ?_
        refine zw_if2 hm_175 dX12_is_38 (t := 43) rfl zc2_eq ?_ ?_
        · intro hc
          rw [if_pos hc] at h
          refine zw_push hm_175 dX12_is_43 (v := .inr (.inr (some 94))) rfl ?_
          refine zw_push hm_175 dX12_is_44 (v := .inl (0 : Int32)) rfl ?_
          refine zw_push hm_175 dX12_is_45 (v := .inl xa) rfl ?_
          refine zw_cv hm_175 dX12_is_46 v_12_136_12 hm_176 [.inl xa, .inl (0 : Int32)] [] rfl (zT_rt hS s_94 rfl) ⟨by omega, by omega⟩ rfl ?_
          show ma_wp X (d - 1) (w - 22) 176 0 [(0, .inr (.inr (some 94))), (1, .inl (0 : Int32)), (2, .inl xa)] [] S _
          refine zw_push hm_176 dX12_byteIs_0 (v := .inr (.inr (some 94))) rfl ?_
          refine zw_gf hm_176 dX12_byteIs_1 (v := .inr (.inr (some 96))) (zT_is hS s_94) (zT_t hS s_94) rfl f_12_17_12 (zT_f hS r_94_2) ?_
          refine zw_push hm_176 dX12_byteIs_4 (v := .inr (.inr (some 94))) rfl ?_
          refine zw_gf hm_176 dX12_byteIs_5 (v := .inl ((mI S) 94 68)) (zT_is hS s_94) (zT_t hS s_94) rfl f_12_127_12 rfl ?_
          refine zw_push hm_176 dX12_byteIs_8 (v := .inl (0 : Int32)) rfl ?_
          refine zw_stk hm_176 dX12_byteIs_9 (st₉ := [.inl (((mI S) 94 68) + (0 : Int32)), .inr (.inr (some 96))]) rfl rfl ?_
          obtain ⟨hg, h⟩ := h
          refine zw_ba hm_176 dX12_byteIs_10 (zT_is hS s_96) (zT_h hS s_96) rfl rfl hg ?_
          show ma_wp X (d - 1) (w - 22) 176 11 [(0, .inr (.inr (some 94))), (1, .inl (0 : Int32)), (2, .inl xa)] [.inl ((mI S) 96 (((mI S) 94 68) + (0 : Int32)).toNatClampNeg)] S _
          refine zw_push hm_176 dX12_byteIs_11 (v := .inl xa) rfl ?_
          refine zw_if2 hm_176 dX12_byteIs_12 (t := 19) rfl zc2_ne ?_ ?_
          · intro hc
            rw [if_neg hc] at h
            refine zw_push hm_176 dX12_byteIs_19 (v := .inl (0 : Int32)) rfl ?_
            refine zw_bret hm_176 dX12_byteIs_20 (by decide) ?_
            show ma_wp X d w 175 49 [(8, .inl (6 : Int32)), (0, .inr (.inr (some 94))), (1, .inl xa), (2, .inl xb), (3, .inl xc), (4, .inl xd), (5, .inl xe), (6, .inl xf), (7, .inl xg)] [.inl (0 : Int32)] S _
            refine zw_if0 hm_175 dX12_is_49 (t := 135) rfl zc0_eq (fun _ => ?_) (fun hc => absurd (by decide) hc)
            refine zw_push hm_175 dX12_is_135 (v := .inl (0 : Int32)) rfl ?_
            exact zw_bret hm_175 dX12_is_136 (by decide) (HQ _ _ h)
          · intro hc
            rw [if_pos (Classical.not_not.mp hc)] at h
            refine zw_push hm_176 dX12_byteIs_15 (v := .inl (1 : Int32)) rfl ?_
            refine zw_goto hm_176 dX12_byteIs_16 (t := 20) rfl ?_
            refine zw_bret hm_176 dX12_byteIs_20 (by decide) ?_
            show ma_wp X d w 175 49 [(8, .inl (6 : Int32)), (0, .inr (.inr (some 94))), (1, .inl xa), (2, .inl xb), (3, .inl xc), (4, .inl xd), (5, .inl xe), (6, .inl xf), (7, .inl xg)] [.inl (1 : Int32)] S _
            refine zw_if0 hm_175 dX12_is_49 (t := 135) rfl zc0_eq (fun hc => absurd hc (by decide)) (fun _ => ?_)
            refine zw_push hm_175 dX12_is_52 (v := .inr (.inr (some 94))) rfl ?_
            refine zw_push hm_175 dX12_is_53 (v := .inl (1 : Int32)) rfl ?_
            refine zw_push hm_175 dX12_is_54 (v := .inl xb) rfl ?_
            refine zw_cv hm_175 dX12_is_55 v_12_136_12 hm_176 [.inl xb, .inl (1 : Int32)] [] rfl (zT_rt hS s_94 rfl) ⟨by omega, by omega⟩ rfl ?_
            show ma_wp X (d - 1) (w - 22) 176 0 [(0, .inr (.inr (some 94))), (1, .inl (1 : Int32)), (2, .inl xb)] [] S _
            refine zw_push hm_176 dX12_byteIs_0 (v := .inr (.inr (some 94))) rfl ?_
            refine zw_gf hm_176 dX12_byteIs_1 (v := .inr (.inr (some 96))) (zT_is hS s_94) (zT_t hS s_94) rfl f_12_17_12 (zT_f hS r_94_2) ?_
            refine zw_push hm_176 dX12_byteIs_4 (v := .inr (.inr (some 94))) rfl ?_
            refine zw_gf hm_176 dX12_byteIs_5 (v := .inl ((mI S) 94 68)) (zT_is hS s_94) (zT_t hS s_94) rfl f_12_127_12 rfl ?_
            refine zw_push hm_176 dX12_byteIs_8 (v := .inl (1 : Int32)) rfl ?_
            refine zw_stk hm_176 dX12_byteIs_9 (st₉ := [.inl (((mI S) 94 68) + (1 : Int32)), .inr (.inr (some 96))]) rfl rfl ?_
            obtain ⟨hg, h⟩ := h
            refine zw_ba hm_176 dX12_byteIs_10 (zT_is hS s_96) (zT_h hS s_96) rfl rfl hg ?_
            show ma_wp X (d - 1) (w - 22) 176 11 [(0, .inr (.inr (some 94))), (1, .inl (1 : Int32)), (2, .inl xb)] [.inl ((mI S) 96 (((mI S) 94 68) + (1 : Int32)).toNatClampNeg)] S _
            refine zw_push hm_176 dX12_byteIs_11 (v := .inl xb) rfl ?_
            refine zw_if2 hm_176 dX12_byteIs_12 (t := 19) rfl zc2_ne ?_ ?_
            · intro hc
              rw [if_neg hc] at h
              refine zw_push hm_176 dX12_byteIs_19 (v := .inl (0 : Int32)) rfl ?_
              refine zw_bret hm_176 dX12_byteIs_20 (by decide) ?_
              show ma_wp X d w 175 58 [(8, .inl (6 : Int32)), (0, .inr (.inr (some 94))), (1, .inl xa), (2, .inl xb), (3, .inl xc), (4, .inl xd), (5, .inl xe), (6, .inl xf), (7, .inl xg)] [.inl (0 : Int32)] S _
              refine zw_if0 hm_175 dX12_is_58 (t := 135) rfl zc0_eq (fun _ => ?_) (fun hc => absurd (by decide) hc)
              refine zw_push hm_175 dX12_is_135 (v := .inl (0 : Int32)) rfl ?_
              exact zw_bret hm_175 dX12_is_136 (by decide) (HQ _ _ h)
            · intro hc
              rw [if_pos (Classical.not_not.mp hc)] at h
              refine zw_push hm_176 dX12_byteIs_15 (v := .inl (1 : Int32)) rfl ?_
              refine zw_goto hm_176 dX12_byteIs_16 (t := 20) rfl ?_
              refine zw_bret hm_176 dX12_byteIs_20 (by decide) ?_
              show ma_wp X d w 175 58 [(8, .inl (6 : Int32)), (0, .inr (.inr (some 94))), (1, .inl xa), (2, .inl xb), (3, .inl xc), (4, .inl xd), (5, .inl xe), (6, .inl xf), (7, .inl xg)] [.inl (1 : Int32)] S _
              refine zw_if0 hm_175 dX12_is_58 (t := 135) rfl zc0_eq (fun hc => absurd hc (by decide)) (fun _ => ?_)
              refine zw_push hm_175 dX12_is_61 (v := .inr (.inr (some 94))) rfl ?_
              refine zw_push hm_175 dX12_is_62 (v := .inl (2 : Int32)) rfl ?_
              refine zw_push hm_175 dX12_is_63 (v := .inl xc) rfl ?_
              refine zw_cv hm_175 dX12_is_64 v_12_136_12 hm_176 [.inl xc, .inl (2 : Int32)] [] rfl (zT_rt hS s_94 rfl) ⟨by omega, by omega⟩ rfl ?_
              show ma_wp X (d - 1) (w - 22) 176 0 [(0, .inr (.inr (some 94))), (1, .inl (2 : Int32)), (2, .inl xc)] [] S _
              refine zw_push hm_176 dX12_byteIs_0 (v := .inr (.inr (some 94))) rfl ?_
              refine zw_gf hm_176 dX12_byteIs_1 (v := .inr (.inr (some 96))) (zT_is hS s_94) (zT_t hS s_94) rfl f_12_17_12 (zT_f hS r_94_2) ?_
              refine zw_push hm_176 dX12_byteIs_4 (v := .inr (.inr (some 94))) rfl ?_
              refine zw_gf hm_176 dX12_byteIs_5 (v := .inl ((mI S) 94 68)) (zT_is hS s_94) (zT_t hS s_94) rfl f_12_127_12 rfl ?_
              refine zw_push hm_176 dX12_byteIs_8 (v := .inl (2 : Int32)) rfl ?_
              refine zw_stk hm_176 dX12_byteIs_9 (st₉ := [.inl (((mI S) 94 68) + (2 : Int32)), .inr (.inr (some 96))]) rfl rfl ?_
              obtain ⟨hg, h⟩ := h
              refine zw_ba hm_176 dX12_byteIs_10 (zT_is hS s_96) (zT_h hS s_96) rfl rfl hg ?_
              show ma_wp X (d - 1) (w - 22) 176 11 [(0, .inr (.inr (some 94))), (1, .inl (2 : Int32)), (2, .inl xc)] [.inl ((mI S) 96 (((mI S) 94 68) + (2 : Int32)).toNatClampNeg)] S _
              refine zw_push hm_176 dX12_byteIs_11 (v := .inl xc) rfl ?_
              refine zw_if2 hm_176 dX12_byteIs_12 (t := 19) rfl zc2_ne ?_ ?_
              · intro hc
                rw [if_neg hc] at h
                refine zw_push hm_176 dX12_byteIs_19 (v := .inl (0 : Int32)) rfl ?_
                refine zw_bret hm_176 dX12_byteIs_20 (by decide) ?_
                show ma_wp X d w 175 67 [(8, .inl (6 : Int32)), (0, .inr (.inr (some 94))), (1, .inl xa), (2, .inl xb), (3, .inl xc), (4, .inl xd), (5, .inl xe), (6, .inl xf), (7, .inl xg)] [.inl (0 : Int32)] S _
                refine zw_if0 hm_175 dX12_is_67 (t := 135) rfl zc0_eq (fun _ => ?_) (fun hc => absurd (by decide) hc)
                refine zw_push hm_175 dX12_is_135 (v := .inl (0 : Int32)) rfl ?_
                exact zw_bret hm_175 dX12_is_136 (by decide) (HQ _ _ h)
              · intro hc
                rw [if_pos (Classical.not_not.mp hc)] at h
                refine zw_push hm_176 dX12_byteIs_15 (v := .inl (1 : Int32)) rfl ?_
                refine zw_goto hm_176 dX12_byteIs_16 (t := 20) rfl ?_
                refine zw_bret hm_176 dX12_byteIs_20 (by decide) ?_
                show ma_wp X d w 175 67 [(8, .inl (6 : Int32)), (0, .inr (.inr (some 94))), (1, .inl xa), (2, .inl xb), (3, .inl xc), (4, .inl xd), (5, .inl xe), (6, .inl xf), (7, .inl xg)] [.inl (1 : Int32)] S _
                refine zw_if0 hm_175 dX12_is_67 (t := 135) rfl zc0_eq (fun hc => absurd hc (by decide)) (fun _ => ?_)
                refine zw_push hm_175 dX12_is_70 (v := .inr (.inr (some 94))) rfl ?_
                refine zw_push hm_175 dX12_is_71 (v := .inl (3 : Int32)) rfl ?_
                refine zw_push hm_175 dX12_is_72 (v := .inl xd) rfl ?_
                refine zw_cv hm_175 dX12_is_74 v_12_136_12 hm_176 [.inl xd, .inl (3 : Int32)] [] rfl (zT_rt hS s_94 rfl) ⟨by omega, by omega⟩ rfl ?_
                show ma_wp X (d - 1) (w - 22) 176 0 [(0, .inr (.inr (some 94))), (1, .inl (3 : Int32)), (2, .inl xd)] [] S _
                refine zw_push hm_176 dX12_byteIs_0 (v := .inr (.inr (some 94))) rfl ?_
                refine zw_gf hm_176 dX12_byteIs_1 (v := .inr (.inr (some 96))) (zT_is hS s_94) (zT_t hS s_94) rfl f_12_17_12 (zT_f hS r_94_2) ?_
                refine zw_push hm_176 dX12_byteIs_4 (v := .inr (.inr (some 94))) rfl ?_
                refine zw_gf hm_176 dX12_byteIs_5 (v := .inl ((mI S) 94 68)) (zT_is hS s_94) (zT_t hS s_94) rfl f_12_127_12 rfl ?_
                refine zw_push hm_176 dX12_byteIs_8 (v := .inl (3 : Int32)) rfl ?_
                refine zw_stk hm_176 dX12_byteIs_9 (st₉ := [.inl (((mI S) 94 68) + (3 : Int32)), .inr (.inr (some 96))]) rfl rfl ?_
                obtain ⟨hg, h⟩ := h
                refine zw_ba hm_176 dX12_byteIs_10 (zT_is hS s_96) (zT_h hS s_96) rfl rfl hg ?_
                show ma_wp X (d - 1) (w - 22) 176 11 [(0, .inr (.inr (some 94))), (1, .inl (3 : Int32)), (2, .inl xd)] [.inl ((mI S) 96 (((mI S) 94 68) + (3 : Int32)).toNatClampNeg)] S _
                refine zw_push hm_176 dX12_byteIs_11 (v := .inl xd) rfl ?_
                refine zw_if2 hm_176 dX12_byteIs_12 (t := 19) rfl zc2_ne ?_ ?_
                · intro hc
                  rw [if_neg hc] at h
                  refine zw_push hm_176 dX12_byteIs_19 (v := .inl (0 : Int32)) rfl ?_
                  refine zw_bret hm_176 dX12_byteIs_20 (by decide) ?_
                  show ma_wp X d w 175 77 [(8, .inl (6 : Int32)), (0, .inr (.inr (some 94))), (1, .inl xa), (2, .inl xb), (3, .inl xc), (4, .inl xd), (5, .inl xe), (6, .inl xf), (7, .inl xg)] [.inl (0 : Int32)] S _
                  refine zw_if0 hm_175 dX12_is_77 (t := 135) rfl zc0_eq (fun _ => ?_) (fun hc => absurd (by decide) hc)
                  refine zw_push hm_175 dX12_is_135 (v := .inl (0 : Int32)) rfl ?_
                  exact zw_bret hm_175 dX12_is_136 (by decide) (HQ _ _ h)
                · intro hc
                  rw [if_pos (Classical.not_not.mp hc)] at h
                  refine zw_push hm_176 dX12_byteIs_15 (v := .inl (1 : Int32)) rfl ?_
                  refine zw_goto hm_176 dX12_byteIs_16 (t := 20) rfl ?_
                  refine zw_bret hm_176 dX12_byteIs_20 (by decide) ?_
                  show ma_wp X d w 175 77 [(8, .inl (6 : Int32)), (0, .inr (.inr (some 94))), (1, .inl xa), (2, .inl xb), (3, .inl xc), (4, .inl xd), (5, .inl xe), (6, .inl xf), (7, .inl xg)] [.inl (1 : Int32)] S _
                  refine zw_if0 hm_175 dX12_is_77 (t := 135) rfl zc0_eq (fun hc => absurd hc (by decide)) (fun _ => ?_)
                  refine zw_push hm_175 dX12_is_80 (v := .inl (6 : Int32)) rfl ?_
                  refine zw_push hm_175 dX12_is_82 (v := .inl (5 : Int32)) rfl ?_
                  refine zw_if2 hm_175 dX12_is_83 (t := 96) rfl zc2_lt (fun hc => absurd hc (by decide)) (fun _ => ?_)
                  refine zw_push hm_175 dX12_is_86 (v := .inr (.inr (some 94))) rfl ?_
                  refine zw_push hm_175 dX12_is_87 (v := .inl (4 : Int32)) rfl ?_
                  refine zw_push hm_175 dX12_is_88 (v := .inl xe) rfl ?_
                  refine zw_cv hm_175 dX12_is_90 v_12_136_12 hm_176 [.inl xe, .inl (4 : Int32)] [] rfl (zT_rt hS s_94 rfl) ⟨by omega, by omega⟩ rfl ?_
                  show ma_wp X (d - 1) (w - 22) 176 0 [(0, .inr (.inr (some 94))), (1, .inl (4 : Int32)), (2, .inl xe)] [] S _
                  refine zw_push hm_176 dX12_byteIs_0 (v := .inr (.inr (some 94))) rfl ?_
                  refine zw_gf hm_176 dX12_byteIs_1 (v := .inr (.inr (some 96))) (zT_is hS s_94) (zT_t hS s_94) rfl f_12_17_12 (zT_f hS r_94_2) ?_
                  refine zw_push hm_176 dX12_byteIs_4 (v := .inr (.inr (some 94))) rfl ?_
                  refine zw_gf hm_176 dX12_byteIs_5 (v := .inl ((mI S) 94 68)) (zT_is hS s_94) (zT_t hS s_94) rfl f_12_127_12 rfl ?_
                  refine zw_push hm_176 dX12_byteIs_8 (v := .inl (4 : Int32)) rfl ?_
                  refine zw_stk hm_176 dX12_byteIs_9 (st₉ := [.inl (((mI S) 94 68) + (4 : Int32)), .inr (.inr (some 96))]) rfl rfl ?_
                  obtain ⟨hg, h⟩ := h
                  refine zw_ba hm_176 dX12_byteIs_10 (zT_is hS s_96) (zT_h hS s_96) rfl rfl hg ?_
                  show ma_wp X (d - 1) (w - 22) 176 11 [(0, .inr (.inr (some 94))), (1, .inl (4 : Int32)), (2, .inl xe)] [.inl ((mI S) 96 (((mI S) 94 68) + (4 : Int32)).toNatClampNeg)] S _
                  refine zw_push hm_176 dX12_byteIs_11 (v := .inl xe) rfl ?_
                  refine zw_if2 hm_176 dX12_byteIs_12 (t := 19) rfl zc2_ne ?_ ?_
                  · intro hc
                    rw [if_neg hc] at h
                    refine zw_push hm_176 dX12_byteIs_19 (v := .inl (0 : Int32)) rfl ?_
                    refine zw_bret hm_176 dX12_byteIs_20 (by decide) ?_
                    show ma_wp X d w 175 93 [(8, .inl (6 : Int32)), (0, .inr (.inr (some 94))), (1, .inl xa), (2, .inl xb), (3, .inl xc), (4, .inl xd), (5, .inl xe), (6, .inl xf), (7, .inl xg)] [.inl (0 : Int32)] S _
                    refine zw_if0 hm_175 dX12_is_93 (t := 135) rfl zc0_eq (fun _ => ?_) (fun hc => absurd (by decide) hc)
                    refine zw_push hm_175 dX12_is_135 (v := .inl (0 : Int32)) rfl ?_
                    exact zw_bret hm_175 dX12_is_136 (by decide) (HQ _ _ h)
                  · intro hc
                    rw [if_pos (Classical.not_not.mp hc)] at h
                    refine zw_push hm_176 dX12_byteIs_15 (v := .inl (1 : Int32)) rfl ?_
                    refine zw_goto hm_176 dX12_byteIs_16 (t := 20) rfl ?_
                    refine zw_bret hm_176 dX12_byteIs_20 (by decide) ?_
                    show ma_wp X d w 175 93 [(8, .inl (6 : Int32)), (0, .inr (.inr (some 94))), (1, .inl xa), (2, .inl xb), (3, .inl xc), (4, .inl xd), (5, .inl xe), (6, .inl xf), (7, .inl xg)] [.inl (1 : Int32)] S _
                    refine zw_if0 hm_175 dX12_is_93 (t := 135) rfl zc0_eq (fun hc => absurd hc (by decide)) (fun _ => ?_)
                    refine zw_push hm_175 dX12_is_96 (v := .inl (6 : Int32)) rfl ?_
                    refine zw_push hm_175 dX12_is_98 (v := .inl (6 : Int32)) rfl ?_
                    refine zw_if2 hm_175 dX12_is_100 (t := 113) rfl zc2_lt (fun hc => absurd hc (by decide)) (fun _ => ?_)
                    refine zw_push hm_175 dX12_is_103 (v := .inr (.inr (some 94))) rfl ?_
                    refine zw_push hm_175 dX12_is_104 (v := .inl (5 : Int32)) rfl ?_
                    refine zw_push hm_175 dX12_is_105 (v := .inl xf) rfl ?_
                    refine zw_cv hm_175 dX12_is_107 v_12_136_12 hm_176 [.inl xf, .inl (5 : Int32)] [] rfl (zT_rt hS s_94 rfl) ⟨by omega, by omega⟩ rfl ?_
                    show ma_wp X (d - 1) (w - 22) 176 0 [(0, .inr (.inr (some 94))), (1, .inl (5 : Int32)), (2, .inl xf)] [] S _
                    refine zw_push hm_176 dX12_byteIs_0 (v := .inr (.inr (some 94))) rfl ?_
                    refine zw_gf hm_176 dX12_byteIs_1 (v := .inr (.inr (some 96))) (zT_is hS s_94) (zT_t hS s_94) rfl f_12_17_12 (zT_f hS r_94_2) ?_
                    refine zw_push hm_176 dX12_byteIs_4 (v := .inr (.inr (some 94))) rfl ?_
                    refine zw_gf hm_176 dX12_byteIs_5 (v := .inl ((mI S) 94 68)) (zT_is hS s_94) (zT_t hS s_94) rfl f_12_127_12 rfl ?_
                    refine zw_push hm_176 dX12_byteIs_8 (v := .inl (5 : Int32)) rfl ?_
                    refine zw_stk hm_176 dX12_byteIs_9 (st₉ := [.inl (((mI S) 94 68) + (5 : Int32)), .inr (.inr (some 96))]) rfl rfl ?_
                    obtain ⟨hg, h⟩ := h
                    refine zw_ba hm_176 dX12_byteIs_10 (zT_is hS s_96) (zT_h hS s_96) rfl rfl hg ?_
                    show ma_wp X (d - 1) (w - 22) 176 11 [(0, .inr (.inr (some 94))), (1, .inl (5 : Int32)), (2, .inl xf)] [.inl ((mI S) 96 (((mI S) 94 68) + (5 : Int32)).toNatClampNeg)] S _
                    refine zw_push hm_176 dX12_byteIs_11 (v := .inl xf) rfl ?_
                    refine zw_if2 hm_176 dX12_byteIs_12 (t := 19) rfl zc2_ne ?_ ?_
                    · intro hc
                      rw [if_neg hc] at h
                      refine zw_push hm_176 dX12_byteIs_19 (v := .inl (0 : Int32)) rfl ?_
                      refine zw_bret hm_176 dX12_byteIs_20 (by decide) ?_
                      show ma_wp X d w 175 110 [(8, .inl (6 : Int32)), (0, .inr (.inr (some 94))), (1, .inl xa), (2, .inl xb), (3, .inl xc), (4, .inl xd), (5, .inl xe), (6, .inl xf), (7, .inl xg)] [.inl (0 : Int32)] S _
                      refine zw_if0 hm_175 dX12_is_110 (t := 135) rfl zc0_eq (fun _ => ?_) (fun hc => absurd (by decide) hc)
                      refine zw_push hm_175 dX12_is_135 (v := .inl (0 : Int32)) rfl ?_
                      exact zw_bret hm_175 dX12_is_136 (by decide) (HQ _ _ h)
                    · intro hc
                      rw [if_pos (Classical.not_not.mp hc)] at h
                      refine zw_push hm_176 dX12_byteIs_15 (v := .inl (1 : Int32)) rfl ?_
                      refine zw_goto hm_176 dX12_byteIs_16 (t := 20) rfl ?_
                      refine zw_bret hm_176 dX12_byteIs_20 (by decide) ?_
                      show ma_wp X d w 175 110 [(8, .inl (6 : Int32)), (0, .inr (.inr (some 94))), (1, .inl xa), (2, .inl xb), (3, .inl xc), (4, .inl xd), (5, .inl xe), (6, .inl xf), (7, .inl xg)] [.inl (1 : Int32)] S _
                      refine zw_if0 hm_175 dX12_is_110 (t := 135) rfl zc0_eq (fun hc => absurd hc (by decide)) (fun _ => ?_)
                      refine zw_push hm_175 dX12_is_113 (v := .inl (6 : Int32)) rfl ?_
                      refine zw_push hm_175 dX12_is_115 (v := .inl (7 : Int32)) rfl ?_
                      refine zw_if2 hm_175 dX12_is_117 (t := 131) rfl zc2_lt (fun _ => ?_) (fun hc => absurd (by decide) hc)
                      refine zw_push hm_175 dX12_is_131 (v := .inl (1 : Int32)) rfl ?_
                      refine zw_goto hm_175 dX12_is_132 (t := 136) rfl ?_
                      exact zw_bret hm_175 dX12_is_136 (by decide) (HQ _ _ h)
        · intro hc
          rw [if_neg hc] at h
          refine zw_push hm_175 dX12_is_41 (v := .inl (0 : Int32)) rfl ?_
          exact zw_bret hm_175 dX12_is_42 (by decide) (HQ _ _ h)
    · intro hc
      rw [if_pos (Classical.not_not.mp hc)] at h
      refine zw_push hm_175 dX12_is_14 (v := .inl (5 : Int32)) rfl ?_
      refine zw_goto hm_175 dX12_is_15 (t := 30) rfl ?_
      refine zw_sto hm_175 dX12_is_30 [(8, .inl (5 : Int32)), (0, .inr (.inr (some 94))), (1, .inl xa), (2, .inl xb), (3, .inl xc), (4, .inl xd), (5, .inl xe), (6, .inl xf), (7, .inl xg)] rfl rfl rfl ?_
      refine zw_push hm_175 dX12_is_32 (v := .inr (.inr (some 94))) rfl ?_
      refine zw_gf hm_175 dX12_is_33 (v := .inl ((mI S) 94 69)) (zT_is hS s_94) (zT_t hS s_94) rfl f_12_130_12 rfl ?_
      refine zw_push hm_175 dX12_is_36 (v := .inl (5 : Int32)) rfl ?_
      refine zw_if2 hm_175 dX12_is_38 (t := 43) rfl zc2_eq ?_ ?_
      · intro hc
        rw [if_pos hc] at h
        refine zw_push hm_175 dX12_is_43 (v := .inr (.inr (some 94))) rfl ?_
        refine zw_push hm_175 dX12_is_44 (v := .inl (0 : Int32)) rfl ?_
        refine zw_push hm_175 dX12_is_45 (v := .inl xa) rfl ?_
        refine zw_cv hm_175 dX12_is_46 v_12_136_12 hm_176 [.inl xa, .inl (0 : Int32)] [] rfl (zT_rt hS s_94 rfl) ⟨by omega, by omega⟩ rfl ?_
        show ma_wp X (d - 1) (w - 22) 176 0 [(0, .inr (.inr (some 94))), (1, .inl (0 : Int32)), (2, .inl xa)] [] S _
        refine zw_push hm_176 dX12_byteIs_0 (v := .inr (.inr (some 94))) rfl ?_
        refine zw_gf hm_176 dX12_byteIs_1 (v := .inr (.inr (some 96))) (zT_is hS s_94) (zT_t hS s_94) rfl f_12_17_12 (zT_f hS r_94_2) ?_
        refine zw_push hm_176 dX12_byteIs_4 (v := .inr (.inr (some 94))) rfl ?_
        refine zw_gf hm_176 dX12_byteIs_5 (v := .inl ((mI S) 94 68)) (zT_is hS s_94) (zT_t hS s_94) rfl f_12_127_12 rfl ?_
        refine zw_push hm_176 dX12_byteIs_8 (v := .inl (0 : Int32)) rfl ?_
        refine zw_stk hm_176 dX12_byteIs_9 (st₉ := [.inl (((mI S) 94 68) + (0 : Int32)), .inr (.inr (some 96))]) rfl rfl ?_
        obtain ⟨hg, h⟩ := h
        refine zw_ba hm_176 dX12_byteIs_10 (zT_is hS s_96) (zT_h hS s_96) rfl rfl hg ?_
        show ma_wp X (d - 1) (w - 22) 176 11 [(0, .inr (.inr (some 94))), (1, .inl (0 : Int32)), (2, .inl xa)] [.inl ((mI S) 96 (((mI S) 94 68) + (0 : Int32)).toNatClampNeg)] S _
        refine zw_push hm_176 dX12_byteIs_11 (v := .inl xa) rfl ?_
        refine zw_if2 hm_176 dX12_byteIs_12 (t := 19) rfl zc2_ne ?_ ?_
        · intro hc
          rw [if_neg hc] at h
          refine zw_push hm_176 dX12_byteIs_19 (v := .inl (0 : Int32)) rfl ?_
          refine zw_bret hm_176 dX12_byteIs_20 (by decide) ?_
          show ma_wp X d w 175 49 [(8, .inl (5 : Int32)), (0, .inr (.inr (some 94))), (1, .inl xa), (2, .inl xb), (3, .inl xc), (4, .inl xd), (5, .inl xe), (6, .inl xf), (7, .inl xg)] [.inl (0 : Int32)] S _
          refine zw_if0 hm_175 dX12_is_49 (t := 135) rfl zc0_eq (fun _ => ?_) (fun hc => absurd (by decide) hc)
          refine zw_push hm_175 dX12_is_135 (v := .inl (0 : Int32)) rfl ?_
          exact zw_bret hm_175 dX12_is_136 (by decide) (HQ _ _ h)
        · intro hc
          rw [if_pos (Classical.not_not.mp hc)] at h
          refine zw_push hm_176 dX12_byteIs_15 (v := .inl (1 : Int32)) rfl ?_
          refine zw_goto hm_176 dX12_byteIs_16 (t := 20) rfl ?_
          refine zw_bret hm_176 dX12_byteIs_20 (by decide) ?_
          show ma_wp X d w 175 49 [(8, .inl (5 : Int32)), (0, .inr (.inr (some 94))), (1, .inl xa), (2, .inl xb), (3, .inl xc), (4, .inl xd), (5, .inl xe), (6, .inl xf), (7, .inl xg)] [.inl (1 : Int32)] S _
          refine zw_if0 hm_175 dX12_is_49 (t := 135) rfl zc0_eq (fun hc => absurd hc (by decide)) (fun _ => ?_)
          refine zw_push hm_175 dX12_is_52 (v := .inr (.inr (some 94))) rfl ?_
          refine zw_push hm_175 dX12_is_53 (v := .inl (1 : Int32)) rfl ?_
          refine zw_push hm_175 dX12_is_54 (v := .inl xb) rfl ?_
          refine zw_cv hm_175 dX12_is_55 v_12_136_12 hm_176 [.inl xb, .inl (1 : Int32)] [] rfl (zT_rt hS s_94 rfl) ⟨by omega, by omega⟩ rfl ?_
          show ma_wp X (d - 1) (w - 22) 176 0 [(0, .inr (.inr (some 94))), (1, .inl (1 : Int32)), (2, .inl xb)] [] S _
          refine zw_push hm_176 dX12_byteIs_0 (v := .inr (.inr (some 94))) rfl ?_
          refine zw_gf hm_176 dX12_byteIs_1 (v := .inr (.inr (some 96))) (zT_is hS s_94) (zT_t hS s_94) rfl f_12_17_12 (zT_f hS r_94_2) ?_
          refine zw_push hm_176 dX12_byteIs_4 (v := .inr (.inr (some 94))) rfl ?_
          refine zw_gf hm_176 dX12_byteIs_5 (v := .inl ((mI S) 94 68)) (zT_is hS s_94) (zT_t hS s_94) rfl f_12_127_12 rfl ?_
          refine zw_push hm_176 dX12_byteIs_8 (v := .inl (1 : Int32)) rfl ?_
          refine zw_stk hm_176 dX12_byteIs_9 (st₉ := [.inl (((mI S) 94 68) + (1 : Int32)), .inr (.inr (some 96))]) rfl rfl ?_
          obtain ⟨hg, h⟩ := h
          refine zw_ba hm_176 dX12_byteIs_10 (zT_is hS s_96) (zT_h hS s_96) rfl rfl hg ?_
          show ma_wp X (d - 1) (w - 22) 176 11 [(0, .inr (.inr (some 94))), (1, .inl (1 : Int32)), (2, .inl xb)] [.inl ((mI S) 96 (((mI S) 94 68) + (1 : Int32)).toNatClampNeg)] S _
          refine zw_push hm_176 dX12_byteIs_11 (v := .inl xb) rfl ?_
          refine zw_if2 hm_176 dX12_byteIs_12 (t := 19) rfl zc2_ne ?_ ?_
          · intro hc
            rw [if_neg hc] at h
            refine zw_push hm_176 dX12_byteIs_19 (v := .inl (0 : Int32)) rfl ?_
            refine zw_bret hm_176 dX12_byteIs_20 (by decide) ?_
            show ma_wp X d w 175 58 [(8, .inl (5 : Int32)), (0, .inr (.inr (some 94))), (1, .inl xa), (2, .inl xb), (3, .inl xc), (4, .inl xd), (5, .inl xe), (6, .inl xf), (7, .inl xg)] [.inl (0 : Int32)] S _
            refine zw_if0 hm_175 dX12_is_58 (t := 135) rfl zc0_eq (fun _ => ?_) (fun hc => absurd (by decide) hc)
            refine zw_push hm_175 dX12_is_135 (v := .inl (0 : Int32)) rfl ?_
            exact zw_bret hm_175 dX12_is_136 (by decide) (HQ _ _ h)
          · intro hc
            rw [if_pos (Classical.not_not.mp hc)] at h
            refine zw_push hm_176 dX12_byteIs_15 (v := .inl (1 : Int32)) rfl ?_
            refine zw_goto hm_176 dX12_byteIs_16 (t := 20) rfl ?_
            refine zw_bret hm_176 dX12_byteIs_20 (by decide) ?_
            show ma_wp X d w 175 58 [(8, .inl (5 : Int32)), (0, .inr (.inr (some 94))), (1, .inl xa), (2, .inl xb), (3, .inl xc), (4, .inl xd), (5, .inl xe), (6, .inl xf), (7, .inl xg)] [.inl (1 : Int32)] S _
            refine zw_if0 hm_175 dX12_is_58 (t := 135) rfl zc0_eq (fun hc => absurd hc (by decide)) (fun _ => ?_)
            refine zw_push hm_175 dX12_is_61 (v := .inr (.inr (some 94))) rfl ?_
            refine zw_push hm_175 dX12_is_62 (v := .inl (2 : Int32)) rfl ?_
            refine zw_push hm_175 dX12_is_63 (v := .inl xc) rfl ?_
            refine zw_cv hm_175 dX12_is_64 v_12_136_12 hm_176 [.inl xc, .inl (2 : Int32)] [] rfl (zT_rt hS s_94 rfl) ⟨by omega, by omega⟩ rfl ?_
            show ma_wp X (d - 1) (w - 22) 176 0 [(0, .inr (.inr (some 94))), (1, .inl (2 : Int32)), (2, .inl xc)] [] S _
            refine zw_push hm_176 dX12_byteIs_0 (v := .inr (.inr (some 94))) rfl ?_
            refine zw_gf hm_176 dX12_byteIs_1 (v := .inr (.inr (some 96))) (zT_is hS s_94) (zT_t hS s_94) rfl f_12_17_12 (zT_f hS r_94_2) ?_
            refine zw_push hm_176 dX12_byteIs_4 (v := .inr (.inr (some 94))) rfl ?_
            refine zw_gf hm_176 dX12_byteIs_5 (v := .inl ((mI S) 94 68)) (zT_is hS s_94) (zT_t hS s_94) rfl f_12_127_12 rfl ?_
            refine zw_push hm_176 dX12_byteIs_8 (v := .inl (2 : Int32)) rfl ?_
            refine zw_stk hm_176 dX12_byteIs_9 (st₉ := [.inl (((mI S) 94 68) + (2 : Int32)), .inr (.inr (some 96))]) rfl rfl ?_
            obtain ⟨hg, h⟩ := h
            refine zw_ba hm_176 dX12_byteIs_10 (zT_is hS s_96) (zT_h hS s_96) rfl rfl hg ?_
            show ma_wp X (d - 1) (w - 22) 176 11 [(0, .inr (.inr (some 94))), (1, .inl (2 : Int32)), (2, .inl xc)] [.inl ((mI S) 96 (((mI S) 94 68) + (2 : Int32)).toNatClampNeg)] S _
            refine zw_push hm_176 dX12_byteIs_11 (v := .inl xc) rfl ?_
            refine zw_if2 hm_176 dX12_byteIs_12 (t := 19) rfl zc2_ne ?_ ?_
            · intro hc
              rw [if_neg hc] at h
              refine zw_push hm_176 dX12_byteIs_19 (v := .inl (0 : Int32)) rfl ?_
              refine zw_bret hm_176 dX12_byteIs_20 (by decide) ?_
              show ma_wp X d w 175 67 [(8, .inl (5 : Int32)), (0, .inr (.inr (some 94))), (1, .inl xa), (2, .inl xb), (3, .inl xc), (4, .inl xd), (5, .inl xe), (6, .inl xf), (7, .inl xg)] [.inl (0 : Int32)] S _
              refine zw_if0 hm_175 dX12_is_67 (t := 135) rfl zc0_eq (fun _ => ?_) (fun hc => absurd (by decide) hc)
              refine zw_push hm_175 dX12_is_135 (v := .inl (0 : Int32)) rfl ?_
              exact zw_bret hm_175 dX12_is_136 (by decide) (HQ _ _ h)
            · intro hc
              rw [if_pos (Classical.not_not.mp hc)] at h
              refine zw_push hm_176 dX12_byteIs_15 (v := .inl (1 : Int32)) rfl ?_
              refine zw_goto hm_176 dX12_byteIs_16 (t := 20) rfl ?_
              refine zw_bret hm_176 dX12_byteIs_20 (by decide) ?_
              show ma_wp X d w 175 67 [(8, .inl (5 : Int32)), (0, .inr (.inr (some 94))), (1, .inl xa), (2, .inl xb), (3, .inl xc), (4, .inl xd), (5, .inl xe), (6, .inl xf), (7, .inl xg)] [.inl (1 : Int32)] S _
              refine zw_if0 hm_175 dX12_is_67 (t := 135) rfl zc0_eq (fun hc => absurd hc (by decide)) (fun _ => ?_)
              refine zw_push hm_175 dX12_is_70 (v := .inr (.inr (some 94))) rfl ?_
              refine zw_push hm_175 dX12_is_71 (v := .inl (3 : Int32)) rfl ?_
              refine zw_push hm_175 dX12_is_72 (v := .inl xd) rfl ?_
              refine zw_cv hm_175 dX12_is_74 v_12_136_12 hm_176 [.inl xd, .inl (3 : Int32)] [] rfl (zT_rt hS s_94 rfl) ⟨by omega, by omega⟩ rfl ?_
              show ma_wp X (d - 1) (w - 22) 176 0 [(0, .inr (.inr (some 94))), (1, .inl (3 : Int32)), (2, .inl xd)] [] S _
              refine zw_push hm_176 dX12_byteIs_0 (v := .inr (.inr (some 94))) rfl ?_
              refine zw_gf hm_176 dX12_byteIs_1 (v := .inr (.inr (some 96))) (zT_is hS s_94) (zT_t hS s_94) rfl f_12_17_12 (zT_f hS r_94_2) ?_
              refine zw_push hm_176 dX12_byteIs_4 (v := .inr (.inr (some 94))) rfl ?_
              refine zw_gf hm_176 dX12_byteIs_5 (v := .inl ((mI S) 94 68)) (zT_is hS s_94) (zT_t hS s_94) rfl f_12_127_12 rfl ?_
              refine zw_push hm_176 dX12_byteIs_8 (v := .inl (3 : Int32)) rfl ?_
              refine zw_stk hm_176 dX12_byteIs_9 (st₉ := [.inl (((mI S) 94 68) + (3 : Int32)), .inr (.inr (some 96))]) rfl rfl ?_
              obtain ⟨hg, h⟩ := h
              refine zw_ba hm_176 dX12_byteIs_10 (zT_is hS s_96) (zT_h hS s_96) rfl rfl hg ?_
              show ma_wp X (d - 1) (w - 22) 176 11 [(0, .inr (.inr (some 94))), (1, .inl (3 : Int32)), (2, .inl xd)] [.inl ((mI S) 96 (((mI S) 94 68) + (3 : Int32)).toNatClampNeg)] S _
              refine zw_push hm_176 dX12_byteIs_11 (v := .inl xd) rfl ?_
              refine zw_if2 hm_176 dX12_byteIs_12 (t := 19) rfl zc2_ne ?_ ?_
              · intro hc
                rw [if_neg hc] at h
                refine zw_push hm_176 dX12_byteIs_19 (v := .inl (0 : Int32)) rfl ?_
                refine zw_bret hm_176 dX12_byteIs_20 (by decide) ?_
                show ma_wp X d w 175 77 [(8, .inl (5 : Int32)), (0, .inr (.inr (some 94))), (1, .inl xa), (2, .inl xb), (3, .inl xc), (4, .inl xd), (5, .inl xe), (6, .inl xf), (7, .inl xg)] [.inl (0 : Int32)] S _
                refine zw_if0 hm_175 dX12_is_77 (t := 135) rfl zc0_eq (fun _ => ?_) (fun hc => absurd (by decide) hc)
                refine zw_push hm_175 dX12_is_135 (v := .inl (0 : Int32)) rfl ?_
                exact zw_bret hm_175 dX12_is_136 (by decide) (HQ _ _ h)
              · intro hc
                rw [if_pos (Classical.not_not.mp hc)] at h
                refine zw_push hm_176 dX12_byteIs_15 (v := .inl (1 : Int32)) rfl ?_
                refine zw_goto hm_176 dX12_byteIs_16 (t := 20) rfl ?_
                refine zw_bret hm_176 dX12_byteIs_20 (by decide) ?_
                show ma_wp X d w 175 77 [(8, .inl (5 : Int32)), (0, .inr (.inr (some 94))), (1, .inl xa), (2, .inl xb), (3, .inl xc), (4, .inl xd), (5, .inl xe), (6, .inl xf), (7, .inl xg)] [.inl (1 : Int32)] S _
                refine zw_if0 hm_175 dX12_is_77 (t := 135) rfl zc0_eq (fun hc => absurd hc (by decide)) (fun _ => ?_)
                refine zw_push hm_175 dX12_is_80 (v := .inl (5 : Int32)) rfl ?_
                refine zw_push hm_175 dX12_is_82 (v := .inl (5 : Int32)) rfl ?_
                refine zw_if2 hm_175 dX12_is_83 (t := 96) rfl zc2_lt (fun hc => absurd hc (by decide)) (fun _ => ?_)
                refine zw_push hm_175 dX12_is_86 (v := .inr (.inr (some 94))) rfl ?_
                refine zw_push hm_175 dX12_is_87 (v := .inl (4 : Int32)) rfl ?_
                refine zw_push hm_175 dX12_is_88 (v := .inl xe) rfl ?_
                refine zw_cv hm_175 dX12_is_90 v_12_136_12 hm_176 [.inl xe, .inl (4 : Int32)] [] rfl (zT_rt hS s_94 rfl) ⟨by omega, by omega⟩ rfl ?_
                show ma_wp X (d - 1) (w - 22) 176 0 [(0, .inr (.inr (some 94))), (1, .inl (4 : Int32)), (2, .inl xe)] [] S _
                refine zw_push hm_176 dX12_byteIs_0 (v := .inr (.inr (some 94))) rfl ?_
                refine zw_gf hm_176 dX12_byteIs_1 (v := .inr (.inr (some 96))) (zT_is hS s_94) (zT_t hS s_94) rfl f_12_17_12 (zT_f hS r_94_2) ?_
                refine zw_push hm_176 dX12_byteIs_4 (v := .inr (.inr (some 94))) rfl ?_
                refine zw_gf hm_176 dX12_byteIs_5 (v := .inl ((mI S) 94 68)) (zT_is hS s_94) (zT_t hS s_94) rfl f_12_127_12 rfl ?_
                refine zw_push hm_176 dX12_byteIs_8 (v := .inl (4 : Int32)) rfl ?_
                refine zw_stk hm_176 dX12_byteIs_9 (st₉ := [.inl (((mI S) 94 68) + (4 : Int32)), .inr (.inr (some 96))]) rfl rfl ?_
                obtain ⟨hg, h⟩ := h
                refine zw_ba hm_176 dX12_byteIs_10 (zT_is hS s_96) (zT_h hS s_96) rfl rfl hg ?_
                show ma_wp X (d - 1) (w - 22) 176 11 [(0, .inr (.inr (some 94))), (1, .inl (4 : Int32)), (2, .inl xe)] [.inl ((mI S) 96 (((mI S) 94 68) + (4 : Int32)).toNatClampNeg)] S _
                refine zw_push hm_176 dX12_byteIs_11 (v := .inl xe) rfl ?_
                refine zw_if2 hm_176 dX12_byteIs_12 (t := 19) rfl zc2_ne ?_ ?_
                · intro hc
                  rw [if_neg hc] at h
                  refine zw_push hm_176 dX12_byteIs_19 (v := .inl (0 : Int32)) rfl ?_
                  refine zw_bret hm_176 dX12_byteIs_20 (by decide) ?_
                  show ma_wp X d w 175 93 [(8, .inl (5 : Int32)), (0, .inr (.inr (some 94))), (1, .inl xa), (2, .inl xb), (3, .inl xc), (4, .inl xd), (5, .inl xe), (6, .inl xf), (7, .inl xg)] [.inl (0 : Int32)] S _
                  refine zw_if0 hm_175 dX12_is_93 (t := 135) rfl zc0_eq (fun _ => ?_) (fun hc => absurd (by decide) hc)
                  refine zw_push hm_175 dX12_is_135 (v := .inl (0 : Int32)) rfl ?_
                  exact zw_bret hm_175 dX12_is_136 (by decide) (HQ _ _ h)
                · intro hc
                  rw [if_pos (Classical.not_not.mp hc)] at h
                  refine zw_push hm_176 dX12_byteIs_15 (v := .inl (1 : Int32)) rfl ?_
                  refine zw_goto hm_176 dX12_byteIs_16 (t := 20) rfl ?_
                  refine zw_bret hm_176 dX12_byteIs_20 (by decide) ?_
                  show ma_wp X d w 175 93 [(8, .inl (5 : Int32)), (0, .inr (.inr (some 94))), (1, .inl xa), (2, .inl xb), (3, .inl xc), (4, .inl xd), (5, .inl xe), (6, .inl xf), (7, .inl xg)] [.inl (1 : Int32)] S _
                  refine zw_if0 hm_175 dX12_is_93 (t := 135) rfl zc0_eq (fun hc => absurd hc (by decide)) (fun _ => ?_)
                  refine zw_push hm_175 dX12_is_96 (v := .inl (5 : Int32)) rfl ?_
                  refine zw_push hm_175 dX12_is_98 (v := .inl (6 : Int32)) rfl ?_
                  refine zw_if2 hm_175 dX12_is_100 (t := 113) rfl zc2_lt (fun _ => ?_) (fun hc => absurd (by decide) hc)
                  refine zw_push hm_175 dX12_is_113 (v := .inl (5 : Int32)) rfl ?_
                  refine zw_push hm_175 dX12_is_115 (v := .inl (7 : Int32)) rfl ?_
                  refine zw_if2 hm_175 dX12_is_117 (t := 131) rfl zc2_lt (fun _ => ?_) (fun hc => absurd (by decide) hc)
                  refine zw_push hm_175 dX12_is_131 (v := .inl (1 : Int32)) rfl ?_
                  refine zw_goto hm_175 dX12_is_132 (t := 136) rfl ?_
                  exact zw_bret hm_175 dX12_is_136 (by decide) (HQ _ _ h)
      · intro hc
        rw [if_neg hc] at h
        refine zw_push hm_175 dX12_is_41 (v := .inl (0 : Int32)) rfl ?_
        exact zw_bret hm_175 dX12_is_42 (by decide) (HQ _ _ h)
  · intro hc
    rw [if_pos (Classical.not_not.mp hc)] at h
    refine zw_push hm_175 dX12_is_5 (v := .inl (4 : Int32)) rfl ?_
    refine zw_goto hm_175 dX12_is_6 (t := 30) rfl ?_
    refine zw_sto hm_175 dX12_is_30 [(8, .inl (4 : Int32)), (0, .inr (.inr (some 94))), (1, .inl xa), (2, .inl xb), (3, .inl xc), (4, .inl xd), (5, .inl xe), (6, .inl xf), (7, .inl xg)] rfl rfl rfl ?_
    refine zw_push hm_175 dX12_is_32 (v := .inr (.inr (some 94))) rfl ?_
    refine zw_gf hm_175 dX12_is_33 (v := .inl ((mI S) 94 69)) (zT_is hS s_94) (zT_t hS s_94) rfl f_12_130_12 rfl ?_
    refine zw_push hm_175 dX12_is_36 (v := .inl (4 : Int32)) rfl ?_
    refine zw_if2 hm_175 dX12_is_38 (t := 43) rfl zc2_eq ?_ ?_
    · intro hc
      rw [if_pos hc] at h
      refine zw_push hm_175 dX12_is_43 (v := .inr (.inr (some 94))) rfl ?_
      refine zw_push hm_175 dX12_is_44 (v := .inl (0 : Int32)) rfl ?_
      refine zw_push hm_175 dX12_is_45 (v := .inl xa) rfl ?_
      refine zw_cv hm_175 dX12_is_46 v_12_136_12 hm_176 [.inl xa, .inl (0 : Int32)] [] rfl (zT_rt hS s_94 rfl) ⟨by omega, by omega⟩ rfl ?_
      show ma_wp X (d - 1) (w - 22) 176 0 [(0, .inr (.inr (some 94))), (1, .inl (0 : Int32)), (2, .inl xa)] [] S _
      refine zw_push hm_176 dX12_byteIs_0 (v := .inr (.inr (some 94))) rfl ?_
      refine zw_gf hm_176 dX12_byteIs_1 (v := .inr (.inr (some 96))) (zT_is hS s_94) (zT_t hS s_94) rfl f_12_17_12 (zT_f hS r_94_2) ?_
      refine zw_push hm_176 dX12_byteIs_4 (v := .inr (.inr (some 94))) rfl ?_
      refine zw_gf hm_176 dX12_byteIs_5 (v := .inl ((mI S) 94 68)) (zT_is hS s_94) (zT_t hS s_94) rfl f_12_127_12 rfl ?_
      refine zw_push hm_176 dX12_byteIs_8 (v := .inl (0 : Int32)) rfl ?_
      refine zw_stk hm_176 dX12_byteIs_9 (st₉ := [.inl (((mI S) 94 68) + (0 : Int32)), .inr (.inr (some 96))]) rfl rfl ?_
      obtain ⟨hg, h⟩ := h
      refine zw_ba hm_176 dX12_byteIs_10 (zT_is hS s_96) (zT_h hS s_96) rfl rfl hg ?_
      show ma_wp X (d - 1) (w - 22) 176 11 [(0, .inr (.inr (some 94))), (1, .inl (0 : Int32)), (2, .inl xa)] [.inl ((mI S) 96 (((mI S) 94 68) + (0 : Int32)).toNatClampNeg)] S _
      refine zw_push hm_176 dX12_byteIs_11 (v := .inl xa) rfl ?_
      refine zw_if2 hm_176 dX12_byteIs_12 (t := 19) rfl zc2_ne ?_ ?_
      · intro hc
        rw [if_neg hc] at h
        refine zw_push hm_176 dX12_byteIs_19 (v := .inl (0 : Int32)) rfl ?_
        refine zw_bret hm_176 dX12_byteIs_20 (by decide) ?_
        show ma_wp X d w 175 49 [(8, .inl (4 : Int32)), (0, .inr (.inr (some 94))), (1, .inl xa), (2, .inl xb), (3, .inl xc), (4, .inl xd), (5, .inl xe), (6, .inl xf), (7, .inl xg)] [.inl (0 : Int32)] S _
        refine zw_if0 hm_175 dX12_is_49 (t := 135) rfl zc0_eq (fun _ => ?_) (fun hc => absurd (by decide) hc)
        refine zw_push hm_175 dX12_is_135 (v := .inl (0 : Int32)) rfl ?_
        exact zw_bret hm_175 dX12_is_136 (by decide) (HQ _ _ h)
      · intro hc
        rw [if_pos (Classical.not_not.mp hc)] at h
        refine zw_push hm_176 dX12_byteIs_15 (v := .inl (1 : Int32)) rfl ?_
        refine zw_goto hm_176 dX12_byteIs_16 (t := 20) rfl ?_
        refine zw_bret hm_176 dX12_byteIs_20 (by decide) ?_
        show ma_wp X d w 175 49 [(8, .inl (4 : Int32)), (0, .inr (.inr (some 94))), (1, .inl xa), (2, .inl xb), (3, .inl xc), (4, .inl xd), (5, .inl xe), (6, .inl xf), (7, .inl xg)] [.inl (1 : Int32)] S _
        refine zw_if0 hm_175 dX12_is_49 (t := 135) rfl zc0_eq (fun hc => absurd hc (by decide)) (fun _ => ?_)
        refine zw_push hm_175 dX12_is_52 (v := .inr (.inr (some 94))) rfl ?_
        refine zw_push hm_175 dX12_is_53 (v := .inl (1 : Int32)) rfl ?_
        refine zw_push hm_175 dX12_is_54 (v := .inl xb) rfl ?_
        refine zw_cv hm_175 dX12_is_55 v_12_136_12 hm_176 [.inl xb, .inl (1 : Int32)] [] rfl (zT_rt hS s_94 rfl) ⟨by omega, by omega⟩ rfl ?_
        show ma_wp X (d - 1) (w - 22) 176 0 [(0, .inr (.inr (some 94))), (1, .inl (1 : Int32)), (2, .inl xb)] [] S _
        refine zw_push hm_176 dX12_byteIs_0 (v := .inr (.inr (some 94))) rfl ?_
        refine zw_gf hm_176 dX12_byteIs_1 (v := .inr (.inr (some 96))) (zT_is hS s_94) (zT_t hS s_94) rfl f_12_17_12 (zT_f hS r_94_2) ?_
        refine zw_push hm_176 dX12_byteIs_4 (v := .inr (.inr (some 94))) rfl ?_
        refine zw_gf hm_176 dX12_byteIs_5 (v := .inl ((mI S) 94 68)) (zT_is hS s_94) (zT_t hS s_94) rfl f_12_127_12 rfl ?_
        refine zw_push hm_176 dX12_byteIs_8 (v := .inl (1 : Int32)) rfl ?_
        refine zw_stk hm_176 dX12_byteIs_9 (st₉ := [.inl (((mI S) 94 68) + (1 : Int32)), .inr (.inr (some 96))]) rfl rfl ?_
        obtain ⟨hg, h⟩ := h
        refine zw_ba hm_176 dX12_byteIs_10 (zT_is hS s_96) (zT_h hS s_96) rfl rfl hg ?_
        show ma_wp X (d - 1) (w - 22) 176 11 [(0, .inr (.inr (some 94))), (1, .inl (1 : Int32)), (2, .inl xb)] [.inl ((mI S) 96 (((mI S) 94 68) + (1 : Int32)).toNatClampNeg)] S _
        refine zw_push hm_176 dX12_byteIs_11 (v := .inl xb) rfl ?_
        refine zw_if2 hm_176 dX12_byteIs_12 (t := 19) rfl zc2_ne ?_ ?_
        · intro hc
          rw [if_neg hc] at h
          refine zw_push hm_176 dX12_byteIs_19 (v := .inl (0 : Int32)) rfl ?_
          refine zw_bret hm_176 dX12_byteIs_20 (by decide) ?_
          show ma_wp X d w 175 58 [(8, .inl (4 : Int32)), (0, .inr (.inr (some 94))), (1, .inl xa), (2, .inl xb), (3, .inl xc), (4, .inl xd), (5, .inl xe), (6, .inl xf), (7, .inl xg)] [.inl (0 : Int32)] S _
          refine zw_if0 hm_175 dX12_is_58 (t := 135) rfl zc0_eq (fun _ => ?_) (fun hc => absurd (by decide) hc)
          refine zw_push hm_175 dX12_is_135 (v := .inl (0 : Int32)) rfl ?_
          exact zw_bret hm_175 dX12_is_136 (by decide) (HQ _ _ h)
        · intro hc
          rw [if_pos (Classical.not_not.mp hc)] at h
          refine zw_push hm_176 dX12_byteIs_15 (v := .inl (1 : Int32)) rfl ?_
          refine zw_goto hm_176 dX12_byteIs_16 (t := 20) rfl ?_
          refine zw_bret hm_176 dX12_byteIs_20 (by decide) ?_
          show ma_wp X d w 175 58 [(8, .inl (4 : Int32)), (0, .inr (.inr (some 94))), (1, .inl xa), (2, .inl xb), (3, .inl xc), (4, .inl xd), (5, .inl xe), (6, .inl xf), (7, .inl xg)] [.inl (1 : Int32)] S _
          refine zw_if0 hm_175 dX12_is_58 (t := 135) rfl zc0_eq (fun hc => absurd hc (by decide)) (fun _ => ?_)
          refine zw_push hm_175 dX12_is_61 (v := .inr (.inr (some 94))) rfl ?_
          refine zw_push hm_175 dX12_is_62 (v := .inl (2 : Int32)) rfl ?_
          refine zw_push hm_175 dX12_is_63 (v := .inl xc) rfl ?_
          refine zw_cv hm_175 dX12_is_64 v_12_136_12 hm_176 [.inl xc, .inl (2 : Int32)] [] rfl (zT_rt hS s_94 rfl) ⟨by omega, by omega⟩ rfl ?_
          show ma_wp X (d - 1) (w - 22) 176 0 [(0, .inr (.inr (some 94))), (1, .inl (2 : Int32)), (2, .inl xc)] [] S _
          refine zw_push hm_176 dX12_byteIs_0 (v := .inr (.inr (some 94))) rfl ?_
          refine zw_gf hm_176 dX12_byteIs_1 (v := .inr (.inr (some 96))) (zT_is hS s_94) (zT_t hS s_94) rfl f_12_17_12 (zT_f hS r_94_2) ?_
          refine zw_push hm_176 dX12_byteIs_4 (v := .inr (.inr (some 94))) rfl ?_
          refine zw_gf hm_176 dX12_byteIs_5 (v := .inl ((mI S) 94 68)) (zT_is hS s_94) (zT_t hS s_94) rfl f_12_127_12 rfl ?_
          refine zw_push hm_176 dX12_byteIs_8 (v := .inl (2 : Int32)) rfl ?_
          refine zw_stk hm_176 dX12_byteIs_9 (st₉ := [.inl (((mI S) 94 68) + (2 : Int32)), .inr (.inr (some 96))]) rfl rfl ?_
          obtain ⟨hg, h⟩ := h
          refine zw_ba hm_176 dX12_byteIs_10 (zT_is hS s_96) (zT_h hS s_96) rfl rfl hg ?_
          show ma_wp X (d - 1) (w - 22) 176 11 [(0, .inr (.inr (some 94))), (1, .inl (2 : Int32)), (2, .inl xc)] [.inl ((mI S) 96 (((mI S) 94 68) + (2 : Int32)).toNatClampNeg)] S _
          refine zw_push hm_176 dX12_byteIs_11 (v := .inl xc) rfl ?_
          refine zw_if2 hm_176 dX12_byteIs_12 (t := 19) rfl zc2_ne ?_ ?_
          · intro hc
            rw [if_neg hc] at h
            refine zw_push hm_176 dX12_byteIs_19 (v := .inl (0 : Int32)) rfl ?_
            refine zw_bret hm_176 dX12_byteIs_20 (by decide) ?_
            show ma_wp X d w 175 67 [(8, .inl (4 : Int32)), (0, .inr (.inr (some 94))), (1, .inl xa), (2, .inl xb), (3, .inl xc), (4, .inl xd), (5, .inl xe), (6, .inl xf), (7, .inl xg)] [.inl (0 : Int32)] S _
            refine zw_if0 hm_175 dX12_is_67 (t := 135) rfl zc0_eq (fun _ => ?_) (fun hc => absurd (by decide) hc)
            refine zw_push hm_175 dX12_is_135 (v := .inl (0 : Int32)) rfl ?_
            exact zw_bret hm_175 dX12_is_136 (by decide) (HQ _ _ h)
          · intro hc
            rw [if_pos (Classical.not_not.mp hc)] at h
            refine zw_push hm_176 dX12_byteIs_15 (v := .inl (1 : Int32)) rfl ?_
            refine zw_goto hm_176 dX12_byteIs_16 (t := 20) rfl ?_
            refine zw_bret hm_176 dX12_byteIs_20 (by decide) ?_
            show ma_wp X d w 175 67 [(8, .inl (4 : Int32)), (0, .inr (.inr (some 94))), (1, .inl xa), (2, .inl xb), (3, .inl xc), (4, .inl xd), (5, .inl xe), (6, .inl xf), (7, .inl xg)] [.inl (1 : Int32)] S _
            refine zw_if0 hm_175 dX12_is_67 (t := 135) rfl zc0_eq (fun hc => absurd hc (by decide)) (fun _ => ?_)
            refine zw_push hm_175 dX12_is_70 (v := .inr (.inr (some 94))) rfl ?_
            refine zw_push hm_175 dX12_is_71 (v := .inl (3 : Int32)) rfl ?_
            refine zw_push hm_175 dX12_is_72 (v := .inl xd) rfl ?_
            refine zw_cv hm_175 dX12_is_74 v_12_136_12 hm_176 [.inl xd, .inl (3 : Int32)] [] rfl (zT_rt hS s_94 rfl) ⟨by omega, by omega⟩ rfl ?_
            show ma_wp X (d - 1) (w - 22) 176 0 [(0, .inr (.inr (some 94))), (1, .inl (3 : Int32)), (2, .inl xd)] [] S _
            refine zw_push hm_176 dX12_byteIs_0 (v := .inr (.inr (some 94))) rfl ?_
            refine zw_gf hm_176 dX12_byteIs_1 (v := .inr (.inr (some 96))) (zT_is hS s_94) (zT_t hS s_94) rfl f_12_17_12 (zT_f hS r_94_2) ?_
            refine zw_push hm_176 dX12_byteIs_4 (v := .inr (.inr (some 94))) rfl ?_
            refine zw_gf hm_176 dX12_byteIs_5 (v := .inl ((mI S) 94 68)) (zT_is hS s_94) (zT_t hS s_94) rfl f_12_127_12 rfl ?_
            refine zw_push hm_176 dX12_byteIs_8 (v := .inl (3 : Int32)) rfl ?_
            refine zw_stk hm_176 dX12_byteIs_9 (st₉ := [.inl (((mI S) 94 68) + (3 : Int32)), .inr (.inr (some 96))]) rfl rfl ?_
            obtain ⟨hg, h⟩ := h
            refine zw_ba hm_176 dX12_byteIs_10 (zT_is hS s_96) (zT_h hS s_96) rfl rfl hg ?_
            show ma_wp X (d - 1) (w - 22) 176 11 [(0, .inr (.inr (some 94))), (1, .inl (3 : Int32)), (2, .inl xd)] [.inl ((mI S) 96 (((mI S) 94 68) + (3 : Int32)).toNatClampNeg)] S _
            refine zw_push hm_176 dX12_byteIs_11 (v := .inl xd) rfl ?_
            refine zw_if2 hm_176 dX12_byteIs_12 (t := 19) rfl zc2_ne ?_ ?_
            · intro hc
              rw [if_neg hc] at h
              refine zw_push hm_176 dX12_byteIs_19 (v := .inl (0 : Int32)) rfl ?_
              refine zw_bret hm_176 dX12_byteIs_20 (by decide) ?_
              show ma_wp X d w 175 77 [(8, .inl (4 : Int32)), (0, .inr (.inr (some 94))), (1, .inl xa), (2, .inl xb), (3, .inl xc), (4, .inl xd), (5, .inl xe), (6, .inl xf), (7, .inl xg)] [.inl (0 : Int32)] S _
              refine zw_if0 hm_175 dX12_is_77 (t := 135) rfl zc0_eq (fun _ => ?_) (fun hc => absurd (by decide) hc)
              refine zw_push hm_175 dX12_is_135 (v := .inl (0 : Int32)) rfl ?_
              exact zw_bret hm_175 dX12_is_136 (by decide) (HQ _ _ h)
            · intro hc
              rw [if_pos (Classical.not_not.mp hc)] at h
              refine zw_push hm_176 dX12_byteIs_15 (v := .inl (1 : Int32)) rfl ?_
              refine zw_goto hm_176 dX12_byteIs_16 (t := 20) rfl ?_
              refine zw_bret hm_176 dX12_byteIs_20 (by decide) ?_
              show ma_wp X d w 175 77 [(8, .inl (4 : Int32)), (0, .inr (.inr (some 94))), (1, .inl xa), (2, .inl xb), (3, .inl xc), (4, .inl xd), (5, .inl xe), (6, .inl xf), (7, .inl xg)] [.inl (1 : Int32)] S _
              refine zw_if0 hm_175 dX12_is_77 (t := 135) rfl zc0_eq (fun hc => absurd hc (by decide)) (fun _ => ?_)
              refine zw_push hm_175 dX12_is_80 (v := .inl (4 : Int32)) rfl ?_
              refine zw_push hm_175 dX12_is_82 (v := .inl (5 : Int32)) rfl ?_
              refine zw_if2 hm_175 dX12_is_83 (t := 96) rfl zc2_lt (fun _ => ?_) (fun hc => absurd (by decide) hc)
              refine zw_push hm_175 dX12_is_96 (v := .inl (4 : Int32)) rfl ?_
              refine zw_push hm_175 dX12_is_98 (v := .inl (6 : Int32)) rfl ?_
              refine zw_if2 hm_175 dX12_is_100 (t := 113) rfl zc2_lt (fun _ => ?_) (fun hc => absurd (by decide) hc)
              refine zw_push hm_175 dX12_is_113 (v := .inl (4 : Int32)) rfl ?_
              refine zw_push hm_175 dX12_is_115 (v := .inl (7 : Int32)) rfl ?_
              refine zw_if2 hm_175 dX12_is_117 (t := 131) rfl zc2_lt (fun _ => ?_) (fun hc => absurd (by decide) hc)
              refine zw_push hm_175 dX12_is_131 (v := .inl (1 : Int32)) rfl ?_
              refine zw_goto hm_175 dX12_is_132 (t := 136) rfl ?_
              exact zw_bret hm_175 dX12_is_136 (by decide) (HQ _ _ h)
    · intro hc
      rw [if_neg hc] at h
      refine zw_push hm_175 dX12_is_41 (v := .inl (0 : Int32)) rfl ?_
      exact zw_bret hm_175 dX12_is_42 (by decide) (HQ _ _ h)
