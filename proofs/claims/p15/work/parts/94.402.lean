/-! the reference (written by wip/tools/gen94m.py) -/
set_option maxRecDepth 100000 in
theorem hm_175 : ma_md 175 = some (12, yX12_is, cX12_is, 9, (some (FieldType.boolean))) := rfl
set_option maxRecDepth 100000 in
theorem hm_176 : ma_md 176 = some (12, yX12_byteIs, cX12_byteIs, 3, (some (FieldType.boolean))) := rfl
theorem v_12_136_12 : ma_vl 12 136 12 = some (1, 176, 2) := by decide +kernel
theorem dX12_is_0 : decode cX12_is 0 = .ok (.iload 5, 2) := by decide +kernel
theorem dX12_is_9 : decode cX12_is 9 = .ok (.iload 6, 2) := by decide +kernel
theorem dX12_is_18 : decode cX12_is 18 = .ok (.iload 7, 2) := by decide +kernel
theorem dX12_is_28 : decode cX12_is 28 = .ok (.bipush 7, 2) := by decide +kernel
theorem dX12_is_30 : decode cX12_is 30 = .ok (.istore 8, 2) := by decide +kernel
theorem dX12_is_32 : decode cX12_is 32 = .ok (.aload_n 0, 1) := by decide +kernel
theorem dX12_is_36 : decode cX12_is 36 = .ok (.iload 8, 2) := by decide +kernel
theorem dX12_is_43 : decode cX12_is 43 = .ok (.aload_n 0, 1) := by decide +kernel
theorem dX12_is_44 : decode cX12_is 44 = .ok (.iconst 0, 1) := by decide +kernel
theorem dX12_is_45 : decode cX12_is 45 = .ok (.iload_n 1, 1) := by decide +kernel
theorem dX12_is_46 : decode cX12_is 46 = .ok (.invokevirtual 136, 3) := by decide +kernel
theorem dX12_byteIs_0 : decode cX12_byteIs 0 = .ok (.aload_n 0, 1) := by decide +kernel
theorem dX12_byteIs_4 : decode cX12_byteIs 4 = .ok (.aload_n 0, 1) := by decide +kernel
theorem dX12_byteIs_8 : decode cX12_byteIs 8 = .ok (.iload_n 1, 1) := by decide +kernel
theorem dX12_byteIs_9 : decode cX12_byteIs 9 = .ok (.iadd, 1) := by decide +kernel
theorem dX12_byteIs_11 : decode cX12_byteIs 11 = .ok (.iload_n 2, 1) := by decide +kernel
theorem dX12_byteIs_19 : decode cX12_byteIs 19 = .ok (.iconst 0, 1) := by decide +kernel
theorem dX12_is_49 : decode cX12_is 49 = .ok (.ifCond .eq 86, 3) := by decide +kernel
theorem dX12_is_135 : decode cX12_is 135 = .ok (.iconst 0, 1) := by decide +kernel
theorem dX12_is_136 : decode cX12_is 136 = .ok (.ireturn, 1) := by decide +kernel
theorem dX12_byteIs_20 : decode cX12_byteIs 20 = .ok (.ireturn, 1) := by decide +kernel
theorem dX12_byteIs_15 : decode cX12_byteIs 15 = .ok (.iconst 1, 1) := by decide +kernel
theorem dX12_byteIs_16 : decode cX12_byteIs 16 = .ok (.goto 4, 3) := by decide +kernel
theorem dX12_is_52 : decode cX12_is 52 = .ok (.aload_n 0, 1) := by decide +kernel
theorem dX12_is_53 : decode cX12_is 53 = .ok (.iconst 1, 1) := by decide +kernel
theorem dX12_is_54 : decode cX12_is 54 = .ok (.iload_n 2, 1) := by decide +kernel
theorem dX12_is_55 : decode cX12_is 55 = .ok (.invokevirtual 136, 3) := by decide +kernel
theorem dX12_is_58 : decode cX12_is 58 = .ok (.ifCond .eq 77, 3) := by decide +kernel
theorem dX12_is_61 : decode cX12_is 61 = .ok (.aload_n 0, 1) := by decide +kernel
theorem dX12_is_62 : decode cX12_is 62 = .ok (.iconst 2, 1) := by decide +kernel
theorem dX12_is_63 : decode cX12_is 63 = .ok (.iload_n 3, 1) := by decide +kernel
theorem dX12_is_64 : decode cX12_is 64 = .ok (.invokevirtual 136, 3) := by decide +kernel
theorem dX12_is_67 : decode cX12_is 67 = .ok (.ifCond .eq 68, 3) := by decide +kernel
theorem dX12_is_70 : decode cX12_is 70 = .ok (.aload_n 0, 1) := by decide +kernel
theorem dX12_is_71 : decode cX12_is 71 = .ok (.iconst 3, 1) := by decide +kernel
theorem dX12_is_72 : decode cX12_is 72 = .ok (.iload 4, 2) := by decide +kernel
theorem dX12_is_74 : decode cX12_is 74 = .ok (.invokevirtual 136, 3) := by decide +kernel
theorem dX12_is_77 : decode cX12_is 77 = .ok (.ifCond .eq 58, 3) := by decide +kernel
theorem dX12_is_80 : decode cX12_is 80 = .ok (.iload 8, 2) := by decide +kernel
theorem dX12_is_82 : decode cX12_is 82 = .ok (.iconst 5, 1) := by decide +kernel
theorem dX12_is_83 : decode cX12_is 83 = .ok (.if_icmp .lt 13, 3) := by decide +kernel
theorem dX12_is_86 : decode cX12_is 86 = .ok (.aload_n 0, 1) := by decide +kernel
theorem dX12_is_87 : decode cX12_is 87 = .ok (.iconst 4, 1) := by decide +kernel
theorem dX12_is_88 : decode cX12_is 88 = .ok (.iload 5, 2) := by decide +kernel
theorem dX12_is_90 : decode cX12_is 90 = .ok (.invokevirtual 136, 3) := by decide +kernel
theorem dX12_is_93 : decode cX12_is 93 = .ok (.ifCond .eq 42, 3) := by decide +kernel
theorem dX12_is_96 : decode cX12_is 96 = .ok (.iload 8, 2) := by decide +kernel
theorem dX12_is_98 : decode cX12_is 98 = .ok (.bipush 6, 2) := by decide +kernel
theorem dX12_is_100 : decode cX12_is 100 = .ok (.if_icmp .lt 13, 3) := by decide +kernel
theorem dX12_is_103 : decode cX12_is 103 = .ok (.aload_n 0, 1) := by decide +kernel
theorem dX12_is_104 : decode cX12_is 104 = .ok (.iconst 5, 1) := by decide +kernel
theorem dX12_is_105 : decode cX12_is 105 = .ok (.iload 6, 2) := by decide +kernel
theorem dX12_is_107 : decode cX12_is 107 = .ok (.invokevirtual 136, 3) := by decide +kernel
theorem dX12_is_110 : decode cX12_is 110 = .ok (.ifCond .eq 25, 3) := by decide +kernel
theorem dX12_is_113 : decode cX12_is 113 = .ok (.iload 8, 2) := by decide +kernel
theorem dX12_is_115 : decode cX12_is 115 = .ok (.bipush 7, 2) := by decide +kernel
theorem dX12_is_117 : decode cX12_is 117 = .ok (.if_icmp .lt 14, 3) := by decide +kernel
theorem dX12_is_120 : decode cX12_is 120 = .ok (.aload_n 0, 1) := by decide +kernel
theorem dX12_is_121 : decode cX12_is 121 = .ok (.bipush 6, 2) := by decide +kernel
theorem dX12_is_123 : decode cX12_is 123 = .ok (.iload 7, 2) := by decide +kernel
theorem dX12_is_125 : decode cX12_is 125 = .ok (.invokevirtual 136, 3) := by decide +kernel
theorem dX12_is_128 : decode cX12_is 128 = .ok (.ifCond .eq 7, 3) := by decide +kernel
theorem dX12_is_131 : decode cX12_is 131 = .ok (.iconst 1, 1) := by decide +kernel
theorem dX12_is_132 : decode cX12_is 132 = .ok (.goto 4, 3) := by decide +kernel
theorem dX12_byteIs_12 : decode cX12_byteIs 12 = .ok (.if_icmp .ne 7, 3) := by decide +kernel
theorem dX12_byteIs_10 : decode cX12_byteIs 10 = .ok (.baload, 1) := by decide +kernel
theorem dX12_byteIs_5 : decode cX12_byteIs 5 = .ok (.getfield 127, 3) := by decide +kernel
theorem dX12_byteIs_1 : decode cX12_byteIs 1 = .ok (.getfield 17, 3) := by decide +kernel
theorem dX12_is_41 : decode cX12_is 41 = .ok (.iconst 0, 1) := by decide +kernel
theorem dX12_is_42 : decode cX12_is 42 = .ok (.ireturn, 1) := by decide +kernel
theorem dX12_is_38 : decode cX12_is 38 = .ok (.if_icmp .eq 5, 3) := by decide +kernel
theorem dX12_is_33 : decode cX12_is 33 = .ok (.getfield 130, 3) := by decide +kernel
theorem dX12_is_23 : decode cX12_is 23 = .ok (.bipush 6, 2) := by decide +kernel
theorem dX12_is_25 : decode cX12_is 25 = .ok (.goto 5, 3) := by decide +kernel
theorem dX12_is_20 : decode cX12_is 20 = .ok (.ifCond .ne 8, 3) := by decide +kernel
theorem dX12_is_14 : decode cX12_is 14 = .ok (.iconst 5, 1) := by decide +kernel
theorem dX12_is_15 : decode cX12_is 15 = .ok (.goto 15, 3) := by decide +kernel
theorem dX12_is_11 : decode cX12_is 11 = .ok (.ifCond .ne 7, 3) := by decide +kernel
theorem dX12_is_5 : decode cX12_is 5 = .ok (.iconst 4, 1) := by decide +kernel
theorem dX12_is_6 : decode cX12_is 6 = .ok (.goto 24, 3) := by decide +kernel
theorem dX12_is_2 : decode cX12_is 2 = .ok (.ifCond .ne 7, 3) := by decide +kernel
def wr_175 (_ _ : Nat) : Bool := false
theorem g_175_0 {X : Nat × (Nat → Int32)} {m : Nat → Nat → Int32} {P : Option ma_V → (Nat → Nat → Int32) → Prop} (xa : Int32) (xb : Int32) (xc : Int32) (xd : Int32) (xe : Int32) (xf : Int32) (xg : Int32) (h : if xe = 0 then (if (m 94 69) = (4 : Int32) then ((0 ≤ ((m 94 68) + (0 : Int32)) ∧ ((m 94 68) + (0 : Int32)).toNatClampNeg < 100) ∧ (if (m 96 ((m 94 68) + (0 : Int32)).toNatClampNeg) = xa then ((0 ≤ ((m 94 68) + (1 : Int32)) ∧ ((m 94 68) + (1 : Int32)).toNatClampNeg < 100) ∧ (if (m 96 ((m 94 68) + (1 : Int32)).toNatClampNeg) = xb then ((0 ≤ ((m 94 68) + (2 : Int32)) ∧ ((m 94 68) + (2 : Int32)).toNatClampNeg < 100) ∧ (if (m 96 ((m 94 68) + (2 : Int32)).toNatClampNeg) = xc then ((0 ≤ ((m 94 68) + (3 : Int32)) ∧ ((m 94 68) + (3 : Int32)).toNatClampNeg < 100) ∧ (if (m 96 ((m 94 68) + (3 : Int32)).toNatClampNeg) = xd then (P (some (.inl (1 : Int32))) m) else (P (some (.inl (0 : Int32))) m))) else (P (some (.inl (0 : Int32))) m))) else (P (some (.inl (0 : Int32))) m))) else (P (some (.inl (0 : Int32))) m))) else (P (some (.inl (0 : Int32))) m)) else (if xf = 0 then (if (m 94 69) = (5 : Int32) then ((0 ≤ ((m 94 68) + (0 : Int32)) ∧ ((m 94 68) + (0 : Int32)).toNatClampNeg < 100) ∧ (if (m 96 ((m 94 68) + (0 : Int32)).toNatClampNeg) = xa then ((0 ≤ ((m 94 68) + (1 : Int32)) ∧ ((m 94 68) + (1 : Int32)).toNatClampNeg < 100) ∧ (if (m 96 ((m 94 68) + (1 : Int32)).toNatClampNeg) = xb then ((0 ≤ ((m 94 68) + (2 : Int32)) ∧ ((m 94 68) + (2 : Int32)).toNatClampNeg < 100) ∧ (if (m 96 ((m 94 68) + (2 : Int32)).toNatClampNeg) = xc then ((0 ≤ ((m 94 68) + (3 : Int32)) ∧ ((m 94 68) + (3 : Int32)).toNatClampNeg < 100) ∧ (if (m 96 ((m 94 68) + (3 : Int32)).toNatClampNeg) = xd then ((0 ≤ ((m 94 68) + (4 : Int32)) ∧ ((m 94 68) + (4 : Int32)).toNatClampNeg < 100) ∧ (if (m 96 ((m 94 68) + (4 : Int32)).toNatClampNeg) = xe then (P (some (.inl (1 : Int32))) m) else (P (some (.inl (0 : Int32))) m))) else (P (some (.inl (0 : Int32))) m))) else (P (some (.inl (0 : Int32))) m))) else (P (some (.inl (0 : Int32))) m))) else (P (some (.inl (0 : Int32))) m))) else (P (some (.inl (0 : Int32))) m)) else (if xg = 0 then (if (m 94 69) = (6 : Int32) then ((0 ≤ ((m 94 68) + (0 : Int32)) ∧ ((m 94 68) + (0 : Int32)).toNatClampNeg < 100) ∧ (if (m 96 ((m 94 68) + (0 : Int32)).toNatClampNeg) = xa then ((0 ≤ ((m 94 68) + (1 : Int32)) ∧ ((m 94 68) + (1 : Int32)).toNatClampNeg < 100) ∧ (if (m 96 ((m 94 68) + (1 : Int32)).toNatClampNeg) = xb then ((0 ≤ ((m 94 68) + (2 : Int32)) ∧ ((m 94 68) + (2 : Int32)).toNatClampNeg < 100) ∧ (if (m 96 ((m 94 68) + (2 : Int32)).toNatClampNeg) = xc then ((0 ≤ ((m 94 68) + (3 : Int32)) ∧ ((m 94 68) + (3 : Int32)).toNatClampNeg < 100) ∧ (if (m 96 ((m 94 68) + (3 : Int32)).toNatClampNeg) = xd then ((0 ≤ ((m 94 68) + (4 : Int32)) ∧ ((m 94 68) + (4 : Int32)).toNatClampNeg < 100) ∧ (if (m 96 ((m 94 68) + (4 : Int32)).toNatClampNeg) = xe then ((0 ≤ ((m 94 68) + (5 : Int32)) ∧ ((m 94 68) + (5 : Int32)).toNatClampNeg < 100) ∧ (if (m 96 ((m 94 68) + (5 : Int32)).toNatClampNeg) = xf then (P (some (.inl (1 : Int32))) m) else (P (some (.inl (0 : Int32))) m))) else (P (some (.inl (0 : Int32))) m))) else (P (some (.inl (0 : Int32))) m))) else (P (some (.inl (0 : Int32))) m))) else (P (some (.inl (0 : Int32))) m))) else (P (some (.inl (0 : Int32))) m))) else (P (some (.inl (0 : Int32))) m)) else (if (m 94 69) = (7 : Int32) then ((0 ≤ ((m 94 68) + (0 : Int32)) ∧ ((m 94 68) + (0 : Int32)).toNatClampNeg < 100) ∧ (if (m 96 ((m 94 68) + (0 : Int32)).toNatClampNeg) = xa then ((0 ≤ ((m 94 68) + (1 : Int32)) ∧ ((m 94 68) + (1 : Int32)).toNatClampNeg < 100) ∧ (if (m 96 ((m 94 68) + (1 : Int32)).toNatClampNeg) = xb then ((0 ≤ ((m 94 68) + (2 : Int32)) ∧ ((m 94 68) + (2 : Int32)).toNatClampNeg < 100) ∧ (if (m 96 ((m 94 68) + (2 : Int32)).toNatClampNeg) = xc then ((0 ≤ ((m 94 68) + (3 : Int32)) ∧ ((m 94 68) + (3 : Int32)).toNatClampNeg < 100) ∧ (if (m 96 ((m 94 68) + (3 : Int32)).toNatClampNeg) = xd then ((0 ≤ ((m 94 68) + (4 : Int32)) ∧ ((m 94 68) + (4 : Int32)).toNatClampNeg < 100) ∧ (if (m 96 ((m 94 68) + (4 : Int32)).toNatClampNeg) = xe then ((0 ≤ ((m 94 68) + (5 : Int32)) ∧ ((m 94 68) + (5 : Int32)).toNatClampNeg < 100) ∧ (if (m 96 ((m 94 68) + (5 : Int32)).toNatClampNeg) = xf then ((0 ≤ ((m 94 68) + (6 : Int32)) ∧ ((m 94 68) + (6 : Int32)).toNatClampNeg < 100) ∧ (if (m 96 ((m 94 68) + (6 : Int32)).toNatClampNeg) = xg then (P (some (.inl (1 : Int32))) m) else (P (some (.inl (0 : Int32))) m))) else (P (some (.inl (0 : Int32))) m))) else (P (some (.inl (0 : Int32))) m))) else (P (some (.inl (0 : Int32))) m))) else (P (some (.inl (0 : Int32))) m))) else (P (some (.inl (0 : Int32))) m))) else (P (some (.inl (0 : Int32))) m))) else (P (some (.inl (0 : Int32))) m))))) : zm X 1 22 175 0 [(0, .inr (.inr (some 94))), (1, .inl xa), (2, .inl xb), (3, .inl xc), (4, .inl xd), (5, .inl xe), (6, .inl xf), (7, .inl xg)] m P := by
  intro d w S Q hd hw hS hm HQ
  subst hm
  refine zw_push hm_175 dX12_is_0 (v := .inl xe) rfl ?_
  refine zw_if0 hm_175 dX12_is_2 (t := 9) rfl zc0_ne ?_ ?_
  · intro hc
    rw [if_neg hc] at h
    refine zw_push hm_175 dX12_is_9 (v := .inl xf) rfl ?_
    refine zw_if0 hm_175 dX12_is_11 (t := 18) rfl zc0_ne ?_ ?_
    · intro hc
      rw [if_neg hc] at h
      refine zw_push hm_175 dX12_is_18 (v := .inl xg) rfl ?_
      refine zw_if0 hm_175 dX12_is_20 (t := 28) rfl zc0_ne ?_ ?_
      · intro hc
        rw [if_neg hc] at h
        refine zw_push hm_175 dX12_is_28 (v := .inl (7 : Int32)) rfl ?_
        refine zw_sto hm_175 dX12_is_30 [(8, .inl (7 : Int32)), (0, .inr (.inr (some 94))), (1, .inl xa), (2, .inl xb), (3, .inl xc), (4, .inl xd), (5, .inl xe), (6, .inl xf), (7, .inl xg)] rfl rfl rfl ?_
        refine zw_push hm_175 dX12_is_32 (v := .inr (.inr (some 94))) rfl ?_
        refine zw_gf hm_175 dX12_is_33 (v := .inl ((mI S) 94 69)) (zT_is hS s_94) (zT_t hS s_94) rfl f_12_130_12 rfl ?_
        refine zw_push hm_175 dX12_is_36 (v := .inl (7 : Int32)) rfl ?_
        refine zw_if2 hm_175 dX12_is_38 (t := 43) rfl zc2_eq ?_ ?_
        · intro hc
          rw [if_pos hc] at h
          refine zw_push hm_175 dX12_is_43 (v := .inr (.inr (some 94))) rfl ?_
          refine zw_push hm_175 dX12_is_44 (v := .inl (0 : Int32)) rfl ?_
          refine zw_push hm_175 dX12_is_45 (v := .inl xa) rfl ?_
          refine zw_cv hm_175 dX12_is_46 v_12_136_12 hm_176 [.inl xa, .inl (0 : Int32)] [] rfl (zT_rt hS s_94 rfl) ⟨by omega, by omega⟩ rfl ?_
          show ma_wp X (d - 1) (w - 22) 176 0 [(0, .inr (.inr (some 94))), (1, .inl (0 : Int32)), (2, .inl xa)] [] S _
          refine zw_push hm_176 dX12_byteIs_0 (v := .inr (.inr (some 94))) rfl ?_
          refine zw_gf hm_176 dX12_byteIs_1 (v := .inr (.inr (some 96))) (zT_is hS s_94) (zT_t hS s_94) rfl f_12_17_12 (zT_f hS r_94_2) ?_
          refine zw_push hm_176 dX12_byteIs_4 (v := .inr (.inr (some 94))) rfl ?_
          refine zw_gf hm_176 dX12_byteIs_5 (v := .inl ((mI S) 94 68)) (zT_is hS s_94) (zT_t hS s_94) rfl f_12_127_12 rfl ?_
          refine zw_push hm_176 dX12_byteIs_8 (v := .inl (0 : Int32)) rfl ?_
          refine zw_stk hm_176 dX12_byteIs_9 (st' := [.inl (((mI S) 94 68) + (0 : Int32)), .inr (.inr (some 96))]) rfl rfl ?_
          obtain ⟨hg, h⟩ := h
          refine zw_ba hm_176 dX12_byteIs_10 (zT_is hS s_96) (zT_h hS s_96) rfl rfl hg ?_
          show ma_wp X (d - 1) (w - 22) 176 11 [(0, .inr (.inr (some 94))), (1, .inl (0 : Int32)), (2, .inl xa)] [.inl ((mI S) 96 (((mI S) 94 68) + (0 : Int32)).toNatClampNeg)] S _
          refine zw_push hm_176 dX12_byteIs_11 (v := .inl xa) rfl ?_
          refine zw_if2 hm_176 dX12_byteIs_12 (t := 19) rfl zc2_ne ?_ ?_
          · intro hc
            rw [if_neg hc] at h
            refine zw_push hm_176 dX12_byteIs_19 (v := .inl (0 : Int32)) rfl ?_
            refine zw_bret hm_176 dX12_byteIs_20 (by decide) ?_
            show ma_wp X d w 175 49 [(8, .inl (7 : Int32)), (0, .inr (.inr (some 94))), (1, .inl xa), (2, .inl xb), (3, .inl xc), (4, .inl xd), (5, .inl xe), (6, .inl xf), (7, .inl xg)] [.inl (0 : Int32)] S _
            refine zw_if0 hm_175 dX12_is_49 (t := 135) rfl zc0_eq (fun _ => ?_) (fun hc => absurd (by decide) hc)
            refine zw_push hm_175 dX12_is_135 (v := .inl (0 : Int32)) rfl ?_
            exact zw_bret hm_175 dX12_is_136 (by decide) (HQ _ _ h)
          · intro hc
            rw [if_pos (Classical.not_not.mp hc)] at h
            refine zw_push hm_176 dX12_byteIs_15 (v := .inl (1 : Int32)) rfl ?_
            refine zw_goto hm_176 dX12_byteIs_16 (t := 20) rfl ?_
            refine zw_bret hm_176 dX12_byteIs_20 (by decide) ?_
            show ma_wp X d w 175 49 [(8, .inl (7 : Int32)), (0, .inr (.inr (some 94))), (1, .inl xa), (2, .inl xb), (3, .inl xc), (4, .inl xd), (5, .inl xe), (6, .inl xf), (7, .inl xg)] [.inl (1 : Int32)] S _
            refine zw_if0 hm_175 dX12_is_49 (t := 135) rfl zc0_eq (fun hc => absurd hc (by decide)) (fun _ => ?_)
            refine zw_push hm_175 dX12_is_52 (v := .inr (.inr (some 94))) rfl ?_
            refine zw_push hm_175 dX12_is_53 (v := .inl (1 : Int32)) rfl ?_
            refine zw_push hm_175 dX12_is_54 (v := .inl xb) rfl ?_
            refine zw_cv hm_175 dX12_is_55 v_12_136_12 hm_176 [.inl xb, .inl (1 : Int32)] [] rfl (zT_rt hS s_94 rfl) ⟨by omega, by omega⟩ rfl ?_
            show ma_wp X (d - 1) (w - 22) 176 0 [(0, .inr (.inr (some 94))), (1, .inl (1 : Int32)), (2, .inl xb)] [] S _
            refine zw_push hm_176 dX12_byteIs_0 (v := .inr (.inr (some 94))) rfl ?_
            refine zw_gf hm_176 dX12_byteIs_1 (v := .inr (.inr (some 96))) (zT_is hS s_94) (zT_t hS s_94) rfl f_12_17_12 (zT_f hS r_94_2) ?_
            refine zw_push hm_176 dX12_byteIs_4 (v := .inr (.inr (some 94))) rfl ?_
            refine zw_gf hm_176 dX12_byteIs_5 (v := .inl ((mI S) 94 68)) (zT_is hS s_94) (zT_t hS s_94) rfl f_12_127_12 rfl ?_
            refine zw_push hm_176 dX12_byteIs_8 (v := .inl (1 : Int32)) rfl ?_
            refine zw_stk hm_176 dX12_byteIs_9 (st' := [.inl (((mI S) 94 68) + (1 : Int32)), .inr (.inr (some 96))]) rfl rfl ?_
            obtain ⟨hg, h⟩ := h
            refine zw_ba hm_176 dX12_byteIs_10 (zT_is hS s_96) (zT_h hS s_96) rfl rfl hg ?_
            show ma_wp X (d - 1) (w - 22) 176 11 [(0, .inr (.inr (some 94))), (1, .inl (1 : Int32)), (2, .inl xb)] [.inl ((mI S) 96 (((mI S) 94 68) + (1 : Int32)).toNatClampNeg)] S _
            refine zw_push hm_176 dX12_byteIs_11 (v := .inl xb) rfl ?_
            refine zw_if2 hm_176 dX12_byteIs_12 (t := 19) rfl zc2_ne ?_ ?_
            · intro hc
              rw [if_neg hc] at h
              refine zw_push hm_176 dX12_byteIs_19 (v := .inl (0 : Int32)) rfl ?_
              refine zw_bret hm_176 dX12_byteIs_20 (by decide) ?_
              show ma_wp X d w 175 58 [(8, .inl (7 : Int32)), (0, .inr (.inr (some 94))), (1, .inl xa), (2, .inl xb), (3, .inl xc), (4, .inl xd), (5, .inl xe), (6, .inl xf), (7, .inl xg)] [.inl (0 : Int32)] S _
              refine zw_if0 hm_175 dX12_is_58 (t := 135) rfl zc0_eq (fun _ => ?_) (fun hc => absurd (by decide) hc)
              refine zw_push hm_175 dX12_is_135 (v := .inl (0 : Int32)) rfl ?_
              exact zw_bret hm_175 dX12_is_136 (by decide) (HQ _ _ h)
            · intro hc
              rw [if_pos (Classical.not_not.mp hc)] at h
              refine zw_push hm_176 dX12_byteIs_15 (v := .inl (1 : Int32)) rfl ?_
              refine zw_goto hm_176 dX12_byteIs_16 (t := 20) rfl ?_
              refine zw_bret hm_176 dX12_byteIs_20 (by decide) ?_
              show ma_wp X d w 175 58 [(8, .inl (7 : Int32)), (0, .inr (.inr (some 94))), (1, .inl xa), (2, .inl xb), (3, .inl xc), (4, .inl xd), (5, .inl xe), (6, .inl xf), (7, .inl xg)] [.inl (1 : Int32)] S _
              refine zw_if0 hm_175 dX12_is_58 (t := 135) rfl zc0_eq (fun hc => absurd hc (by decide)) (fun _ => ?_)
              refine zw_push hm_175 dX12_is_61 (v := .inr (.inr (some 94))) rfl ?_
              refine zw_push hm_175 dX12_is_62 (v := .inl (2 : Int32)) rfl ?_
              refine zw_push hm_175 dX12_is_63 (v := .inl xc) rfl ?_
              refine zw_cv hm_175 dX12_is_64 v_12_136_12 hm_176 [.inl xc, .inl (2 : Int32)] [] rfl (zT_rt hS s_94 rfl) ⟨by omega, by omega⟩ rfl ?_
              show ma_wp X (d - 1) (w - 22) 176 0 [(0, .inr (.inr (some 94))), (1, .inl (2 : Int32)), (2, .inl xc)] [] S _
              refine zw_push hm_176 dX12_byteIs_0 (v := .inr (.inr (some 94))) rfl ?_
              refine zw_gf hm_176 dX12_byteIs_1 (v := .inr (.inr (some 96))) (zT_is hS s_94) (zT_t hS s_94) rfl f_12_17_12 (zT_f hS r_94_2) ?_
              refine zw_push hm_176 dX12_byteIs_4 (v := .inr (.inr (some 94))) rfl ?_
              refine zw_gf hm_176 dX12_byteIs_5 (v := .inl ((mI S) 94 68)) (zT_is hS s_94) (zT_t hS s_94) rfl f_12_127_12 rfl ?_
              refine zw_push hm_176 dX12_byteIs_8 (v := .inl (2 : Int32)) rfl ?_
              refine zw_stk hm_176 dX12_byteIs_9 (st' := [.inl (((mI S) 94 68) + (2 : Int32)), .inr (.inr (some 96))]) rfl rfl ?_
              obtain ⟨hg, h⟩ := h
              refine zw_ba hm_176 dX12_byteIs_10 (zT_is hS s_96) (zT_h hS s_96) rfl rfl hg ?_
              show ma_wp X (d - 1) (w - 22) 176 11 [(0, .inr (.inr (some 94))), (1, .inl (2 : Int32)), (2, .inl xc)] [.inl ((mI S) 96 (((mI S) 94 68) + (2 : Int32)).toNatClampNeg)] S _
              refine zw_push hm_176 dX12_byteIs_11 (v := .inl xc) rfl ?_
              refine zw_if2 hm_176 dX12_byteIs_12 (t := 19) rfl zc2_ne ?_ ?_
              · intro hc
                rw [if_neg hc] at h
                refine zw_push hm_176 dX12_byteIs_19 (v := .inl (0 : Int32)) rfl ?_
                refine zw_bret hm_176 dX12_byteIs_20 (by decide) ?_
                show ma_wp X d w 175 67 [(8, .inl (7 : Int32)), (0, .inr (.inr (some 94))), (1, .inl xa), (2, .inl xb), (3, .inl xc), (4, .inl xd), (5, .inl xe), (6, .inl xf), (7, .inl xg)] [.inl (0 : Int32)] S _
                refine zw_if0 hm_175 dX12_is_67 (t := 135) rfl zc0_eq (fun _ => ?_) (fun hc => absurd (by decide) hc)
                refine zw_push hm_175 dX12_is_135 (v := .inl (0 : Int32)) rfl ?_
                exact zw_bret hm_175 dX12_is_136 (by decide) (HQ _ _ h)
              · intro hc
                rw [if_pos (Classical.not_not.mp hc)] at h
                refine zw_push hm_176 dX12_byteIs_15 (v := .inl (1 : Int32)) rfl ?_
                refine zw_goto hm_176 dX12_byteIs_16 (t := 20) rfl ?_
                refine zw_bret hm_176 dX12_byteIs_20 (by decide) ?_
                show ma_wp X d w 175 67 [(8, .inl (7 : Int32)), (0, .inr (.inr (some 94))), (1, .inl xa), (2, .inl xb), (3, .inl xc), (4, .inl xd), (5, .inl xe), (6, .inl xf), (7, .inl xg)] [.inl (1 : Int32)] S _
                refine zw_if0 hm_175 dX12_is_67 (t := 135) rfl zc0_eq (fun hc => absurd hc (by decide)) (fun _ => ?_)
                refine zw_push hm_175 dX12_is_70 (v := .inr (.inr (some 94))) rfl ?_
                refine zw_push hm_175 dX12_is_71 (v := .inl (3 : Int32)) rfl ?_
                refine zw_push hm_175 dX12_is_72 (v := .inl xd) rfl ?_
                refine zw_cv hm_175 dX12_is_74 v_12_136_12 hm_176 [.inl xd, .inl (3 : Int32)] [] rfl (zT_rt hS s_94 rfl) ⟨by omega, by omega⟩ rfl ?_
                show ma_wp X (d - 1) (w - 22) 176 0 [(0, .inr (.inr (some 94))), (1, .inl (3 : Int32)), (2, .inl xd)] [] S _
                refine zw_push hm_176 dX12_byteIs_0 (v := .inr (.inr (some 94))) rfl ?_
                refine zw_gf hm_176 dX12_byteIs_1 (v := .inr (.inr (some 96))) (zT_is hS s_94) (zT_t hS s_94) rfl f_12_17_12 (zT_f hS r_94_2) ?_
                refine zw_push hm_176 dX12_byteIs_4 (v := .inr (.inr (some 94))) rfl ?_
                refine zw_gf hm_176 dX12_byteIs_5 (v := .inl ((mI S) 94 68)) (zT_is hS s_94) (zT_t hS s_94) rfl f_12_127_12 rfl ?_
                refine zw_push hm_176 dX12_byteIs_8 (v := .inl (3 : Int32)) rfl ?_
                refine zw_stk hm_176 dX12_byteIs_9 (st' := [.inl (((mI S) 94 68) + (3 : Int32)), .inr (.inr (some 96))]) rfl rfl ?_
                obtain ⟨hg, h⟩ := h
                refine zw_ba hm_176 dX12_byteIs_10 (zT_is hS s_96) (zT_h hS s_96) rfl rfl hg ?_
                show ma_wp X (d - 1) (w - 22) 176 11 [(0, .inr (.inr (some 94))), (1, .inl (3 : Int32)), (2, .inl xd)] [.inl ((mI S) 96 (((mI S) 94 68) + (3 : Int32)).toNatClampNeg)] S _
                refine zw_push hm_176 dX12_byteIs_11 (v := .inl xd) rfl ?_
                refine zw_if2 hm_176 dX12_byteIs_12 (t := 19) rfl zc2_ne ?_ ?_
                · intro hc
                  rw [if_neg hc] at h
                  refine zw_push hm_176 dX12_byteIs_19 (v := .inl (0 : Int32)) rfl ?_
                  refine zw_bret hm_176 dX12_byteIs_20 (by decide) ?_
                  show ma_wp X d w 175 77 [(8, .inl (7 : Int32)), (0, .inr (.inr (some 94))), (1, .inl xa), (2, .inl xb), (3, .inl xc), (4, .inl xd), (5, .inl xe), (6, .inl xf), (7, .inl xg)] [.inl (0 : Int32)] S _
                  refine zw_if0 hm_175 dX12_is_77 (t := 135) rfl zc0_eq (fun _ => ?_) (fun hc => absurd (by decide) hc)
                  refine zw_push hm_175 dX12_is_135 (v := .inl (0 : Int32)) rfl ?_
                  exact zw_bret hm_175 dX12_is_136 (by decide) (HQ _ _ h)
                · intro hc
                  rw [if_pos (Classical.not_not.mp hc)] at h
                  refine zw_push hm_176 dX12_byteIs_15 (v := .inl (1 : Int32)) rfl ?_
                  refine zw_goto hm_176 dX12_byteIs_16 (t := 20) rfl ?_
                  refine zw_bret hm_176 dX12_byteIs_20 (by decide) ?_
                  show ma_wp X d w 175 77 [(8, .inl (7 : Int32)), (0, .inr (.inr (some 94))), (1, .inl xa), (2, .inl xb), (3, .inl xc), (4, .inl xd), (5, .inl xe), (6, .inl xf), (7, .inl xg)] [.inl (1 : Int32)] S _
                  refine zw_if0 hm_175 dX12_is_77 (t := 135) rfl zc0_eq (fun hc => absurd hc (by decide)) (fun _ => ?_)
                  refine zw_push hm_175 dX12_is_80 (v := .inl (7 : Int32)) rfl ?_
                  refine zw_push hm_175 dX12_is_82 (v := .inl (5 : Int32)) rfl ?_
                  refine zw_if2 hm_175 dX12_is_83 (t := 96) rfl zc2_lt (fun hc => absurd hc (by decide)) (fun _ => ?_)
                  refine zw_push hm_175 dX12_is_86 (v := .inr (.inr (some 94))) rfl ?_
                  refine zw_push hm_175 dX12_is_87 (v := .inl (4 : Int32)) rfl ?_
                  refine zw_push hm_175 dX12_is_88 (v := .inl xe) rfl ?_
                  refine zw_cv hm_175 dX12_is_90 v_12_136_12 hm_176 [.inl xe, .inl (4 : Int32)] [] rfl (zT_rt hS s_94 rfl) ⟨by omega, by omega⟩ rfl ?_
                  show ma_wp X (d - 1) (w - 22) 176 0 [(0, .inr (.inr (some 94))), (1, .inl (4 : Int32)), (2, .inl xe)] [] S _
                  refine zw_push hm_176 dX12_byteIs_0 (v := .inr (.inr (some 94))) rfl ?_
                  refine zw_gf hm_176 dX12_byteIs_1 (v := .inr (.inr (some 96))) (zT_is hS s_94) (zT_t hS s_94) rfl f_12_17_12 (zT_f hS r_94_2) ?_
                  refine zw_push hm_176 dX12_byteIs_4 (v := .inr (.inr (some 94))) rfl ?_
                  refine zw_gf hm_176 dX12_byteIs_5 (v := .inl ((mI S) 94 68)) (zT_is hS s_94) (zT_t hS s_94) rfl f_12_127_12 rfl ?_
                  refine zw_push hm_176 dX12_byteIs_8 (v := .inl (4 : Int32)) rfl ?_
                  refine zw_stk hm_176 dX12_byteIs_9 (st' := [.inl (((mI S) 94 68) + (4 : Int32)), .inr (.inr (some 96))]) rfl rfl ?_
                  obtain ⟨hg, h⟩ := h
                  refine zw_ba hm_176 dX12_byteIs_10 (zT_is hS s_96) (zT_h hS s_96) rfl rfl hg ?_
                  show ma_wp X (d - 1) (w - 22) 176 11 [(0, .inr (.inr (some 94))), (1, .inl (4 : Int32)), (2, .inl xe)] [.inl ((mI S) 96 (((mI S) 94 68) + (4 : Int32)).toNatClampNeg)] S _
                  refine zw_push hm_176 dX12_byteIs_11 (v := .inl xe) rfl ?_
                  refine zw_if2 hm_176 dX12_byteIs_12 (t := 19) rfl zc2_ne ?_ ?_
                  · intro hc
                    rw [if_neg hc] at h
                    refine zw_push hm_176 dX12_byteIs_19 (v := .inl (0 : Int32)) rfl ?_
                    refine zw_bret hm_176 dX12_byteIs_20 (by decide) ?_
                    show ma_wp X d w 175 93 [(8, .inl (7 : Int32)), (0, .inr (.inr (some 94))), (1, .inl xa), (2, .inl xb), (3, .inl xc), (4, .inl xd), (5, .inl xe), (6, .inl xf), (7, .inl xg)] [.inl (0 : Int32)] S _
                    refine zw_if0 hm_175 dX12_is_93 (t := 135) rfl zc0_eq (fun _ => ?_) (fun hc => absurd (by decide) hc)
                    refine zw_push hm_175 dX12_is_135 (v := .inl (0 : Int32)) rfl ?_
                    exact zw_bret hm_175 dX12_is_136 (by decide) (HQ _ _ h)
                  · intro hc
                    rw [if_pos (Classical.not_not.mp hc)] at h
                    refine zw_push hm_176 dX12_byteIs_15 (v := .inl (1 : Int32)) rfl ?_
                    refine zw_goto hm_176 dX12_byteIs_16 (t := 20) rfl ?_
                    refine zw_bret hm_176 dX12_byteIs_20 (by decide) ?_
                    show ma_wp X d w 175 93 [(8, .inl (7 : Int32)), (0, .inr (.inr (some 94))), (1, .inl xa), (2, .inl xb), (3, .inl xc), (4, .inl xd), (5, .inl xe), (6, .inl xf), (7, .inl xg)] [.inl (1 : Int32)] S _
                    refine zw_if0 hm_175 dX12_is_93 (t := 135) rfl zc0_eq (fun hc => absurd hc (by decide)) (fun _ => ?_)
                    refine zw_push hm_175 dX12_is_96 (v := .inl (7 : Int32)) rfl ?_
                    refine zw_push hm_175 dX12_is_98 (v := .inl (6 : Int32)) rfl ?_
                    refine zw_if2 hm_175 dX12_is_100 (t := 113) rfl zc2_lt (fun hc => absurd hc (by decide)) (fun _ => ?_)
                    refine zw_push hm_175 dX12_is_103 (v := .inr (.inr (some 94))) rfl ?_
                    refine zw_push hm_175 dX12_is_104 (v := .inl (5 : Int32)) rfl ?_
                    refine zw_push hm_175 dX12_is_105 (v := .inl xf) rfl ?_
                    refine zw_cv hm_175 dX12_is_107 v_12_136_12 hm_176 [.inl xf, .inl (5 : Int32)] [] rfl (zT_rt hS s_94 rfl) ⟨by omega, by omega⟩ rfl ?_
                    show ma_wp X (d - 1) (w - 22) 176 0 [(0, .inr (.inr (some 94))), (1, .inl (5 : Int32)), (2, .inl xf)] [] S _
                    refine zw_push hm_176 dX12_byteIs_0 (v := .inr (.inr (some 94))) rfl ?_
                    refine zw_gf hm_176 dX12_byteIs_1 (v := .inr (.inr (some 96))) (zT_is hS s_94) (zT_t hS s_94) rfl f_12_17_12 (zT_f hS r_94_2) ?_
                    refine zw_push hm_176 dX12_byteIs_4 (v := .inr (.inr (some 94))) rfl ?_
                    refine zw_gf hm_176 dX12_byteIs_5 (v := .inl ((mI S) 94 68)) (zT_is hS s_94) (zT_t hS s_94) rfl f_12_127_12 rfl ?_
                    refine zw_push hm_176 dX12_byteIs_8 (v := .inl (5 : Int32)) rfl ?_
                    refine zw_stk hm_176 dX12_byteIs_9 (st' := [.inl (((mI S) 94 68) + (5 : Int32)), .inr (.inr (some 96))]) rfl rfl ?_
                    obtain ⟨hg, h⟩ := h
                    refine zw_ba hm_176 dX12_byteIs_10 (zT_is hS s_96) (zT_h hS s_96) rfl rfl hg ?_
                    show ma_wp X (d - 1) (w - 22) 176 11 [(0, .inr (.inr (some 94))), (1, .inl (5 : Int32)), (2, .inl xf)] [.inl ((mI S) 96 (((mI S) 94 68) + (5 : Int32)).toNatClampNeg)] S _
                    refine zw_push hm_176 dX12_byteIs_11 (v := .inl xf) rfl ?_
                    refine zw_if2 hm_176 dX12_byteIs_12 (t := 19) rfl zc2_ne ?_ ?_
                    · intro hc
                      rw [if_neg hc] at h
                      refine zw_push hm_176 dX12_byteIs_19 (v := .inl (0 : Int32)) rfl ?_
                      refine zw_bret hm_176 dX12_byteIs_20 (by decide) ?_
                      show ma_wp X d w 175 110 [(8, .inl (7 : Int32)), (0, .inr (.inr (some 94))), (1, .inl xa), (2, .inl xb), (3, .inl xc), (4, .inl xd), (5, .inl xe), (6, .inl xf), (7, .inl xg)] [.inl (0 : Int32)] S _
                      refine zw_if0 hm_175 dX12_is_110 (t := 135) rfl zc0_eq (fun _ => ?_) (fun hc => absurd (by decide) hc)
                      refine zw_push hm_175 dX12_is_135 (v := .inl (0 : Int32)) rfl ?_
                      exact zw_bret hm_175 dX12_is_136 (by decide) (HQ _ _ h)
                    · intro hc
                      rw [if_pos (Classical.not_not.mp hc)] at h
                      refine zw_push hm_176 dX12_byteIs_15 (v := .inl (1 : Int32)) rfl ?_
                      refine zw_goto hm_176 dX12_byteIs_16 (t := 20) rfl ?_
                      refine zw_bret hm_176 dX12_byteIs_20 (by decide) ?_
                      show ma_wp X d w 175 110 [(8, .inl (7 : Int32)), (0, .inr (.inr (some 94))), (1, .inl xa), (2, .inl xb), (3, .inl xc), (4, .inl xd), (5, .inl xe), (6, .inl xf), (7, .inl xg)] [.inl (1 : Int32)] S _
                      refine zw_if0 hm_175 dX12_is_110 (t := 135) rfl zc0_eq (fun hc => absurd hc (by decide)) (fun _ => ?_)
                      refine zw_push hm_175 dX12_is_113 (v := .inl (7 : Int32)) rfl ?_
                      refine zw_push hm_175 dX12_is_115 (v := .inl (7 : Int32)) rfl ?_
                      refine zw_if2 hm_175 dX12_is_117 (t := 131) rfl zc2_lt (fun hc => absurd hc (by decide)) (fun _ => ?_)
                      refine zw_push hm_175 dX12_is_120 (v := .inr (.inr (some 94))) rfl ?_
                      refine zw_push hm_175 dX12_is_121 (v := .inl (6 : Int32)) rfl ?_
                      refine zw_push hm_175 dX12_is_123 (v := .inl xg) rfl ?_
                      refine zw_cv hm_175 dX12_is_125 v_12_136_12 hm_176 [.inl xg, .inl (6 : Int32)] [] rfl (zT_rt hS s_94 rfl) ⟨by omega, by omega⟩ rfl ?_
                      show ma_wp X (d - 1) (w - 22) 176 0 [(0, .inr (.inr (some 94))), (1, .inl (6 : Int32)), (2, .inl xg)] [] S _
                      refine zw_push hm_176 dX12_byteIs_0 (v := .inr (.inr (some 94))) rfl ?_
                      refine zw_gf hm_176 dX12_byteIs_1 (v := .inr (.inr (some 96))) (zT_is hS s_94) (zT_t hS s_94) rfl f_12_17_12 (zT_f hS r_94_2) ?_
                      refine zw_push hm_176 dX12_byteIs_4 (v := .inr (.inr (some 94))) rfl ?_
                      refine zw_gf hm_176 dX12_byteIs_5 (v := .inl ((mI S) 94 68)) (zT_is hS s_94) (zT_t hS s_94) rfl f_12_127_12 rfl ?_
                      refine zw_push hm_176 dX12_byteIs_8 (v := .inl (6 : Int32)) rfl ?_
                      refine zw_stk hm_176 dX12_byteIs_9 (st' := [.inl (((mI S) 94 68) + (6 : Int32)), .inr (.inr (some 96))]) rfl rfl ?_
                      obtain ⟨hg, h⟩ := h
                      refine zw_ba hm_176 dX12_byteIs_10 (zT_is hS s_96) (zT_h hS s_96) rfl rfl hg ?_
                      show ma_wp X (d - 1) (w - 22) 176 11 [(0, .inr (.inr (some 94))), (1, .inl (6 : Int32)), (2, .inl xg)] [.inl ((mI S) 96 (((mI S) 94 68) + (6 : Int32)).toNatClampNeg)] S _
                      refine zw_push hm_176 dX12_byteIs_11 (v := .inl xg) rfl ?_
                      refine zw_if2 hm_176 dX12_byteIs_12 (t := 19) rfl zc2_ne ?_ ?_
                      · intro hc
                        rw [if_neg hc] at h
                        refine zw_push hm_176 dX12_byteIs_19 (v := .inl (0 : Int32)) rfl ?_
                        refine zw_bret hm_176 dX12_byteIs_20 (by decide) ?_
                        show ma_wp X d w 175 128 [(8, .inl (7 : Int32)), (0, .inr (.inr (some 94))), (1, .inl xa), (2, .inl xb), (3, .inl xc), (4, .inl xd), (5, .inl xe), (6, .inl xf), (7, .inl xg)] [.inl (0 : Int32)] S _
                        refine zw_if0 hm_175 dX12_is_128 (t := 135) rfl zc0_eq (fun _ => ?_) (fun hc => absurd (by decide) hc)
                        refine zw_push hm_175 dX12_is_135 (v := .inl (0 : Int32)) rfl ?_
                        exact zw_bret hm_175 dX12_is_136 (by decide) (HQ _ _ h)
                      · intro hc
                        rw [if_pos (Classical.not_not.mp hc)] at h
                        refine zw_push hm_176 dX12_byteIs_15 (v := .inl (1 : Int32)) rfl ?_
                        refine zw_goto hm_176 dX12_byteIs_16 (t := 20) rfl ?_
                        refine zw_bret hm_176 dX12_byteIs_20 (by decide) ?_
                        show ma_wp X d w 175 128 [(8, .inl (7 : Int32)), (0, .inr (.inr (some 94))), (1, .inl xa), (2, .inl xb), (3, .inl xc), (4, .inl xd), (5, .inl xe), (6, .inl xf), (7, .inl xg)] [.inl (1 : Int32)] S _
                        refine zw_if0 hm_175 dX12_is_128 (t := 135) rfl zc0_eq (fun hc => absurd hc (by decide)) (fun _ => ?_)
                        refine zw_push hm_175 dX12_is_131 (v := .inl (1 : Int32)) rfl ?_
                        refine zw_goto hm_175 dX12_is_132 (t := 136) rfl ?_
                        exact zw_bret hm_175 dX12_is_136 (by decide) (HQ _ _ h)
        · intro hc
          rw [if_neg hc] at h
          refine zw_push hm_175 dX12_is_41 (v := .inl (0 : Int32)) rfl ?_
          exact zw_bret hm_175 dX12_is_42 (by decide) (HQ _ _ h)
      · intro hc
        rw [if_pos (Classical.not_not.mp hc)] at h
        refine zw_push hm_175 dX12_is_23 (v := .inl (6 : Int32)) rfl ?_
        refine zw_goto hm_175 dX12_is_25 (t := 30) rfl ?_
        refine zw_sto hm_175 dX12_is_30 [(8, .inl (6 : Int32)), (0, .inr (.inr (some 94))), (1, .inl xa), (2, .inl xb), (3, .inl xc), (4, .inl xd), (5, .inl xe), (6, .inl xf), (7, .inl xg)] rfl rfl rfl ?_
        refine zw_push hm_175 dX12_is_32 (v := .inr (.inr (some 94))) rfl ?_
        refine zw_gf hm_175 dX12_is_33 (v := .inl ((mI S) 94 69)) (zT_is hS s_94) (zT_t hS s_94) rfl f_12_130_12 rfl ?_
        refine zw_push hm_175 dX12_is_36 (v := .inl (6 : Int32)) rfl ?_
        refine zw_if2 hm_175 dX12_is_38 (t := 43) rfl zc2_eq ?_ ?_
        · intro hc
          rw [if_pos hc] at h
          refine zw_push hm_175 dX12_is_43 (v := .inr (.inr (some 94))) rfl ?_
          refine zw_push hm_175 dX12_is_44 (v := .inl (0 : Int32)) rfl ?_
          refine zw_push hm_175 dX12_is_45 (v := .inl xa) rfl ?_
          refine zw_cv hm_175 dX12_is_46 v_12_136_12 hm_176 [.inl xa, .inl (0 : Int32)] [] rfl (zT_rt hS s_94 rfl) ⟨by omega, by omega⟩ rfl ?_
          show ma_wp X (d - 1) (w - 22) 176 0 [(0, .inr (.inr (some 94))), (1, .inl (0 : Int32)), (2, .inl xa)] [] S _
          refine zw_push hm_176 dX12_byteIs_0 (v := .inr (.inr (some 94))) rfl ?_
          refine zw_gf hm_176 dX12_byteIs_1 (v := .inr (.inr (some 96))) (zT_is hS s_94) (zT_t hS s_94) rfl f_12_17_12 (zT_f hS r_94_2) ?_
          refine zw_push hm_176 dX12_byteIs_4 (v := .inr (.inr (some 94))) rfl ?_
          refine zw_gf hm_176 dX12_byteIs_5 (v := .inl ((mI S) 94 68)) (zT_is hS s_94) (zT_t hS s_94) rfl f_12_127_12 rfl ?_
          refine zw_push hm_176 dX12_byteIs_8 (v := .inl (0 : Int32)) rfl ?_
          refine zw_stk hm_176 dX12_byteIs_9 (st' := [.inl (((mI S) 94 68) + (0 : Int32)), .inr (.inr (some 96))]) rfl rfl ?_
          obtain ⟨hg, h⟩ := h
          refine zw_ba hm_176 dX12_byteIs_10 (zT_is hS s_96) (zT_h hS s_96) rfl rfl hg ?_
          show ma_wp X (d - 1) (w - 22) 176 11 [(0, .inr (.inr (some 94))), (1, .inl (0 : Int32)), (2, .inl xa)] [.inl ((mI S) 96 (((mI S) 94 68) + (0 : Int32)).toNatClampNeg)] S _
          refine zw_push hm_176 dX12_byteIs_11 (v := .inl xa) rfl ?_
          refine zw_if2 hm_176 dX12_byteIs_12 (t := 19) rfl zc2_ne ?_ ?_
          · intro hc
            rw [if_neg hc] at h
            refine zw_push hm_176 dX12_byteIs_19 (v := .inl (0 : Int32)) rfl ?_
            refine zw_bret hm_176 dX12_byteIs_20 (by decide) ?_
            show ma_wp X d w 175 49 [(8, .inl (6 : Int32)), (0, .inr (.inr (some 94))), (1, .inl xa), (2, .inl xb), (3, .inl xc), (4, .inl xd), (5, .inl xe), (6, .inl xf), (7, .inl xg)] [.inl (0 : Int32)] S _
            refine zw_if0 hm_175 dX12_is_49 (t := 135) rfl zc0_eq (fun _ => ?_) (fun hc => absurd (by decide) hc)
            refine zw_push hm_175 dX12_is_135 (v := .inl (0 : Int32)) rfl ?_
            exact zw_bret hm_175 dX12_is_136 (by decide) (HQ _ _ h)
          · intro hc
            rw [if_pos (Classical.not_not.mp hc)] at h
            refine zw_push hm_176 dX12_byteIs_15 (v := .inl (1 : Int32)) rfl ?_
            refine zw_goto hm_176 dX12_byteIs_16 (t := 20) rfl ?_
            refine zw_bret hm_176 dX12_byteIs_20 (by decide) ?_
            show ma_wp X d w 175 49 [(8, .inl (6 : Int32)), (0, .inr (.inr (some 94))), (1, .inl xa), (2, .inl xb), (3, .inl xc), (4, .inl xd), (5, .inl xe), (6, .inl xf), (7, .inl xg)] [.inl (1 : Int32)] S _
            refine zw_if0 hm_175 dX12_is_49 (t := 135) rfl zc0_eq (fun hc => absurd hc (by decide)) (fun _ => ?_)
            refine zw_push hm_175 dX12_is_52 (v := .inr (.inr (some 94))) rfl ?_
            refine zw_push hm_175 dX12_is_53 (v := .inl (1 : Int32)) rfl ?_
            refine zw_push hm_175 dX12_is_54 (v := .inl xb) rfl ?_
            refine zw_cv hm_175 dX12_is_55 v_12_136_12 hm_176 [.inl xb, .inl (1 : Int32)] [] rfl (zT_rt hS s_94 rfl) ⟨by omega, by omega⟩ rfl ?_
            show ma_wp X (d - 1) (w - 22) 176 0 [(0, .inr (.inr (some 94))), (1, .inl (1 : Int32)), (2, .inl xb)] [] S _
            refine zw_push hm_176 dX12_byteIs_0 (v := .inr (.inr (some 94))) rfl ?_
            refine zw_gf hm_176 dX12_byteIs_1 (v := .inr (.inr (some 96))) (zT_is hS s_94) (zT_t hS s_94) rfl f_12_17_12 (zT_f hS r_94_2) ?_
            refine zw_push hm_176 dX12_byteIs_4 (v := .inr (.inr (some 94))) rfl ?_
            refine zw_gf hm_176 dX12_byteIs_5 (v := .inl ((mI S) 94 68)) (zT_is hS s_94) (zT_t hS s_94) rfl f_12_127_12 rfl ?_
            refine zw_push hm_176 dX12_byteIs_8 (v := .inl (1 : Int32)) rfl ?_
            refine zw_stk hm_176 dX12_byteIs_9 (st' := [.inl (((mI S) 94 68) + (1 : Int32)), .inr (.inr (some 96))]) rfl rfl ?_
            obtain ⟨hg, h⟩ := h
            refine zw_ba hm_176 dX12_byteIs_10 (zT_is hS s_96) (zT_h hS s_96) rfl rfl hg ?_
            show ma_wp X (d - 1) (w - 22) 176 11 [(0, .inr (.inr (some 94))), (1, .inl (1 : Int32)), (2, .inl xb)] [.inl ((mI S) 96 (((mI S) 94 68) + (1 : Int32)).toNatClampNeg)] S _
            refine zw_push hm_176 dX12_byteIs_11 (v := .inl xb) rfl ?_
            refine zw_if2 hm_176 dX12_byteIs_12 (t := 19) rfl zc2_ne ?_ ?_
            · intro hc
              rw [if_neg hc] at h
              refine zw_push hm_176 dX12_byteIs_19 (v := .inl (0 : Int32)) rfl ?_
              refine zw_bret hm_176 dX12_byteIs_20 (by decide) ?_
              show ma_wp X d w 175 58 [(8, .inl (6 : Int32)), (0, .inr (.inr (some 94))), (1, .inl xa), (2, .inl xb), (3, .inl xc), (4, .inl xd), (5, .inl xe), (6, .inl xf), (7, .inl xg)] [.inl (0 : Int32)] S _
              refine zw_if0 hm_175 dX12_is_58 (t := 135) rfl zc0_eq (fun _ => ?_) (fun hc => absurd (by decide) hc)
              refine zw_push hm_175 dX12_is_135 (v := .inl (0 : Int32)) rfl ?_
              exact zw_bret hm_175 dX12_is_136 (by decide) (HQ _ _ h)
            · intro hc
              rw [if_pos (Classical.not_not.mp hc)] at h
              refine zw_push hm_176 dX12_byteIs_15 (v := .inl (1 : Int32)) rfl ?_
              refine zw_goto hm_176 dX12_byteIs_16 (t := 20) rfl ?_
              refine zw_bret hm_176 dX12_byteIs_20 (by decide) ?_
              show ma_wp X d w 175 58 [(8, .inl (6 : Int32)), (0, .inr (.inr (some 94))), (1, .inl xa), (2, .inl xb), (3, .inl xc), (4, .inl xd), (5, .inl xe), (6, .inl xf), (7, .inl xg)] [.inl (1 : Int32)] S _
              refine zw_if0 hm_175 dX12_is_58 (t := 135) rfl zc0_eq (fun hc => absurd hc (by decide)) (fun _ => ?_)
              refine zw_push hm_175 dX12_is_61 (v := .inr (.inr (some 94))) rfl ?_
              refine zw_push hm_175 dX12_is_62 (v := .inl (2 : Int32)) rfl ?_
              refine zw_push hm_175 dX12_is_63 (v := .inl xc) rfl ?_
              refine zw_cv hm_175 dX12_is_64 v_12_136_12 hm_176 [.inl xc, .inl (2 : Int32)] [] rfl (zT_rt hS s_94 rfl) ⟨by omega, by omega⟩ rfl ?_
              show ma_wp X (d - 1) (w - 22) 176 0 [(0, .inr (.inr (some 94))), (1, .inl (2 : Int32)), (2, .inl xc)] [] S _
              refine zw_push hm_176 dX12_byteIs_0 (v := .inr (.inr (some 94))) rfl ?_
              refine zw_gf hm_176 dX12_byteIs_1 (v := .inr (.inr (some 96))) (zT_is hS s_94) (zT_t hS s_94) rfl f_12_17_12 (zT_f hS r_94_2) ?_
              refine zw_push hm_176 dX12_byteIs_4 (v := .inr (.inr (some 94))) rfl ?_
              refine zw_gf hm_176 dX12_byteIs_5 (v := .inl ((mI S) 94 68)) (zT_is hS s_94) (zT_t hS s_94) rfl f_12_127_12 rfl ?_
              refine zw_push hm_176 dX12_byteIs_8 (v := .inl (2 : Int32)) rfl ?_
              refine zw_stk hm_176 dX12_byteIs_9 (st' := [.inl (((mI S) 94 68) + (2 : Int32)), .inr (.inr (some 96))]) rfl rfl ?_
              obtain ⟨hg, h⟩ := h
              refine zw_ba hm_176 dX12_byteIs_10 (zT_is hS s_96) (zT_h hS s_96) rfl rfl hg ?_
              show ma_wp X (d - 1) (w - 22) 176 11 [(0, .inr (.inr (some 94))), (1, .inl (2 : Int32)), (2, .inl xc)] [.inl ((mI S) 96 (((mI S) 94 68) + (2 : Int32)).toNatClampNeg)] S _
              refine zw_push hm_176 dX12_byteIs_11 (v := .inl xc) rfl ?_
              refine zw_if2 hm_176 dX12_byteIs_12 (t := 19) rfl zc2_ne ?_ ?_
              · intro hc
                rw [if_neg hc] at h
                refine zw_push hm_176 dX12_byteIs_19 (v := .inl (0 : Int32)) rfl ?_
                refine zw_bret hm_176 dX12_byteIs_20 (by decide) ?_
                show ma_wp X d w 175 67 [(8, .inl (6 : Int32)), (0, .inr (.inr (some 94))), (1, .inl xa), (2, .inl xb), (3, .inl xc), (4, .inl xd), (5, .inl xe), (6, .inl xf), (7, .inl xg)] [.inl (0 : Int32)] S _
                refine zw_if0 hm_175 dX12_is_67 (t := 135) rfl zc0_eq (fun _ => ?_) (fun hc => absurd (by decide) hc)
                refine zw_push hm_175 dX12_is_135 (v := .inl (0 : Int32)) rfl ?_
                exact zw_bret hm_175 dX12_is_136 (by decide) (HQ _ _ h)
              · intro hc
                rw [if_pos (Classical.not_not.mp hc)] at h
                refine zw_push hm_176 dX12_byteIs_15 (v := .inl (1 : Int32)) rfl ?_
                refine zw_goto hm_176 dX12_byteIs_16 (t := 20) rfl ?_
                refine zw_bret hm_176 dX12_byteIs_20 (by decide) ?_
                show ma_wp X d w 175 67 [(8, .inl (6 : Int32)), (0, .inr (.inr (some 94))), (1, .inl xa), (2, .inl xb), (3, .inl xc), (4, .inl xd), (5, .inl xe), (6, .inl xf), (7, .inl xg)] [.inl (1 : Int32)] S _
                refine zw_if0 hm_175 dX12_is_67 (t := 135) rfl zc0_eq (fun hc => absurd hc (by decide)) (fun _ => ?_)
                refine zw_push hm_175 dX12_is_70 (v := .inr (.inr (some 94))) rfl ?_
                refine zw_push hm_175 dX12_is_71 (v := .inl (3 : Int32)) rfl ?_
                refine zw_push hm_175 dX12_is_72 (v := .inl xd) rfl ?_
                refine zw_cv hm_175 dX12_is_74 v_12_136_12 hm_176 [.inl xd, .inl (3 : Int32)] [] rfl (zT_rt hS s_94 rfl) ⟨by omega, by omega⟩ rfl ?_
                show ma_wp X (d - 1) (w - 22) 176 0 [(0, .inr (.inr (some 94))), (1, .inl (3 : Int32)), (2, .inl xd)] [] S _
                refine zw_push hm_176 dX12_byteIs_0 (v := .inr (.inr (some 94))) rfl ?_
                refine zw_gf hm_176 dX12_byteIs_1 (v := .inr (.inr (some 96))) (zT_is hS s_94) (zT_t hS s_94) rfl f_12_17_12 (zT_f hS r_94_2) ?_
                refine zw_push hm_176 dX12_byteIs_4 (v := .inr (.inr (some 94))) rfl ?_
                refine zw_gf hm_176 dX12_byteIs_5 (v := .inl ((mI S) 94 68)) (zT_is hS s_94) (zT_t hS s_94) rfl f_12_127_12 rfl ?_
                refine zw_push hm_176 dX12_byteIs_8 (v := .inl (3 : Int32)) rfl ?_
                refine zw_stk hm_176 dX12_byteIs_9 (st' := [.inl (((mI S) 94 68) + (3 : Int32)), .inr (.inr (some 96))]) rfl rfl ?_
                obtain ⟨hg, h⟩ := h
                refine zw_ba hm_176 dX12_byteIs_10 (zT_is hS s_96) (zT_h hS s_96) rfl rfl hg ?_
                show ma_wp X (d - 1) (w - 22) 176 11 [(0, .inr (.inr (some 94))), (1, .inl (3 : Int32)), (2, .inl xd)] [.inl ((mI S) 96 (((mI S) 94 68) + (3 : Int32)).toNatClampNeg)] S _
                refine zw_push hm_176 dX12_byteIs_11 (v := .inl xd) rfl ?_
                refine zw_if2 hm_176 dX12_byteIs_12 (t := 19) rfl zc2_ne ?_ ?_
                · intro hc
                  rw [if_neg hc] at h
                  refine zw_push hm_176 dX12_byteIs_19 (v := .inl (0 : Int32)) rfl ?_
                  refine zw_bret hm_176 dX12_byteIs_20 (by decide) ?_
                  show ma_wp X d w 175 77 [(8, .inl (6 : Int32)), (0, .inr (.inr (some 94))), (1, .inl xa), (2, .inl xb), (3, .inl xc), (4, .inl xd), (5, .inl xe), (6, .inl xf), (7, .inl xg)] [.inl (0 : Int32)] S _
                  refine zw_if0 hm_175 dX12_is_77 (t := 135) rfl zc0_eq (fun _ => ?_) (fun hc => absurd (by decide) hc)
                  refine zw_push hm_175 dX12_is_135 (v := .inl (0 : Int32)) rfl ?_
                  exact zw_bret hm_175 dX12_is_136 (by decide) (HQ _ _ h)
                · intro hc
                  rw [if_pos (Classical.not_not.mp hc)] at h
                  refine zw_push hm_176 dX12_byteIs_15 (v := .inl (1 : Int32)) rfl ?_
                  refine zw_goto hm_176 dX12_byteIs_16 (t := 20) rfl ?_
                  refine zw_bret hm_176 dX12_byteIs_20 (by decide) ?_
                  show ma_wp X d w 175 77 [(8, .inl (6 : Int32)), (0, .inr (.inr (some 94))), (1, .inl xa), (2, .inl xb), (3, .inl xc), (4, .inl xd), (5, .inl xe), (6, .inl xf), (7, .inl xg)] [.inl (1 : Int32)] S _
                  refine zw_if0 hm_175 dX12_is_77 (t := 135) rfl zc0_eq (fun hc => absurd hc (by decide)) (fun _ => ?_)
                  refine zw_push hm_175 dX12_is_80 (v := .inl (6 : Int32)) rfl ?_
                  refine zw_push hm_175 dX12_is_82 (v := .inl (5 : Int32)) rfl ?_
                  refine zw_if2 hm_175 dX12_is_83 (t := 96) rfl zc2_lt (fun hc => absurd hc (by decide)) (fun _ => ?_)
                  refine zw_push hm_175 dX12_is_86 (v := .inr (.inr (some 94))) rfl ?_
                  refine zw_push hm_175 dX12_is_87 (v := .inl (4 : Int32)) rfl ?_
                  refine zw_push hm_175 dX12_is_88 (v := .inl xe) rfl ?_
                  refine zw_cv hm_175 dX12_is_90 v_12_136_12 hm_176 [.inl xe, .inl (4 : Int32)] [] rfl (zT_rt hS s_94 rfl) ⟨by omega, by omega⟩ rfl ?_
                  show ma_wp X (d - 1) (w - 22) 176 0 [(0, .inr (.inr (some 94))), (1, .inl (4 : Int32)), (2, .inl xe)] [] S _
                  refine zw_push hm_176 dX12_byteIs_0 (v := .inr (.inr (some 94))) rfl ?_
                  refine zw_gf hm_176 dX12_byteIs_1 (v := .inr (.inr (some 96))) (zT_is hS s_94) (zT_t hS s_94) rfl f_12_17_12 (zT_f hS r_94_2) ?_
                  refine zw_push hm_176 dX12_byteIs_4 (v := .inr (.inr (some 94))) rfl ?_
                  refine zw_gf hm_176 dX12_byteIs_5 (v := .inl ((mI S) 94 68)) (zT_is hS s_94) (zT_t hS s_94) rfl f_12_127_12 rfl ?_
                  refine zw_push hm_176 dX12_byteIs_8 (v := .inl (4 : Int32)) rfl ?_
                  refine zw_stk hm_176 dX12_byteIs_9 (st' := [.inl (((mI S) 94 68) + (4 : Int32)), .inr (.inr (some 96))]) rfl rfl ?_
                  obtain ⟨hg, h⟩ := h
                  refine zw_ba hm_176 dX12_byteIs_10 (zT_is hS s_96) (zT_h hS s_96) rfl rfl hg ?_
                  show ma_wp X (d - 1) (w - 22) 176 11 [(0, .inr (.inr (some 94))), (1, .inl (4 : Int32)), (2, .inl xe)] [.inl ((mI S) 96 (((mI S) 94 68) + (4 : Int32)).toNatClampNeg)] S _
                  refine zw_push hm_176 dX12_byteIs_11 (v := .inl xe) rfl ?_
                  refine zw_if2 hm_176 dX12_byteIs_12 (t := 19) rfl zc2_ne ?_ ?_
                  · intro hc
                    rw [if_neg hc] at h
                    refine zw_push hm_176 dX12_byteIs_19 (v := .inl (0 : Int32)) rfl ?_
                    refine zw_bret hm_176 dX12_byteIs_20 (by decide) ?_
                    show ma_wp X d w 175 93 [(8, .inl (6 : Int32)), (0, .inr (.inr (some 94))), (1, .inl xa), (2, .inl xb), (3, .inl xc), (4, .inl xd), (5, .inl xe), (6, .inl xf), (7, .inl xg)] [.inl (0 : Int32)] S _
                    refine zw_if0 hm_175 dX12_is_93 (t := 135) rfl zc0_eq (fun _ => ?_) (fun hc => absurd (by decide) hc)
                    refine zw_push hm_175 dX12_is_135 (v := .inl (0 : Int32)) rfl ?_
                    exact zw_bret hm_175 dX12_is_136 (by decide) (HQ _ _ h)
                  · intro hc
                    rw [if_pos (Classical.not_not.mp hc)] at h
                    refine zw_push hm_176 dX12_byteIs_15 (v := .inl (1 : Int32)) rfl ?_
                    refine zw_goto hm_176 dX12_byteIs_16 (t := 20) rfl ?_
                    refine zw_bret hm_176 dX12_byteIs_20 (by decide) ?_
                    show ma_wp X d w 175 93 [(8, .inl (6 : Int32)), (0, .inr (.inr (some 94))), (1, .inl xa), (2, .inl xb), (3, .inl xc), (4, .inl xd), (5, .inl xe), (6, .inl xf), (7, .inl xg)] [.inl (1 : Int32)] S _
                    refine zw_if0 hm_175 dX12_is_93 (t := 135) rfl zc0_eq (fun hc => absurd hc (by decide)) (fun _ => ?_)
                    refine zw_push hm_175 dX12_is_96 (v := .inl (6 : Int32)) rfl ?_
                    refine zw_push hm_175 dX12_is_98 (v := .inl (6 : Int32)) rfl ?_
                    refine zw_if2 hm_175 dX12_is_100 (t := 113) rfl zc2_lt (fun hc => absurd hc (by decide)) (fun _ => ?_)
                    refine zw_push hm_175 dX12_is_103 (v := .inr (.inr (some 94))) rfl ?_
                    refine zw_push hm_175 dX12_is_104 (v := .inl (5 : Int32)) rfl ?_
                    refine zw_push hm_175 dX12_is_105 (v := .inl xf) rfl ?_
                    refine zw_cv hm_175 dX12_is_107 v_12_136_12 hm_176 [.inl xf, .inl (5 : Int32)] [] rfl (zT_rt hS s_94 rfl) ⟨by omega, by omega⟩ rfl ?_
                    show ma_wp X (d - 1) (w - 22) 176 0 [(0, .inr (.inr (some 94))), (1, .inl (5 : Int32)), (2, .inl xf)] [] S _
                    refine zw_push hm_176 dX12_byteIs_0 (v := .inr (.inr (some 94))) rfl ?_
                    refine zw_gf hm_176 dX12_byteIs_1 (v := .inr (.inr (some 96))) (zT_is hS s_94) (zT_t hS s_94) rfl f_12_17_12 (zT_f hS r_94_2) ?_
                    refine zw_push hm_176 dX12_byteIs_4 (v := .inr (.inr (some 94))) rfl ?_
                    refine zw_gf hm_176 dX12_byteIs_5 (v := .inl ((mI S) 94 68)) (zT_is hS s_94) (zT_t hS s_94) rfl f_12_127_12 rfl ?_
                    refine zw_push hm_176 dX12_byteIs_8 (v := .inl (5 : Int32)) rfl ?_
                    refine zw_stk hm_176 dX12_byteIs_9 (st' := [.inl (((mI S) 94 68) + (5 : Int32)), .inr (.inr (some 96))]) rfl rfl ?_
                    obtain ⟨hg, h⟩ := h
                    refine zw_ba hm_176 dX12_byteIs_10 (zT_is hS s_96) (zT_h hS s_96) rfl rfl hg ?_
                    show ma_wp X (d - 1) (w - 22) 176 11 [(0, .inr (.inr (some 94))), (1, .inl (5 : Int32)), (2, .inl xf)] [.inl ((mI S) 96 (((mI S) 94 68) + (5 : Int32)).toNatClampNeg)] S _
                    refine zw_push hm_176 dX12_byteIs_11 (v := .inl xf) rfl ?_
                    refine zw_if2 hm_176 dX12_byteIs_12 (t := 19) rfl zc2_ne ?_ ?_
                    · intro hc
                      rw [if_neg hc] at h
                      refine zw_push hm_176 dX12_byteIs_19 (v := .inl (0 : Int32)) rfl ?_
                      refine zw_bret hm_176 dX12_byteIs_20 (by decide) ?_
                      show ma_wp X d w 175 110 [(8, .inl (6 : Int32)), (0, .inr (.inr (some 94))), (1, .inl xa), (2, .inl xb), (3, .inl xc), (4, .inl xd), (5, .inl xe), (6, .inl xf), (7, .inl xg)] [.inl (0 : Int32)] S _
                      refine zw_if0 hm_175 dX12_is_110 (t := 135) rfl zc0_eq (fun _ => ?_) (fun hc => absurd (by decide) hc)
                      refine zw_push hm_175 dX12_is_135 (v := .inl (0 : Int32)) rfl ?_
                      exact zw_bret hm_175 dX12_is_136 (by decide) (HQ _ _ h)
                    · intro hc
                      rw [if_pos (Classical.not_not.mp hc)] at h
                      refine zw_push hm_176 dX12_byteIs_15 (v := .inl (1 : Int32)) rfl ?_
                      refine zw_goto hm_176 dX12_byteIs_16 (t := 20) rfl ?_
                      refine zw_bret hm_176 dX12_byteIs_20 (by decide) ?_
                      show ma_wp X d w 175 110 [(8, .inl (6 : Int32)), (0, .inr (.inr (some 94))), (1, .inl xa), (2, .inl xb), (3, .inl xc), (4, .inl xd), (5, .inl xe), (6, .inl xf), (7, .inl xg)] [.inl (1 : Int32)] S _
                      refine zw_if0 hm_175 dX12_is_110 (t := 135) rfl zc0_eq (fun hc => absurd hc (by decide)) (fun _ => ?_)
                      refine zw_push hm_175 dX12_is_113 (v := .inl (6 : Int32)) rfl ?_
                      refine zw_push hm_175 dX12_is_115 (v := .inl (7 : Int32)) rfl ?_
                      refine zw_if2 hm_175 dX12_is_117 (t := 131) rfl zc2_lt (fun _ => ?_) (fun hc => absurd (by decide) hc)
                      refine zw_push hm_175 dX12_is_131 (v := .inl (1 : Int32)) rfl ?_
                      refine zw_goto hm_175 dX12_is_132 (t := 136) rfl ?_
                      exact zw_bret hm_175 dX12_is_136 (by decide) (HQ _ _ h)
        · intro hc
          rw [if_neg hc] at h
          refine zw_push hm_175 dX12_is_41 (v := .inl (0 : Int32)) rfl ?_
          exact zw_bret hm_175 dX12_is_42 (by decide) (HQ _ _ h)
    · intro hc
      rw [if_pos (Classical.not_not.mp hc)] at h
      refine zw_push hm_175 dX12_is_14 (v := .inl (5 : Int32)) rfl ?_
      refine zw_goto hm_175 dX12_is_15 (t := 30) rfl ?_
      refine zw_sto hm_175 dX12_is_30 [(8, .inl (5 : Int32)), (0, .inr (.inr (some 94))), (1, .inl xa), (2, .inl xb), (3, .inl xc), (4, .inl xd), (5, .inl xe), (6, .inl xf), (7, .inl xg)] rfl rfl rfl ?_
      refine zw_push hm_175 dX12_is_32 (v := .inr (.inr (some 94))) rfl ?_
      refine zw_gf hm_175 dX12_is_33 (v := .inl ((mI S) 94 69)) (zT_is hS s_94) (zT_t hS s_94) rfl f_12_130_12 rfl ?_
      refine zw_push hm_175 dX12_is_36 (v := .inl (5 : Int32)) rfl ?_
      refine zw_if2 hm_175 dX12_is_38 (t := 43) rfl zc2_eq ?_ ?_
      · intro hc
        rw [if_pos hc] at h
        refine zw_push hm_175 dX12_is_43 (v := .inr (.inr (some 94))) rfl ?_
        refine zw_push hm_175 dX12_is_44 (v := .inl (0 : Int32)) rfl ?_
        refine zw_push hm_175 dX12_is_45 (v := .inl xa) rfl ?_
        refine zw_cv hm_175 dX12_is_46 v_12_136_12 hm_176 [.inl xa, .inl (0 : Int32)] [] rfl (zT_rt hS s_94 rfl) ⟨by omega, by omega⟩ rfl ?_
        show ma_wp X (d - 1) (w - 22) 176 0 [(0, .inr (.inr (some 94))), (1, .inl (0 : Int32)), (2, .inl xa)] [] S _
        refine zw_push hm_176 dX12_byteIs_0 (v := .inr (.inr (some 94))) rfl ?_
        refine zw_gf hm_176 dX12_byteIs_1 (v := .inr (.inr (some 96))) (zT_is hS s_94) (zT_t hS s_94) rfl f_12_17_12 (zT_f hS r_94_2) ?_
        refine zw_push hm_176 dX12_byteIs_4 (v := .inr (.inr (some 94))) rfl ?_
        refine zw_gf hm_176 dX12_byteIs_5 (v := .inl ((mI S) 94 68)) (zT_is hS s_94) (zT_t hS s_94) rfl f_12_127_12 rfl ?_
        refine zw_push hm_176 dX12_byteIs_8 (v := .inl (0 : Int32)) rfl ?_
        refine zw_stk hm_176 dX12_byteIs_9 (st' := [.inl (((mI S) 94 68) + (0 : Int32)), .inr (.inr (some 96))]) rfl rfl ?_
        obtain ⟨hg, h⟩ := h
        refine zw_ba hm_176 dX12_byteIs_10 (zT_is hS s_96) (zT_h hS s_96) rfl rfl hg ?_
        show ma_wp X (d - 1) (w - 22) 176 11 [(0, .inr (.inr (some 94))), (1, .inl (0 : Int32)), (2, .inl xa)] [.inl ((mI S) 96 (((mI S) 94 68) + (0 : Int32)).toNatClampNeg)] S _
        refine zw_push hm_176 dX12_byteIs_11 (v := .inl xa) rfl ?_
        refine zw_if2 hm_176 dX12_byteIs_12 (t := 19) rfl zc2_ne ?_ ?_
        · intro hc
          rw [if_neg hc] at h
          refine zw_push hm_176 dX12_byteIs_19 (v := .inl (0 : Int32)) rfl ?_
          refine zw_bret hm_176 dX12_byteIs_20 (by decide) ?_
          show ma_wp X d w 175 49 [(8, .inl (5 : Int32)), (0, .inr (.inr (some 94))), (1, .inl xa), (2, .inl xb), (3, .inl xc), (4, .inl xd), (5, .inl xe), (6, .inl xf), (7, .inl xg)] [.inl (0 : Int32)] S _
          refine zw_if0 hm_175 dX12_is_49 (t := 135) rfl zc0_eq (fun _ => ?_) (fun hc => absurd (by decide) hc)
          refine zw_push hm_175 dX12_is_135 (v := .inl (0 : Int32)) rfl ?_
          exact zw_bret hm_175 dX12_is_136 (by decide) (HQ _ _ h)
        · intro hc
          rw [if_pos (Classical.not_not.mp hc)] at h
          refine zw_push hm_176 dX12_byteIs_15 (v := .inl (1 : Int32)) rfl ?_
          refine zw_goto hm_176 dX12_byteIs_16 (t := 20) rfl ?_
          refine zw_bret hm_176 dX12_byteIs_20 (by decide) ?_
          show ma_wp X d w 175 49 [(8, .inl (5 : Int32)), (0, .inr (.inr (some 94))), (1, .inl xa), (2, .inl xb), (3, .inl xc), (4, .inl xd), (5, .inl xe), (6, .inl xf), (7, .inl xg)] [.inl (1 : Int32)] S _
          refine zw_if0 hm_175 dX12_is_49 (t := 135) rfl zc0_eq (fun hc => absurd hc (by decide)) (fun _ => ?_)
          refine zw_push hm_175 dX12_is_52 (v := .inr (.inr (some 94))) rfl ?_
          refine zw_push hm_175 dX12_is_53 (v := .inl (1 : Int32)) rfl ?_
          refine zw_push hm_175 dX12_is_54 (v := .inl xb) rfl ?_
          refine zw_cv hm_175 dX12_is_55 v_12_136_12 hm_176 [.inl xb, .inl (1 : Int32)] [] rfl (zT_rt hS s_94 rfl) ⟨by omega, by omega⟩ rfl ?_
          show ma_wp X (d - 1) (w - 22) 176 0 [(0, .inr (.inr (some 94))), (1, .inl (1 : Int32)), (2, .inl xb)] [] S _
          refine zw_push hm_176 dX12_byteIs_0 (v := .inr (.inr (some 94))) rfl ?_
          refine zw_gf hm_176 dX12_byteIs_1 (v := .inr (.inr (some 96))) (zT_is hS s_94) (zT_t hS s_94) rfl f_12_17_12 (zT_f hS r_94_2) ?_
          refine zw_push hm_176 dX12_byteIs_4 (v := .inr (.inr (some 94))) rfl ?_
          refine zw_gf hm_176 dX12_byteIs_5 (v := .inl ((mI S) 94 68)) (zT_is hS s_94) (zT_t hS s_94) rfl f_12_127_12 rfl ?_
          refine zw_push hm_176 dX12_byteIs_8 (v := .inl (1 : Int32)) rfl ?_
          refine zw_stk hm_176 dX12_byteIs_9 (st' := [.inl (((mI S) 94 68) + (1 : Int32)), .inr (.inr (some 96))]) rfl rfl ?_
          obtain ⟨hg, h⟩ := h
          refine zw_ba hm_176 dX12_byteIs_10 (zT_is hS s_96) (zT_h hS s_96) rfl rfl hg ?_
          show ma_wp X (d - 1) (w - 22) 176 11 [(0, .inr (.inr (some 94))), (1, .inl (1 : Int32)), (2, .inl xb)] [.inl ((mI S) 96 (((mI S) 94 68) + (1 : Int32)).toNatClampNeg)] S _
          refine zw_push hm_176 dX12_byteIs_11 (v := .inl xb) rfl ?_
          refine zw_if2 hm_176 dX12_byteIs_12 (t := 19) rfl zc2_ne ?_ ?_
          · intro hc
            rw [if_neg hc] at h
            refine zw_push hm_176 dX12_byteIs_19 (v := .inl (0 : Int32)) rfl ?_
            refine zw_bret hm_176 dX12_byteIs_20 (by decide) ?_
            show ma_wp X d w 175 58 [(8, .inl (5 : Int32)), (0, .inr (.inr (some 94))), (1, .inl xa), (2, .inl xb), (3, .inl xc), (4, .inl xd), (5, .inl xe), (6, .inl xf), (7, .inl xg)] [.inl (0 : Int32)] S _
            refine zw_if0 hm_175 dX12_is_58 (t := 135) rfl zc0_eq (fun _ => ?_) (fun hc => absurd (by decide) hc)
            refine zw_push hm_175 dX12_is_135 (v := .inl (0 : Int32)) rfl ?_
            exact zw_bret hm_175 dX12_is_136 (by decide) (HQ _ _ h)
          · intro hc
            rw [if_pos (Classical.not_not.mp hc)] at h
            refine zw_push hm_176 dX12_byteIs_15 (v := .inl (1 : Int32)) rfl ?_
            refine zw_goto hm_176 dX12_byteIs_16 (t := 20) rfl ?_
            refine zw_bret hm_176 dX12_byteIs_20 (by decide) ?_
            show ma_wp X d w 175 58 [(8, .inl (5 : Int32)), (0, .inr (.inr (some 94))), (1, .inl xa), (2, .inl xb), (3, .inl xc), (4, .inl xd), (5, .inl xe), (6, .inl xf), (7, .inl xg)] [.inl (1 : Int32)] S _
            refine zw_if0 hm_175 dX12_is_58 (t := 135) rfl zc0_eq (fun hc => absurd hc (by decide)) (fun _ => ?_)
            refine zw_push hm_175 dX12_is_61 (v := .inr (.inr (some 94))) rfl ?_
            refine zw_push hm_175 dX12_is_62 (v := .inl (2 : Int32)) rfl ?_
            refine zw_push hm_175 dX12_is_63 (v := .inl xc) rfl ?_
            refine zw_cv hm_175 dX12_is_64 v_12_136_12 hm_176 [.inl xc, .inl (2 : Int32)] [] rfl (zT_rt hS s_94 rfl) ⟨by omega, by omega⟩ rfl ?_
            show ma_wp X (d - 1) (w - 22) 176 0 [(0, .inr (.inr (some 94))), (1, .inl (2 : Int32)), (2, .inl xc)] [] S _
            refine zw_push hm_176 dX12_byteIs_0 (v := .inr (.inr (some 94))) rfl ?_
            refine zw_gf hm_176 dX12_byteIs_1 (v := .inr (.inr (some 96))) (zT_is hS s_94) (zT_t hS s_94) rfl f_12_17_12 (zT_f hS r_94_2) ?_
            refine zw_push hm_176 dX12_byteIs_4 (v := .inr (.inr (some 94))) rfl ?_
            refine zw_gf hm_176 dX12_byteIs_5 (v := .inl ((mI S) 94 68)) (zT_is hS s_94) (zT_t hS s_94) rfl f_12_127_12 rfl ?_
            refine zw_push hm_176 dX12_byteIs_8 (v := .inl (2 : Int32)) rfl ?_
            refine zw_stk hm_176 dX12_byteIs_9 (st' := [.inl (((mI S) 94 68) + (2 : Int32)), .inr (.inr (some 96))]) rfl rfl ?_
            obtain ⟨hg, h⟩ := h
            refine zw_ba hm_176 dX12_byteIs_10 (zT_is hS s_96) (zT_h hS s_96) rfl rfl hg ?_
            show ma_wp X (d - 1) (w - 22) 176 11 [(0, .inr (.inr (some 94))), (1, .inl (2 : Int32)), (2, .inl xc)] [.inl ((mI S) 96 (((mI S) 94 68) + (2 : Int32)).toNatClampNeg)] S _
            refine zw_push hm_176 dX12_byteIs_11 (v := .inl xc) rfl ?_
            refine zw_if2 hm_176 dX12_byteIs_12 (t := 19) rfl zc2_ne ?_ ?_
            · intro hc
              rw [if_neg hc] at h
              refine zw_push hm_176 dX12_byteIs_19 (v := .inl (0 : Int32)) rfl ?_
              refine zw_bret hm_176 dX12_byteIs_20 (by decide) ?_
              show ma_wp X d w 175 67 [(8, .inl (5 : Int32)), (0, .inr (.inr (some 94))), (1, .inl xa), (2, .inl xb), (3, .inl xc), (4, .inl xd), (5, .inl xe), (6, .inl xf), (7, .inl xg)] [.inl (0 : Int32)] S _
              refine zw_if0 hm_175 dX12_is_67 (t := 135) rfl zc0_eq (fun _ => ?_) (fun hc => absurd (by decide) hc)
              refine zw_push hm_175 dX12_is_135 (v := .inl (0 : Int32)) rfl ?_
              exact zw_bret hm_175 dX12_is_136 (by decide) (HQ _ _ h)
            · intro hc
              rw [if_pos (Classical.not_not.mp hc)] at h
              refine zw_push hm_176 dX12_byteIs_15 (v := .inl (1 : Int32)) rfl ?_
              refine zw_goto hm_176 dX12_byteIs_16 (t := 20) rfl ?_
              refine zw_bret hm_176 dX12_byteIs_20 (by decide) ?_
              show ma_wp X d w 175 67 [(8, .inl (5 : Int32)), (0, .inr (.inr (some 94))), (1, .inl xa), (2, .inl xb), (3, .inl xc), (4, .inl xd), (5, .inl xe), (6, .inl xf), (7, .inl xg)] [.inl (1 : Int32)] S _
              refine zw_if0 hm_175 dX12_is_67 (t := 135) rfl zc0_eq (fun hc => absurd hc (by decide)) (fun _ => ?_)
              refine zw_push hm_175 dX12_is_70 (v := .inr (.inr (some 94))) rfl ?_
              refine zw_push hm_175 dX12_is_71 (v := .inl (3 : Int32)) rfl ?_
              refine zw_push hm_175 dX12_is_72 (v := .inl xd) rfl ?_
              refine zw_cv hm_175 dX12_is_74 v_12_136_12 hm_176 [.inl xd, .inl (3 : Int32)] [] rfl (zT_rt hS s_94 rfl) ⟨by omega, by omega⟩ rfl ?_
              show ma_wp X (d - 1) (w - 22) 176 0 [(0, .inr (.inr (some 94))), (1, .inl (3 : Int32)), (2, .inl xd)] [] S _
              refine zw_push hm_176 dX12_byteIs_0 (v := .inr (.inr (some 94))) rfl ?_
              refine zw_gf hm_176 dX12_byteIs_1 (v := .inr (.inr (some 96))) (zT_is hS s_94) (zT_t hS s_94) rfl f_12_17_12 (zT_f hS r_94_2) ?_
              refine zw_push hm_176 dX12_byteIs_4 (v := .inr (.inr (some 94))) rfl ?_
              refine zw_gf hm_176 dX12_byteIs_5 (v := .inl ((mI S) 94 68)) (zT_is hS s_94) (zT_t hS s_94) rfl f_12_127_12 rfl ?_
              refine zw_push hm_176 dX12_byteIs_8 (v := .inl (3 : Int32)) rfl ?_
              refine zw_stk hm_176 dX12_byteIs_9 (st' := [.inl (((mI S) 94 68) + (3 : Int32)), .inr (.inr (some 96))]) rfl rfl ?_
              obtain ⟨hg, h⟩ := h
              refine zw_ba hm_176 dX12_byteIs_10 (zT_is hS s_96) (zT_h hS s_96) rfl rfl hg ?_
              show ma_wp X (d - 1) (w - 22) 176 11 [(0, .inr (.inr (some 94))), (1, .inl (3 : Int32)), (2, .inl xd)] [.inl ((mI S) 96 (((mI S) 94 68) + (3 : Int32)).toNatClampNeg)] S _
              refine zw_push hm_176 dX12_byteIs_11 (v := .inl xd) rfl ?_
              refine zw_if2 hm_176 dX12_byteIs_12 (t := 19) rfl zc2_ne ?_ ?_
              · intro hc
                rw [if_neg hc] at h
                refine zw_push hm_176 dX12_byteIs_19 (v := .inl (0 : Int32)) rfl ?_
                refine zw_bret hm_176 dX12_byteIs_20 (by decide) ?_
                show ma_wp X d w 175 77 [(8, .inl (5 : Int32)), (0, .inr (.inr (some 94))), (1, .inl xa), (2, .inl xb), (3, .inl xc), (4, .inl xd), (5, .inl xe), (6, .inl xf), (7, .inl xg)] [.inl (0 : Int32)] S _
                refine zw_if0 hm_175 dX12_is_77 (t := 135) rfl zc0_eq (fun _ => ?_) (fun hc => absurd (by decide) hc)
                refine zw_push hm_175 dX12_is_135 (v := .inl (0 : Int32)) rfl ?_
                exact zw_bret hm_175 dX12_is_136 (by decide) (HQ _ _ h)
              · intro hc
                rw [if_pos (Classical.not_not.mp hc)] at h
                refine zw_push hm_176 dX12_byteIs_15 (v := .inl (1 : Int32)) rfl ?_
                refine zw_goto hm_176 dX12_byteIs_16 (t := 20) rfl ?_
                refine zw_bret hm_176 dX12_byteIs_20 (by decide) ?_
                show ma_wp X d w 175 77 [(8, .inl (5 : Int32)), (0, .inr (.inr (some 94))), (1, .inl xa), (2, .inl xb), (3, .inl xc), (4, .inl xd), (5, .inl xe), (6, .inl xf), (7, .inl xg)] [.inl (1 : Int32)] S _
                refine zw_if0 hm_175 dX12_is_77 (t := 135) rfl zc0_eq (fun hc => absurd hc (by decide)) (fun _ => ?_)
                refine zw_push hm_175 dX12_is_80 (v := .inl (5 : Int32)) rfl ?_
                refine zw_push hm_175 dX12_is_82 (v := .inl (5 : Int32)) rfl ?_
                refine zw_if2 hm_175 dX12_is_83 (t := 96) rfl zc2_lt (fun hc => absurd hc (by decide)) (fun _ => ?_)
                refine zw_push hm_175 dX12_is_86 (v := .inr (.inr (some 94))) rfl ?_
                refine zw_push hm_175 dX12_is_87 (v := .inl (4 : Int32)) rfl ?_
                refine zw_push hm_175 dX12_is_88 (v := .inl xe) rfl ?_
                refine zw_cv hm_175 dX12_is_90 v_12_136_12 hm_176 [.inl xe, .inl (4 : Int32)] [] rfl (zT_rt hS s_94 rfl) ⟨by omega, by omega⟩ rfl ?_
                show ma_wp X (d - 1) (w - 22) 176 0 [(0, .inr (.inr (some 94))), (1, .inl (4 : Int32)), (2, .inl xe)] [] S _
                refine zw_push hm_176 dX12_byteIs_0 (v := .inr (.inr (some 94))) rfl ?_
                refine zw_gf hm_176 dX12_byteIs_1 (v := .inr (.inr (some 96))) (zT_is hS s_94) (zT_t hS s_94) rfl f_12_17_12 (zT_f hS r_94_2) ?_
                refine zw_push hm_176 dX12_byteIs_4 (v := .inr (.inr (some 94))) rfl ?_
                refine zw_gf hm_176 dX12_byteIs_5 (v := .inl ((mI S) 94 68)) (zT_is hS s_94) (zT_t hS s_94) rfl f_12_127_12 rfl ?_
                refine zw_push hm_176 dX12_byteIs_8 (v := .inl (4 : Int32)) rfl ?_
                refine zw_stk hm_176 dX12_byteIs_9 (st' := [.inl (((mI S) 94 68) + (4 : Int32)), .inr (.inr (some 96))]) rfl rfl ?_
                obtain ⟨hg, h⟩ := h
                refine zw_ba hm_176 dX12_byteIs_10 (zT_is hS s_96) (zT_h hS s_96) rfl rfl hg ?_
                show ma_wp X (d - 1) (w - 22) 176 11 [(0, .inr (.inr (some 94))), (1, .inl (4 : Int32)), (2, .inl xe)] [.inl ((mI S) 96 (((mI S) 94 68) + (4 : Int32)).toNatClampNeg)] S _
                refine zw_push hm_176 dX12_byteIs_11 (v := .inl xe) rfl ?_
                refine zw_if2 hm_176 dX12_byteIs_12 (t := 19) rfl zc2_ne ?_ ?_
                · intro hc
                  rw [if_neg hc] at h
                  refine zw_push hm_176 dX12_byteIs_19 (v := .inl (0 : Int32)) rfl ?_
                  refine zw_bret hm_176 dX12_byteIs_20 (by decide) ?_
                  show ma_wp X d w 175 93 [(8, .inl (5 : Int32)), (0, .inr (.inr (some 94))), (1, .inl xa), (2, .inl xb), (3, .inl xc), (4, .inl xd), (5, .inl xe), (6, .inl xf), (7, .inl xg)] [.inl (0 : Int32)] S _
                  refine zw_if0 hm_175 dX12_is_93 (t := 135) rfl zc0_eq (fun _ => ?_) (fun hc => absurd (by decide) hc)
                  refine zw_push hm_175 dX12_is_135 (v := .inl (0 : Int32)) rfl ?_
                  exact zw_bret hm_175 dX12_is_136 (by decide) (HQ _ _ h)
                · intro hc
                  rw [if_pos (Classical.not_not.mp hc)] at h
                  refine zw_push hm_176 dX12_byteIs_15 (v := .inl (1 : Int32)) rfl ?_
                  refine zw_goto hm_176 dX12_byteIs_16 (t := 20) rfl ?_
                  refine zw_bret hm_176 dX12_byteIs_20 (by decide) ?_
                  show ma_wp X d w 175 93 [(8, .inl (5 : Int32)), (0, .inr (.inr (some 94))), (1, .inl xa), (2, .inl xb), (3, .inl xc), (4, .inl xd), (5, .inl xe), (6, .inl xf), (7, .inl xg)] [.inl (1 : Int32)] S _
                  refine zw_if0 hm_175 dX12_is_93 (t := 135) rfl zc0_eq (fun hc => absurd hc (by decide)) (fun _ => ?_)
                  refine zw_push hm_175 dX12_is_96 (v := .inl (5 : Int32)) rfl ?_
                  refine zw_push hm_175 dX12_is_98 (v := .inl (6 : Int32)) rfl ?_
                  refine zw_if2 hm_175 dX12_is_100 (t := 113) rfl zc2_lt (fun _ => ?_) (fun hc => absurd (by decide) hc)
                  refine zw_push hm_175 dX12_is_113 (v := .inl (5 : Int32)) rfl ?_
                  refine zw_push hm_175 dX12_is_115 (v := .inl (7 : Int32)) rfl ?_
                  refine zw_if2 hm_175 dX12_is_117 (t := 131) rfl zc2_lt (fun _ => ?_) (fun hc => absurd (by decide) hc)
                  refine zw_push hm_175 dX12_is_131 (v := .inl (1 : Int32)) rfl ?_
                  refine zw_goto hm_175 dX12_is_132 (t := 136) rfl ?_
                  exact zw_bret hm_175 dX12_is_136 (by decide) (HQ _ _ h)
      · intro hc
        rw [if_neg hc] at h
        refine zw_push hm_175 dX12_is_41 (v := .inl (0 : Int32)) rfl ?_
        exact zw_bret hm_175 dX12_is_42 (by decide) (HQ _ _ h)
  · intro hc
    rw [if_pos (Classical.not_not.mp hc)] at h
    refine zw_push hm_175 dX12_is_5 (v := .inl (4 : Int32)) rfl ?_
    refine zw_goto hm_175 dX12_is_6 (t := 30) rfl ?_
    refine zw_sto hm_175 dX12_is_30 [(8, .inl (4 : Int32)), (0, .inr (.inr (some 94))), (1, .inl xa), (2, .inl xb), (3, .inl xc), (4, .inl xd), (5, .inl xe), (6, .inl xf), (7, .inl xg)] rfl rfl rfl ?_
    refine zw_push hm_175 dX12_is_32 (v := .inr (.inr (some 94))) rfl ?_
    refine zw_gf hm_175 dX12_is_33 (v := .inl ((mI S) 94 69)) (zT_is hS s_94) (zT_t hS s_94) rfl f_12_130_12 rfl ?_
    refine zw_push hm_175 dX12_is_36 (v := .inl (4 : Int32)) rfl ?_
    refine zw_if2 hm_175 dX12_is_38 (t := 43) rfl zc2_eq ?_ ?_
    · intro hc
      rw [if_pos hc] at h
      refine zw_push hm_175 dX12_is_43 (v := .inr (.inr (some 94))) rfl ?_
      refine zw_push hm_175 dX12_is_44 (v := .inl (0 : Int32)) rfl ?_
      refine zw_push hm_175 dX12_is_45 (v := .inl xa) rfl ?_
      refine zw_cv hm_175 dX12_is_46 v_12_136_12 hm_176 [.inl xa, .inl (0 : Int32)] [] rfl (zT_rt hS s_94 rfl) ⟨by omega, by omega⟩ rfl ?_
      show ma_wp X (d - 1) (w - 22) 176 0 [(0, .inr (.inr (some 94))), (1, .inl (0 : Int32)), (2, .inl xa)] [] S _
      refine zw_push hm_176 dX12_byteIs_0 (v := .inr (.inr (some 94))) rfl ?_
      refine zw_gf hm_176 dX12_byteIs_1 (v := .inr (.inr (some 96))) (zT_is hS s_94) (zT_t hS s_94) rfl f_12_17_12 (zT_f hS r_94_2) ?_
      refine zw_push hm_176 dX12_byteIs_4 (v := .inr (.inr (some 94))) rfl ?_
      refine zw_gf hm_176 dX12_byteIs_5 (v := .inl ((mI S) 94 68)) (zT_is hS s_94) (zT_t hS s_94) rfl f_12_127_12 rfl ?_
      refine zw_push hm_176 dX12_byteIs_8 (v := .inl (0 : Int32)) rfl ?_
      refine zw_stk hm_176 dX12_byteIs_9 (st' := [.inl (((mI S) 94 68) + (0 : Int32)), .inr (.inr (some 96))]) rfl rfl ?_
      obtain ⟨hg, h⟩ := h
      refine zw_ba hm_176 dX12_byteIs_10 (zT_is hS s_96) (zT_h hS s_96) rfl rfl hg ?_
      show ma_wp X (d - 1) (w - 22) 176 11 [(0, .inr (.inr (some 94))), (1, .inl (0 : Int32)), (2, .inl xa)] [.inl ((mI S) 96 (((mI S) 94 68) + (0 : Int32)).toNatClampNeg)] S _
      refine zw_push hm_176 dX12_byteIs_11 (v := .inl xa) rfl ?_
      refine zw_if2 hm_176 dX12_byteIs_12 (t := 19) rfl zc2_ne ?_ ?_
      · intro hc
        rw [if_neg hc] at h
        refine zw_push hm_176 dX12_byteIs_19 (v := .inl (0 : Int32)) rfl ?_
        refine zw_bret hm_176 dX12_byteIs_20 (by decide) ?_
        show ma_wp X d w 175 49 [(8, .inl (4 : Int32)), (0, .inr (.inr (some 94))), (1, .inl xa), (2, .inl xb), (3, .inl xc), (4, .inl xd), (5, .inl xe), (6, .inl xf), (7, .inl xg)] [.inl (0 : Int32)] S _
        refine zw_if0 hm_175 dX12_is_49 (t := 135) rfl zc0_eq (fun _ => ?_) (fun hc => absurd (by decide) hc)
        refine zw_push hm_175 dX12_is_135 (v := .inl (0 : Int32)) rfl ?_
        exact zw_bret hm_175 dX12_is_136 (by decide) (HQ _ _ h)
      · intro hc
        rw [if_pos (Classical.not_not.mp hc)] at h
        refine zw_push hm_176 dX12_byteIs_15 (v := .inl (1 : Int32)) rfl ?_
        refine zw_goto hm_176 dX12_byteIs_16 (t := 20) rfl ?_
        refine zw_bret hm_176 dX12_byteIs_20 (by decide) ?_
        show ma_wp X d w 175 49 [(8, .inl (4 : Int32)), (0, .inr (.inr (some 94))), (1, .inl xa), (2, .inl xb), (3, .inl xc), (4, .inl xd), (5, .inl xe), (6, .inl xf), (7, .inl xg)] [.inl (1 : Int32)] S _
        refine zw_if0 hm_175 dX12_is_49 (t := 135) rfl zc0_eq (fun hc => absurd hc (by decide)) (fun _ => ?_)
        refine zw_push hm_175 dX12_is_52 (v := .inr (.inr (some 94))) rfl ?_
        refine zw_push hm_175 dX12_is_53 (v := .inl (1 : Int32)) rfl ?_
        refine zw_push hm_175 dX12_is_54 (v := .inl xb) rfl ?_
        refine zw_cv hm_175 dX12_is_55 v_12_136_12 hm_176 [.inl xb, .inl (1 : Int32)] [] rfl (zT_rt hS s_94 rfl) ⟨by omega, by omega⟩ rfl ?_
        show ma_wp X (d - 1) (w - 22) 176 0 [(0, .inr (.inr (some 94))), (1, .inl (1 : Int32)), (2, .inl xb)] [] S _
        refine zw_push hm_176 dX12_byteIs_0 (v := .inr (.inr (some 94))) rfl ?_
        refine zw_gf hm_176 dX12_byteIs_1 (v := .inr (.inr (some 96))) (zT_is hS s_94) (zT_t hS s_94) rfl f_12_17_12 (zT_f hS r_94_2) ?_
        refine zw_push hm_176 dX12_byteIs_4 (v := .inr (.inr (some 94))) rfl ?_
        refine zw_gf hm_176 dX12_byteIs_5 (v := .inl ((mI S) 94 68)) (zT_is hS s_94) (zT_t hS s_94) rfl f_12_127_12 rfl ?_
        refine zw_push hm_176 dX12_byteIs_8 (v := .inl (1 : Int32)) rfl ?_
        refine zw_stk hm_176 dX12_byteIs_9 (st' := [.inl (((mI S) 94 68) + (1 : Int32)), .inr (.inr (some 96))]) rfl rfl ?_
        obtain ⟨hg, h⟩ := h
        refine zw_ba hm_176 dX12_byteIs_10 (zT_is hS s_96) (zT_h hS s_96) rfl rfl hg ?_
        show ma_wp X (d - 1) (w - 22) 176 11 [(0, .inr (.inr (some 94))), (1, .inl (1 : Int32)), (2, .inl xb)] [.inl ((mI S) 96 (((mI S) 94 68) + (1 : Int32)).toNatClampNeg)] S _
        refine zw_push hm_176 dX12_byteIs_11 (v := .inl xb) rfl ?_
        refine zw_if2 hm_176 dX12_byteIs_12 (t := 19) rfl zc2_ne ?_ ?_
        · intro hc
          rw [if_neg hc] at h
          refine zw_push hm_176 dX12_byteIs_19 (v := .inl (0 : Int32)) rfl ?_
          refine zw_bret hm_176 dX12_byteIs_20 (by decide) ?_
          show ma_wp X d w 175 58 [(8, .inl (4 : Int32)), (0, .inr (.inr (some 94))), (1, .inl xa), (2, .inl xb), (3, .inl xc), (4, .inl xd), (5, .inl xe), (6, .inl xf), (7, .inl xg)] [.inl (0 : Int32)] S _
          refine zw_if0 hm_175 dX12_is_58 (t := 135) rfl zc0_eq (fun _ => ?_) (fun hc => absurd (by decide) hc)
          refine zw_push hm_175 dX12_is_135 (v := .inl (0 : Int32)) rfl ?_
          exact zw_bret hm_175 dX12_is_136 (by decide) (HQ _ _ h)
        · intro hc
          rw [if_pos (Classical.not_not.mp hc)] at h
          refine zw_push hm_176 dX12_byteIs_15 (v := .inl (1 : Int32)) rfl ?_
          refine zw_goto hm_176 dX12_byteIs_16 (t := 20) rfl ?_
          refine zw_bret hm_176 dX12_byteIs_20 (by decide) ?_
          show ma_wp X d w 175 58 [(8, .inl (4 : Int32)), (0, .inr (.inr (some 94))), (1, .inl xa), (2, .inl xb), (3, .inl xc), (4, .inl xd), (5, .inl xe), (6, .inl xf), (7, .inl xg)] [.inl (1 : Int32)] S _
          refine zw_if0 hm_175 dX12_is_58 (t := 135) rfl zc0_eq (fun hc => absurd hc (by decide)) (fun _ => ?_)
          refine zw_push hm_175 dX12_is_61 (v := .inr (.inr (some 94))) rfl ?_
          refine zw_push hm_175 dX12_is_62 (v := .inl (2 : Int32)) rfl ?_
          refine zw_push hm_175 dX12_is_63 (v := .inl xc) rfl ?_
          refine zw_cv hm_175 dX12_is_64 v_12_136_12 hm_176 [.inl xc, .inl (2 : Int32)] [] rfl (zT_rt hS s_94 rfl) ⟨by omega, by omega⟩ rfl ?_
          show ma_wp X (d - 1) (w - 22) 176 0 [(0, .inr (.inr (some 94))), (1, .inl (2 : Int32)), (2, .inl xc)] [] S _
          refine zw_push hm_176 dX12_byteIs_0 (v := .inr (.inr (some 94))) rfl ?_
          refine zw_gf hm_176 dX12_byteIs_1 (v := .inr (.inr (some 96))) (zT_is hS s_94) (zT_t hS s_94) rfl f_12_17_12 (zT_f hS r_94_2) ?_
          refine zw_push hm_176 dX12_byteIs_4 (v := .inr (.inr (some 94))) rfl ?_
          refine zw_gf hm_176 dX12_byteIs_5 (v := .inl ((mI S) 94 68)) (zT_is hS s_94) (zT_t hS s_94) rfl f_12_127_12 rfl ?_
          refine zw_push hm_176 dX12_byteIs_8 (v := .inl (2 : Int32)) rfl ?_
          refine zw_stk hm_176 dX12_byteIs_9 (st' := [.inl (((mI S) 94 68) + (2 : Int32)), .inr (.inr (some 96))]) rfl rfl ?_
          obtain ⟨hg, h⟩ := h
          refine zw_ba hm_176 dX12_byteIs_10 (zT_is hS s_96) (zT_h hS s_96) rfl rfl hg ?_
          show ma_wp X (d - 1) (w - 22) 176 11 [(0, .inr (.inr (some 94))), (1, .inl (2 : Int32)), (2, .inl xc)] [.inl ((mI S) 96 (((mI S) 94 68) + (2 : Int32)).toNatClampNeg)] S _
          refine zw_push hm_176 dX12_byteIs_11 (v := .inl xc) rfl ?_
          refine zw_if2 hm_176 dX12_byteIs_12 (t := 19) rfl zc2_ne ?_ ?_
          · intro hc
            rw [if_neg hc] at h
            refine zw_push hm_176 dX12_byteIs_19 (v := .inl (0 : Int32)) rfl ?_
            refine zw_bret hm_176 dX12_byteIs_20 (by decide) ?_
            show ma_wp X d w 175 67 [(8, .inl (4 : Int32)), (0, .inr (.inr (some 94))), (1, .inl xa), (2, .inl xb), (3, .inl xc), (4, .inl xd), (5, .inl xe), (6, .inl xf), (7, .inl xg)] [.inl (0 : Int32)] S _
            refine zw_if0 hm_175 dX12_is_67 (t := 135) rfl zc0_eq (fun _ => ?_) (fun hc => absurd (by decide) hc)
            refine zw_push hm_175 dX12_is_135 (v := .inl (0 : Int32)) rfl ?_
            exact zw_bret hm_175 dX12_is_136 (by decide) (HQ _ _ h)
          · intro hc
            rw [if_pos (Classical.not_not.mp hc)] at h
            refine zw_push hm_176 dX12_byteIs_15 (v := .inl (1 : Int32)) rfl ?_
            refine zw_goto hm_176 dX12_byteIs_16 (t := 20) rfl ?_
            refine zw_bret hm_176 dX12_byteIs_20 (by decide) ?_
            show ma_wp X d w 175 67 [(8, .inl (4 : Int32)), (0, .inr (.inr (some 94))), (1, .inl xa), (2, .inl xb), (3, .inl xc), (4, .inl xd), (5, .inl xe), (6, .inl xf), (7, .inl xg)] [.inl (1 : Int32)] S _
            refine zw_if0 hm_175 dX12_is_67 (t := 135) rfl zc0_eq (fun hc => absurd hc (by decide)) (fun _ => ?_)
            refine zw_push hm_175 dX12_is_70 (v := .inr (.inr (some 94))) rfl ?_
            refine zw_push hm_175 dX12_is_71 (v := .inl (3 : Int32)) rfl ?_
            refine zw_push hm_175 dX12_is_72 (v := .inl xd) rfl ?_
            refine zw_cv hm_175 dX12_is_74 v_12_136_12 hm_176 [.inl xd, .inl (3 : Int32)] [] rfl (zT_rt hS s_94 rfl) ⟨by omega, by omega⟩ rfl ?_
            show ma_wp X (d - 1) (w - 22) 176 0 [(0, .inr (.inr (some 94))), (1, .inl (3 : Int32)), (2, .inl xd)] [] S _
            refine zw_push hm_176 dX12_byteIs_0 (v := .inr (.inr (some 94))) rfl ?_
            refine zw_gf hm_176 dX12_byteIs_1 (v := .inr (.inr (some 96))) (zT_is hS s_94) (zT_t hS s_94) rfl f_12_17_12 (zT_f hS r_94_2) ?_
            refine zw_push hm_176 dX12_byteIs_4 (v := .inr (.inr (some 94))) rfl ?_
            refine zw_gf hm_176 dX12_byteIs_5 (v := .inl ((mI S) 94 68)) (zT_is hS s_94) (zT_t hS s_94) rfl f_12_127_12 rfl ?_
            refine zw_push hm_176 dX12_byteIs_8 (v := .inl (3 : Int32)) rfl ?_
            refine zw_stk hm_176 dX12_byteIs_9 (st' := [.inl (((mI S) 94 68) + (3 : Int32)), .inr (.inr (some 96))]) rfl rfl ?_
            obtain ⟨hg, h⟩ := h
            refine zw_ba hm_176 dX12_byteIs_10 (zT_is hS s_96) (zT_h hS s_96) rfl rfl hg ?_
            show ma_wp X (d - 1) (w - 22) 176 11 [(0, .inr (.inr (some 94))), (1, .inl (3 : Int32)), (2, .inl xd)] [.inl ((mI S) 96 (((mI S) 94 68) + (3 : Int32)).toNatClampNeg)] S _
            refine zw_push hm_176 dX12_byteIs_11 (v := .inl xd) rfl ?_
            refine zw_if2 hm_176 dX12_byteIs_12 (t := 19) rfl zc2_ne ?_ ?_
            · intro hc
              rw [if_neg hc] at h
              refine zw_push hm_176 dX12_byteIs_19 (v := .inl (0 : Int32)) rfl ?_
              refine zw_bret hm_176 dX12_byteIs_20 (by decide) ?_
              show ma_wp X d w 175 77 [(8, .inl (4 : Int32)), (0, .inr (.inr (some 94))), (1, .inl xa), (2, .inl xb), (3, .inl xc), (4, .inl xd), (5, .inl xe), (6, .inl xf), (7, .inl xg)] [.inl (0 : Int32)] S _
              refine zw_if0 hm_175 dX12_is_77 (t := 135) rfl zc0_eq (fun _ => ?_) (fun hc => absurd (by decide) hc)
              refine zw_push hm_175 dX12_is_135 (v := .inl (0 : Int32)) rfl ?_
              exact zw_bret hm_175 dX12_is_136 (by decide) (HQ _ _ h)
            · intro hc
              rw [if_pos (Classical.not_not.mp hc)] at h
              refine zw_push hm_176 dX12_byteIs_15 (v := .inl (1 : Int32)) rfl ?_
              refine zw_goto hm_176 dX12_byteIs_16 (t := 20) rfl ?_
              refine zw_bret hm_176 dX12_byteIs_20 (by decide) ?_
              show ma_wp X d w 175 77 [(8, .inl (4 : Int32)), (0, .inr (.inr (some 94))), (1, .inl xa), (2, .inl xb), (3, .inl xc), (4, .inl xd), (5, .inl xe), (6, .inl xf), (7, .inl xg)] [.inl (1 : Int32)] S _
              refine zw_if0 hm_175 dX12_is_77 (t := 135) rfl zc0_eq (fun hc => absurd hc (by decide)) (fun _ => ?_)
              refine zw_push hm_175 dX12_is_80 (v := .inl (4 : Int32)) rfl ?_
              refine zw_push hm_175 dX12_is_82 (v := .inl (5 : Int32)) rfl ?_
              refine zw_if2 hm_175 dX12_is_83 (t := 96) rfl zc2_lt (fun _ => ?_) (fun hc => absurd (by decide) hc)
              refine zw_push hm_175 dX12_is_96 (v := .inl (4 : Int32)) rfl ?_
              refine zw_push hm_175 dX12_is_98 (v := .inl (6 : Int32)) rfl ?_
              refine zw_if2 hm_175 dX12_is_100 (t := 113) rfl zc2_lt (fun _ => ?_) (fun hc => absurd (by decide) hc)
              refine zw_push hm_175 dX12_is_113 (v := .inl (4 : Int32)) rfl ?_
              refine zw_push hm_175 dX12_is_115 (v := .inl (7 : Int32)) rfl ?_
              refine zw_if2 hm_175 dX12_is_117 (t := 131) rfl zc2_lt (fun _ => ?_) (fun hc => absurd (by decide) hc)
              refine zw_push hm_175 dX12_is_131 (v := .inl (1 : Int32)) rfl ?_
              refine zw_goto hm_175 dX12_is_132 (t := 136) rfl ?_
              exact zw_bret hm_175 dX12_is_136 (by decide) (HQ _ _ h)
    · intro hc
      rw [if_neg hc] at h
      refine zw_push hm_175 dX12_is_41 (v := .inl (0 : Int32)) rfl ?_
      exact zw_bret hm_175 dX12_is_42 (by decide) (HQ _ _ h)
theorem sp_175 {X : Nat × (Nat → Int32)} {P : Option ma_V → (Nat → Nat → Int32) → Prop} {m : Nat → Nat → Int32} (xa : Int32) (xb : Int32) (xc : Int32) (xd : Int32) (xe : Int32) (xf : Int32) (xg : Int32) (hV : zV m) (hpre0 : (m 94 68).toInt + (m 94 69).toInt ≤ 100) (KZ : ∀ v m', zV (zov wr_175 m m') → (v = 0 ∨ v = 1) → P (some (.inl v)) (zov wr_175 m m')) : zm X 1 22 175 0 [(0, .inr (.inr (some 94))), (1, .inl xa), (2, .inl xb), (3, .inl xc), (4, .inl xd), (5, .inl xe), (6, .inl xf), (7, .inl xg)] m P := by
  have K : ∀ v m', zF wr_175 m m' → zV m' → (v = 0 ∨ v = 1) → P (some (.inl v)) m' := by
    intro v m' hf z q0
    have e := zov_eq hf
    rw [e] at z ⊢
    try rw [e] at q0
    exact KZ v m' z q0
  refine g_175_0 xa xb xc xd xe xf xg ?_
  have f1 : 0 ≤ (m 94 68).toInt ∧ (m 94 68).toInt ≤ 100 := rs_94_68 (m := m) hV
  have f2 : 0 ≤ (m 94 69).toInt ∧ (m 94 69).toInt ≤ 100 := rs_94_69 (m := m) hV
  have b3 := i_bd xe
  have li4 : (0 : Int32).toInt = 0 := rfl
  refine zd (fun (h5 : xe = (0 : Int32)) => ?_) (fun (h5 : ¬ xe = (0 : Int32)) => ?_)
  · skip
    have g6 := i_eq h5
    have li7 : (4 : Int32).toInt = 4 := rfl
    refine zd (fun (h8 : (m 94 69) = (4 : Int32)) => ?_) (fun (h8 : ¬ (m 94 69) = (4 : Int32)) => ?_)
    · skip
      have g9 := i_eq h8
      first | have e10 : ((m 94 68) + (0 : Int32)).toInt = (m 94 68).toInt + (0) := i_addk rfl (by omega) (by omega) | have b11 := i_bd ((m 94 68) + (0 : Int32))
      have hg12 : (0 ≤ ((m 94 68) + (0 : Int32)) ∧ ((m 94 68) + (0 : Int32)).toNatClampNeg < 100) := i_ix (by omega) (by omega)
      refine ⟨hg12, ?_⟩
      have b13 := i_bd (m 96 ((m 94 68) + (0 : Int32)).toNatClampNeg)
      refine zd (fun (h14 : (m 96 ((m 94 68) + (0 : Int32)).toNatClampNeg) = xa) => ?_) (fun (h14 : ¬ (m 96 ((m 94 68) + (0 : Int32)).toNatClampNeg) = xa) => ?_)
      · skip
        have g15 := i_eq h14
        first | have e16 : ((m 94 68) + (1 : Int32)).toInt = (m 94 68).toInt + (1) := i_addk rfl (by omega) (by omega) | have b17 := i_bd ((m 94 68) + (1 : Int32))
        have hg18 : (0 ≤ ((m 94 68) + (1 : Int32)) ∧ ((m 94 68) + (1 : Int32)).toNatClampNeg < 100) := i_ix (by omega) (by omega)
        refine ⟨hg18, ?_⟩
        have b19 := i_bd (m 96 ((m 94 68) + (1 : Int32)).toNatClampNeg)
        refine zd (fun (h20 : (m 96 ((m 94 68) + (1 : Int32)).toNatClampNeg) = xb) => ?_) (fun (h20 : ¬ (m 96 ((m 94 68) + (1 : Int32)).toNatClampNeg) = xb) => ?_)
        · skip
          have g21 := i_eq h20
          first | have e22 : ((m 94 68) + (2 : Int32)).toInt = (m 94 68).toInt + (2) := i_addk rfl (by omega) (by omega) | have b23 := i_bd ((m 94 68) + (2 : Int32))
          have hg24 : (0 ≤ ((m 94 68) + (2 : Int32)) ∧ ((m 94 68) + (2 : Int32)).toNatClampNeg < 100) := i_ix (by omega) (by omega)
          refine ⟨hg24, ?_⟩
          have b25 := i_bd (m 96 ((m 94 68) + (2 : Int32)).toNatClampNeg)
          refine zd (fun (h26 : (m 96 ((m 94 68) + (2 : Int32)).toNatClampNeg) = xc) => ?_) (fun (h26 : ¬ (m 96 ((m 94 68) + (2 : Int32)).toNatClampNeg) = xc) => ?_)
          · skip
            have g27 := i_eq h26
            first | have e28 : ((m 94 68) + (3 : Int32)).toInt = (m 94 68).toInt + (3) := i_addk rfl (by omega) (by omega) | have b29 := i_bd ((m 94 68) + (3 : Int32))
            have hg30 : (0 ≤ ((m 94 68) + (3 : Int32)) ∧ ((m 94 68) + (3 : Int32)).toNatClampNeg < 100) := i_ix (by omega) (by omega)
            refine ⟨hg30, ?_⟩
            have b31 := i_bd (m 96 ((m 94 68) + (3 : Int32)).toNatClampNeg)
            refine zd (fun (h32 : (m 96 ((m 94 68) + (3 : Int32)).toNatClampNeg) = xd) => ?_) (fun (h32 : ¬ (m 96 ((m 94 68) + (3 : Int32)).toNatClampNeg) = xd) => ?_)
            · skip
              have g33 := i_eq h32
              have li34 : (1 : Int32).toInt = 1 := rfl
              exact K ((1 : Int32)) _ zF_rfl hV (by decide)
            · skip
              have g35 := i_ne h32
              exact K ((0 : Int32)) _ zF_rfl hV (by decide)
          · skip
            have g36 := i_ne h26
            exact K ((0 : Int32)) _ zF_rfl hV (by decide)
        · skip
          have g37 := i_ne h20
          exact K ((0 : Int32)) _ zF_rfl hV (by decide)
      · skip
        have g38 := i_ne h14
        exact K ((0 : Int32)) _ zF_rfl hV (by decide)
    · skip
      have g39 := i_ne h8
      exact K ((0 : Int32)) _ zF_rfl hV (by decide)
  · skip
    have g40 := i_ne h5
    have b41 := i_bd xf
    refine zd (fun (h42 : xf = (0 : Int32)) => ?_) (fun (h42 : ¬ xf = (0 : Int32)) => ?_)
    · skip
      have g43 := i_eq h42
      have li44 : (5 : Int32).toInt = 5 := rfl
      refine zd (fun (h45 : (m 94 69) = (5 : Int32)) => ?_) (fun (h45 : ¬ (m 94 69) = (5 : Int32)) => ?_)
      · skip
        have g46 := i_eq h45
        first | have e47 : ((m 94 68) + (0 : Int32)).toInt = (m 94 68).toInt + (0) := i_addk rfl (by omega) (by omega) | have b48 := i_bd ((m 94 68) + (0 : Int32))
        have hg49 : (0 ≤ ((m 94 68) + (0 : Int32)) ∧ ((m 94 68) + (0 : Int32)).toNatClampNeg < 100) := i_ix (by omega) (by omega)
        refine ⟨hg49, ?_⟩
        have b50 := i_bd (m 96 ((m 94 68) + (0 : Int32)).toNatClampNeg)
        refine zd (fun (h51 : (m 96 ((m 94 68) + (0 : Int32)).toNatClampNeg) = xa) => ?_) (fun (h51 : ¬ (m 96 ((m 94 68) + (0 : Int32)).toNatClampNeg) = xa) => ?_)
        · skip
          have g52 := i_eq h51
          first | have e53 : ((m 94 68) + (1 : Int32)).toInt = (m 94 68).toInt + (1) := i_addk rfl (by omega) (by omega) | have b54 := i_bd ((m 94 68) + (1 : Int32))
          have hg55 : (0 ≤ ((m 94 68) + (1 : Int32)) ∧ ((m 94 68) + (1 : Int32)).toNatClampNeg < 100) := i_ix (by omega) (by omega)
          refine ⟨hg55, ?_⟩
          have b56 := i_bd (m 96 ((m 94 68) + (1 : Int32)).toNatClampNeg)
          refine zd (fun (h57 : (m 96 ((m 94 68) + (1 : Int32)).toNatClampNeg) = xb) => ?_) (fun (h57 : ¬ (m 96 ((m 94 68) + (1 : Int32)).toNatClampNeg) = xb) => ?_)
          · skip
            have g58 := i_eq h57
            first | have e59 : ((m 94 68) + (2 : Int32)).toInt = (m 94 68).toInt + (2) := i_addk rfl (by omega) (by omega) | have b60 := i_bd ((m 94 68) + (2 : Int32))
            have hg61 : (0 ≤ ((m 94 68) + (2 : Int32)) ∧ ((m 94 68) + (2 : Int32)).toNatClampNeg < 100) := i_ix (by omega) (by omega)
            refine ⟨hg61, ?_⟩
            have b62 := i_bd (m 96 ((m 94 68) + (2 : Int32)).toNatClampNeg)
            refine zd (fun (h63 : (m 96 ((m 94 68) + (2 : Int32)).toNatClampNeg) = xc) => ?_) (fun (h63 : ¬ (m 96 ((m 94 68) + (2 : Int32)).toNatClampNeg) = xc) => ?_)
            · skip
              have g64 := i_eq h63
              first | have e65 : ((m 94 68) + (3 : Int32)).toInt = (m 94 68).toInt + (3) := i_addk rfl (by omega) (by omega) | have b66 := i_bd ((m 94 68) + (3 : Int32))
              have hg67 : (0 ≤ ((m 94 68) + (3 : Int32)) ∧ ((m 94 68) + (3 : Int32)).toNatClampNeg < 100) := i_ix (by omega) (by omega)
              refine ⟨hg67, ?_⟩
              have b68 := i_bd (m 96 ((m 94 68) + (3 : Int32)).toNatClampNeg)
              refine zd (fun (h69 : (m 96 ((m 94 68) + (3 : Int32)).toNatClampNeg) = xd) => ?_) (fun (h69 : ¬ (m 96 ((m 94 68) + (3 : Int32)).toNatClampNeg) = xd) => ?_)
              · skip
                have g70 := i_eq h69
                first | have e71 : ((m 94 68) + (4 : Int32)).toInt = (m 94 68).toInt + (4) := i_addk rfl (by omega) (by omega) | have b72 := i_bd ((m 94 68) + (4 : Int32))
                have hg73 : (0 ≤ ((m 94 68) + (4 : Int32)) ∧ ((m 94 68) + (4 : Int32)).toNatClampNeg < 100) := i_ix (by omega) (by omega)
                refine ⟨hg73, ?_⟩
                have b74 := i_bd (m 96 ((m 94 68) + (4 : Int32)).toNatClampNeg)
                refine zd (fun (h75 : (m 96 ((m 94 68) + (4 : Int32)).toNatClampNeg) = xe) => ?_) (fun (h75 : ¬ (m 96 ((m 94 68) + (4 : Int32)).toNatClampNeg) = xe) => ?_)
                · skip
                  have g76 := i_eq h75
                  have li77 : (1 : Int32).toInt = 1 := rfl
                  exact K ((1 : Int32)) _ zF_rfl hV (by decide)
                · skip
                  have g78 := i_ne h75
                  exact K ((0 : Int32)) _ zF_rfl hV (by decide)
              · skip
                have g79 := i_ne h69
                exact K ((0 : Int32)) _ zF_rfl hV (by decide)
            · skip
              have g80 := i_ne h63
              exact K ((0 : Int32)) _ zF_rfl hV (by decide)
          · skip
            have g81 := i_ne h57
            exact K ((0 : Int32)) _ zF_rfl hV (by decide)
        · skip
          have g82 := i_ne h51
          exact K ((0 : Int32)) _ zF_rfl hV (by decide)
      · skip
        have g83 := i_ne h45
        exact K ((0 : Int32)) _ zF_rfl hV (by decide)
    · skip
      have g84 := i_ne h42
      have b85 := i_bd xg
      refine zd (fun (h86 : xg = (0 : Int32)) => ?_) (fun (h86 : ¬ xg = (0 : Int32)) => ?_)
      · skip
        have g87 := i_eq h86
        have li88 : (6 : Int32).toInt = 6 := rfl
        refine zd (fun (h89 : (m 94 69) = (6 : Int32)) => ?_) (fun (h89 : ¬ (m 94 69) = (6 : Int32)) => ?_)
        · skip
          have g90 := i_eq h89
          first | have e91 : ((m 94 68) + (0 : Int32)).toInt = (m 94 68).toInt + (0) := i_addk rfl (by omega) (by omega) | have b92 := i_bd ((m 94 68) + (0 : Int32))
          have hg93 : (0 ≤ ((m 94 68) + (0 : Int32)) ∧ ((m 94 68) + (0 : Int32)).toNatClampNeg < 100) := i_ix (by omega) (by omega)
          refine ⟨hg93, ?_⟩
          have b94 := i_bd (m 96 ((m 94 68) + (0 : Int32)).toNatClampNeg)
          refine zd (fun (h95 : (m 96 ((m 94 68) + (0 : Int32)).toNatClampNeg) = xa) => ?_) (fun (h95 : ¬ (m 96 ((m 94 68) + (0 : Int32)).toNatClampNeg) = xa) => ?_)
          · skip
            have g96 := i_eq h95
            first | have e97 : ((m 94 68) + (1 : Int32)).toInt = (m 94 68).toInt + (1) := i_addk rfl (by omega) (by omega) | have b98 := i_bd ((m 94 68) + (1 : Int32))
            have hg99 : (0 ≤ ((m 94 68) + (1 : Int32)) ∧ ((m 94 68) + (1 : Int32)).toNatClampNeg < 100) := i_ix (by omega) (by omega)
            refine ⟨hg99, ?_⟩
            have b100 := i_bd (m 96 ((m 94 68) + (1 : Int32)).toNatClampNeg)
            refine zd (fun (h101 : (m 96 ((m 94 68) + (1 : Int32)).toNatClampNeg) = xb) => ?_) (fun (h101 : ¬ (m 96 ((m 94 68) + (1 : Int32)).toNatClampNeg) = xb) => ?_)
            · skip
              have g102 := i_eq h101
              first | have e103 : ((m 94 68) + (2 : Int32)).toInt = (m 94 68).toInt + (2) := i_addk rfl (by omega) (by omega) | have b104 := i_bd ((m 94 68) + (2 : Int32))
              have hg105 : (0 ≤ ((m 94 68) + (2 : Int32)) ∧ ((m 94 68) + (2 : Int32)).toNatClampNeg < 100) := i_ix (by omega) (by omega)
              refine ⟨hg105, ?_⟩
              have b106 := i_bd (m 96 ((m 94 68) + (2 : Int32)).toNatClampNeg)
              refine zd (fun (h107 : (m 96 ((m 94 68) + (2 : Int32)).toNatClampNeg) = xc) => ?_) (fun (h107 : ¬ (m 96 ((m 94 68) + (2 : Int32)).toNatClampNeg) = xc) => ?_)
              · skip
                have g108 := i_eq h107
                first | have e109 : ((m 94 68) + (3 : Int32)).toInt = (m 94 68).toInt + (3) := i_addk rfl (by omega) (by omega) | have b110 := i_bd ((m 94 68) + (3 : Int32))
                have hg111 : (0 ≤ ((m 94 68) + (3 : Int32)) ∧ ((m 94 68) + (3 : Int32)).toNatClampNeg < 100) := i_ix (by omega) (by omega)
                refine ⟨hg111, ?_⟩
                have b112 := i_bd (m 96 ((m 94 68) + (3 : Int32)).toNatClampNeg)
                refine zd (fun (h113 : (m 96 ((m 94 68) + (3 : Int32)).toNatClampNeg) = xd) => ?_) (fun (h113 : ¬ (m 96 ((m 94 68) + (3 : Int32)).toNatClampNeg) = xd) => ?_)
                · skip
                  have g114 := i_eq h113
                  first | have e115 : ((m 94 68) + (4 : Int32)).toInt = (m 94 68).toInt + (4) := i_addk rfl (by omega) (by omega) | have b116 := i_bd ((m 94 68) + (4 : Int32))
                  have hg117 : (0 ≤ ((m 94 68) + (4 : Int32)) ∧ ((m 94 68) + (4 : Int32)).toNatClampNeg < 100) := i_ix (by omega) (by omega)
                  refine ⟨hg117, ?_⟩
                  have b118 := i_bd (m 96 ((m 94 68) + (4 : Int32)).toNatClampNeg)
                  refine zd (fun (h119 : (m 96 ((m 94 68) + (4 : Int32)).toNatClampNeg) = xe) => ?_) (fun (h119 : ¬ (m 96 ((m 94 68) + (4 : Int32)).toNatClampNeg) = xe) => ?_)
                  · skip
                    have g120 := i_eq h119
                    first | have e121 : ((m 94 68) + (5 : Int32)).toInt = (m 94 68).toInt + (5) := i_addk rfl (by omega) (by omega) | have b122 := i_bd ((m 94 68) + (5 : Int32))
                    have hg123 : (0 ≤ ((m 94 68) + (5 : Int32)) ∧ ((m 94 68) + (5 : Int32)).toNatClampNeg < 100) := i_ix (by omega) (by omega)
                    refine ⟨hg123, ?_⟩
                    have b124 := i_bd (m 96 ((m 94 68) + (5 : Int32)).toNatClampNeg)
                    refine zd (fun (h125 : (m 96 ((m 94 68) + (5 : Int32)).toNatClampNeg) = xf) => ?_) (fun (h125 : ¬ (m 96 ((m 94 68) + (5 : Int32)).toNatClampNeg) = xf) => ?_)
                    · skip
                      have g126 := i_eq h125
                      have li127 : (1 : Int32).toInt = 1 := rfl
                      exact K ((1 : Int32)) _ zF_rfl hV (by decide)
                    · skip
                      have g128 := i_ne h125
                      exact K ((0 : Int32)) _ zF_rfl hV (by decide)
                  · skip
                    have g129 := i_ne h119
                    exact K ((0 : Int32)) _ zF_rfl hV (by decide)
                · skip
                  have g130 := i_ne h113
                  exact K ((0 : Int32)) _ zF_rfl hV (by decide)
              · skip
                have g131 := i_ne h107
                exact K ((0 : Int32)) _ zF_rfl hV (by decide)
            · skip
              have g132 := i_ne h101
              exact K ((0 : Int32)) _ zF_rfl hV (by decide)
          · skip
            have g133 := i_ne h95
            exact K ((0 : Int32)) _ zF_rfl hV (by decide)
        · skip
          have g134 := i_ne h89
          exact K ((0 : Int32)) _ zF_rfl hV (by decide)
      · skip
        have g135 := i_ne h86
        have li136 : (7 : Int32).toInt = 7 := rfl
        refine zd (fun (h137 : (m 94 69) = (7 : Int32)) => ?_) (fun (h137 : ¬ (m 94 69) = (7 : Int32)) => ?_)
        · skip
          have g138 := i_eq h137
          first | have e139 : ((m 94 68) + (0 : Int32)).toInt = (m 94 68).toInt + (0) := i_addk rfl (by omega) (by omega) | have b140 := i_bd ((m 94 68) + (0 : Int32))
          have hg141 : (0 ≤ ((m 94 68) + (0 : Int32)) ∧ ((m 94 68) + (0 : Int32)).toNatClampNeg < 100) := i_ix (by omega) (by omega)
          refine ⟨hg141, ?_⟩
          have b142 := i_bd (m 96 ((m 94 68) + (0 : Int32)).toNatClampNeg)
          refine zd (fun (h143 : (m 96 ((m 94 68) + (0 : Int32)).toNatClampNeg) = xa) => ?_) (fun (h143 : ¬ (m 96 ((m 94 68) + (0 : Int32)).toNatClampNeg) = xa) => ?_)
          · skip
            have g144 := i_eq h143
            first | have e145 : ((m 94 68) + (1 : Int32)).toInt = (m 94 68).toInt + (1) := i_addk rfl (by omega) (by omega) | have b146 := i_bd ((m 94 68) + (1 : Int32))
            have hg147 : (0 ≤ ((m 94 68) + (1 : Int32)) ∧ ((m 94 68) + (1 : Int32)).toNatClampNeg < 100) := i_ix (by omega) (by omega)
            refine ⟨hg147, ?_⟩
            have b148 := i_bd (m 96 ((m 94 68) + (1 : Int32)).toNatClampNeg)
            refine zd (fun (h149 : (m 96 ((m 94 68) + (1 : Int32)).toNatClampNeg) = xb) => ?_) (fun (h149 : ¬ (m 96 ((m 94 68) + (1 : Int32)).toNatClampNeg) = xb) => ?_)
            · skip
              have g150 := i_eq h149
              first | have e151 : ((m 94 68) + (2 : Int32)).toInt = (m 94 68).toInt + (2) := i_addk rfl (by omega) (by omega) | have b152 := i_bd ((m 94 68) + (2 : Int32))
              have hg153 : (0 ≤ ((m 94 68) + (2 : Int32)) ∧ ((m 94 68) + (2 : Int32)).toNatClampNeg < 100) := i_ix (by omega) (by omega)
              refine ⟨hg153, ?_⟩
              have b154 := i_bd (m 96 ((m 94 68) + (2 : Int32)).toNatClampNeg)
              refine zd (fun (h155 : (m 96 ((m 94 68) + (2 : Int32)).toNatClampNeg) = xc) => ?_) (fun (h155 : ¬ (m 96 ((m 94 68) + (2 : Int32)).toNatClampNeg) = xc) => ?_)
              · skip
                have g156 := i_eq h155
                first | have e157 : ((m 94 68) + (3 : Int32)).toInt = (m 94 68).toInt + (3) := i_addk rfl (by omega) (by omega) | have b158 := i_bd ((m 94 68) + (3 : Int32))
                have hg159 : (0 ≤ ((m 94 68) + (3 : Int32)) ∧ ((m 94 68) + (3 : Int32)).toNatClampNeg < 100) := i_ix (by omega) (by omega)
                refine ⟨hg159, ?_⟩
                have b160 := i_bd (m 96 ((m 94 68) + (3 : Int32)).toNatClampNeg)
                refine zd (fun (h161 : (m 96 ((m 94 68) + (3 : Int32)).toNatClampNeg) = xd) => ?_) (fun (h161 : ¬ (m 96 ((m 94 68) + (3 : Int32)).toNatClampNeg) = xd) => ?_)
                · skip
                  have g162 := i_eq h161
                  first | have e163 : ((m 94 68) + (4 : Int32)).toInt = (m 94 68).toInt + (4) := i_addk rfl (by omega) (by omega) | have b164 := i_bd ((m 94 68) + (4 : Int32))
                  have hg165 : (0 ≤ ((m 94 68) + (4 : Int32)) ∧ ((m 94 68) + (4 : Int32)).toNatClampNeg < 100) := i_ix (by omega) (by omega)
                  refine ⟨hg165, ?_⟩
                  have b166 := i_bd (m 96 ((m 94 68) + (4 : Int32)).toNatClampNeg)
                  refine zd (fun (h167 : (m 96 ((m 94 68) + (4 : Int32)).toNatClampNeg) = xe) => ?_) (fun (h167 : ¬ (m 96 ((m 94 68) + (4 : Int32)).toNatClampNeg) = xe) => ?_)
                  · skip
                    have g168 := i_eq h167
                    first | have e169 : ((m 94 68) + (5 : Int32)).toInt = (m 94 68).toInt + (5) := i_addk rfl (by omega) (by omega) | have b170 := i_bd ((m 94 68) + (5 : Int32))
                    have hg171 : (0 ≤ ((m 94 68) + (5 : Int32)) ∧ ((m 94 68) + (5 : Int32)).toNatClampNeg < 100) := i_ix (by omega) (by omega)
                    refine ⟨hg171, ?_⟩
                    have b172 := i_bd (m 96 ((m 94 68) + (5 : Int32)).toNatClampNeg)
                    refine zd (fun (h173 : (m 96 ((m 94 68) + (5 : Int32)).toNatClampNeg) = xf) => ?_) (fun (h173 : ¬ (m 96 ((m 94 68) + (5 : Int32)).toNatClampNeg) = xf) => ?_)
                    · skip
                      have g174 := i_eq h173
                      first | have e175 : ((m 94 68) + (6 : Int32)).toInt = (m 94 68).toInt + (6) := i_addk rfl (by omega) (by omega) | have b176 := i_bd ((m 94 68) + (6 : Int32))
                      have hg177 : (0 ≤ ((m 94 68) + (6 : Int32)) ∧ ((m 94 68) + (6 : Int32)).toNatClampNeg < 100) := i_ix (by omega) (by omega)
                      refine ⟨hg177, ?_⟩
                      have b178 := i_bd (m 96 ((m 94 68) + (6 : Int32)).toNatClampNeg)
                      refine zd (fun (h179 : (m 96 ((m 94 68) + (6 : Int32)).toNatClampNeg) = xg) => ?_) (fun (h179 : ¬ (m 96 ((m 94 68) + (6 : Int32)).toNatClampNeg) = xg) => ?_)
                      · skip
                        have g180 := i_eq h179
                        have li181 : (1 : Int32).toInt = 1 := rfl
                        exact K ((1 : Int32)) _ zF_rfl hV (by decide)
                      · skip
                        have g182 := i_ne h179
                        exact K ((0 : Int32)) _ zF_rfl hV (by decide)
                    · skip
                      have g183 := i_ne h173
                      exact K ((0 : Int32)) _ zF_rfl hV (by decide)
                  · skip
                    have g184 := i_ne h167
                    exact K ((0 : Int32)) _ zF_rfl hV (by decide)
                · skip
                  have g185 := i_ne h161
                  exact K ((0 : Int32)) _ zF_rfl hV (by decide)
              · skip
                have g186 := i_ne h155
                exact K ((0 : Int32)) _ zF_rfl hV (by decide)
            · skip
              have g187 := i_ne h149
              exact K ((0 : Int32)) _ zF_rfl hV (by decide)
          · skip
            have g188 := i_ne h143
            exact K ((0 : Int32)) _ zF_rfl hV (by decide)
        · skip
          have g189 := i_ne h137
          exact K ((0 : Int32)) _ zF_rfl hV (by decide)
