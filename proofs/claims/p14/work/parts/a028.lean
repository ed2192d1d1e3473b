/-! from 94.421 -/
/-! the reference (written by wip/tools/gen94m.py) -/
set_option maxRecDepth 100000 in
theorem hm_220 : ma_md 220 = some (12, yX12_greyRoots, cX12_greyRoots, 4, none) := rfl
set_option maxRecDepth 100000 in
theorem hm_221 : ma_md 221 = some (12, yX12_toGrey, cX12_toGrey, 2, none) := rfl
theorem s_106 : zs 106 = some (20, 3100) := rfl
theorem s_115 : zs 115 = some (20, 3100) := rfl
theorem r_94_38 : zfi 94 38 = some 106 := rfl
theorem r_94_54 : zfi 94 54 = some 115 := rfl
theorem f_12_49_12 : ma_fld 12 49 12 = some 38 := by decide +kernel
theorem f_12_77_12 : ma_fld 12 77 12 = some 54 := by decide +kernel
theorem f_12_264_12 : ma_fld 12 264 12 = some 56 := by decide +kernel
theorem p_12_264_12 : ma_pk 12 264 12 56 = true := by decide +kernel
theorem v_12_396_12 : ma_vl 12 396 12 = some (1, 221, 1) := by decide +kernel
theorem dX12_greyRoots_0 : decode cX12_greyRoots 0 = .ok (.iconst 0, 1) := by decide +kernel
theorem dX12_greyRoots_1 : decode cX12_greyRoots 1 = .ok (.istore_n 1, 1) := by decide +kernel
theorem dX12_greyRoots_2 : decode cX12_greyRoots 2 = .ok (.iload_n 1, 1) := by decide +kernel
theorem dX12_greyRoots_3 : decode cX12_greyRoots 3 = .ok (.bipush 16, 2) := by decide +kernel
theorem dX12_greyRoots_24 : decode cX12_greyRoots 24 = .ok (.iconst 0, 1) := by decide +kernel
theorem dX12_greyRoots_25 : decode cX12_greyRoots 25 = .ok (.istore_n 1, 1) := by decide +kernel
theorem dX12_greyRoots_8 : decode cX12_greyRoots 8 = .ok (.aload_n 0, 1) := by decide +kernel
theorem dX12_greyRoots_9 : decode cX12_greyRoots 9 = .ok (.aload_n 0, 1) := by decide +kernel
theorem dX12_greyRoots_13 : decode cX12_greyRoots 13 = .ok (.iload_n 1, 1) := by decide +kernel
theorem dX12_greyRoots_15 : decode cX12_greyRoots 15 = .ok (.invokevirtual 396, 3) := by decide +kernel
theorem dX12_toGrey_0 : decode cX12_toGrey 0 = .ok (.iload_n 1, 1) := by decide +kernel
theorem dX12_greyRoots_18 : decode cX12_greyRoots 18 = .ok (.iinc 1 1, 3) := by decide +kernel
theorem dX12_greyRoots_21 : decode cX12_greyRoots 21 = .ok (.goto (-19), 3) := by decide +kernel
theorem dX12_toGrey_13 : decode cX12_toGrey 13 = .ok (.return_, 1) := by decide +kernel
theorem dX12_toGrey_4 : decode cX12_toGrey 4 = .ok (.aload_n 0, 1) := by decide +kernel
theorem dX12_toGrey_8 : decode cX12_toGrey 8 = .ok (.iload_n 1, 1) := by decide +kernel
theorem dX12_toGrey_14 : decode cX12_toGrey 14 = .ok (.aload_n 0, 1) := by decide +kernel
theorem dX12_toGrey_18 : decode cX12_toGrey 18 = .ok (.iload_n 1, 1) := by decide +kernel
theorem dX12_toGrey_19 : decode cX12_toGrey 19 = .ok (.iconst 1, 1) := by decide +kernel
theorem dX12_toGrey_21 : decode cX12_toGrey 21 = .ok (.aload_n 0, 1) := by decide +kernel
theorem dX12_toGrey_25 : decode cX12_toGrey 25 = .ok (.aload_n 0, 1) := by decide +kernel
theorem dX12_toGrey_29 : decode cX12_toGrey 29 = .ok (.iload_n 1, 1) := by decide +kernel
theorem dX12_toGrey_31 : decode cX12_toGrey 31 = .ok (.aload_n 0, 1) := by decide +kernel
theorem dX12_toGrey_32 : decode cX12_toGrey 32 = .ok (.dup, 1) := by decide +kernel
theorem dX12_toGrey_36 : decode cX12_toGrey 36 = .ok (.iconst 1, 1) := by decide +kernel
theorem dX12_toGrey_37 : decode cX12_toGrey 37 = .ok (.iadd, 1) := by decide +kernel
theorem dX12_toGrey_41 : decode cX12_toGrey 41 = .ok (.return_, 1) := by decide +kernel
theorem dX12_toGrey_38 : decode cX12_toGrey 38 = .ok (.putfield 264, 3) := by decide +kernel
theorem dX12_toGrey_33 : decode cX12_toGrey 33 = .ok (.getfield 264, 3) := by decide +kernel
theorem dX12_toGrey_30 : decode cX12_toGrey 30 = .ok (.iastore, 1) := by decide +kernel
theorem dX12_toGrey_26 : decode cX12_toGrey 26 = .ok (.getfield 264, 3) := by decide +kernel
theorem dX12_toGrey_22 : decode cX12_toGrey 22 = .ok (.getfield 77, 3) := by decide +kernel
theorem dX12_toGrey_20 : decode cX12_toGrey 20 = .ok (.iastore, 1) := by decide +kernel
theorem dX12_toGrey_15 : decode cX12_toGrey 15 = .ok (.getfield 49, 3) := by decide +kernel
theorem dX12_toGrey_10 : decode cX12_toGrey 10 = .ok (.ifCond .eq 4, 3) := by decide +kernel
theorem dX12_toGrey_9 : decode cX12_toGrey 9 = .ok (.iaload, 1) := by decide +kernel
theorem dX12_toGrey_5 : decode cX12_toGrey 5 = .ok (.getfield 49, 3) := by decide +kernel
theorem dX12_toGrey_1 : decode cX12_toGrey 1 = .ok (.ifCond .lt 12, 3) := by decide +kernel
theorem dX12_greyRoots_14 : decode cX12_greyRoots 14 = .ok (.iaload, 1) := by decide +kernel
theorem dX12_greyRoots_10 : decode cX12_greyRoots 10 = .ok (.getfield 68, 3) := by decide +kernel
theorem dX12_greyRoots_5 : decode cX12_greyRoots 5 = .ok (.if_icmp .ge 19, 3) := by decide +kernel
theorem dX12_greyRoots_26 : decode cX12_greyRoots 26 = .ok (.iload_n 1, 1) := by decide +kernel
theorem dX12_greyRoots_27 : decode cX12_greyRoots 27 = .ok (.aload_n 0, 1) := by decide +kernel
theorem dX12_greyRoots_50 : decode cX12_greyRoots 50 = .ok (.iconst (-1), 1) := by decide +kernel
theorem dX12_greyRoots_51 : decode cX12_greyRoots 51 = .ok (.istore_n 1, 1) := by decide +kernel
theorem dX12_greyRoots_34 : decode cX12_greyRoots 34 = .ok (.aload_n 0, 1) := by decide +kernel
theorem dX12_greyRoots_35 : decode cX12_greyRoots 35 = .ok (.aload_n 0, 1) := by decide +kernel
theorem dX12_greyRoots_39 : decode cX12_greyRoots 39 = .ok (.iload_n 1, 1) := by decide +kernel
theorem dX12_greyRoots_41 : decode cX12_greyRoots 41 = .ok (.invokevirtual 396, 3) := by decide +kernel
theorem dX12_greyRoots_44 : decode cX12_greyRoots 44 = .ok (.iinc 1 1, 3) := by decide +kernel
theorem dX12_greyRoots_47 : decode cX12_greyRoots 47 = .ok (.goto (-21), 3) := by decide +kernel
theorem dX12_greyRoots_40 : decode cX12_greyRoots 40 = .ok (.iaload, 1) := by decide +kernel
theorem dX12_greyRoots_36 : decode cX12_greyRoots 36 = .ok (.getfield 74, 3) := by decide +kernel
theorem dX12_greyRoots_31 : decode cX12_greyRoots 31 = .ok (.if_icmp .ge 19, 3) := by decide +kernel
theorem dX12_greyRoots_28 : decode cX12_greyRoots 28 = .ok (.getfield 261, 3) := by decide +kernel
theorem dX12_greyRoots_52 : decode cX12_greyRoots 52 = .ok (.iload_n 1, 1) := by decide +kernel
theorem dX12_greyRoots_53 : decode cX12_greyRoots 53 = .ok (.bipush (-2), 2) := by decide +kernel
theorem dX12_greyRoots_149 : decode cX12_greyRoots 149 = .ok (.return_, 1) := by decide +kernel
theorem dX12_greyRoots_58 : decode cX12_greyRoots 58 = .ok (.iconst (-1), 1) := by decide +kernel
theorem dX12_greyRoots_59 : decode cX12_greyRoots 59 = .ok (.istore_n 2, 1) := by decide +kernel
theorem dX12_greyRoots_60 : decode cX12_greyRoots 60 = .ok (.iconst 0, 1) := by decide +kernel
theorem dX12_greyRoots_61 : decode cX12_greyRoots 61 = .ok (.istore_n 3, 1) := by decide +kernel
theorem dX12_greyRoots_55 : decode cX12_greyRoots 55 = .ok (.if_icmp .eq 94, 3) := by decide +kernel
theorem dX12_greyRoots_62 : decode cX12_greyRoots 62 = .ok (.iload_n 3, 1) := by decide +kernel
theorem dX12_greyRoots_63 : decode cX12_greyRoots 63 = .ok (.sipush 3100, 3) := by decide +kernel
theorem dX12_greyRoots_124 : decode cX12_greyRoots 124 = .ok (.iload_n 2, 1) := by decide +kernel
theorem dX12_greyRoots_134 : decode cX12_greyRoots 134 = .ok (.aload_n 0, 1) := by decide +kernel
theorem dX12_greyRoots_135 : decode cX12_greyRoots 135 = .ok (.iload_n 2, 1) := by decide +kernel
theorem dX12_greyRoots_136 : decode cX12_greyRoots 136 = .ok (.invokevirtual 396, 3) := by decide +kernel
theorem dX12_greyRoots_139 : decode cX12_greyRoots 139 = .ok (.aload_n 0, 1) := by decide +kernel
theorem dX12_greyRoots_143 : decode cX12_greyRoots 143 = .ok (.iload_n 2, 1) := by decide +kernel
theorem dX12_greyRoots_145 : decode cX12_greyRoots 145 = .ok (.istore_n 1, 1) := by decide +kernel
theorem dX12_greyRoots_146 : decode cX12_greyRoots 146 = .ok (.goto (-94), 3) := by decide +kernel
theorem dX12_greyRoots_144 : decode cX12_greyRoots 144 = .ok (.iaload, 1) := by decide +kernel
theorem dX12_greyRoots_140 : decode cX12_greyRoots 140 = .ok (.getfield 31, 3) := by decide +kernel
theorem dX12_greyRoots_128 : decode cX12_greyRoots 128 = .ok (.bipush (-2), 2) := by decide +kernel
theorem dX12_greyRoots_130 : decode cX12_greyRoots 130 = .ok (.istore_n 1, 1) := by decide +kernel
theorem dX12_greyRoots_131 : decode cX12_greyRoots 131 = .ok (.goto 15, 3) := by decide +kernel
theorem dX12_greyRoots_125 : decode cX12_greyRoots 125 = .ok (.ifCond .ge 9, 3) := by decide +kernel
theorem dX12_greyRoots_69 : decode cX12_greyRoots 69 = .ok (.aload_n 0, 1) := by decide +kernel
theorem dX12_greyRoots_73 : decode cX12_greyRoots 73 = .ok (.iload_n 3, 1) := by decide +kernel
theorem dX12_greyRoots_118 : decode cX12_greyRoots 118 = .ok (.iinc 3 1, 3) := by decide +kernel
theorem dX12_greyRoots_121 : decode cX12_greyRoots 121 = .ok (.goto (-59), 3) := by decide +kernel
theorem dX12_greyRoots_78 : decode cX12_greyRoots 78 = .ok (.aload_n 0, 1) := by decide +kernel
theorem dX12_greyRoots_82 : decode cX12_greyRoots 82 = .ok (.iload_n 3, 1) := by decide +kernel
theorem dX12_greyRoots_87 : decode cX12_greyRoots 87 = .ok (.aload_n 0, 1) := by decide +kernel
theorem dX12_greyRoots_91 : decode cX12_greyRoots 91 = .ok (.iload_n 3, 1) := by decide +kernel
theorem dX12_greyRoots_93 : decode cX12_greyRoots 93 = .ok (.iload_n 1, 1) := by decide +kernel
theorem dX12_greyRoots_97 : decode cX12_greyRoots 97 = .ok (.iload_n 2, 1) := by decide +kernel
theorem dX12_greyRoots_116 : decode cX12_greyRoots 116 = .ok (.iload_n 3, 1) := by decide +kernel
theorem dX12_greyRoots_117 : decode cX12_greyRoots 117 = .ok (.istore_n 2, 1) := by decide +kernel
theorem dX12_greyRoots_101 : decode cX12_greyRoots 101 = .ok (.aload_n 0, 1) := by decide +kernel
theorem dX12_greyRoots_105 : decode cX12_greyRoots 105 = .ok (.iload_n 3, 1) := by decide +kernel
theorem dX12_greyRoots_107 : decode cX12_greyRoots 107 = .ok (.aload_n 0, 1) := by decide +kernel
theorem dX12_greyRoots_111 : decode cX12_greyRoots 111 = .ok (.iload_n 2, 1) := by decide +kernel
theorem dX12_greyRoots_113 : decode cX12_greyRoots 113 = .ok (.if_icmp .ge 5, 3) := by decide +kernel
theorem dX12_greyRoots_112 : decode cX12_greyRoots 112 = .ok (.iaload, 1) := by decide +kernel
theorem dX12_greyRoots_108 : decode cX12_greyRoots 108 = .ok (.getfield 31, 3) := by decide +kernel
theorem dX12_greyRoots_106 : decode cX12_greyRoots 106 = .ok (.iaload, 1) := by decide +kernel
theorem dX12_greyRoots_102 : decode cX12_greyRoots 102 = .ok (.getfield 31, 3) := by decide +kernel
theorem dX12_greyRoots_98 : decode cX12_greyRoots 98 = .ok (.ifCond .lt 18, 3) := by decide +kernel
theorem dX12_greyRoots_94 : decode cX12_greyRoots 94 = .ok (.if_icmp .le 24, 3) := by decide +kernel
theorem dX12_greyRoots_92 : decode cX12_greyRoots 92 = .ok (.iaload, 1) := by decide +kernel
theorem dX12_greyRoots_88 : decode cX12_greyRoots 88 = .ok (.getfield 31, 3) := by decide +kernel
theorem dX12_greyRoots_84 : decode cX12_greyRoots 84 = .ok (.ifCond .le 34, 3) := by decide +kernel
theorem dX12_greyRoots_83 : decode cX12_greyRoots 83 = .ok (.iaload, 1) := by decide +kernel
theorem dX12_greyRoots_79 : decode cX12_greyRoots 79 = .ok (.getfield 52, 3) := by decide +kernel
theorem dX12_greyRoots_75 : decode cX12_greyRoots 75 = .ok (.ifCond .eq 43, 3) := by decide +kernel
theorem dX12_greyRoots_74 : decode cX12_greyRoots 74 = .ok (.baload, 1) := by decide +kernel
theorem dX12_greyRoots_70 : decode cX12_greyRoots 70 = .ok (.getfield 27, 3) := by decide +kernel
theorem dX12_greyRoots_66 : decode cX12_greyRoots 66 = .ok (.if_icmp .ge 58, 3) := by decide +kernel
def wr_220 (c k : Nat) : Bool := Nat.beq c 106 || Nat.beq c 115 || (Nat.beq c 94 && (Nat.beq k 56))
theorem g_220_0 {X : Nat × (Nat → Int32)} {m : Nat → Nat → Int32} {P : Option ma_V → (Nat → Nat → Int32) → Prop}  (h : zm X 1 21 220 2 [(0, .inr (.inr (some 94))), (1, .inl (0 : Int32))] m P) : zm X 1 21 220 0 [(0, .inr (.inr (some 94)))] m P := by
  intro d w S Q hd hw hS hm HQ
  subst hm
  refine zw_push hm_220 dX12_greyRoots_0 (v := .inl (0 : Int32)) rfl ?_
  refine zw_sto hm_220 dX12_greyRoots_1 [(1, .inl (0 : Int32)), (0, .inr (.inr (some 94)))] rfl rfl rfl ?_
  exact zw_sub (ma_nd_of (ks := [0, 1]) rfl (by decide)) (ma_nd_of (ks := [1, 0]) rfl (by decide)) (ma_le_cons rfl (ma_le_cons rfl (ma_le_nil _))) (h d w _ Q (by omega) (by omega) hS rfl HQ)
theorem g_220_2 {X : Nat × (Nat → Int32)} {m : Nat → Nat → Int32} {P : Option ma_V → (Nat → Nat → Int32) → Prop} (l1 : Int32) (h : if (16 : Int32) ≤ l1 then (zm X 1 21 220 26 [(0, .inr (.inr (some 94))), (1, .inl (0 : Int32))] m P) else ((0 ≤ l1 ∧ l1.toNatClampNeg < 16) ∧ (if (m 112 l1.toNatClampNeg) < 0 then (zm X 1 21 220 2 [(0, .inr (.inr (some 94))), (1, .inl (l1 + (1 : Int32)))] m P) else ((0 ≤ (m 112 l1.toNatClampNeg) ∧ (m 112 l1.toNatClampNeg).toNatClampNeg < 3100) ∧ (if (m 106 (m 112 l1.toNatClampNeg).toNatClampNeg) = 0 then ((0 ≤ (m 112 l1.toNatClampNeg) ∧ (m 112 l1.toNatClampNeg).toNatClampNeg < 3100) ∧ ((0 ≤ (m 94 56) ∧ (m 94 56).toNatClampNeg < 3100) ∧ (zm X 1 21 220 2 [(0, .inr (.inr (some 94))), (1, .inl (l1 + (1 : Int32)))] (ma_u (ma_u (ma_u m 106 (m 112 l1.toNatClampNeg).toNatClampNeg (1 : Int32)) 115 (m 94 56).toNatClampNeg (m 112 l1.toNatClampNeg)) 94 56 ((m 94 56) + (1 : Int32))) P))) else (zm X 1 21 220 2 [(0, .inr (.inr (some 94))), (1, .inl (l1 + (1 : Int32)))] m P)))))) : zm X 1 21 220 2 [(0, .inr (.inr (some 94))), (1, .inl l1)] m P := by
  intro d w S Q hd hw hS hm HQ
  subst hm
  refine zw_push hm_220 dX12_greyRoots_2 (v := .inl l1) rfl ?_
  refine zw_push hm_220 dX12_greyRoots_3 (v := .inl (16 : Int32)) rfl ?_
  refine zw_if2 hm_220 dX12_greyRoots_5 (t := 24) rfl zc2_ge ?_ ?_
  · intro hc
    rw [if_pos hc] at h
    refine zw_push hm_220 dX12_greyRoots_24 (v := .inl (0 : Int32)) rfl ?_
    refine zw_sto hm_220 dX12_greyRoots_25 [(1, .inl (0 : Int32)), (0, .inr (.inr (some 94)))] rfl rfl rfl ?_
    exact zw_sub (ma_nd_of (ks := [0, 1]) rfl (by decide)) (ma_nd_of (ks := [1, 0]) rfl (by decide)) (ma_le_cons rfl (ma_le_cons rfl (ma_le_nil _))) (h d w _ Q (by omega) (by omega) hS rfl HQ)
  · intro hc
    rw [if_neg hc] at h
    refine zw_push hm_220 dX12_greyRoots_8 (v := .inr (.inr (some 94))) rfl ?_
    refine zw_push hm_220 dX12_greyRoots_9 (v := .inr (.inr (some 94))) rfl ?_
    refine zw_gf hm_220 dX12_greyRoots_10 (v := .inr (.inr (some 112))) (zT_is hS s_94) (zT_t hS s_94) rfl f_12_68_12 (zT_f hS r_94_51) ?_
    refine zw_push hm_220 dX12_greyRoots_13 (v := .inl l1) rfl ?_
    obtain ⟨hg, h⟩ := h
    refine zw_ia hm_220 dX12_greyRoots_14 (zT_is hS s_112) (zT_h hS s_112) rfl hg ?_
    show ma_wp X d w 220 15 [(0, .inr (.inr (some 94))), (1, .inl l1)] [.inl ((mI S) 112 l1.toNatClampNeg), .inr (.inr (some 94))] S _
    refine zw_cv hm_220 dX12_greyRoots_15 v_12_396_12 hm_221 [.inl ((mI S) 112 l1.toNatClampNeg)] [] rfl (zT_rt hS s_94 rfl) ⟨by omega, by omega⟩ rfl ?_
    show ma_wp X (d - 1) (w - 21) 221 0 [(0, .inr (.inr (some 94))), (1, .inl ((mI S) 112 l1.toNatClampNeg))] [] S _
    refine zw_push hm_221 dX12_toGrey_0 (v := .inl ((mI S) 112 l1.toNatClampNeg)) rfl ?_
    refine zw_if0 hm_221 dX12_toGrey_1 (t := 13) rfl zc0_lt ?_ ?_
    · intro hc
      rw [if_pos hc] at h
      refine zw_vret hm_221 dX12_toGrey_13 ?_
      show ma_wp X d w 220 18 [(0, .inr (.inr (some 94))), (1, .inl l1)] [] S _
      refine zw_sto hm_220 dX12_greyRoots_18 [(1, .inl (l1 + (1 : Int32))), (0, .inr (.inr (some 94)))] rfl rfl rfl ?_
      refine zw_goto hm_220 dX12_greyRoots_21 (t := 2) rfl ?_
      exact zw_sub (ma_nd_of (ks := [0, 1]) rfl (by decide)) (ma_nd_of (ks := [1, 0]) rfl (by decide)) (ma_le_cons rfl (ma_le_cons rfl (ma_le_nil _))) (h d w _ Q (by omega) (by omega) hS rfl HQ)
    · intro hc
      rw [if_neg hc] at h
      refine zw_push hm_221 dX12_toGrey_4 (v := .inr (.inr (some 94))) rfl ?_
      refine zw_gf hm_221 dX12_toGrey_5 (v := .inr (.inr (some 106))) (zT_is hS s_94) (zT_t hS s_94) rfl f_12_49_12 (zT_f hS r_94_38) ?_
      refine zw_push hm_221 dX12_toGrey_8 (v := .inl ((mI S) 112 l1.toNatClampNeg)) rfl ?_
      obtain ⟨hg, h⟩ := h
      refine zw_ia hm_221 dX12_toGrey_9 (zT_is hS s_106) (zT_h hS s_106) rfl hg ?_
      show ma_wp X (d - 1) (w - 21) 221 10 [(0, .inr (.inr (some 94))), (1, .inl ((mI S) 112 l1.toNatClampNeg))] [.inl ((mI S) 106 ((mI S) 112 l1.toNatClampNeg).toNatClampNeg)] S _
      refine zw_if0 hm_221 dX12_toGrey_10 (t := 14) rfl zc0_eq ?_ ?_
      · intro hc
        rw [if_pos hc] at h
        refine zw_push hm_221 dX12_toGrey_14 (v := .inr (.inr (some 94))) rfl ?_
        refine zw_gf hm_221 dX12_toGrey_15 (v := .inr (.inr (some 106))) (zT_is hS s_94) (zT_t hS s_94) rfl f_12_49_12 (zT_f hS r_94_38) ?_
        refine zw_push hm_221 dX12_toGrey_18 (v := .inl ((mI S) 112 l1.toNatClampNeg)) rfl ?_
        refine zw_push hm_221 dX12_toGrey_19 (v := .inl (1 : Int32)) rfl ?_
        obtain ⟨hg, h⟩ := h
        refine zw_ias hm_221 dX12_toGrey_20 (zT_is hS s_106) (zT_h hS s_106) rfl hg ?_
        refine zw_push hm_221 dX12_toGrey_21 (v := .inr (.inr (some 94))) rfl ?_
        refine zw_gf hm_221 dX12_toGrey_22 (v := .inr (.inr (some 115))) (zT_is (zT_pi hS) s_94) (zT_t (zT_pi hS) s_94) rfl f_12_77_12 (zT_f (zT_pi hS) r_94_54) ?_
        refine zw_push hm_221 dX12_toGrey_25 (v := .inr (.inr (some 94))) rfl ?_
        refine zw_gf hm_221 dX12_toGrey_26 (v := .inl ((mI S) 94 56)) (zT_is (zT_pi hS) s_94) (zT_t (zT_pi hS) s_94) rfl f_12_264_12 rfl ?_
        refine zw_push hm_221 dX12_toGrey_29 (v := .inl ((mI S) 112 l1.toNatClampNeg)) rfl ?_
        obtain ⟨hg, h⟩ := h
        refine zw_ias hm_221 dX12_toGrey_30 (zT_is (zT_pi hS) s_115) (zT_h (zT_pi hS) s_115) rfl hg ?_
        refine zw_push hm_221 dX12_toGrey_31 (v := .inr (.inr (some 94))) rfl ?_
        refine zw_stk hm_221 dX12_toGrey_32 (st₉ := [.inr (.inr (some 94)), .inr (.inr (some 94))]) rfl rfl ?_
        refine zw_gf hm_221 dX12_toGrey_33 (v := .inl ((mI S) 94 56)) (zT_is (zT_pi (zT_pi hS)) s_94) (zT_t (zT_pi (zT_pi hS)) s_94) rfl f_12_264_12 rfl ?_
        refine zw_push hm_221 dX12_toGrey_36 (v := .inl (1 : Int32)) rfl ?_
        refine zw_stk hm_221 dX12_toGrey_37 (st₉ := [.inl (((mI S) 94 56) + (1 : Int32)), .inr (.inr (some 94))]) rfl rfl ?_
        refine zw_pf hm_221 dX12_toGrey_38 (zT_is (zT_pi (zT_pi hS)) s_94) (zT_t (zT_pi (zT_pi hS)) s_94) p_12_264_12 zk_int ?_
        refine zw_vret hm_221 dX12_toGrey_41 ?_
        show ma_wp X d w 220 18 [(0, .inr (.inr (some 94))), (1, .inl l1)] [] (ma_put (ma_put (ma_put S 106 ((mI S) 112 l1.toNatClampNeg).toNatClampNeg (.inl (1 : Int32))) 115 ((mI S) 94 56).toNatClampNeg (.inl ((mI S) 112 l1.toNatClampNeg))) 94 56 (.inl (((mI S) 94 56) + (1 : Int32)))) _
        refine zw_sto hm_220 dX12_greyRoots_18 [(1, .inl (l1 + (1 : Int32))), (0, .inr (.inr (some 94)))] rfl rfl rfl ?_
        refine zw_goto hm_220 dX12_greyRoots_21 (t := 2) rfl ?_
        exact zw_sub (ma_nd_of (ks := [0, 1]) rfl (by decide)) (ma_nd_of (ks := [1, 0]) rfl (by decide)) (ma_le_cons rfl (ma_le_cons rfl (ma_le_nil _))) (h d w _ Q (by omega) (by omega) (zT_pi (zT_pi (zT_pi hS))) rfl HQ)
      · intro hc
        rw [if_neg hc] at h
        refine zw_vret hm_221 dX12_toGrey_13 ?_
        show ma_wp X d w 220 18 [(0, .inr (.inr (some 94))), (1, .inl l1)] [] S _
        refine zw_sto hm_220 dX12_greyRoots_18 [(1, .inl (l1 + (1 : Int32))), (0, .inr (.inr (some 94)))] rfl rfl rfl ?_
        refine zw_goto hm_220 dX12_greyRoots_21 (t := 2) rfl ?_
        exact zw_sub (ma_nd_of (ks := [0, 1]) rfl (by decide)) (ma_nd_of (ks := [1, 0]) rfl (by decide)) (ma_le_cons rfl (ma_le_cons rfl (ma_le_nil _))) (h d w _ Q (by omega) (by omega) hS rfl HQ)
theorem g_220_26 {X : Nat × (Nat → Int32)} {m : Nat → Nat → Int32} {P : Option ma_V → (Nat → Nat → Int32) → Prop} (l1 : Int32) (h : if (m 94 55) ≤ l1 then (zm X 1 21 220 52 [(0, .inr (.inr (some 94))), (1, .inl (-1 : Int32))] m P) else ((0 ≤ l1 ∧ l1.toNatClampNeg < 3100) ∧ (if (m 114 l1.toNatClampNeg) < 0 then (zm X 1 21 220 26 [(0, .inr (.inr (some 94))), (1, .inl (l1 + (1 : Int32)))] m P) else ((0 ≤ (m 114 l1.toNatClampNeg) ∧ (m 114 l1.toNatClampNeg).toNatClampNeg < 3100) ∧ (if (m 106 (m 114 l1.toNatClampNeg).toNatClampNeg) = 0 then ((0 ≤ (m 114 l1.toNatClampNeg) ∧ (m 114 l1.toNatClampNeg).toNatClampNeg < 3100) ∧ ((0 ≤ (m 94 56) ∧ (m 94 56).toNatClampNeg < 3100) ∧ (zm X 1 21 220 26 [(0, .inr (.inr (some 94))), (1, .inl (l1 + (1 : Int32)))] (ma_u (ma_u (ma_u m 106 (m 114 l1.toNatClampNeg).toNatClampNeg (1 : Int32)) 115 (m 94 56).toNatClampNeg (m 114 l1.toNatClampNeg)) 94 56 ((m 94 56) + (1 : Int32))) P))) else (zm X 1 21 220 26 [(0, .inr (.inr (some 94))), (1, .inl (l1 + (1 : Int32)))] m P)))))) : zm X 1 21 220 26 [(0, .inr (.inr (some 94))), (1, .inl l1)] m P := by
  intro d w S Q hd hw hS hm HQ
  subst hm
  refine zw_push hm_220 dX12_greyRoots_26 (v := .inl l1) rfl ?_
  refine zw_push hm_220 dX12_greyRoots_27 (v := .inr (.inr (some 94))) rfl ?_
  refine zw_gf hm_220 dX12_greyRoots_28 (v := .inl ((mI S) 94 55)) (zT_is hS s_94) (zT_t hS s_94) rfl f_12_261_12 rfl ?_
  refine zw_if2 hm_220 dX12_greyRoots_31 (t := 50) rfl zc2_ge ?_ ?_
  · intro hc
    rw [if_pos hc] at h
    refine zw_push hm_220 dX12_greyRoots_50 (v := .inl (-1 : Int32)) rfl ?_
    refine zw_sto hm_220 dX12_greyRoots_51 [(1, .inl (-1 : Int32)), (0, .inr (.inr (some 94)))] rfl rfl rfl ?_
    exact zw_sub (ma_nd_of (ks := [0, 1]) rfl (by decide)) (ma_nd_of (ks := [1, 0]) rfl (by decide)) (ma_le_cons rfl (ma_le_cons rfl (ma_le_nil _))) (h d w _ Q (by omega) (by omega) hS rfl HQ)
  · intro hc
    rw [if_neg hc] at h
    refine zw_push hm_220 dX12_greyRoots_34 (v := .inr (.inr (some 94))) rfl ?_
    refine zw_push hm_220 dX12_greyRoots_35 (v := .inr (.inr (some 94))) rfl ?_
    refine zw_gf hm_220 dX12_greyRoots_36 (v := .inr (.inr (some 114))) (zT_is hS s_94) (zT_t hS s_94) rfl f_12_74_12 (zT_f hS r_94_53) ?_
    refine zw_push hm_220 dX12_greyRoots_39 (v := .inl l1) rfl ?_
    obtain ⟨hg, h⟩ := h
    refine zw_ia hm_220 dX12_greyRoots_40 (zT_is hS s_114) (zT_h hS s_114) rfl hg ?_
    show ma_wp X d w 220 41 [(0, .inr (.inr (some 94))), (1, .inl l1)] [.inl ((mI S) 114 l1.toNatClampNeg), .inr (.inr (some 94))] S _
    refine zw_cv hm_220 dX12_greyRoots_41 v_12_396_12 hm_221 [.inl ((mI S) 114 l1.toNatClampNeg)] [] rfl (zT_rt hS s_94 rfl) ⟨by omega, by omega⟩ rfl ?_
    show ma_wp X (d - 1) (w - 21) 221 0 [(0, .inr (.inr (some 94))), (1, .inl ((mI S) 114 l1.toNatClampNeg))] [] S _
    refine zw_push hm_221 dX12_toGrey_0 (v := .inl ((mI S) 114 l1.toNatClampNeg)) rfl ?_
    refine zw_if0 hm_221 dX12_toGrey_1 (t := 13) rfl zc0_lt ?_ ?_
    · intro hc
      rw [if_pos hc] at h
      refine zw_vret hm_221 dX12_toGrey_13 ?_
      show ma_wp X d w 220 44 [(0, .inr (.inr (some 94))), (1, .inl l1)] [] S _
      refine zw_sto hm_220 dX12_greyRoots_44 [(1, .inl (l1 + (1 : Int32))), (0, .inr (.inr (some 94)))] rfl rfl rfl ?_
      refine zw_goto hm_220 dX12_greyRoots_47 (t := 26) rfl ?_
      exact zw_sub (ma_nd_of (ks := [0, 1]) rfl (by decide)) (ma_nd_of (ks := [1, 0]) rfl (by decide)) (ma_le_cons rfl (ma_le_cons rfl (ma_le_nil _))) (h d w _ Q (by omega) (by omega) hS rfl HQ)
    · intro hc
      rw [if_neg hc] at h
      refine zw_push hm_221 dX12_toGrey_4 (v := .inr (.inr (some 94))) rfl ?_
      refine zw_gf hm_221 dX12_toGrey_5 (v := .inr (.inr (some 106))) (zT_is hS s_94) (zT_t hS s_94) rfl f_12_49_12 (zT_f hS r_94_38) ?_
      refine zw_push hm_221 dX12_toGrey_8 (v := .inl ((mI S) 114 l1.toNatClampNeg)) rfl ?_
      obtain ⟨hg, h⟩ := h
      refine zw_ia hm_221 dX12_toGrey_9 (zT_is hS s_106) (zT_h hS s_106) rfl hg ?_
      show ma_wp X (d - 1) (w - 21) 221 10 [(0, .inr (.inr (some 94))), (1, .inl ((mI S) 114 l1.toNatClampNeg))] [.inl ((mI S) 106 ((mI S) 114 l1.toNatClampNeg).toNatClampNeg)] S _
      refine zw_if0 hm_221 dX12_toGrey_10 (t := 14) rfl zc0_eq ?_ ?_
      · intro hc
        rw [if_pos hc] at h
        refine zw_push hm_221 dX12_toGrey_14 (v := .inr (.inr (some 94))) rfl ?_
        refine zw_gf hm_221 dX12_toGrey_15 (v := .inr (.inr (some 106))) (zT_is hS s_94) (zT_t hS s_94) rfl f_12_49_12 (zT_f hS r_94_38) ?_
        refine zw_push hm_221 dX12_toGrey_18 (v := .inl ((mI S) 114 l1.toNatClampNeg)) rfl ?_
        refine zw_push hm_221 dX12_toGrey_19 (v := .inl (1 : Int32)) rfl ?_
        obtain ⟨hg, h⟩ := h
        refine zw_ias hm_221 dX12_toGrey_20 (zT_is hS s_106) (zT_h hS s_106) rfl hg ?_
        refine zw_push hm_221 dX12_toGrey_21 (v := .inr (.inr (some 94))) rfl ?_
        refine zw_gf hm_221 dX12_toGrey_22 (v := .inr (.inr (some 115))) (zT_is (zT_pi hS) s_94) (zT_t (zT_pi hS) s_94) rfl f_12_77_12 (zT_f (zT_pi hS) r_94_54) ?_
        refine zw_push hm_221 dX12_toGrey_25 (v := .inr (.inr (some 94))) rfl ?_
        refine zw_gf hm_221 dX12_toGrey_26 (v := .inl ((mI S) 94 56)) (zT_is (zT_pi hS) s_94) (zT_t (zT_pi hS) s_94) rfl f_12_264_12 rfl ?_
        refine zw_push hm_221 dX12_toGrey_29 (v := .inl ((mI S) 114 l1.toNatClampNeg)) rfl ?_
        obtain ⟨hg, h⟩ := h
        refine zw_ias hm_221 dX12_toGrey_30 (zT_is (zT_pi hS) s_115) (zT_h (zT_pi hS) s_115) rfl hg ?_
        refine zw_push hm_221 dX12_toGrey_31 (v := .inr (.inr (some 94))) rfl ?_
        refine zw_stk hm_221 dX12_toGrey_32 (st₉ := [.inr (.inr (some 94)), .inr (.inr (some 94))]) rfl rfl ?_
        refine zw_gf hm_221 dX12_toGrey_33 (v := .inl ((mI S) 94 56)) (zT_is (zT_pi (zT_pi hS)) s_94) (zT_t (zT_pi (zT_pi hS)) s_94) rfl f_12_264_12 rfl ?_
        refine zw_push hm_221 dX12_toGrey_36 (v := .inl (1 : Int32)) rfl ?_
        refine zw_stk hm_221 dX12_toGrey_37 (st₉ := [.inl (((mI S) 94 56) + (1 : Int32)), .inr (.inr (some 94))]) rfl rfl ?_
        refine zw_pf hm_221 dX12_toGrey_38 (zT_is (zT_pi (zT_pi hS)) s_94) (zT_t (zT_pi (zT_pi hS)) s_94) p_12_264_12 zk_int ?_
        refine zw_vret hm_221 dX12_toGrey_41 ?_
        show ma_wp X d w 220 44 [(0, .inr (.inr (some 94))), (1, .inl l1)] [] (ma_put (ma_put (ma_put S 106 ((mI S) 114 l1.toNatClampNeg).toNatClampNeg (.inl (1 : Int32))) 115 ((mI S) 94 56).toNatClampNeg (.inl ((mI S) 114 l1.toNatClampNeg))) 94 56 (.inl (((mI S) 94 56) + (1 : Int32)))) _
        refine zw_sto hm_220 dX12_greyRoots_44 [(1, .inl (l1 + (1 : Int32))), (0, .inr (.inr (some 94)))] rfl rfl rfl ?_
        refine zw_goto hm_220 dX12_greyRoots_47 (t := 26) rfl ?_
        exact zw_sub (ma_nd_of (ks := [0, 1]) rfl (by decide)) (ma_nd_of (ks := [1, 0]) rfl (by decide)) (ma_le_cons rfl (ma_le_cons rfl (ma_le_nil _))) (h d w _ Q (by omega) (by omega) (zT_pi (zT_pi (zT_pi hS))) rfl HQ)
      · intro hc
        rw [if_neg hc] at h
        refine zw_vret hm_221 dX12_toGrey_13 ?_
        show ma_wp X d w 220 44 [(0, .inr (.inr (some 94))), (1, .inl l1)] [] S _
        refine zw_sto hm_220 dX12_greyRoots_44 [(1, .inl (l1 + (1 : Int32))), (0, .inr (.inr (some 94)))] rfl rfl rfl ?_
        refine zw_goto hm_220 dX12_greyRoots_47 (t := 26) rfl ?_
        exact zw_sub (ma_nd_of (ks := [0, 1]) rfl (by decide)) (ma_nd_of (ks := [1, 0]) rfl (by decide)) (ma_le_cons rfl (ma_le_cons rfl (ma_le_nil _))) (h d w _ Q (by omega) (by omega) hS rfl HQ)
theorem g_220_52 {X : Nat × (Nat → Int32)} {m : Nat → Nat → Int32} {P : Option ma_V → (Nat → Nat → Int32) → Prop} (l1 : Int32) (h : if l1 = (-2 : Int32) then (P none m) else (zm X 1 21 220 62 [(0, .inr (.inr (some 94))), (1, .inl l1), (2, .inl (-1 : Int32)), (3, .inl (0 : Int32))] m P)) : zm X 1 21 220 52 [(0, .inr (.inr (some 94))), (1, .inl l1)] m P := by
  intro d w S Q hd hw hS hm HQ
  subst hm
  refine zw_push hm_220 dX12_greyRoots_52 (v := .inl l1) rfl ?_
  refine zw_push hm_220 dX12_greyRoots_53 (v := .inl (-2 : Int32)) rfl ?_
  refine zw_if2 hm_220 dX12_greyRoots_55 (t := 149) rfl zc2_eq ?_ ?_
  · intro hc
    rw [if_pos hc] at h
    exact zw_vret hm_220 dX12_greyRoots_149 (HQ _ _ h)
  · intro hc
    rw [if_neg hc] at h
    refine zw_push hm_220 dX12_greyRoots_58 (v := .inl (-1 : Int32)) rfl ?_
    refine zw_sto hm_220 dX12_greyRoots_59 [(2, .inl (-1 : Int32)), (0, .inr (.inr (some 94))), (1, .inl l1)] rfl rfl rfl ?_
    refine zw_push hm_220 dX12_greyRoots_60 (v := .inl (0 : Int32)) rfl ?_
    refine zw_sto hm_220 dX12_greyRoots_61 [(3, .inl (0 : Int32)), (2, .inl (-1 : Int32)), (0, .inr (.inr (some 94))), (1, .inl l1)] rfl rfl rfl ?_
    exact zw_sub (ma_nd_of (ks := [0, 1, 2, 3]) rfl (by decide)) (ma_nd_of (ks := [3, 2, 0, 1]) rfl (by decide)) (ma_le_cons rfl (ma_le_cons rfl (ma_le_cons rfl (ma_le_cons rfl (ma_le_nil _))))) (h d w _ Q (by omega) (by omega) hS rfl HQ)
theorem g_220_62 {X : Nat × (Nat → Int32)} {m : Nat → Nat → Int32} {P : Option ma_V → (Nat → Nat → Int32) → Prop} (l1 : Int32) (l2 : Int32) (l3 : Int32) (h : if (3100 : Int32) ≤ l3 then (if 0 ≤ l2 then (if l2 < 0 then ((0 ≤ l2 ∧ l2.toNatClampNeg < 3100) ∧ (zm X 1 21 220 52 [(0, .inr (.inr (some 94))), (1, .inl (m 100 l2.toNatClampNeg))] m P)) else ((0 ≤ l2 ∧ l2.toNatClampNeg < 3100) ∧ (if (m 106 l2.toNatClampNeg) = 0 then ((0 ≤ l2 ∧ l2.toNatClampNeg < 3100) ∧ ((0 ≤ (m 94 56) ∧ (m 94 56).toNatClampNeg < 3100) ∧ ((0 ≤ l2 ∧ l2.toNatClampNeg < 3100) ∧ (zm X 1 21 220 52 [(0, .inr (.inr (some 94))), (1, .inl (m 100 l2.toNatClampNeg))] (ma_u (ma_u (ma_u m 106 l2.toNatClampNeg (1 : Int32)) 115 (m 94 56).toNatClampNeg l2) 94 56 ((m 94 56) + (1 : Int32))) P)))) else ((0 ≤ l2 ∧ l2.toNatClampNeg < 3100) ∧ (zm X 1 21 220 52 [(0, .inr (.inr (some 94))), (1, .inl (m 100 l2.toNatClampNeg))] m P))))) else (zm X 1 21 220 52 [(0, .inr (.inr (some 94))), (1, .inl (-2 : Int32))] m P)) else ((0 ≤ l3 ∧ l3.toNatClampNeg < 3100) ∧ (if (m 99 l3.toNatClampNeg) = 0 then (zm X 1 21 220 62 [(0, .inr (.inr (some 94))), (1, .inl l1), (2, .inl l2), (3, .inl (l3 + (1 : Int32)))] m P) else ((0 ≤ l3 ∧ l3.toNatClampNeg < 3100) ∧ (if (m 107 l3.toNatClampNeg) ≤ 0 then (zm X 1 21 220 62 [(0, .inr (.inr (some 94))), (1, .inl l1), (2, .inl l2), (3, .inl (l3 + (1 : Int32)))] m P) else ((0 ≤ l3 ∧ l3.toNatClampNeg < 3100) ∧ (if (m 100 l3.toNatClampNeg) ≤ l1 then (zm X 1 21 220 62 [(0, .inr (.inr (some 94))), (1, .inl l1), (2, .inl l2), (3, .inl (l3 + (1 : Int32)))] m P) else (if l2 < 0 then (zm X 1 21 220 62 [(0, .inr (.inr (some 94))), (1, .inl l1), (2, .inl l3), (3, .inl (l3 + (1 : Int32)))] m P) else ((0 ≤ l3 ∧ l3.toNatClampNeg < 3100) ∧ ((0 ≤ l2 ∧ l2.toNatClampNeg < 3100) ∧ (if (m 100 l2.toNatClampNeg) ≤ (m 100 l3.toNatClampNeg) then (zm X 1 21 220 62 [(0, .inr (.inr (some 94))), (1, .inl l1), (2, .inl l2), (3, .inl (l3 + (1 : Int32)))] m P) else (zm X 1 21 220 62 [(0, .inr (.inr (some 94))), (1, .inl l1), (2, .inl l3), (3, .inl (l3 + (1 : Int32)))] m P)))))))))))) : zm X 1 21 220 62 [(0, .inr (.inr (some 94))), (1, .inl l1), (2, .inl l2), (3, .inl l3)] m P := by
  intro d w S Q hd hw hS hm HQ
  subst hm
  refine zw_push hm_220 dX12_greyRoots_62 (v := .inl l3) rfl ?_
  refine zw_push hm_220 dX12_greyRoots_63 (v := .inl (3100 : Int32)) rfl ?_
  refine zw_if2 hm_220 dX12_greyRoots_66 (t := 124) rfl zc2_ge ?_ ?_
  · intro hc
    rw [if_pos hc] at h
    refine zw_push hm_220 dX12_greyRoots_124 (v := .inl l2) rfl ?_
    refine zw_if0 hm_220 dX12_greyRoots_125 (t := 134) rfl zc0_ge ?_ ?_
    · intro hc
      rw [if_pos hc] at h
      refine zw_push hm_220 dX12_greyRoots_134 (v := .inr (.inr (some 94))) rfl ?_
      refine zw_push hm_220 dX12_greyRoots_135 (v := .inl l2) rfl ?_
      refine zw_cv hm_220 dX12_greyRoots_136 v_12_396_12 hm_221 [.inl l2] [] rfl (zT_rt hS s_94 rfl) ⟨by omega, by omega⟩ rfl ?_
      show ma_wp X (d - 1) (w - 21) 221 0 [(0, .inr (.inr (some 94))), (1, .inl l2)] [] S _
      refine zw_push hm_221 dX12_toGrey_0 (v := .inl l2) rfl ?_
      refine zw_if0 hm_221 dX12_toGrey_1 (t := 13) rfl zc0_lt ?_ ?_
      · intro hc
        rw [if_pos hc] at h
        refine zw_vret hm_221 dX12_toGrey_13 ?_
        show ma_wp X d w 220 139 [(0, .inr (.inr (some 94))), (1, .inl l1), (2, .inl l2), (3, .inl l3)] [] S _
        refine zw_push hm_220 dX12_greyRoots_139 (v := .inr (.inr (some 94))) rfl ?_
        refine zw_gf hm_220 dX12_greyRoots_140 (v := .inr (.inr (some 100))) (zT_is hS s_94) (zT_t hS s_94) rfl f_12_31_12 (zT_f hS r_94_32) ?_
        refine zw_push hm_220 dX12_greyRoots_143 (v := .inl l2) rfl ?_
        obtain ⟨hg, h⟩ := h
        refine zw_ia hm_220 dX12_greyRoots_144 (zT_is hS s_100) (zT_h hS s_100) rfl hg ?_
        show ma_wp X d w 220 145 [(0, .inr (.inr (some 94))), (1, .inl l1), (2, .inl l2), (3, .inl l3)] [.inl ((mI S) 100 l2.toNatClampNeg)] S _
        refine zw_sto hm_220 dX12_greyRoots_145 [(1, .inl ((mI S) 100 l2.toNatClampNeg)), (0, .inr (.inr (some 94))), (2, .inl l2), (3, .inl l3)] rfl rfl rfl ?_
        refine zw_goto hm_220 dX12_greyRoots_146 (t := 52) rfl ?_
        exact zw_sub (ma_nd_of (ks := [0, 1]) rfl (by decide)) (ma_nd_of (ks := [1, 0, 2, 3]) rfl (by decide)) (ma_le_cons rfl (ma_le_cons rfl (ma_le_nil _))) (h d w _ Q (by omega) (by omega) hS rfl HQ)
      · intro hc
        rw [if_neg hc] at h
        refine zw_push hm_221 dX12_toGrey_4 (v := .inr (.inr (some 94))) rfl ?_
        refine zw_gf hm_221 dX12_toGrey_5 (v := .inr (.inr (some 106))) (zT_is hS s_94) (zT_t hS s_94) rfl f_12_49_12 (zT_f hS r_94_38) ?_
        refine zw_push hm_221 dX12_toGrey_8 (v := .inl l2) rfl ?_
        obtain ⟨hg, h⟩ := h
        refine zw_ia hm_221 dX12_toGrey_9 (zT_is hS s_106) (zT_h hS s_106) rfl hg ?_
        show ma_wp X (d - 1) (w - 21) 221 10 [(0, .inr (.inr (some 94))), (1, .inl l2)] [.inl ((mI S) 106 l2.toNatClampNeg)] S _
        refine zw_if0 hm_221 dX12_toGrey_10 (t := 14) rfl zc0_eq ?_ ?_
        · intro hc
          rw [if_pos hc] at h
          refine zw_push hm_221 dX12_toGrey_14 (v := .inr (.inr (some 94))) rfl ?_
          refine zw_gf hm_221 dX12_toGrey_15 (v := .inr (.inr (some 106))) (zT_is hS s_94) (zT_t hS s_94) rfl f_12_49_12 (zT_f hS r_94_38) ?_
          refine zw_push hm_221 dX12_toGrey_18 (v := .inl l2) rfl ?_
          refine zw_push hm_221 dX12_toGrey_19 (v := .inl (1 : Int32)) rfl ?_
          obtain ⟨hg, h⟩ := h
          refine zw_ias hm_221 dX12_toGrey_20 (zT_is hS s_106) (zT_h hS s_106) rfl hg ?_
          refine zw_push hm_221 dX12_toGrey_21 (v := .inr (.inr (some 94))) rfl ?_
          refine zw_gf hm_221 dX12_toGrey_22 (v := .inr (.inr (some 115))) (zT_is (zT_pi hS) s_94) (zT_t (zT_pi hS) s_94) rfl f_12_77_12 (zT_f (zT_pi hS) r_94_54) ?_
          refine zw_push hm_221 dX12_toGrey_25 (v := .inr (.inr (some 94))) rfl ?_
          refine zw_gf hm_221 dX12_toGrey_26 (v := .inl ((mI S) 94 56)) (zT_is (zT_pi hS) s_94) (zT_t (zT_pi hS) s_94) rfl f_12_264_12 rfl ?_
          refine zw_push hm_221 dX12_toGrey_29 (v := .inl l2) rfl ?_
          obtain ⟨hg, h⟩ := h
          refine zw_ias hm_221 dX12_toGrey_30 (zT_is (zT_pi hS) s_115) (zT_h (zT_pi hS) s_115) rfl hg ?_
          refine zw_push hm_221 dX12_toGrey_31 (v := .inr (.inr (some 94))) rfl ?_
          refine zw_stk hm_221 dX12_toGrey_32 (st₉ := [.inr (.inr (some 94)), .inr (.inr (some 94))]) rfl rfl ?_
          refine zw_gf hm_221 dX12_toGrey_33 (v := .inl ((mI S) 94 56)) (zT_is (zT_pi (zT_pi hS)) s_94) (zT_t (zT_pi (zT_pi hS)) s_94) rfl f_12_264_12 rfl ?_
          refine zw_push hm_221 dX12_toGrey_36 (v := .inl (1 : Int32)) rfl ?_
          refine zw_stk hm_221 dX12_toGrey_37 (st₉ := [.inl (((mI S) 94 56) + (1 : Int32)), .inr (.inr (some 94))]) rfl rfl ?_
          refine zw_pf hm_221 dX12_toGrey_38 (zT_is (zT_pi (zT_pi hS)) s_94) (zT_t (zT_pi (zT_pi hS)) s_94) p_12_264_12 zk_int ?_
          refine zw_vret hm_221 dX12_toGrey_41 ?_
          show ma_wp X d w 220 139 [(0, .inr (.inr (some 94))), (1, .inl l1), (2, .inl l2), (3, .inl l3)] [] (ma_put (ma_put (ma_put S 106 l2.toNatClampNeg (.inl (1 : Int32))) 115 ((mI S) 94 56).toNatClampNeg (.inl l2)) 94 56 (.inl (((mI S) 94 56) + (1 : Int32)))) _
          refine zw_push hm_220 dX12_greyRoots_139 (v := .inr (.inr (some 94))) rfl ?_
          refine zw_gf hm_220 dX12_greyRoots_140 (v := .inr (.inr (some 100))) (zT_is (zT_pi (zT_pi (zT_pi hS))) s_94) (zT_t (zT_pi (zT_pi (zT_pi hS))) s_94) rfl f_12_31_12 (zT_f (zT_pi (zT_pi (zT_pi hS))) r_94_32) ?_
          refine zw_push hm_220 dX12_greyRoots_143 (v := .inl l2) rfl ?_
          obtain ⟨hg, h⟩ := h
          refine zw_ia hm_220 dX12_greyRoots_144 (zT_is (zT_pi (zT_pi (zT_pi hS))) s_100) (zT_h (zT_pi (zT_pi (zT_pi hS))) s_100) rfl hg ?_
          show ma_wp X d w 220 145 [(0, .inr (.inr (some 94))), (1, .inl l1), (2, .inl l2), (3, .inl l3)] [.inl ((mI S) 100 l2.toNatClampNeg)] (ma_put (ma_put (ma_put S 106 l2.toNatClampNeg (.inl (1 : Int32))) 115 ((mI S) 94 56).toNatClampNeg (.inl l2)) 94 56 (.inl (((mI S) 94 56) + (1 : Int32)))) _
          refine zw_sto hm_220 dX12_greyRoots_145 [(1, .inl ((mI S) 100 l2.toNatClampNeg)), (0, .inr (.inr (some 94))), (2, .inl l2), (3, .inl l3)] rfl rfl rfl ?_
          refine zw_goto hm_220 dX12_greyRoots_146 (t := 52) rfl ?_
          exact zw_sub (ma_nd_of (ks := [0, 1]) rfl (by decide)) (ma_nd_of (ks := [1, 0, 2, 3]) rfl (by decide)) (ma_le_cons rfl (ma_le_cons rfl (ma_le_nil _))) (h d w _ Q (by omega) (by omega) (zT_pi (zT_pi (zT_pi hS))) rfl HQ)
        · intro hc
          rw [if_neg hc] at h
          refine zw_vret hm_221 dX12_toGrey_13 ?_
          show ma_wp X d w 220 139 [(0, .inr (.inr (some 94))), (1, .inl l1), (2, .inl l2), (3, .inl l3)] [] S _
          refine zw_push hm_220 dX12_greyRoots_139 (v := .inr (.inr (some 94))) rfl ?_
          refine zw_gf hm_220 dX12_greyRoots_140 (v := .inr (.inr (some 100))) (zT_is hS s_94) (zT_t hS s_94) rfl f_12_31_12 (zT_f hS r_94_32) ?_
          refine zw_push hm_220 dX12_greyRoots_143 (v := .inl l2) rfl ?_
          obtain ⟨hg, h⟩ := h
          refine zw_ia hm_220 dX12_greyRoots_144 (zT_is hS s_100) (zT_h hS s_100) rfl hg ?_
          show ma_wp X d w 220 145 [(0, .inr (.inr (some 94))), (1, .inl l1), (2, .inl l2), (3, .inl l3)] [.inl ((mI S) 100 l2.toNatClampNeg)] S _
          refine zw_sto hm_220 dX12_greyRoots_145 [(1, .inl ((mI S) 100 l2.toNatClampNeg)), (0, .inr (.inr (some 94))), (2, .inl l2), (3, .inl l3)] rfl rfl rfl ?_
          refine zw_goto hm_220 dX12_greyRoots_146 (t := 52) rfl ?_
          exact zw_sub (ma_nd_of (ks := [0, 1]) rfl (by decide)) (ma_nd_of (ks := [1, 0, 2, 3]) rfl (by decide)) (ma_le_cons rfl (ma_le_cons rfl (ma_le_nil _))) (h d w _ Q (by omega) (by omega) hS rfl HQ)
    · intro hc
      rw [if_neg hc] at h
      refine zw_push hm_220 dX12_greyRoots_128 (v := .inl (-2 : Int32)) rfl ?_
      refine zw_sto hm_220 dX12_greyRoots_130 [(1, .inl (-2 : Int32)), (0, .inr (.inr (some 94))), (2, .inl l2), (3, .inl l3)] rfl rfl rfl ?_
      refine zw_goto hm_220 dX12_greyRoots_131 (t := 146) rfl ?_
      refine zw_goto hm_220 dX12_greyRoots_146 (t := 52) rfl ?_
      exact zw_sub (ma_nd_of (ks := [0, 1]) rfl (by decide)) (ma_nd_of (ks := [1, 0, 2, 3]) rfl (by decide)) (ma_le_cons rfl (ma_le_cons rfl (ma_le_nil _))) (h d w _ Q (by omega) (by omega) hS rfl HQ)
  · intro hc
    rw [if_neg hc] at h
    refine zw_push hm_220 dX12_greyRoots_69 (v := .inr (.inr (some 94))) rfl ?_
    refine zw_gf hm_220 dX12_greyRoots_70 (v := .inr (.inr (some 99))) (zT_is hS s_94) (zT_t hS s_94) rfl f_12_27_12 (zT_f hS r_94_31) ?_
    refine zw_push hm_220 dX12_greyRoots_73 (v := .inl l3) rfl ?_
    obtain ⟨hg, h⟩ := h
    refine zw_ba hm_220 dX12_greyRoots_74 (zT_is hS s_99) (zT_h hS s_99) rfl rfl hg ?_
    show ma_wp X d w 220 75 [(0, .inr (.inr (some 94))), (1, .inl l1), (2, .inl l2), (3, .inl l3)] [.inl ((mI S) 99 l3.toNatClampNeg)] S _
    refine zw_if0 hm_220 dX12_greyRoots_75 (t := 118) rfl zc0_eq ?_ ?_
    · intro hc
      rw [if_pos hc] at h
      refine zw_sto hm_220 dX12_greyRoots_118 [(3, .inl (l3 + (1 : Int32))), (0, .inr (.inr (some 94))), (1, .inl l1), (2, .inl l2)] rfl rfl rfl ?_
      refine zw_goto hm_220 dX12_greyRoots_121 (t := 62) rfl ?_
      exact zw_sub (ma_nd_of (ks := [0, 1, 2, 3]) rfl (by decide)) (ma_nd_of (ks := [3, 0, 1, 2]) rfl (by decide)) (ma_le_cons rfl (ma_le_cons rfl (ma_le_cons rfl (ma_le_cons rfl (ma_le_nil _))))) (h d w _ Q (by omega) (by omega) hS rfl HQ)
    · intro hc
      rw [if_neg hc] at h
      refine zw_push hm_220 dX12_greyRoots_78 (v := .inr (.inr (some 94))) rfl ?_
      refine zw_gf hm_220 dX12_greyRoots_79 (v := .inr (.inr (some 107))) (zT_is hS s_94) (zT_t hS s_94) rfl f_12_52_12 (zT_f hS r_94_39) ?_
      refine zw_push hm_220 dX12_greyRoots_82 (v := .inl l3) rfl ?_
      obtain ⟨hg, h⟩ := h
      refine zw_ia hm_220 dX12_greyRoots_83 (zT_is hS s_107) (zT_h hS s_107) rfl hg ?_
      show ma_wp X d w 220 84 [(0, .inr (.inr (some 94))), (1, .inl l1), (2, .inl l2), (3, .inl l3)] [.inl ((mI S) 107 l3.toNatClampNeg)] S _
      refine zw_if0 hm_220 dX12_greyRoots_84 (t := 118) rfl zc0_le ?_ ?_
      · intro hc
        rw [if_pos hc] at h
        refine zw_sto hm_220 dX12_greyRoots_118 [(3, .inl (l3 + (1 : Int32))), (0, .inr (.inr (some 94))), (1, .inl l1), (2, .inl l2)] rfl rfl rfl ?_
        refine zw_goto hm_220 dX12_greyRoots_121 (t := 62) rfl ?_
        exact zw_sub (ma_nd_of (ks := [0, 1, 2, 3]) rfl (by decide)) (ma_nd_of (ks := [3, 0, 1, 2]) rfl (by decide)) (ma_le_cons rfl (ma_le_cons rfl (ma_le_cons rfl (ma_le_cons rfl (ma_le_nil _))))) (h d w _ Q (by omega) (by omega) hS rfl HQ)
      · intro hc
        rw [if_neg hc] at h
        refine zw_push hm_220 dX12_greyRoots_87 (v := .inr (.inr (some 94))) rfl ?_
        refine zw_gf hm_220 dX12_greyRoots_88 (v := .inr (.inr (some 100))) (zT_is hS s_94) (zT_t hS s_94) rfl f_12_31_12 (zT_f hS r_94_32) ?_
        refine zw_push hm_220 dX12_greyRoots_91 (v := .inl l3) rfl ?_
        obtain ⟨hg, h⟩ := h
        refine zw_ia hm_220 dX12_greyRoots_92 (zT_is hS s_100) (zT_h hS s_100) rfl hg ?_
        show ma_wp X d w 220 93 [(0, .inr (.inr (some 94))), (1, .inl l1), (2, .inl l2), (3, .inl l3)] [.inl ((mI S) 100 l3.toNatClampNeg)] S _
        refine zw_push hm_220 dX12_greyRoots_93 (v := .inl l1) rfl ?_
        refine zw_if2 hm_220 dX12_greyRoots_94 (t := 118) rfl zc2_le ?_ ?_
        · intro hc
          rw [if_pos hc] at h
          refine zw_sto hm_220 dX12_greyRoots_118 [(3, .inl (l3 + (1 : Int32))), (0, .inr (.inr (some 94))), (1, .inl l1), (2, .inl l2)] rfl rfl rfl ?_
          refine zw_goto hm_220 dX12_greyRoots_121 (t := 62) rfl ?_
          exact zw_sub (ma_nd_of (ks := [0, 1, 2, 3]) rfl (by decide)) (ma_nd_of (ks := [3, 0, 1, 2]) rfl (by decide)) (ma_le_cons rfl (ma_le_cons rfl (ma_le_cons rfl (ma_le_cons rfl (ma_le_nil _))))) (h d w _ Q (by omega) (by omega) hS rfl HQ)
        · intro hc
          rw [if_neg hc] at h
          refine zw_push hm_220 dX12_greyRoots_97 (v := .inl l2) rfl ?_
          refine zw_if0 hm_220 dX12_greyRoots_98 (t := 116) rfl zc0_lt ?_ ?_
          · intro hc
            rw [if_pos hc] at h
            refine zw_push hm_220 dX12_greyRoots_116 (v := .inl l3) rfl ?_
            refine zw_sto hm_220 dX12_greyRoots_117 [(2, .inl l3), (0, .inr (.inr (some 94))), (1, .inl l1), (3, .inl l3)] rfl rfl rfl ?_
            refine zw_sto hm_220 dX12_greyRoots_118 [(3, .inl (l3 + (1 : Int32))), (2, .inl l3), (0, .inr (.inr (some 94))), (1, .inl l1)] rfl rfl rfl ?_
            refine zw_goto hm_220 dX12_greyRoots_121 (t := 62) rfl ?_
            exact zw_sub (ma_nd_of (ks := [0, 1, 2, 3]) rfl (by decide)) (ma_nd_of (ks := [3, 2, 0, 1]) rfl (by decide)) (ma_le_cons rfl (ma_le_cons rfl (ma_le_cons rfl (ma_le_cons rfl (ma_le_nil _))))) (h d w _ Q (by omega) (by omega) hS rfl HQ)
          · intro hc
            rw [if_neg hc] at h
            refine zw_push hm_220 dX12_greyRoots_101 (v := .inr (.inr (some 94))) rfl ?_
            refine zw_gf hm_220 dX12_greyRoots_102 (v := .inr (.inr (some 100))) (zT_is hS s_94) (zT_t hS s_94) rfl f_12_31_12 (zT_f hS r_94_32) ?_
            refine zw_push hm_220 dX12_greyRoots_105 (v := .inl l3) rfl ?_
            obtain ⟨hg, h⟩ := h
            refine zw_ia hm_220 dX12_greyRoots_106 (zT_is hS s_100) (zT_h hS s_100) rfl hg ?_
            show ma_wp X d w 220 107 [(0, .inr (.inr (some 94))), (1, .inl l1), (2, .inl l2), (3, .inl l3)] [.inl ((mI S) 100 l3.toNatClampNeg)] S _
            refine zw_push hm_220 dX12_greyRoots_107 (v := .inr (.inr (some 94))) rfl ?_
            refine zw_gf hm_220 dX12_greyRoots_108 (v := .inr (.inr (some 100))) (zT_is hS s_94) (zT_t hS s_94) rfl f_12_31_12 (zT_f hS r_94_32) ?_
            refine zw_push hm_220 dX12_greyRoots_111 (v := .inl l2) rfl ?_
            obtain ⟨hg, h⟩ := h
            refine zw_ia hm_220 dX12_greyRoots_112 (zT_is hS s_100) (zT_h hS s_100) rfl hg ?_
            show ma_wp X d w 220 113 [(0, .inr (.inr (some 94))), (1, .inl l1), (2, .inl l2), (3, .inl l3)] [.inl ((mI S) 100 l2.toNatClampNeg), .inl ((mI S) 100 l3.toNatClampNeg)] S _
            refine zw_if2 hm_220 dX12_greyRoots_113 (t := 118) rfl zc2_ge ?_ ?_
            · intro hc
              rw [if_pos hc] at h
              refine zw_sto hm_220 dX12_greyRoots_118 [(3, .inl (l3 + (1 : Int32))), (0, .inr (.inr (some 94))), (1, .inl l1), (2, .inl l2)] rfl rfl rfl ?_
              refine zw_goto hm_220 dX12_greyRoots_121 (t := 62) rfl ?_
              exact zw_sub (ma_nd_of (ks := [0, 1, 2, 3]) rfl (by decide)) (ma_nd_of (ks := [3, 0, 1, 2]) rfl (by decide)) (ma_le_cons rfl (ma_le_cons rfl (ma_le_cons rfl (ma_le_cons rfl (ma_le_nil _))))) (h d w _ Q (by omega) (by omega) hS rfl HQ)
            · intro hc
              rw [if_neg hc] at h
              refine zw_push hm_220 dX12_greyRoots_116 (v := .inl l3) rfl ?_
              refine zw_sto hm_220 dX12_greyRoots_117 [(2, .inl l3), (0, .inr (.inr (some 94))), (1, .inl l1), (3, .inl l3)] rfl rfl rfl ?_
              refine zw_sto hm_220 dX12_greyRoots_118 [(3, .inl (l3 + (1 : Int32))), (2, .inl l3), (0, .inr (.inr (some 94))), (1, .inl l1)] rfl rfl rfl ?_
              refine zw_goto hm_220 dX12_greyRoots_121 (t := 62) rfl ?_
              exact zw_sub (ma_nd_of (ks := [0, 1, 2, 3]) rfl (by decide)) (ma_nd_of (ks := [3, 2, 0, 1]) rfl (by decide)) (ma_le_cons rfl (ma_le_cons rfl (ma_le_cons rfl (ma_le_cons rfl (ma_le_nil _))))) (h d w _ Q (by omega) (by omega) hS rfl HQ)
theorem lp_220_62 {X : Nat × (Nat → Int32)} {P : Option ma_V → (Nat → Nat → Int32) → Prop} {m0 : Nat → Nat → Int32} (h0 : zV m0) (K : ∀ m₉, zF wr_220 m0 m₉ → zV m₉ → (zG1 (m₉ 94 56) (m₉ 94 57) (m₉ 106)) → ((m0 94 56).toInt ≤ (m₉ 94 56).toInt) → P none m₉) {n52 : Nat} (OUT52 : ∀ (m₉ : Nat → Nat → Int32) (l1 : Int32), (100002 - (l1.toInt + 1) % 100003).toNat < n52 → zF wr_220 m0 m₉ → zV m₉ → (-2 ≤ l1.toInt) → (l1.toInt ≤ 100000) → (zG1 (m₉ 94 56) (m₉ 94 57) (m₉ 106)) → ((m0 94 56).toInt ≤ (m₉ 94 56).toInt) → zm X 1 21 220 52 [(0, .inr (.inr (some 94))), (1, .inl l1)] m₉ P) : ∀ (n : Nat) (m : Nat → Nat → Int32) (l1 : Int32) (l2 : Int32) (l3 : Int32), (3100 - l3.toInt).toNat = n → zF wr_220 m0 m → zV m → (-1 ≤ l1.toInt) → (l1.toInt ≤ 100000) → (0 ≤ l3.toInt) → (-1 ≤ l2.toInt) → (l2.toInt ≤ 3099) → ((100002 - (l1.toInt + 1) % 100003).toNat = n52) → (l2.toInt < 0 ∨ l1.toInt < ((m 100) l2.toNatClampNeg).toInt) → (zG1 (m 94 56) (m 94 57) (m 106)) → ((m0 94 56).toInt ≤ (m 94 56).toInt) → zm X 1 21 220 62 [(0, .inr (.inr (some 94))), (1, .inl l1), (2, .inl l2), (3, .inl l3)] m P := by
  intro n
  induction n using Nat.strongRecOn with
  | _ n IH =>
    intro m l1 l2 l3 hmu hF hV hi0 hi1 hi2 hi3 hi4 hi5 r_NB r_G1 hi8
    refine g_220_62 l1 l2 l3 ?_
    have f1 : 0 ≤ (m0 94 56).toInt ∧ (m0 94 56).toInt ≤ 3100 := rs_94_56 (m := m0) h0
    have f2 : 0 ≤ (m 94 56).toInt ∧ (m 94 56).toInt ≤ 3100 := rs_94_56 (m := m) hV
    have li3 : (3100 : Int32).toInt = 3100 := rfl
    have b4 := i_bd l3
    refine zd (fun (h5 : (3100 : Int32) ≤ l3) => ?_) (fun (h5 : ¬ (3100 : Int32) ≤ l3) => ?_)
    · skip
      have g6 := i_le h5
      have li7 : (0 : Int32).toInt = 0 := rfl
      have b8 := i_bd l2
      refine zd (fun (h9 : (0 : Int32) ≤ l2) => ?_) (fun (h9 : ¬ (0 : Int32) ≤ l2) => ?_)
      · skip
        have g10 := i_le h9
        refine zd (fun (h11 : l2 < (0 : Int32)) => ?_) (fun (h11 : ¬ l2 < (0 : Int32)) => ?_)
        · skip
          have g12 := i_lt h11
          have hg13 : (0 ≤ l2 ∧ l2.toNatClampNeg < 3100) := i_ix (by omega) (by omega)
          refine ⟨hg13, ?_⟩
          try have nb := r_NB
          first | have f14 : 0 ≤ (m 100 l2.toNatClampNeg).toInt ∧ (m 100 l2.toNatClampNeg).toInt ≤ 100000 := ra_100 (m := m) hV (k := l2.toNatClampNeg) (i_ix (n := 3100) (by omega) (by omega)).2 | have b15 := i_bd (m 100 l2.toNatClampNeg)
          exact OUT52 _ ((m 100 l2.toNatClampNeg)) (show (100002 - ((m 100 l2.toNatClampNeg).toInt + 1) % 100003).toNat < n52 from by omega) hF hV (by omega) (by omega) r_G1 (show (m0 94 56).toInt ≤ (m 94 56).toInt from by omega)
        · skip
          have g16 := i_nlt h11
          have hg17 : (0 ≤ l2 ∧ l2.toNatClampNeg < 3100) := i_ix (by omega) (by omega)
          refine ⟨hg17, ?_⟩
          have b18 := i_bd (m 106 l2.toNatClampNeg)
          refine zd (fun (h19 : (m 106 l2.toNatClampNeg) = (0 : Int32)) => ?_) (fun (h19 : ¬ (m 106 l2.toNatClampNeg) = (0 : Int32)) => ?_)
          · skip
            have g20 := i_eq h19
            have hg21 : (0 ≤ l2 ∧ l2.toNatClampNeg < 3100) := i_ix (by omega) (by omega)
            refine ⟨hg21, ?_⟩
            try have gk := G1_room r_G1 (by assumption) (by omega)
            have hg22 : (0 ≤ (m 94 56) ∧ (m 94 56).toNatClampNeg < 3100) := i_ix (by omega) (by omega)
            refine ⟨hg22, ?_⟩
            have hg23 : (0 ≤ l2 ∧ l2.toNatClampNeg < 3100) := i_ix (by omega) (by omega)
            refine ⟨hg23, ?_⟩
            try have nb := r_NB
            have hV24 : zV (ma_u m 106 l2.toNatClampNeg (1 : Int32)) := ua_106 hV
            have hV25 : zV (ma_u (ma_u m 106 l2.toNatClampNeg (1 : Int32)) 115 (m 94 56).toNatClampNeg l2) := ua_115 hV24 (by omega) (by omega)
            first | have e27 : ((m 94 56) + (1 : Int32)).toInt = (m 94 56).toInt + (1) := i_addk rfl (by omega) (by omega) | have b28 := i_bd ((m 94 56) + (1 : Int32))
            have hV26 : zV (ma_u (ma_u (ma_u m 106 l2.toNatClampNeg (1 : Int32)) 115 (m 94 56).toNatClampNeg l2) 94 56 ((m 94 56) + (1 : Int32))) := us_94_56 hV25 (by omega) (by omega)
            first | have f29 : 0 ≤ (m 100 l2.toNatClampNeg).toInt ∧ (m 100 l2.toNatClampNeg).toInt ≤ 100000 := ra_100 (m := m) hV (k := l2.toNatClampNeg) (i_ix (n := 3100) (by omega) (by omega)).2 | have b30 := i_bd (m 100 l2.toNatClampNeg)
            exact OUT52 _ ((m 100 l2.toNatClampNeg)) (show (100002 - ((m 100 l2.toNatClampNeg).toInt + 1) % 100003).toNat < n52 from by omega) (zF_u (zF_u (zF_u hF rfl) rfl) rfl) hV26 (by omega) (by omega) (show zG1 ((m 94 56) + (1 : Int32)) (m 94 57) ((ma_u m 106 l2.toNatClampNeg (1 : Int32)) 106) from by first | (exact G1_push r_G1 (by assumption) (by omega) (by decide) (by assumption)) | (exact G1_dark0 r_G1 (by decide)) | (exfalso; omega; done) | (exfalso; contradiction; done)) (show (m0 94 56).toInt ≤ ((m 94 56) + (1 : Int32)).toInt from by omega)
          · skip
            have g31 := i_ne h19
            have hg32 : (0 ≤ l2 ∧ l2.toNatClampNeg < 3100) := i_ix (by omega) (by omega)
            refine ⟨hg32, ?_⟩
            try have nb := r_NB
            first | have f33 : 0 ≤ (m 100 l2.toNatClampNeg).toInt ∧ (m 100 l2.toNatClampNeg).toInt ≤ 100000 := ra_100 (m := m) hV (k := l2.toNatClampNeg) (i_ix (n := 3100) (by omega) (by omega)).2 | have b34 := i_bd (m 100 l2.toNatClampNeg)
            exact OUT52 _ ((m 100 l2.toNatClampNeg)) (show (100002 - ((m 100 l2.toNatClampNeg).toInt + 1) % 100003).toNat < n52 from by omega) hF hV (by omega) (by omega) r_G1 (show (m0 94 56).toInt ≤ (m 94 56).toInt from by omega)
      · skip
        have g35 := i_nle h9
        try have nb := r_NB
        have li36 : (-2 : Int32).toInt = -2 := rfl
        exact OUT52 _ ((-2 : Int32)) (show (100002 - ((-2 : Int32).toInt + 1) % 100003).toNat < n52 from by omega) hF hV (by omega) (by omega) r_G1 (show (m0 94 56).toInt ≤ (m 94 56).toInt from by omega)
    · skip
      have g37 := i_nle h5
      have hg38 : (0 ≤ l3 ∧ l3.toNatClampNeg < 3100) := i_ix (by omega) (by omega)
      refine ⟨hg38, ?_⟩
      first | have f39 : 0 ≤ (m 99 l3.toNatClampNeg).toInt ∧ (m 99 l3.toNatClampNeg).toInt ≤ 1 := ra_99 (m := m) hV (k := l3.toNatClampNeg) (i_ix (n := 3100) (by omega) (by omega)).2 | have b40 := i_bd (m 99 l3.toNatClampNeg)
      have li41 : (0 : Int32).toInt = 0 := rfl
      refine zd (fun (h42 : (m 99 l3.toNatClampNeg) = (0 : Int32)) => ?_) (fun (h42 : ¬ (m 99 l3.toNatClampNeg) = (0 : Int32)) => ?_)
      · skip
        have g43 := i_eq h42
        try have nb := r_NB
        have b44 := i_bd l1
        have b45 := i_bd l2
        first | have e46 : (l3 + (1 : Int32)).toInt = l3.toInt + (1) := i_addk rfl (by omega) (by omega) | have b47 := i_bd (l3 + (1 : Int32))
        exact IH (3100 - (l3 + (1 : Int32)).toInt).toNat (by omega) _ (l1) (l2) ((l3 + (1 : Int32))) rfl hF hV (by omega) (by omega) (by omega) (by omega) (by omega) (show (100002 - (l1.toInt + 1) % 100003).toNat = n52 from by omega) r_NB r_G1 (show (m0 94 56).toInt ≤ (m 94 56).toInt from by omega)
      · skip
        have g48 := i_ne h42
        have hg49 : (0 ≤ l3 ∧ l3.toNatClampNeg < 3100) := i_ix (by omega) (by omega)
        refine ⟨hg49, ?_⟩
        have b50 := i_bd (m 107 l3.toNatClampNeg)
        refine zd (fun (h51 : (m 107 l3.toNatClampNeg) ≤ (0 : Int32)) => ?_) (fun (h51 : ¬ (m 107 l3.toNatClampNeg) ≤ (0 : Int32)) => ?_)
        · skip
          have g52 := i_le h51
          try have nb := r_NB
          have b53 := i_bd l1
          have b54 := i_bd l2
          first | have e55 : (l3 + (1 : Int32)).toInt = l3.toInt + (1) := i_addk rfl (by omega) (by omega) | have b56 := i_bd (l3 + (1 : Int32))
          exact IH (3100 - (l3 + (1 : Int32)).toInt).toNat (by omega) _ (l1) (l2) ((l3 + (1 : Int32))) rfl hF hV (by omega) (by omega) (by omega) (by omega) (by omega) (show (100002 - (l1.toInt + 1) % 100003).toNat = n52 from by omega) r_NB r_G1 (show (m0 94 56).toInt ≤ (m 94 56).toInt from by omega)
        · skip
          have g57 := i_nle h51
          have hg58 : (0 ≤ l3 ∧ l3.toNatClampNeg < 3100) := i_ix (by omega) (by omega)
          refine ⟨hg58, ?_⟩
          first | have f59 : 0 ≤ (m 100 l3.toNatClampNeg).toInt ∧ (m 100 l3.toNatClampNeg).toInt ≤ 100000 := ra_100 (m := m) hV (k := l3.toNatClampNeg) (i_ix (n := 3100) (by omega) (by omega)).2 | have b60 := i_bd (m 100 l3.toNatClampNeg)
          have b61 := i_bd l1
          refine zd (fun (h62 : (m 100 l3.toNatClampNeg) ≤ l1) => ?_) (fun (h62 : ¬ (m 100 l3.toNatClampNeg) ≤ l1) => ?_)
          · skip
            have g63 := i_le h62
            try have nb := r_NB
            have b64 := i_bd l2
            first | have e65 : (l3 + (1 : Int32)).toInt = l3.toInt + (1) := i_addk rfl (by omega) (by omega) | have b66 := i_bd (l3 + (1 : Int32))
            exact IH (3100 - (l3 + (1 : Int32)).toInt).toNat (by omega) _ (l1) (l2) ((l3 + (1 : Int32))) rfl hF hV (by omega) (by omega) (by omega) (by omega) (by omega) (show (100002 - (l1.toInt + 1) % 100003).toNat = n52 from by omega) r_NB r_G1 (show (m0 94 56).toInt ≤ (m 94 56).toInt from by omega)
          · skip
            have g67 := i_nle h62
            have b68 := i_bd l2
            refine zd (fun (h69 : l2 < (0 : Int32)) => ?_) (fun (h69 : ¬ l2 < (0 : Int32)) => ?_)
            · skip
              have g70 := i_lt h69
              try have nb := r_NB
              first | have e71 : (l3 + (1 : Int32)).toInt = l3.toInt + (1) := i_addk rfl (by omega) (by omega) | have b72 := i_bd (l3 + (1 : Int32))
              exact IH (3100 - (l3 + (1 : Int32)).toInt).toNat (by omega) _ (l1) (l3) ((l3 + (1 : Int32))) rfl hF hV (by omega) (by omega) (by omega) (by omega) (by omega) (show (100002 - (l1.toInt + 1) % 100003).toNat = n52 from by omega) (show l3.toInt < 0 ∨ l1.toInt < ((m 100) l3.toNatClampNeg).toInt from by first | (exact Or.inl (by decide)) | (exact Or.inr (by omega)) | (exfalso; omega; done) | (exfalso; contradiction; done)) r_G1 (show (m0 94 56).toInt ≤ (m 94 56).toInt from by omega)
            · skip
              have g73 := i_nlt h69
              have hg74 : (0 ≤ l3 ∧ l3.toNatClampNeg < 3100) := i_ix (by omega) (by omega)
              refine ⟨hg74, ?_⟩
              have hg75 : (0 ≤ l2 ∧ l2.toNatClampNeg < 3100) := i_ix (by omega) (by omega)
              refine ⟨hg75, ?_⟩
              first | have f76 : 0 ≤ (m 100 l2.toNatClampNeg).toInt ∧ (m 100 l2.toNatClampNeg).toInt ≤ 100000 := ra_100 (m := m) hV (k := l2.toNatClampNeg) (i_ix (n := 3100) (by omega) (by omega)).2 | have b77 := i_bd (m 100 l2.toNatClampNeg)
              refine zd (fun (h78 : (m 100 l2.toNatClampNeg) ≤ (m 100 l3.toNatClampNeg)) => ?_) (fun (h78 : ¬ (m 100 l2.toNatClampNeg) ≤ (m 100 l3.toNatClampNeg)) => ?_)
              · skip
                have g79 := i_le h78
                try have nb := r_NB
                first | have e80 : (l3 + (1 : Int32)).toInt = l3.toInt + (1) := i_addk rfl (by omega) (by omega) | have b81 := i_bd (l3 + (1 : Int32))
                exact IH (3100 - (l3 + (1 : Int32)).toInt).toNat (by omega) _ (l1) (l2) ((l3 + (1 : Int32))) rfl hF hV (by omega) (by omega) (by omega) (by omega) (by omega) (show (100002 - (l1.toInt + 1) % 100003).toNat = n52 from by omega) r_NB r_G1 (show (m0 94 56).toInt ≤ (m 94 56).toInt from by omega)
              · skip
                have g82 := i_nle h78
                try have nb := r_NB
                first | have e83 : (l3 + (1 : Int32)).toInt = l3.toInt + (1) := i_addk rfl (by omega) (by omega) | have b84 := i_bd (l3 + (1 : Int32))
                exact IH (3100 - (l3 + (1 : Int32)).toInt).toNat (by omega) _ (l1) (l3) ((l3 + (1 : Int32))) rfl hF hV (by omega) (by omega) (by omega) (by omega) (by omega) (show (100002 - (l1.toInt + 1) % 100003).toNat = n52 from by omega) (show l3.toInt < 0 ∨ l1.toInt < ((m 100) l3.toNatClampNeg).toInt from by first | (exact Or.inl (by decide)) | (exact Or.inr (by omega)) | (exfalso; omega; done) | (exfalso; contradiction; done)) r_G1 (show (m0 94 56).toInt ≤ (m 94 56).toInt from by omega)
theorem lp_220_52 {X : Nat × (Nat → Int32)} {P : Option ma_V → (Nat → Nat → Int32) → Prop} {m0 : Nat → Nat → Int32} (h0 : zV m0) (K : ∀ m₉, zF wr_220 m0 m₉ → zV m₉ → (zG1 (m₉ 94 56) (m₉ 94 57) (m₉ 106)) → ((m0 94 56).toInt ≤ (m₉ 94 56).toInt) → P none m₉) : ∀ (n : Nat) (m : Nat → Nat → Int32) (l1 : Int32), (100002 - (l1.toInt + 1) % 100003).toNat = n → zF wr_220 m0 m → zV m → (-2 ≤ l1.toInt) → (l1.toInt ≤ 100000) → (zG1 (m 94 56) (m 94 57) (m 106)) → ((m0 94 56).toInt ≤ (m 94 56).toInt) → zm X 1 21 220 52 [(0, .inr (.inr (some 94))), (1, .inl l1)] m P := by
  intro n
  induction n using Nat.strongRecOn with
  | _ n IH =>
    intro m l1 hmu hF hV hi0 hi1 r_G1 hi3
    refine g_220_52 l1 ?_
    have f1 : 0 ≤ (m0 94 56).toInt ∧ (m0 94 56).toInt ≤ 3100 := rs_94_56 (m := m0) h0
    have f2 : 0 ≤ (m 94 56).toInt ∧ (m 94 56).toInt ≤ 3100 := rs_94_56 (m := m) hV
    have b3 := i_bd l1
    have li4 : (-2 : Int32).toInt = -2 := rfl
    refine zd (fun (h5 : l1 = (-2 : Int32)) => ?_) (fun (h5 : ¬ l1 = (-2 : Int32)) => ?_)
    · skip
      have g6 := i_eq h5
      exact K _ hF hV r_G1 (show (m0 94 56).toInt ≤ (m 94 56).toInt from by omega)
    · skip
      have g7 := i_ne h5
      have li8 : (-1 : Int32).toInt = -1 := rfl
      have li9 : (0 : Int32).toInt = 0 := rfl
      exact lp_220_62 h0 K (fun _ _ z1 z2 z3 y0 y1 y2 y3 => IH _ z1 _ _ rfl z2 z3 y0 y1 y2 y3) _ _ (l1) ((-1 : Int32)) ((0 : Int32)) rfl hF hV (by omega) (by omega) (by omega) (by omega) (by omega) (show (100002 - (l1.toInt + 1) % 100003).toNat = n from by omega) (show (-1 : Int32).toInt < 0 ∨ l1.toInt < ((m 100) (-1 : Int32).toNatClampNeg).toInt from by first | (exact Or.inl (by decide)) | (exact Or.inr (by omega)) | (exfalso; omega; done) | (exfalso; contradiction; done)) r_G1 (show (m0 94 56).toInt ≤ (m 94 56).toInt from by omega)
theorem lp_220_26 {X : Nat × (Nat → Int32)} {P : Option ma_V → (Nat → Nat → Int32) → Prop} {m0 : Nat → Nat → Int32} (h0 : zV m0) (K : ∀ m₉, zF wr_220 m0 m₉ → zV m₉ → (zG1 (m₉ 94 56) (m₉ 94 57) (m₉ 106)) → ((m0 94 56).toInt ≤ (m₉ 94 56).toInt) → P none m₉) : ∀ (n : Nat) (m : Nat → Nat → Int32) (l1 : Int32), (3100 - l1.toInt).toNat = n → zF wr_220 m0 m → zV m → (0 ≤ l1.toInt) → (zG1 (m 94 56) (m 94 57) (m 106)) → ((m0 94 56).toInt ≤ (m 94 56).toInt) → zm X 1 21 220 26 [(0, .inr (.inr (some 94))), (1, .inl l1)] m P := by
  intro n
  induction n using Nat.strongRecOn with
  | _ n IH =>
    intro m l1 hmu hF hV hi0 r_G1 hi2
    refine g_220_26 l1 ?_
    have f1 : 0 ≤ (m0 94 56).toInt ∧ (m0 94 56).toInt ≤ 3100 := rs_94_56 (m := m0) h0
    have f2 : 0 ≤ (m 94 56).toInt ∧ (m 94 56).toInt ≤ 3100 := rs_94_56 (m := m) hV
    have f3 : 0 ≤ (m 94 55).toInt ∧ (m 94 55).toInt ≤ 3100 := rs_94_55 (m := m) hV
    have b4 := i_bd l1
    refine zd (fun (h5 : (m 94 55) ≤ l1) => ?_) (fun (h5 : ¬ (m 94 55) ≤ l1) => ?_)
    · skip
      have g6 := i_le h5
      have li7 : (-1 : Int32).toInt = -1 := rfl
      exact lp_220_52 h0 K _ _ ((-1 : Int32)) rfl hF hV (by omega) (by omega) r_G1 (show (m0 94 56).toInt ≤ (m 94 56).toInt from by omega)
    · skip
      have g8 := i_nle h5
      have hg9 : (0 ≤ l1 ∧ l1.toNatClampNeg < 3100) := i_ix (by omega) (by omega)
      refine ⟨hg9, ?_⟩
      first | have f10 : 0 ≤ (m 114 l1.toNatClampNeg).toInt ∧ (m 114 l1.toNatClampNeg).toInt ≤ 3099 := ra_114 (m := m) hV (k := l1.toNatClampNeg) (i_ix (n := 3100) (by omega) (by omega)).2 | have b11 := i_bd (m 114 l1.toNatClampNeg)
      have li12 : (0 : Int32).toInt = 0 := rfl
      refine zd (fun (h13 : (m 114 l1.toNatClampNeg) < (0 : Int32)) => ?_) (fun (h13 : ¬ (m 114 l1.toNatClampNeg) < (0 : Int32)) => ?_)
      · skip
        have g14 := i_lt h13
        first | have e15 : (l1 + (1 : Int32)).toInt = l1.toInt + (1) := i_addk rfl (by omega) (by omega) | have b16 := i_bd (l1 + (1 : Int32))
        exact IH (3100 - (l1 + (1 : Int32)).toInt).toNat (by omega) _ ((l1 + (1 : Int32))) rfl hF hV (by omega) r_G1 (show (m0 94 56).toInt ≤ (m 94 56).toInt from by omega)
      · skip
        have g17 := i_nlt h13
        have hg18 : (0 ≤ (m 114 l1.toNatClampNeg) ∧ (m 114 l1.toNatClampNeg).toNatClampNeg < 3100) := i_ix (by omega) (by omega)
        refine ⟨hg18, ?_⟩
        have b19 := i_bd (m 106 (m 114 l1.toNatClampNeg).toNatClampNeg)
        refine zd (fun (h20 : (m 106 (m 114 l1.toNatClampNeg).toNatClampNeg) = (0 : Int32)) => ?_) (fun (h20 : ¬ (m 106 (m 114 l1.toNatClampNeg).toNatClampNeg) = (0 : Int32)) => ?_)
        · skip
          have g21 := i_eq h20
          have hg22 : (0 ≤ (m 114 l1.toNatClampNeg) ∧ (m 114 l1.toNatClampNeg).toNatClampNeg < 3100) := i_ix (by omega) (by omega)
          refine ⟨hg22, ?_⟩
          try have gk := G1_room r_G1 (by assumption) (by omega)
          have hg23 : (0 ≤ (m 94 56) ∧ (m 94 56).toNatClampNeg < 3100) := i_ix (by omega) (by omega)
          refine ⟨hg23, ?_⟩
          have hV24 : zV (ma_u m 106 (m 114 l1.toNatClampNeg).toNatClampNeg (1 : Int32)) := ua_106 hV
          have hV25 : zV (ma_u (ma_u m 106 (m 114 l1.toNatClampNeg).toNatClampNeg (1 : Int32)) 115 (m 94 56).toNatClampNeg (m 114 l1.toNatClampNeg)) := ua_115 hV24 (by omega) (by omega)
          first | have e27 : ((m 94 56) + (1 : Int32)).toInt = (m 94 56).toInt + (1) := i_addk rfl (by omega) (by omega) | have b28 := i_bd ((m 94 56) + (1 : Int32))
          have hV26 : zV (ma_u (ma_u (ma_u m 106 (m 114 l1.toNatClampNeg).toNatClampNeg (1 : Int32)) 115 (m 94 56).toNatClampNeg (m 114 l1.toNatClampNeg)) 94 56 ((m 94 56) + (1 : Int32))) := us_94_56 hV25 (by omega) (by omega)
          first | have e29 : (l1 + (1 : Int32)).toInt = l1.toInt + (1) := i_addk rfl (by omega) (by omega) | have b30 := i_bd (l1 + (1 : Int32))
          exact IH (3100 - (l1 + (1 : Int32)).toInt).toNat (by omega) _ ((l1 + (1 : Int32))) rfl (zF_u (zF_u (zF_u hF rfl) rfl) rfl) hV26 (by omega) (show zG1 ((m 94 56) + (1 : Int32)) (m 94 57) ((ma_u m 106 (m 114 l1.toNatClampNeg).toNatClampNeg (1 : Int32)) 106) from by first | (exact G1_push r_G1 (by assumption) (by omega) (by decide) (by assumption)) | (exact G1_dark0 r_G1 (by decide)) | (exfalso; omega; done) | (exfalso; contradiction; done)) (show (m0 94 56).toInt ≤ ((m 94 56) + (1 : Int32)).toInt from by omega)
        · skip
          have g31 := i_ne h20
          first | have e32 : (l1 + (1 : Int32)).toInt = l1.toInt + (1) := i_addk rfl (by omega) (by omega) | have b33 := i_bd (l1 + (1 : Int32))
          exact IH (3100 - (l1 + (1 : Int32)).toInt).toNat (by omega) _ ((l1 + (1 : Int32))) rfl hF hV (by omega) r_G1 (show (m0 94 56).toInt ≤ (m 94 56).toInt from by omega)
theorem lp_220_2 {X : Nat × (Nat → Int32)} {P : Option ma_V → (Nat → Nat → Int32) → Prop} {m0 : Nat → Nat → Int32} (h0 : zV m0) (K : ∀ m₉, zF wr_220 m0 m₉ → zV m₉ → (zG1 (m₉ 94 56) (m₉ 94 57) (m₉ 106)) → ((m0 94 56).toInt ≤ (m₉ 94 56).toInt) → P none m₉) : ∀ (n : Nat) (m : Nat → Nat → Int32) (l1 : Int32), (16 - l1.toInt).toNat = n → zF wr_220 m0 m → zV m → (0 ≤ l1.toInt) → (zG1 (m 94 56) (m 94 57) (m 106)) → ((m0 94 56).toInt ≤ (m 94 56).toInt) → zm X 1 21 220 2 [(0, .inr (.inr (some 94))), (1, .inl l1)] m P := by
  intro n
  induction n using Nat.strongRecOn with
  | _ n IH =>
    intro m l1 hmu hF hV hi0 r_G1 hi2
    refine g_220_2 l1 ?_
    have f1 : 0 ≤ (m0 94 56).toInt ∧ (m0 94 56).toInt ≤ 3100 := rs_94_56 (m := m0) h0
    have f2 : 0 ≤ (m 94 56).toInt ∧ (m 94 56).toInt ≤ 3100 := rs_94_56 (m := m) hV
    have li3 : (16 : Int32).toInt = 16 := rfl
    have b4 := i_bd l1
    refine zd (fun (h5 : (16 : Int32) ≤ l1) => ?_) (fun (h5 : ¬ (16 : Int32) ≤ l1) => ?_)
    · skip
      have g6 := i_le h5
      have li7 : (0 : Int32).toInt = 0 := rfl
      exact lp_220_26 h0 K _ _ ((0 : Int32)) rfl hF hV (by omega) r_G1 (show (m0 94 56).toInt ≤ (m 94 56).toInt from by omega)
    · skip
      have g8 := i_nle h5
      have hg9 : (0 ≤ l1 ∧ l1.toNatClampNeg < 16) := i_ix (by omega) (by omega)
      refine ⟨hg9, ?_⟩
      first | have f10 : -1 ≤ (m 112 l1.toNatClampNeg).toInt ∧ (m 112 l1.toNatClampNeg).toInt ≤ 3099 := ra_112 (m := m) hV (k := l1.toNatClampNeg) (i_ix (n := 16) (by omega) (by omega)).2 | have b11 := i_bd (m 112 l1.toNatClampNeg)
      have li12 : (0 : Int32).toInt = 0 := rfl
      refine zd (fun (h13 : (m 112 l1.toNatClampNeg) < (0 : Int32)) => ?_) (fun (h13 : ¬ (m 112 l1.toNatClampNeg) < (0 : Int32)) => ?_)
      · skip
        have g14 := i_lt h13
        first | have e15 : (l1 + (1 : Int32)).toInt = l1.toInt + (1) := i_addk rfl (by omega) (by omega) | have b16 := i_bd (l1 + (1 : Int32))
        exact IH (16 - (l1 + (1 : Int32)).toInt).toNat (by omega) _ ((l1 + (1 : Int32))) rfl hF hV (by omega) r_G1 (show (m0 94 56).toInt ≤ (m 94 56).toInt from by omega)
      · skip
        have g17 := i_nlt h13
        have hg18 : (0 ≤ (m 112 l1.toNatClampNeg) ∧ (m 112 l1.toNatClampNeg).toNatClampNeg < 3100) := i_ix (by omega) (by omega)
        refine ⟨hg18, ?_⟩
        have b19 := i_bd (m 106 (m 112 l1.toNatClampNeg).toNatClampNeg)
        refine zd (fun (h20 : (m 106 (m 112 l1.toNatClampNeg).toNatClampNeg) = (0 : Int32)) => ?_) (fun (h20 : ¬ (m 106 (m 112 l1.toNatClampNeg).toNatClampNeg) = (0 : Int32)) => ?_)
        · skip
          have g21 := i_eq h20
          have hg22 : (0 ≤ (m 112 l1.toNatClampNeg) ∧ (m 112 l1.toNatClampNeg).toNatClampNeg < 3100) := i_ix (by omega) (by omega)
          refine ⟨hg22, ?_⟩
          try have gk := G1_room r_G1 (by assumption) (by omega)
          have hg23 : (0 ≤ (m 94 56) ∧ (m 94 56).toNatClampNeg < 3100) := i_ix (by omega) (by omega)
          refine ⟨hg23, ?_⟩
          have hV24 : zV (ma_u m 106 (m 112 l1.toNatClampNeg).toNatClampNeg (1 : Int32)) := ua_106 hV
          have hV25 : zV (ma_u (ma_u m 106 (m 112 l1.toNatClampNeg).toNatClampNeg (1 : Int32)) 115 (m 94 56).toNatClampNeg (m 112 l1.toNatClampNeg)) := ua_115 hV24 (by omega) (by omega)
          first | have e27 : ((m 94 56) + (1 : Int32)).toInt = (m 94 56).toInt + (1) := i_addk rfl (by omega) (by omega) | have b28 := i_bd ((m 94 56) + (1 : Int32))
          have hV26 : zV (ma_u (ma_u (ma_u m 106 (m 112 l1.toNatClampNeg).toNatClampNeg (1 : Int32)) 115 (m 94 56).toNatClampNeg (m 112 l1.toNatClampNeg)) 94 56 ((m 94 56) + (1 : Int32))) := us_94_56 hV25 (by omega) (by omega)
          first | have e29 : (l1 + (1 : Int32)).toInt = l1.toInt + (1) := i_addk rfl (by omega) (by omega) | have b30 := i_bd (l1 + (1 : Int32))
          exact IH (16 - (l1 + (1 : Int32)).toInt).toNat (by omega) _ ((l1 + (1 : Int32))) rfl (zF_u (zF_u (zF_u hF rfl) rfl) rfl) hV26 (by omega) (show zG1 ((m 94 56) + (1 : Int32)) (m 94 57) ((ma_u m 106 (m 112 l1.toNatClampNeg).toNatClampNeg (1 : Int32)) 106) from by first | (exact G1_push r_G1 (by assumption) (by omega) (by decide) (by assumption)) | (exact G1_dark0 r_G1 (by decide)) | (exfalso; omega; done) | (exfalso; contradiction; done)) (show (m0 94 56).toInt ≤ ((m 94 56) + (1 : Int32)).toInt from by omega)
        · skip
          have g31 := i_ne h20
          first | have e32 : (l1 + (1 : Int32)).toInt = l1.toInt + (1) := i_addk rfl (by omega) (by omega) | have b33 := i_bd (l1 + (1 : Int32))
          exact IH (16 - (l1 + (1 : Int32)).toInt).toNat (by omega) _ ((l1 + (1 : Int32))) rfl hF hV (by omega) r_G1 (show (m0 94 56).toInt ≤ (m 94 56).toInt from by omega)
theorem sp_220 {X : Nat × (Nat → Int32)} {P : Option ma_V → (Nat → Nat → Int32) → Prop} {m : Nat → Nat → Int32}  (hV : zV m) (r_G1 : zG1 (m 94 56) (m 94 57) (m 106)) (KZ : ∀ m₉, zV (zov wr_220 m m₉) → (zG1 (m₉ 94 56) (m 94 57) (m₉ 106)) → ((m 94 56).toInt ≤ (m₉ 94 56).toInt) → P none (zov wr_220 m m₉)) : zm X 1 21 220 0 [(0, .inr (.inr (some 94)))] m P := by
  have K : ∀ m₉, zF wr_220 m m₉ → zV m₉ → (zG1 (m₉ 94 56) (m₉ 94 57) (m₉ 106)) → ((m 94 56).toInt ≤ (m₉ 94 56).toInt) → P none m₉ := by
    intro m₉ hf z q0 q1
    have e := zov_eq hf
    rw [e] at z ⊢
    try rw [e] at q0
    try rw [e] at q1
    exact KZ m₉ z q0 q1
  refine g_220_0  ?_
  have li1 : (0 : Int32).toInt = 0 := rfl
  have f2 : 0 ≤ (m 94 56).toInt ∧ (m 94 56).toInt ≤ 3100 := rs_94_56 (m := m) hV
  exact lp_220_2 hV K _ _ ((0 : Int32)) rfl zF_rfl hV (by omega) r_G1 (show (m 94 56).toInt ≤ (m 94 56).toInt from by omega)

