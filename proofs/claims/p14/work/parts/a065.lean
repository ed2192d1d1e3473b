/-! from 94.490 -/
/-! the reference (written by wip/tools/gen94m.py) -/
set_option maxRecDepth 100000 in
theorem hm_185 : ma_md 185 = some (12, yX12_findInHalf, cX12_findInHalf, 4, (some (FieldType.int))) := rfl
set_option maxRecDepth 100000 in
theorem hm_210 : ma_md 210 = some (12, yX12_findInYoung, cX12_findInYoung, 4, (some (FieldType.int))) := rfl
theorem v_12_445_12 : ma_vl 12 445 12 = some (1, 185, 2) := by decide +kernel
theorem v_12_448_12 : ma_vl 12 448 12 = some (1, 214, 0) := by decide +kernel
theorem dX12_findInYoung_0 : decode cX12_findInYoung 0 = .ok (.iload_n 1, 1) := by decide +kernel
theorem dX12_findInYoung_1 : decode cX12_findInYoung 1 = .ok (.aload_n 0, 1) := by decide +kernel
theorem dX12_findInYoung_5 : decode cX12_findInYoung 5 = .ok (.iconst 2, 1) := by decide +kernel
theorem dX12_findInYoung_6 : decode cX12_findInYoung 6 = .ok (.idiv, 1) := by decide +kernel
theorem dX12_findInYoung_60 : decode cX12_findInYoung 60 = .ok (.aload_n 0, 1) := by decide +kernel
theorem dX12_findInYoung_61 : decode cX12_findInYoung 61 = .ok (.iload_n 1, 1) := by decide +kernel
theorem dX12_findInYoung_62 : decode cX12_findInYoung 62 = .ok (.aload_n 0, 1) := by decide +kernel
theorem dX12_findInYoung_66 : decode cX12_findInYoung 66 = .ok (.aload_n 0, 1) := by decide +kernel
theorem dX12_findInYoung_70 : decode cX12_findInYoung 70 = .ok (.iconst 1, 1) := by decide +kernel
theorem dX12_findInYoung_71 : decode cX12_findInYoung 71 = .ok (.iadd, 1) := by decide +kernel
theorem dX12_findInYoung_72 : decode cX12_findInYoung 72 = .ok (.aload_n 0, 1) := by decide +kernel
theorem dX12_findInYoung_76 : decode cX12_findInYoung 76 = .ok (.imul, 1) := by decide +kernel
theorem dX12_findInYoung_77 : decode cX12_findInYoung 77 = .ok (.iadd, 1) := by decide +kernel
theorem dX12_findInYoung_78 : decode cX12_findInYoung 78 = .ok (.invokevirtual 445, 3) := by decide +kernel
theorem dX12_findInHalf_0 : decode cX12_findInHalf 0 = .ok (.aload_n 0, 1) := by decide +kernel
theorem dX12_findInHalf_4 : decode cX12_findInHalf 4 = .ok (.iload_n 1, 1) := by decide +kernel
theorem dX12_findInHalf_5 : decode cX12_findInHalf 5 = .ok (.iadd, 1) := by decide +kernel
theorem dX12_findInHalf_6 : decode cX12_findInHalf 6 = .ok (.iload_n 2, 1) := by decide +kernel
theorem dX12_findInHalf_12 : decode cX12_findInHalf 12 = .ok (.aload_n 0, 1) := by decide +kernel
theorem dX12_findInHalf_16 : decode cX12_findInHalf 16 = .ok (.istore_n 3, 1) := by decide +kernel
theorem dX12_findInHalf_17 : decode cX12_findInHalf 17 = .ok (.aload_n 0, 1) := by decide +kernel
theorem dX12_findInHalf_18 : decode cX12_findInHalf 18 = .ok (.dup, 1) := by decide +kernel
theorem dX12_findInHalf_22 : decode cX12_findInHalf 22 = .ok (.iload_n 1, 1) := by decide +kernel
theorem dX12_findInHalf_23 : decode cX12_findInHalf 23 = .ok (.iadd, 1) := by decide +kernel
theorem dX12_findInHalf_27 : decode cX12_findInHalf 27 = .ok (.iload_n 3, 1) := by decide +kernel
theorem dX12_findInYoung_81 : decode cX12_findInYoung 81 = .ok (.istore_n 2, 1) := by decide +kernel
theorem dX12_findInYoung_82 : decode cX12_findInYoung 82 = .ok (.iload_n 2, 1) := by decide +kernel
theorem dX12_findInYoung_88 : decode cX12_findInYoung 88 = .ok (.aload_n 0, 1) := by decide +kernel
theorem dX12_findInYoung_89 : decode cX12_findInYoung 89 = .ok (.invokevirtual 448, 3) := by decide +kernel
theorem dX12_findInYoung_92 : decode cX12_findInYoung 92 = .ok (.istore_n 3, 1) := by decide +kernel
theorem dX12_findInYoung_93 : decode cX12_findInYoung 93 = .ok (.aload_n 0, 1) := by decide +kernel
theorem dX12_findInYoung_94 : decode cX12_findInYoung 94 = .ok (.iload_n 1, 1) := by decide +kernel
theorem dX12_findInYoung_95 : decode cX12_findInYoung 95 = .ok (.aload_n 0, 1) := by decide +kernel
theorem dX12_findInYoung_99 : decode cX12_findInYoung 99 = .ok (.aload_n 0, 1) := by decide +kernel
theorem dX12_findInYoung_103 : decode cX12_findInYoung 103 = .ok (.iconst 1, 1) := by decide +kernel
theorem dX12_findInYoung_104 : decode cX12_findInYoung 104 = .ok (.iadd, 1) := by decide +kernel
theorem dX12_findInYoung_105 : decode cX12_findInYoung 105 = .ok (.aload_n 0, 1) := by decide +kernel
theorem dX12_findInYoung_109 : decode cX12_findInYoung 109 = .ok (.imul, 1) := by decide +kernel
theorem dX12_findInYoung_110 : decode cX12_findInYoung 110 = .ok (.iadd, 1) := by decide +kernel
theorem dX12_findInYoung_111 : decode cX12_findInYoung 111 = .ok (.invokevirtual 445, 3) := by decide +kernel
theorem dX12_findInYoung_114 : decode cX12_findInYoung 114 = .ok (.istore_n 2, 1) := by decide +kernel
theorem dX12_findInYoung_115 : decode cX12_findInYoung 115 = .ok (.iload_n 2, 1) := by decide +kernel
theorem dX12_findInYoung_121 : decode cX12_findInYoung 121 = .ok (.aload_n 0, 1) := by decide +kernel
theorem dX12_findInYoung_122 : decode cX12_findInYoung 122 = .ok (.invokevirtual 384, 3) := by decide +kernel
theorem dX12_findInYoung_125 : decode cX12_findInYoung 125 = .ok (.istore_n 3, 1) := by decide +kernel
theorem dX12_findInYoung_126 : decode cX12_findInYoung 126 = .ok (.aload_n 0, 1) := by decide +kernel
theorem dX12_findInYoung_127 : decode cX12_findInYoung 127 = .ok (.invokevirtual 448, 3) := by decide +kernel
theorem dX12_findInYoung_130 : decode cX12_findInYoung 130 = .ok (.istore_n 3, 1) := by decide +kernel
theorem dX12_findInYoung_131 : decode cX12_findInYoung 131 = .ok (.aload_n 0, 1) := by decide +kernel
theorem dX12_findInYoung_132 : decode cX12_findInYoung 132 = .ok (.iload_n 1, 1) := by decide +kernel
theorem dX12_findInYoung_133 : decode cX12_findInYoung 133 = .ok (.aload_n 0, 1) := by decide +kernel
theorem dX12_findInYoung_137 : decode cX12_findInYoung 137 = .ok (.aload_n 0, 1) := by decide +kernel
theorem dX12_findInYoung_141 : decode cX12_findInYoung 141 = .ok (.iconst 1, 1) := by decide +kernel
theorem dX12_findInYoung_142 : decode cX12_findInYoung 142 = .ok (.iadd, 1) := by decide +kernel
theorem dX12_findInYoung_143 : decode cX12_findInYoung 143 = .ok (.aload_n 0, 1) := by decide +kernel
theorem dX12_findInYoung_147 : decode cX12_findInYoung 147 = .ok (.imul, 1) := by decide +kernel
theorem dX12_findInYoung_148 : decode cX12_findInYoung 148 = .ok (.iadd, 1) := by decide +kernel
theorem dX12_findInYoung_149 : decode cX12_findInYoung 149 = .ok (.invokevirtual 445, 3) := by decide +kernel
theorem dX12_findInYoung_152 : decode cX12_findInYoung 152 = .ok (.ireturn, 1) := by decide +kernel
theorem dX12_findInHalf_28 : decode cX12_findInHalf 28 = .ok (.ireturn, 1) := by decide +kernel
theorem dX12_findInHalf_24 : decode cX12_findInHalf 24 = .ok (.putfield 276, 3) := by decide +kernel
theorem dX12_findInHalf_19 : decode cX12_findInHalf 19 = .ok (.getfield 276, 3) := by decide +kernel
theorem dX12_findInHalf_13 : decode cX12_findInHalf 13 = .ok (.getfield 276, 3) := by decide +kernel
theorem dX12_findInHalf_10 : decode cX12_findInHalf 10 = .ok (.iconst (-1), 1) := by decide +kernel
theorem dX12_findInHalf_11 : decode cX12_findInHalf 11 = .ok (.ireturn, 1) := by decide +kernel
theorem dX12_findInHalf_7 : decode cX12_findInHalf 7 = .ok (.if_icmp .le 5, 3) := by decide +kernel
theorem dX12_findInHalf_1 : decode cX12_findInHalf 1 = .ok (.getfield 276, 3) := by decide +kernel
theorem dX12_findInYoung_144 : decode cX12_findInYoung 144 = .ok (.getfield 207, 3) := by decide +kernel
theorem dX12_findInYoung_138 : decode cX12_findInYoung 138 = .ok (.getfield 273, 3) := by decide +kernel
theorem dX12_findInYoung_134 : decode cX12_findInYoung 134 = .ok (.getfield 210, 3) := by decide +kernel
theorem dX12_findInYoung_119 : decode cX12_findInYoung 119 = .ok (.iload_n 2, 1) := by decide +kernel
theorem dX12_findInYoung_120 : decode cX12_findInYoung 120 = .ok (.ireturn, 1) := by decide +kernel
theorem dX12_findInYoung_116 : decode cX12_findInYoung 116 = .ok (.ifCond .lt 5, 3) := by decide +kernel
theorem dX12_findInYoung_106 : decode cX12_findInYoung 106 = .ok (.getfield 207, 3) := by decide +kernel
theorem dX12_findInYoung_100 : decode cX12_findInYoung 100 = .ok (.getfield 273, 3) := by decide +kernel
theorem dX12_findInYoung_96 : decode cX12_findInYoung 96 = .ok (.getfield 210, 3) := by decide +kernel
theorem dX12_findInYoung_86 : decode cX12_findInYoung 86 = .ok (.iload_n 2, 1) := by decide +kernel
theorem dX12_findInYoung_87 : decode cX12_findInYoung 87 = .ok (.ireturn, 1) := by decide +kernel
theorem dX12_findInYoung_83 : decode cX12_findInYoung 83 = .ok (.ifCond .lt 5, 3) := by decide +kernel
theorem dX12_findInYoung_73 : decode cX12_findInYoung 73 = .ok (.getfield 207, 3) := by decide +kernel
theorem dX12_findInYoung_67 : decode cX12_findInYoung 67 = .ok (.getfield 273, 3) := by decide +kernel
theorem dX12_findInYoung_63 : decode cX12_findInYoung 63 = .ok (.getfield 210, 3) := by decide +kernel
theorem dX12_findInYoung_10 : decode cX12_findInYoung 10 = .ok (.aload_n 0, 1) := by decide +kernel
theorem dX12_findInYoung_14 : decode cX12_findInYoung 14 = .ok (.iload_n 1, 1) := by decide +kernel
theorem dX12_findInYoung_15 : decode cX12_findInYoung 15 = .ok (.iadd, 1) := by decide +kernel
theorem dX12_findInYoung_16 : decode cX12_findInYoung 16 = .ok (.aload_n 0, 1) := by decide +kernel
theorem dX12_findInYoung_28 : decode cX12_findInYoung 28 = .ok (.aload_n 0, 1) := by decide +kernel
theorem dX12_findInYoung_32 : decode cX12_findInYoung 32 = .ok (.iload_n 1, 1) := by decide +kernel
theorem dX12_findInYoung_33 : decode cX12_findInYoung 33 = .ok (.iadd, 1) := by decide +kernel
theorem dX12_findInYoung_34 : decode cX12_findInYoung 34 = .ok (.aload_n 0, 1) := by decide +kernel
theorem dX12_findInYoung_43 : decode cX12_findInYoung 43 = .ok (.aload_n 0, 1) := by decide +kernel
theorem dX12_findInYoung_47 : decode cX12_findInYoung 47 = .ok (.istore_n 2, 1) := by decide +kernel
theorem dX12_findInYoung_48 : decode cX12_findInYoung 48 = .ok (.aload_n 0, 1) := by decide +kernel
theorem dX12_findInYoung_49 : decode cX12_findInYoung 49 = .ok (.dup, 1) := by decide +kernel
theorem dX12_findInYoung_53 : decode cX12_findInYoung 53 = .ok (.iload_n 1, 1) := by decide +kernel
theorem dX12_findInYoung_54 : decode cX12_findInYoung 54 = .ok (.iadd, 1) := by decide +kernel
theorem dX12_findInYoung_58 : decode cX12_findInYoung 58 = .ok (.iload_n 2, 1) := by decide +kernel
theorem dX12_findInYoung_59 : decode cX12_findInYoung 59 = .ok (.ireturn, 1) := by decide +kernel
theorem dX12_findInYoung_55 : decode cX12_findInYoung 55 = .ok (.putfield 279, 3) := by decide +kernel
theorem dX12_findInYoung_50 : decode cX12_findInYoung 50 = .ok (.getfield 279, 3) := by decide +kernel
theorem dX12_findInYoung_44 : decode cX12_findInYoung 44 = .ok (.getfield 279, 3) := by decide +kernel
theorem dX12_findInYoung_41 : decode cX12_findInYoung 41 = .ok (.iconst (-1), 1) := by decide +kernel
theorem dX12_findInYoung_42 : decode cX12_findInYoung 42 = .ok (.ireturn, 1) := by decide +kernel
theorem dX12_findInYoung_38 : decode cX12_findInYoung 38 = .ok (.if_icmp .le 5, 3) := by decide +kernel
theorem dX12_findInYoung_35 : decode cX12_findInYoung 35 = .ok (.getfield 210, 3) := by decide +kernel
theorem dX12_findInYoung_29 : decode cX12_findInYoung 29 = .ok (.getfield 279, 3) := by decide +kernel
theorem dX12_findInYoung_23 : decode cX12_findInYoung 23 = .ok (.aload_n 0, 1) := by decide +kernel
theorem dX12_findInYoung_24 : decode cX12_findInYoung 24 = .ok (.invokevirtual 384, 3) := by decide +kernel
theorem dX12_findInYoung_27 : decode cX12_findInYoung 27 = .ok (.istore_n 2, 1) := by decide +kernel
theorem dX12_findInYoung_20 : decode cX12_findInYoung 20 = .ok (.if_icmp .le 8, 3) := by decide +kernel
theorem dX12_findInYoung_17 : decode cX12_findInYoung 17 = .ok (.getfield 210, 3) := by decide +kernel
theorem dX12_findInYoung_11 : decode cX12_findInYoung 11 = .ok (.getfield 279, 3) := by decide +kernel
theorem dX12_findInYoung_7 : decode cX12_findInYoung 7 = .ok (.if_icmp .le 53, 3) := by decide +kernel
theorem dX12_findInYoung_2 : decode cX12_findInYoung 2 = .ok (.getfield 207, 3) := by decide +kernel
def wr_210 (c k : Nat) : Bool := Nat.beq c 99 || Nat.beq c 103 || Nat.beq c 104 || Nat.beq c 105 || Nat.beq c 109 || Nat.beq c 110 || Nat.beq c 111 || Nat.beq c 113 || Nat.beq c 114 || Nat.beq c 117 || Nat.beq c 118 || Nat.beq c 119 || (Nat.beq c 94 && (Nat.beq k 44 || Nat.beq k 45 || Nat.beq k 47 || Nat.beq k 48 || Nat.beq k 49 || Nat.beq k 55 || Nat.beq k 59 || Nat.beq k 60 || Nat.beq k 61 || Nat.beq k 73 || Nat.beq k 75 || Nat.beq k 76 || Nat.beq k 77))
theorem ws_211_210 : ∀ c k, wr_211 c k = true → wr_210 c k = true := by
  intro c k h
  simp only [wr_211, wr_210, Bool.or_eq_true, Bool.and_eq_true, Nat.beq_eq] at h ⊢
  omega
theorem ws_214_210 : ∀ c k, wr_214 c k = true → wr_210 c k = true := by
  intro c k h
  simp only [wr_214, wr_210, Bool.or_eq_true, Bool.and_eq_true, Nat.beq_eq] at h ⊢
  omega
theorem g_210_0 {X : Nat × (Nat → Int32)} {m : Nat → Nat → Int32} {P : Option ma_V → (Nat → Nat → Int32) → Prop} (nw : Int32) (h : if nw ≤ ((m 94 13) / (2 : Int32)) then (if ((m 94 59) + nw) ≤ ((m 94 14) + (((m 94 61) + (1 : Int32)) * (m 94 13))) then (if (m 94 59) < 0 then (zm X 6 129 214 0 [(0, .inr (.inr (some 94)))] (ma_u m 94 59 ((m 94 59) + nw)) (zmi (fun v2 m1 => if ((m1 94 59) + nw) ≤ ((m1 94 14) + (((m1 94 61) + (1 : Int32)) * (m1 94 13))) then (if (m1 94 59) < 0 then (zm X 5 108 211 0 [(0, .inr (.inr (some 94)))] (ma_u m1 94 59 ((m1 94 59) + nw)) (zmi (fun v4 m3 => zm X 6 129 214 0 [(0, .inr (.inr (some 94)))] m3 (zmi (fun v6 m5 => if ((m5 94 59) + nw) ≤ ((m5 94 14) + (((m5 94 61) + (1 : Int32)) * (m5 94 13))) then (P (some (.inl (m5 94 59))) (ma_u m5 94 59 ((m5 94 59) + nw))) else (P (some (.inl (-1 : Int32))) m5)))))) else (P (some (.inl (m1 94 59))) (ma_u m1 94 59 ((m1 94 59) + nw)))) else (zm X 5 108 211 0 [(0, .inr (.inr (some 94)))] m1 (zmi (fun v8 m7 => zm X 6 129 214 0 [(0, .inr (.inr (some 94)))] m7 (zmi (fun v10 m9 => if ((m9 94 59) + nw) ≤ ((m9 94 14) + (((m9 94 61) + (1 : Int32)) * (m9 94 13))) then (P (some (.inl (m9 94 59))) (ma_u m9 94 59 ((m9 94 59) + nw))) else (P (some (.inl (-1 : Int32))) m9))))))))) else (P (some (.inl (m 94 59))) (ma_u m 94 59 ((m 94 59) + nw)))) else (zm X 6 129 214 0 [(0, .inr (.inr (some 94)))] m (zmi (fun v12 m11 => if ((m11 94 59) + nw) ≤ ((m11 94 14) + (((m11 94 61) + (1 : Int32)) * (m11 94 13))) then (if (m11 94 59) < 0 then (zm X 5 108 211 0 [(0, .inr (.inr (some 94)))] (ma_u m11 94 59 ((m11 94 59) + nw)) (zmi (fun v14 m13 => zm X 6 129 214 0 [(0, .inr (.inr (some 94)))] m13 (zmi (fun v16 m15 => if ((m15 94 59) + nw) ≤ ((m15 94 14) + (((m15 94 61) + (1 : Int32)) * (m15 94 13))) then (P (some (.inl (m15 94 59))) (ma_u m15 94 59 ((m15 94 59) + nw))) else (P (some (.inl (-1 : Int32))) m15)))))) else (P (some (.inl (m11 94 59))) (ma_u m11 94 59 ((m11 94 59) + nw)))) else (zm X 5 108 211 0 [(0, .inr (.inr (some 94)))] m11 (zmi (fun v18 m17 => zm X 6 129 214 0 [(0, .inr (.inr (some 94)))] m17 (zmi (fun v20 m19 => if ((m19 94 59) + nw) ≤ ((m19 94 14) + (((m19 94 61) + (1 : Int32)) * (m19 94 13))) then (P (some (.inl (m19 94 59))) (ma_u m19 94 59 ((m19 94 59) + nw))) else (P (some (.inl (-1 : Int32))) m19)))))))))) else (if ((m 94 60) + nw) ≤ (m 94 14) then (if ((m 94 60) + nw) ≤ (m 94 14) then (P (some (.inl (m 94 60))) (ma_u m 94 60 ((m 94 60) + nw))) else (P (some (.inl (-1 : Int32))) m)) else (zm X 5 108 211 0 [(0, .inr (.inr (some 94)))] m (zmi (fun v22 m21 => if ((m21 94 60) + nw) ≤ (m21 94 14) then (P (some (.inl (m21 94 60))) (ma_u m21 94 60 ((m21 94 60) + nw))) else (P (some (.inl (-1 : Int32))) m21)))))) : zm X 7 152 210 0 [(0, .inr (.inr (some 94))), (1, .inl nw)] m P := by
  intro d w S Q hd hw hS hm HQ
  subst hm
  refine zw_push hm_210 dX12_findInYoung_0 (v := .inl nw) rfl ?_
  refine zw_push hm_210 dX12_findInYoung_1 (v := .inr (.inr (some 94))) rfl ?_
  refine zw_gf hm_210 dX12_findInYoung_2 (v := .inl ((mI S) 94 13)) (zT_is hS s_94) (zT_t hS s_94) rfl f_12_207_12 rfl ?_
  refine zw_push hm_210 dX12_findInYoung_5 (v := .inl (2 : Int32)) rfl ?_
  refine zw_stk hm_210 dX12_findInYoung_6 (st₉ := [.inl (((mI S) 94 13) / (2 : Int32)), .inl nw]) rfl rfl ?_
  refine zw_if2 hm_210 dX12_findInYoung_7 (t := 60) rfl zc2_le ?_ ?_
  · intro hc
    rw [if_pos hc] at h
    refine zw_push hm_210 dX12_findInYoung_60 (v := .inr (.inr (some 94))) rfl ?_
    refine zw_push hm_210 dX12_findInYoung_61 (v := .inl nw) rfl ?_
    refine zw_push hm_210 dX12_findInYoung_62 (v := .inr (.inr (some 94))) rfl ?_
    refine zw_gf hm_210 dX12_findInYoung_63 (v := .inl ((mI S) 94 14)) (zT_is hS s_94) (zT_t hS s_94) rfl f_12_210_12 rfl ?_
    refine zw_push hm_210 dX12_findInYoung_66 (v := .inr (.inr (some 94))) rfl ?_
    refine zw_gf hm_210 dX12_findInYoung_67 (v := .inl ((mI S) 94 61)) (zT_is hS s_94) (zT_t hS s_94) rfl f_12_273_12 rfl ?_
    refine zw_push hm_210 dX12_findInYoung_70 (v := .inl (1 : Int32)) rfl ?_
    refine zw_stk hm_210 dX12_findInYoung_71 (st₉ := [.inl (((mI S) 94 61) + (1 : Int32)), .inl ((mI S) 94 14), .inl nw, .inr (.inr (some 94))]) rfl rfl ?_
    refine zw_push hm_210 dX12_findInYoung_72 (v := .inr (.inr (some 94))) rfl ?_
    refine zw_gf hm_210 dX12_findInYoung_73 (v := .inl ((mI S) 94 13)) (zT_is hS s_94) (zT_t hS s_94) rfl f_12_207_12 rfl ?_
    refine zw_stk hm_210 dX12_findInYoung_76 (st₉ := [.inl ((((mI S) 94 61) + (1 : Int32)) * ((mI S) 94 13)), .inl ((mI S) 94 14), .inl nw, .inr (.inr (some 94))]) rfl rfl ?_
    refine zw_stk hm_210 dX12_findInYoung_77 (st₉ := [.inl (((mI S) 94 14) + ((((mI S) 94 61) + (1 : Int32)) * ((mI S) 94 13))), .inl nw, .inr (.inr (some 94))]) rfl rfl ?_
    refine zw_cv hm_210 dX12_findInYoung_78 v_12_445_12 hm_185 [.inl (((mI S) 94 14) + ((((mI S) 94 61) + (1 : Int32)) * ((mI S) 94 13))), .inl nw] [] rfl (zT_rt hS s_94 rfl) ⟨by omega, by omega⟩ rfl ?_
    show ma_wp X (d - 1) (w - 23) 185 0 [(0, .inr (.inr (some 94))), (1, .inl nw), (2, .inl (((mI S) 94 14) + ((((mI S) 94 61) + (1 : Int32)) * ((mI S) 94 13))))] [] S _
    refine zw_push hm_185 dX12_findInHalf_0 (v := .inr (.inr (some 94))) rfl ?_
    refine zw_gf hm_185 dX12_findInHalf_1 (v := .inl ((mI S) 94 59)) (zT_is hS s_94) (zT_t hS s_94) rfl f_12_276_12 rfl ?_
    refine zw_push hm_185 dX12_findInHalf_4 (v := .inl nw) rfl ?_
    refine zw_stk hm_185 dX12_findInHalf_5 (st₉ := [.inl (((mI S) 94 59) + nw)]) rfl rfl ?_
    refine zw_push hm_185 dX12_findInHalf_6 (v := .inl (((mI S) 94 14) + ((((mI S) 94 61) + (1 : Int32)) * ((mI S) 94 13)))) rfl ?_
    refine zw_if2 hm_185 dX12_findInHalf_7 (t := 12) rfl zc2_le ?_ ?_
    · intro hc
      rw [if_pos hc] at h
      refine zw_push hm_185 dX12_findInHalf_12 (v := .inr (.inr (some 94))) rfl ?_
      refine zw_gf hm_185 dX12_findInHalf_13 (v := .inl ((mI S) 94 59)) (zT_is hS s_94) (zT_t hS s_94) rfl f_12_276_12 rfl ?_
      refine zw_sto hm_185 dX12_findInHalf_16 [(3, .inl ((mI S) 94 59)), (0, .inr (.inr (some 94))), (1, .inl nw), (2, .inl (((mI S) 94 14) + ((((mI S) 94 61) + (1 : Int32)) * ((mI S) 94 13))))] rfl rfl rfl ?_
      refine zw_push hm_185 dX12_findInHalf_17 (v := .inr (.inr (some 94))) rfl ?_
      refine zw_stk hm_185 dX12_findInHalf_18 (st₉ := [.inr (.inr (some 94)), .inr (.inr (some 94))]) rfl rfl ?_
      refine zw_gf hm_185 dX12_findInHalf_19 (v := .inl ((mI S) 94 59)) (zT_is hS s_94) (zT_t hS s_94) rfl f_12_276_12 rfl ?_
      refine zw_push hm_185 dX12_findInHalf_22 (v := .inl nw) rfl ?_
      refine zw_stk hm_185 dX12_findInHalf_23 (st₉ := [.inl (((mI S) 94 59) + nw), .inr (.inr (some 94))]) rfl rfl ?_
      refine zw_pf hm_185 dX12_findInHalf_24 (zT_is hS s_94) (zT_t hS s_94) p_12_276_12 zk_int ?_
      refine zw_push hm_185 dX12_findInHalf_27 (v := .inl ((mI S) 94 59)) rfl ?_
      refine zw_iret hm_185 dX12_findInHalf_28 ?_
      show ma_wp X d w 210 81 [(0, .inr (.inr (some 94))), (1, .inl nw)] [.inl ((mI S) 94 59)] (ma_put S 94 59 (.inl (((mI S) 94 59) + nw))) _
      refine zw_sto hm_210 dX12_findInYoung_81 [(2, .inl ((mI S) 94 59)), (0, .inr (.inr (some 94))), (1, .inl nw)] rfl rfl rfl ?_
      refine zw_push hm_210 dX12_findInYoung_82 (v := .inl ((mI S) 94 59)) rfl ?_
      refine zw_if0 hm_210 dX12_findInYoung_83 (t := 88) rfl zc0_lt ?_ ?_
      · intro hc
        rw [if_pos hc] at h
        refine zw_push hm_210 dX12_findInYoung_88 (v := .inr (.inr (some 94))) rfl ?_
        refine zw_cv hm_210 dX12_findInYoung_89 v_12_448_12 hm_214 [] [] rfl (zT_rt (zT_pi hS) s_94 rfl) ⟨by omega, by omega⟩ rfl (h _ _ (ma_put S 94 59 (.inl (((mI S) 94 59) + nw))) _ (by omega) (by omega) (zT_pi hS) rfl (fun o9 m1 hv => ?_))
        obtain ⟨v2, rfl, h⟩ := zmi_of hv
        show ma_wp X d w 210 92 [(2, .inl ((mI S) 94 59)), (0, .inr (.inr (some 94))), (1, .inl nw)] [.inl v2] (zst S m1) _
        refine zw_sto hm_210 dX12_findInYoung_92 [(3, .inl v2), (2, .inl ((mI S) 94 59)), (0, .inr (.inr (some 94))), (1, .inl nw)] rfl rfl rfl ?_
        refine zw_push hm_210 dX12_findInYoung_93 (v := .inr (.inr (some 94))) rfl ?_
        refine zw_push hm_210 dX12_findInYoung_94 (v := .inl nw) rfl ?_
        refine zw_push hm_210 dX12_findInYoung_95 (v := .inr (.inr (some 94))) rfl ?_
        refine zw_gf hm_210 dX12_findInYoung_96 (v := .inl (m1 94 14)) (zT_is (zT_zst hS m1) s_94) (zT_t (zT_zst hS m1) s_94) rfl f_12_210_12 rfl ?_
        refine zw_push hm_210 dX12_findInYoung_99 (v := .inr (.inr (some 94))) rfl ?_
        refine zw_gf hm_210 dX12_findInYoung_100 (v := .inl (m1 94 61)) (zT_is (zT_zst hS m1) s_94) (zT_t (zT_zst hS m1) s_94) rfl f_12_273_12 rfl ?_
        refine zw_push hm_210 dX12_findInYoung_103 (v := .inl (1 : Int32)) rfl ?_
        refine zw_stk hm_210 dX12_findInYoung_104 (st₉ := [.inl ((m1 94 61) + (1 : Int32)), .inl (m1 94 14), .inl nw, .inr (.inr (some 94))]) rfl rfl ?_
        refine zw_push hm_210 dX12_findInYoung_105 (v := .inr (.inr (some 94))) rfl ?_
        refine zw_gf hm_210 dX12_findInYoung_106 (v := .inl (m1 94 13)) (zT_is (zT_zst hS m1) s_94) (zT_t (zT_zst hS m1) s_94) rfl f_12_207_12 rfl ?_
        refine zw_stk hm_210 dX12_findInYoung_109 (st₉ := [.inl (((m1 94 61) + (1 : Int32)) * (m1 94 13)), .inl (m1 94 14), .inl nw, .inr (.inr (some 94))]) rfl rfl ?_
        refine zw_stk hm_210 dX12_findInYoung_110 (st₉ := [.inl ((m1 94 14) + (((m1 94 61) + (1 : Int32)) * (m1 94 13))), .inl nw, .inr (.inr (some 94))]) rfl rfl ?_
        refine zw_cv hm_210 dX12_findInYoung_111 v_12_445_12 hm_185 [.inl ((m1 94 14) + (((m1 94 61) + (1 : Int32)) * (m1 94 13))), .inl nw] [] rfl (zT_rt (zT_zst hS m1) s_94 rfl) ⟨by omega, by omega⟩ rfl ?_
        show ma_wp X (d - 1) (w - 23) 185 0 [(0, .inr (.inr (some 94))), (1, .inl nw), (2, .inl ((m1 94 14) + (((m1 94 61) + (1 : Int32)) * (m1 94 13))))] [] (zst S m1) _
        refine zw_push hm_185 dX12_findInHalf_0 (v := .inr (.inr (some 94))) rfl ?_
        refine zw_gf hm_185 dX12_findInHalf_1 (v := .inl (m1 94 59)) (zT_is (zT_zst hS m1) s_94) (zT_t (zT_zst hS m1) s_94) rfl f_12_276_12 rfl ?_
        refine zw_push hm_185 dX12_findInHalf_4 (v := .inl nw) rfl ?_
        refine zw_stk hm_185 dX12_findInHalf_5 (st₉ := [.inl ((m1 94 59) + nw)]) rfl rfl ?_
        refine zw_push hm_185 dX12_findInHalf_6 (v := .inl ((m1 94 14) + (((m1 94 61) + (1 : Int32)) * (m1 94 13)))) rfl ?_
        refine zw_if2 hm_185 dX12_findInHalf_7 (t := 12) rfl zc2_le ?_ ?_
        · intro hc
          rw [if_pos hc] at h
          refine zw_push hm_185 dX12_findInHalf_12 (v := .inr (.inr (some 94))) rfl ?_
          refine zw_gf hm_185 dX12_findInHalf_13 (v := .inl (m1 94 59)) (zT_is (zT_zst hS m1) s_94) (zT_t (zT_zst hS m1) s_94) rfl f_12_276_12 rfl ?_
          refine zw_sto hm_185 dX12_findInHalf_16 [(3, .inl (m1 94 59)), (0, .inr (.inr (some 94))), (1, .inl nw), (2, .inl ((m1 94 14) + (((m1 94 61) + (1 : Int32)) * (m1 94 13))))] rfl rfl rfl ?_
          refine zw_push hm_185 dX12_findInHalf_17 (v := .inr (.inr (some 94))) rfl ?_
          refine zw_stk hm_185 dX12_findInHalf_18 (st₉ := [.inr (.inr (some 94)), .inr (.inr (some 94))]) rfl rfl ?_
          refine zw_gf hm_185 dX12_findInHalf_19 (v := .inl (m1 94 59)) (zT_is (zT_zst hS m1) s_94) (zT_t (zT_zst hS m1) s_94) rfl f_12_276_12 rfl ?_
          refine zw_push hm_185 dX12_findInHalf_22 (v := .inl nw) rfl ?_
          refine zw_stk hm_185 dX12_findInHalf_23 (st₉ := [.inl ((m1 94 59) + nw), .inr (.inr (some 94))]) rfl rfl ?_
          refine zw_pf hm_185 dX12_findInHalf_24 (zT_is (zT_zst hS m1) s_94) (zT_t (zT_zst hS m1) s_94) p_12_276_12 zk_int ?_
          refine zw_push hm_185 dX12_findInHalf_27 (v := .inl (m1 94 59)) rfl ?_
          refine zw_iret hm_185 dX12_findInHalf_28 ?_
          show ma_wp X d w 210 114 [(3, .inl v2), (2, .inl ((mI S) 94 59)), (0, .inr (.inr (some 94))), (1, .inl nw)] [.inl (m1 94 59)] (ma_put (zst S m1) 94 59 (.inl ((m1 94 59) + nw))) _
          refine zw_sto hm_210 dX12_findInYoung_114 [(2, .inl (m1 94 59)), (3, .inl v2), (0, .inr (.inr (some 94))), (1, .inl nw)] rfl rfl rfl ?_
          refine zw_push hm_210 dX12_findInYoung_115 (v := .inl (m1 94 59)) rfl ?_
          refine zw_if0 hm_210 dX12_findInYoung_116 (t := 121) rfl zc0_lt ?_ ?_
          · intro hc
            rw [if_pos hc] at h
            refine zw_push hm_210 dX12_findInYoung_121 (v := .inr (.inr (some 94))) rfl ?_
            refine zw_cv hm_210 dX12_findInYoung_122 v_12_384_12 hm_211 [] [] rfl (zT_rt (zT_pi (zT_zst hS m1)) s_94 rfl) ⟨by omega, by omega⟩ rfl (h _ _ (ma_put (zst S m1) 94 59 (.inl ((m1 94 59) + nw))) _ (by omega) (by omega) (zT_pi (zT_zst hS m1)) rfl (fun o9 m3 hv => ?_))
            obtain ⟨v4, rfl, h⟩ := zmi_of hv
            show ma_wp X d w 210 125 [(2, .inl (m1 94 59)), (3, .inl v2), (0, .inr (.inr (some 94))), (1, .inl nw)] [.inl v4] (zst S m3) _
            refine zw_sto hm_210 dX12_findInYoung_125 [(3, .inl v4), (2, .inl (m1 94 59)), (0, .inr (.inr (some 94))), (1, .inl nw)] rfl rfl rfl ?_
            refine zw_push hm_210 dX12_findInYoung_126 (v := .inr (.inr (some 94))) rfl ?_
            refine zw_cv hm_210 dX12_findInYoung_127 v_12_448_12 hm_214 [] [] rfl (zT_rt (zT_zst hS m3) s_94 rfl) ⟨by omega, by omega⟩ rfl (h _ _ (zst S m3) _ (by omega) (by omega) (zT_zst hS m3) rfl (fun o9 m5 hv => ?_))
            obtain ⟨v6, rfl, h⟩ := zmi_of hv
            show ma_wp X d w 210 130 [(3, .inl v4), (2, .inl (m1 94 59)), (0, .inr (.inr (some 94))), (1, .inl nw)] [.inl v6] (zst S m5) _
            refine zw_sto hm_210 dX12_findInYoung_130 [(3, .inl v6), (2, .inl (m1 94 59)), (0, .inr (.inr (some 94))), (1, .inl nw)] rfl rfl rfl ?_
            refine zw_push hm_210 dX12_findInYoung_131 (v := .inr (.inr (some 94))) rfl ?_
            refine zw_push hm_210 dX12_findInYoung_132 (v := .inl nw) rfl ?_
            refine zw_push hm_210 dX12_findInYoung_133 (v := .inr (.inr (some 94))) rfl ?_
            refine zw_gf hm_210 dX12_findInYoung_134 (v := .inl (m5 94 14)) (zT_is (zT_zst hS m5) s_94) (zT_t (zT_zst hS m5) s_94) rfl f_12_210_12 rfl ?_
            refine zw_push hm_210 dX12_findInYoung_137 (v := .inr (.inr (some 94))) rfl ?_
            refine zw_gf hm_210 dX12_findInYoung_138 (v := .inl (m5 94 61)) (zT_is (zT_zst hS m5) s_94) (zT_t (zT_zst hS m5) s_94) rfl f_12_273_12 rfl ?_
            refine zw_push hm_210 dX12_findInYoung_141 (v := .inl (1 : Int32)) rfl ?_
            refine zw_stk hm_210 dX12_findInYoung_142 (st₉ := [.inl ((m5 94 61) + (1 : Int32)), .inl (m5 94 14), .inl nw, .inr (.inr (some 94))]) rfl rfl ?_
            refine zw_push hm_210 dX12_findInYoung_143 (v := .inr (.inr (some 94))) rfl ?_
            refine zw_gf hm_210 dX12_findInYoung_144 (v := .inl (m5 94 13)) (zT_is (zT_zst hS m5) s_94) (zT_t (zT_zst hS m5) s_94) rfl f_12_207_12 rfl ?_
            refine zw_stk hm_210 dX12_findInYoung_147 (st₉ := [.inl (((m5 94 61) + (1 : Int32)) * (m5 94 13)), .inl (m5 94 14), .inl nw, .inr (.inr (some 94))]) rfl rfl ?_
            refine zw_stk hm_210 dX12_findInYoung_148 (st₉ := [.inl ((m5 94 14) + (((m5 94 61) + (1 : Int32)) * (m5 94 13))), .inl nw, .inr (.inr (some 94))]) rfl rfl ?_
            refine zw_cv hm_210 dX12_findInYoung_149 v_12_445_12 hm_185 [.inl ((m5 94 14) + (((m5 94 61) + (1 : Int32)) * (m5 94 13))), .inl nw] [] rfl (zT_rt (zT_zst hS m5) s_94 rfl) ⟨by omega, by omega⟩ rfl ?_
            show ma_wp X (d - 1) (w - 23) 185 0 [(0, .inr (.inr (some 94))), (1, .inl nw), (2, .inl ((m5 94 14) + (((m5 94 61) + (1 : Int32)) * (m5 94 13))))] [] (zst S m5) _
            refine zw_push hm_185 dX12_findInHalf_0 (v := .inr (.inr (some 94))) rfl ?_
            refine zw_gf hm_185 dX12_findInHalf_1 (v := .inl (m5 94 59)) (zT_is (zT_zst hS m5) s_94) (zT_t (zT_zst hS m5) s_94) rfl f_12_276_12 rfl ?_
            refine zw_push hm_185 dX12_findInHalf_4 (v := .inl nw) rfl ?_
            refine zw_stk hm_185 dX12_findInHalf_5 (st₉ := [.inl ((m5 94 59) + nw)]) rfl rfl ?_
            refine zw_push hm_185 dX12_findInHalf_6 (v := .inl ((m5 94 14) + (((m5 94 61) + (1 : Int32)) * (m5 94 13)))) rfl ?_
            refine zw_if2 hm_185 dX12_findInHalf_7 (t := 12) rfl zc2_le ?_ ?_
            · intro hc
              rw [if_pos hc] at h
              refine zw_push hm_185 dX12_findInHalf_12 (v := .inr (.inr (some 94))) rfl ?_
              refine zw_gf hm_185 dX12_findInHalf_13 (v := .inl (m5 94 59)) (zT_is (zT_zst hS m5) s_94) (zT_t (zT_zst hS m5) s_94) rfl f_12_276_12 rfl ?_
              refine zw_sto hm_185 dX12_findInHalf_16 [(3, .inl (m5 94 59)), (0, .inr (.inr (some 94))), (1, .inl nw), (2, .inl ((m5 94 14) + (((m5 94 61) + (1 : Int32)) * (m5 94 13))))] rfl rfl rfl ?_
              refine zw_push hm_185 dX12_findInHalf_17 (v := .inr (.inr (some 94))) rfl ?_
              refine zw_stk hm_185 dX12_findInHalf_18 (st₉ := [.inr (.inr (some 94)), .inr (.inr (some 94))]) rfl rfl ?_
              refine zw_gf hm_185 dX12_findInHalf_19 (v := .inl (m5 94 59)) (zT_is (zT_zst hS m5) s_94) (zT_t (zT_zst hS m5) s_94) rfl f_12_276_12 rfl ?_
              refine zw_push hm_185 dX12_findInHalf_22 (v := .inl nw) rfl ?_
              refine zw_stk hm_185 dX12_findInHalf_23 (st₉ := [.inl ((m5 94 59) + nw), .inr (.inr (some 94))]) rfl rfl ?_
              refine zw_pf hm_185 dX12_findInHalf_24 (zT_is (zT_zst hS m5) s_94) (zT_t (zT_zst hS m5) s_94) p_12_276_12 zk_int ?_
              refine zw_push hm_185 dX12_findInHalf_27 (v := .inl (m5 94 59)) rfl ?_
              refine zw_iret hm_185 dX12_findInHalf_28 ?_
              show ma_wp X d w 210 152 [(3, .inl v6), (2, .inl (m1 94 59)), (0, .inr (.inr (some 94))), (1, .inl nw)] [.inl (m5 94 59)] (ma_put (zst S m5) 94 59 (.inl ((m5 94 59) + nw))) _
              exact zw_iret hm_210 dX12_findInYoung_152 (HQ _ _ h)
            · intro hc
              rw [if_neg hc] at h
              refine zw_push hm_185 dX12_findInHalf_10 (v := .inl (-1 : Int32)) rfl ?_
              refine zw_iret hm_185 dX12_findInHalf_11 ?_
              show ma_wp X d w 210 152 [(3, .inl v6), (2, .inl (m1 94 59)), (0, .inr (.inr (some 94))), (1, .inl nw)] [.inl (-1 : Int32)] (zst S m5) _
              exact zw_iret hm_210 dX12_findInYoung_152 (HQ _ _ h)
          · intro hc
            rw [if_neg hc] at h
            refine zw_push hm_210 dX12_findInYoung_119 (v := .inl (m1 94 59)) rfl ?_
            exact zw_iret hm_210 dX12_findInYoung_120 (HQ _ _ h)
        · intro hc
          rw [if_neg hc] at h
          refine zw_push hm_185 dX12_findInHalf_10 (v := .inl (-1 : Int32)) rfl ?_
          refine zw_iret hm_185 dX12_findInHalf_11 ?_
          show ma_wp X d w 210 114 [(3, .inl v2), (2, .inl ((mI S) 94 59)), (0, .inr (.inr (some 94))), (1, .inl nw)] [.inl (-1 : Int32)] (zst S m1) _
          refine zw_sto hm_210 dX12_findInYoung_114 [(2, .inl (-1 : Int32)), (3, .inl v2), (0, .inr (.inr (some 94))), (1, .inl nw)] rfl rfl rfl ?_
          refine zw_push hm_210 dX12_findInYoung_115 (v := .inl (-1 : Int32)) rfl ?_
          refine zw_if0 hm_210 dX12_findInYoung_116 (t := 121) rfl zc0_lt (fun _ => ?_) (fun hc => absurd (by decide) hc)
          refine zw_push hm_210 dX12_findInYoung_121 (v := .inr (.inr (some 94))) rfl ?_
          refine zw_cv hm_210 dX12_findInYoung_122 v_12_384_12 hm_211 [] [] rfl (zT_rt (zT_zst hS m1) s_94 rfl) ⟨by omega, by omega⟩ rfl (h _ _ (zst S m1) _ (by omega) (by omega) (zT_zst hS m1) rfl (fun o9 m7 hv => ?_))
          obtain ⟨v8, rfl, h⟩ := zmi_of hv
          show ma_wp X d w 210 125 [(2, .inl (-1 : Int32)), (3, .inl v2), (0, .inr (.inr (some 94))), (1, .inl nw)] [.inl v8] (zst S m7) _
          refine zw_sto hm_210 dX12_findInYoung_125 [(3, .inl v8), (2, .inl (-1 : Int32)), (0, .inr (.inr (some 94))), (1, .inl nw)] rfl rfl rfl ?_
          refine zw_push hm_210 dX12_findInYoung_126 (v := .inr (.inr (some 94))) rfl ?_
          refine zw_cv hm_210 dX12_findInYoung_127 v_12_448_12 hm_214 [] [] rfl (zT_rt (zT_zst hS m7) s_94 rfl) ⟨by omega, by omega⟩ rfl (h _ _ (zst S m7) _ (by omega) (by omega) (zT_zst hS m7) rfl (fun o9 m9 hv => ?_))
          obtain ⟨v10, rfl, h⟩ := zmi_of hv
          show ma_wp X d w 210 130 [(3, .inl v8), (2, .inl (-1 : Int32)), (0, .inr (.inr (some 94))), (1, .inl nw)] [.inl v10] (zst S m9) _
          refine zw_sto hm_210 dX12_findInYoung_130 [(3, .inl v10), (2, .inl (-1 : Int32)), (0, .inr (.inr (some 94))), (1, .inl nw)] rfl rfl rfl ?_
          refine zw_push hm_210 dX12_findInYoung_131 (v := .inr (.inr (some 94))) rfl ?_
          refine zw_push hm_210 dX12_findInYoung_132 (v := .inl nw) rfl ?_
          refine zw_push hm_210 dX12_findInYoung_133 (v := .inr (.inr (some 94))) rfl ?_
          refine zw_gf hm_210 dX12_findInYoung_134 (v := .inl (m9 94 14)) (zT_is (zT_zst hS m9) s_94) (zT_t (zT_zst hS m9) s_94) rfl f_12_210_12 rfl ?_
          refine zw_push hm_210 dX12_findInYoung_137 (v := .inr (.inr (some 94))) rfl ?_
          refine zw_gf hm_210 dX12_findInYoung_138 (v := .inl (m9 94 61)) (zT_is (zT_zst hS m9) s_94) (zT_t (zT_zst hS m9) s_94) rfl f_12_273_12 rfl ?_
          refine zw_push hm_210 dX12_findInYoung_141 (v := .inl (1 : Int32)) rfl ?_
          refine zw_stk hm_210 dX12_findInYoung_142 (st₉ := [.inl ((m9 94 61) + (1 : Int32)), .inl (m9 94 14), .inl nw, .inr (.inr (some 94))]) rfl rfl ?_
          refine zw_push hm_210 dX12_findInYoung_143 (v := .inr (.inr (some 94))) rfl ?_
          refine zw_gf hm_210 dX12_findInYoung_144 (v := .inl (m9 94 13)) (zT_is (zT_zst hS m9) s_94) (zT_t (zT_zst hS m9) s_94) rfl f_12_207_12 rfl ?_
          refine zw_stk hm_210 dX12_findInYoung_147 (st₉ := [.inl (((m9 94 61) + (1 : Int32)) * (m9 94 13)), .inl (m9 94 14), .inl nw, .inr (.inr (some 94))]) rfl rfl ?_
          refine zw_stk hm_210 dX12_findInYoung_148 (st₉ := [.inl ((m9 94 14) + (((m9 94 61) + (1 : Int32)) * (m9 94 13))), .inl nw, .inr (.inr (some 94))]) rfl rfl ?_
          refine zw_cv hm_210 dX12_findInYoung_149 v_12_445_12 hm_185 [.inl ((m9 94 14) + (((m9 94 61) + (1 : Int32)) * (m9 94 13))), .inl nw] [] rfl (zT_rt (zT_zst hS m9) s_94 rfl) ⟨by omega, by omega⟩ rfl ?_
          show ma_wp X (d - 1) (w - 23) 185 0 [(0, .inr (.inr (some 94))), (1, .inl nw), (2, .inl ((m9 94 14) + (((m9 94 61) + (1 : Int32)) * (m9 94 13))))] [] (zst S m9) _
          refine zw_push hm_185 dX12_findInHalf_0 (v := .inr (.inr (some 94))) rfl ?_
          refine zw_gf hm_185 dX12_findInHalf_1 (v := .inl (m9 94 59)) (zT_is (zT_zst hS m9) s_94) (zT_t (zT_zst hS m9) s_94) rfl f_12_276_12 rfl ?_
          refine zw_push hm_185 dX12_findInHalf_4 (v := .inl nw) rfl ?_
          refine zw_stk hm_185 dX12_findInHalf_5 (st₉ := [.inl ((m9 94 59) + nw)]) rfl rfl ?_
          refine zw_push hm_185 dX12_findInHalf_6 (v := .inl ((m9 94 14) + (((m9 94 61) + (1 : Int32)) * (m9 94 13)))) rfl ?_
          refine zw_if2 hm_185 dX12_findInHalf_7 (t := 12) rfl zc2_le ?_ ?_
          · intro hc
            rw [if_pos hc] at h
            refine zw_push hm_185 dX12_findInHalf_12 (v := .inr (.inr (some 94))) rfl ?_
            refine zw_gf hm_185 dX12_findInHalf_13 (v := .inl (m9 94 59)) (zT_is (zT_zst hS m9) s_94) (zT_t (zT_zst hS m9) s_94) rfl f_12_276_12 rfl ?_
            refine zw_sto hm_185 dX12_findInHalf_16 [(3, .inl (m9 94 59)), (0, .inr (.inr (some 94))), (1, .inl nw), (2, .inl ((m9 94 14) + (((m9 94 61) + (1 : Int32)) * (m9 94 13))))] rfl rfl rfl ?_
            refine zw_push hm_185 dX12_findInHalf_17 (v := .inr (.inr (some 94))) rfl ?_
            refine zw_stk hm_185 dX12_findInHalf_18 (st₉ := [.inr (.inr (some 94)), .inr (.inr (some 94))]) rfl rfl ?_
            refine zw_gf hm_185 dX12_findInHalf_19 (v := .inl (m9 94 59)) (zT_is (zT_zst hS m9) s_94) (zT_t (zT_zst hS m9) s_94) rfl f_12_276_12 rfl ?_
            refine zw_push hm_185 dX12_findInHalf_22 (v := .inl nw) rfl ?_
            refine zw_stk hm_185 dX12_findInHalf_23 (st₉ := [.inl ((m9 94 59) + nw), .inr (.inr (some 94))]) rfl rfl ?_
            refine zw_pf hm_185 dX12_findInHalf_24 (zT_is (zT_zst hS m9) s_94) (zT_t (zT_zst hS m9) s_94) p_12_276_12 zk_int ?_
            refine zw_push hm_185 dX12_findInHalf_27 (v := .inl (m9 94 59)) rfl ?_
            refine zw_iret hm_185 dX12_findInHalf_28 ?_
            show ma_wp X d w 210 152 [(3, .inl v10), (2, .inl (-1 : Int32)), (0, .inr (.inr (some 94))), (1, .inl nw)] [.inl (m9 94 59)] (ma_put (zst S m9) 94 59 (.inl ((m9 94 59) + nw))) _
            exact zw_iret hm_210 dX12_findInYoung_152 (HQ _ _ h)
          · intro hc
            rw [if_neg hc] at h
            refine zw_push hm_185 dX12_findInHalf_10 (v := .inl (-1 : Int32)) rfl ?_
            refine zw_iret hm_185 dX12_findInHalf_11 ?_
            show ma_wp X d w 210 152 [(3, .inl v10), (2, .inl (-1 : Int32)), (0, .inr (.inr (some 94))), (1, .inl nw)] [.inl (-1 : Int32)] (zst S m9) _
            exact zw_iret hm_210 dX12_findInYoung_152 (HQ _ _ h)
      · intro hc
        rw [if_neg hc] at h
        refine zw_push hm_210 dX12_findInYoung_86 (v := .inl ((mI S) 94 59)) rfl ?_
        exact zw_iret hm_210 dX12_findInYoung_87 (HQ _ _ h)
    · intro hc
      rw [if_neg hc] at h
      refine zw_push hm_185 dX12_findInHalf_10 (v := .inl (-1 : Int32)) rfl ?_
      refine zw_iret hm_185 dX12_findInHalf_11 ?_
      show ma_wp X d w 210 81 [(0, .inr (.inr (some 94))), (1, .inl nw)] [.inl (-1 : Int32)] S _
      refine zw_sto hm_210 dX12_findInYoung_81 [(2, .inl (-1 : Int32)), (0, .inr (.inr (some 94))), (1, .inl nw)] rfl rfl rfl ?_
      refine zw_push hm_210 dX12_findInYoung_82 (v := .inl (-1 : Int32)) rfl ?_
      refine zw_if0 hm_210 dX12_findInYoung_83 (t := 88) rfl zc0_lt (fun _ => ?_) (fun hc => absurd (by decide) hc)
      refine zw_push hm_210 dX12_findInYoung_88 (v := .inr (.inr (some 94))) rfl ?_
      refine zw_cv hm_210 dX12_findInYoung_89 v_12_448_12 hm_214 [] [] rfl (zT_rt hS s_94 rfl) ⟨by omega, by omega⟩ rfl (h _ _ S _ (by omega) (by omega) hS rfl (fun o9 m11 hv => ?_))
      obtain ⟨v12, rfl, h⟩ := zmi_of hv
      show ma_wp X d w 210 92 [(2, .inl (-1 : Int32)), (0, .inr (.inr (some 94))), (1, .inl nw)] [.inl v12] (zst S m11) _
      refine zw_sto hm_210 dX12_findInYoung_92 [(3, .inl v12), (2, .inl (-1 : Int32)), (0, .inr (.inr (some 94))), (1, .inl nw)] rfl rfl rfl ?_
      refine zw_push hm_210 dX12_findInYoung_93 (v := .inr (.inr (some 94))) rfl ?_
      refine zw_push hm_210 dX12_findInYoung_94 (v := .inl nw) rfl ?_
      refine zw_push hm_210 dX12_findInYoung_95 (v := .inr (.inr (some 94))) rfl ?_
      refine zw_gf hm_210 dX12_findInYoung_96 (v := .inl (m11 94 14)) (zT_is (zT_zst hS m11) s_94) (zT_t (zT_zst hS m11) s_94) rfl f_12_210_12 rfl ?_
      refine zw_push hm_210 dX12_findInYoung_99 (v := .inr (.inr (some 94))) rfl ?_
      refine zw_gf hm_210 dX12_findInYoung_100 (v := .inl (m11 94 61)) (zT_is (zT_zst hS m11) s_94) (zT_t (zT_zst hS m11) s_94) rfl f_12_273_12 rfl ?_
      refine zw_push hm_210 dX12_findInYoung_103 (v := .inl (1 : Int32)) rfl ?_
      refine zw_stk hm_210 dX12_findInYoung_104 (st₉ := [.inl ((m11 94 61) + (1 : Int32)), .inl (m11 94 14), .inl nw, .inr (.inr (some 94))]) rfl rfl ?_
      refine zw_push hm_210 dX12_findInYoung_105 (v := .inr (.inr (some 94))) rfl ?_
      refine zw_gf hm_210 dX12_findInYoung_106 (v := .inl (m11 94 13)) (zT_is (zT_zst hS m11) s_94) (zT_t (zT_zst hS m11) s_94) rfl f_12_207_12 rfl ?_
      refine zw_stk hm_210 dX12_findInYoung_109 (st₉ := [.inl (((m11 94 61) + (1 : Int32)) * (m11 94 13)), .inl (m11 94 14), .inl nw, .inr (.inr (some 94))]) rfl rfl ?_
      refine zw_stk hm_210 dX12_findInYoung_110 (st₉ := [.inl ((m11 94 14) + (((m11 94 61) + (1 : Int32)) * (m11 94 13))), .inl nw, .inr (.inr (some 94))]) rfl rfl ?_
      refine zw_cv hm_210 dX12_findInYoung_111 v_12_445_12 hm_185 [.inl ((m11 94 14) + (((m11 94 61) + (1 : Int32)) * (m11 94 13))), .inl nw] [] rfl (zT_rt (zT_zst hS m11) s_94 rfl) ⟨by omega, by omega⟩ rfl ?_
      show ma_wp X (d - 1) (w - 23) 185 0 [(0, .inr (.inr (some 94))), (1, .inl nw), (2, .inl ((m11 94 14) + (((m11 94 61) + (1 : Int32)) * (m11 94 13))))] [] (zst S m11) _
      refine zw_push hm_185 dX12_findInHalf_0 (v := .inr (.inr (some 94))) rfl ?_
      refine zw_gf hm_185 dX12_findInHalf_1 (v := .inl (m11 94 59)) (zT_is (zT_zst hS m11) s_94) (zT_t (zT_zst hS m11) s_94) rfl f_12_276_12 rfl ?_
      refine zw_push hm_185 dX12_findInHalf_4 (v := .inl nw) rfl ?_
      refine zw_stk hm_185 dX12_findInHalf_5 (st₉ := [.inl ((m11 94 59) + nw)]) rfl rfl ?_
      refine zw_push hm_185 dX12_findInHalf_6 (v := .inl ((m11 94 14) + (((m11 94 61) + (1 : Int32)) * (m11 94 13)))) rfl ?_
      refine zw_if2 hm_185 dX12_findInHalf_7 (t := 12) rfl zc2_le ?_ ?_
      · intro hc
        rw [if_pos hc] at h
        refine zw_push hm_185 dX12_findInHalf_12 (v := .inr (.inr (some 94))) rfl ?_
        refine zw_gf hm_185 dX12_findInHalf_13 (v := .inl (m11 94 59)) (zT_is (zT_zst hS m11) s_94) (zT_t (zT_zst hS m11) s_94) rfl f_12_276_12 rfl ?_
        refine zw_sto hm_185 dX12_findInHalf_16 [(3, .inl (m11 94 59)), (0, .inr (.inr (some 94))), (1, .inl nw), (2, .inl ((m11 94 14) + (((m11 94 61) + (1 : Int32)) * (m11 94 13))))] rfl rfl rfl ?_
        refine zw_push hm_185 dX12_findInHalf_17 (v := .inr (.inr (some 94))) rfl ?_
        refine zw_stk hm_185 dX12_findInHalf_18 (st₉ := [.inr (.inr (some 94)), .inr (.inr (some 94))]) rfl rfl ?_
        refine zw_gf hm_185 dX12_findInHalf_19 (v := .inl (m11 94 59)) (zT_is (zT_zst hS m11) s_94) (zT_t (zT_zst hS m11) s_94) rfl f_12_276_12 rfl ?_
        refine zw_push hm_185 dX12_findInHalf_22 (v := .inl nw) rfl ?_
        refine zw_stk hm_185 dX12_findInHalf_23 (st₉ := [.inl ((m11 94 59) + nw), .inr (.inr (some 94))]) rfl rfl ?_
        refine zw_pf hm_185 dX12_findInHalf_24 (zT_is (zT_zst hS m11) s_94) (zT_t (zT_zst hS m11) s_94) p_12_276_12 zk_int ?_
        refine zw_push hm_185 dX12_findInHalf_27 (v := .inl (m11 94 59)) rfl ?_
        refine zw_iret hm_185 dX12_findInHalf_28 ?_
        show ma_wp X d w 210 114 [(3, .inl v12), (2, .inl (-1 : Int32)), (0, .inr (.inr (some 94))), (1, .inl nw)] [.inl (m11 94 59)] (ma_put (zst S m11) 94 59 (.inl ((m11 94 59) + nw))) _
        refine zw_sto hm_210 dX12_findInYoung_114 [(2, .inl (m11 94 59)), (3, .inl v12), (0, .inr (.inr (some 94))), (1, .inl nw)] rfl rfl rfl ?_
        refine zw_push hm_210 dX12_findInYoung_115 (v := .inl (m11 94 59)) rfl ?_
        refine zw_if0 hm_210 dX12_findInYoung_116 (t := 121) rfl zc0_lt ?_ ?_
        · intro hc
          rw [if_pos hc] at h
          refine zw_push hm_210 dX12_findInYoung_121 (v := .inr (.inr (some 94))) rfl ?_
          refine zw_cv hm_210 dX12_findInYoung_122 v_12_384_12 hm_211 [] [] rfl (zT_rt (zT_pi (zT_zst hS m11)) s_94 rfl) ⟨by omega, by omega⟩ rfl (h _ _ (ma_put (zst S m11) 94 59 (.inl ((m11 94 59) + nw))) _ (by omega) (by omega) (zT_pi (zT_zst hS m11)) rfl (fun o9 m13 hv => ?_))
          obtain ⟨v14, rfl, h⟩ := zmi_of hv
          show ma_wp X d w 210 125 [(2, .inl (m11 94 59)), (3, .inl v12), (0, .inr (.inr (some 94))), (1, .inl nw)] [.inl v14] (zst S m13) _
          refine zw_sto hm_210 dX12_findInYoung_125 [(3, .inl v14), (2, .inl (m11 94 59)), (0, .inr (.inr (some 94))), (1, .inl nw)] rfl rfl rfl ?_
          refine zw_push hm_210 dX12_findInYoung_126 (v := .inr (.inr (some 94))) rfl ?_
          refine zw_cv hm_210 dX12_findInYoung_127 v_12_448_12 hm_214 [] [] rfl (zT_rt (zT_zst hS m13) s_94 rfl) ⟨by omega, by omega⟩ rfl (h _ _ (zst S m13) _ (by omega) (by omega) (zT_zst hS m13) rfl (fun o9 m15 hv => ?_))
          obtain ⟨v16, rfl, h⟩ := zmi_of hv
          show ma_wp X d w 210 130 [(3, .inl v14), (2, .inl (m11 94 59)), (0, .inr (.inr (some 94))), (1, .inl nw)] [.inl v16] (zst S m15) _
          refine zw_sto hm_210 dX12_findInYoung_130 [(3, .inl v16), (2, .inl (m11 94 59)), (0, .inr (.inr (some 94))), (1, .inl nw)] rfl rfl rfl ?_
          refine zw_push hm_210 dX12_findInYoung_131 (v := .inr (.inr (some 94))) rfl ?_
          refine zw_push hm_210 dX12_findInYoung_132 (v := .inl nw) rfl ?_
          refine zw_push hm_210 dX12_findInYoung_133 (v := .inr (.inr (some 94))) rfl ?_
          refine zw_gf hm_210 dX12_findInYoung_134 (v := .inl (m15 94 14)) (zT_is (zT_zst hS m15) s_94) (zT_t (zT_zst hS m15) s_94) rfl f_12_210_12 rfl ?_
          refine zw_push hm_210 dX12_findInYoung_137 (v := .inr (.inr (some 94))) rfl ?_
          refine zw_gf hm_210 dX12_findInYoung_138 (v := .inl (m15 94 61)) (zT_is (zT_zst hS m15) s_94) (zT_t (zT_zst hS m15) s_94) rfl f_12_273_12 rfl ?_
          refine zw_push hm_210 dX12_findInYoung_141 (v := .inl (1 : Int32)) rfl ?_
          refine zw_stk hm_210 dX12_findInYoung_142 (st₉ := [.inl ((m15 94 61) + (1 : Int32)), .inl (m15 94 14), .inl nw, .inr (.inr (some 94))]) rfl rfl ?_
          refine zw_push hm_210 dX12_findInYoung_143 (v := .inr (.inr (some 94))) rfl ?_
          refine zw_gf hm_210 dX12_findInYoung_144 (v := .inl (m15 94 13)) (zT_is (zT_zst hS m15) s_94) (zT_t (zT_zst hS m15) s_94) rfl f_12_207_12 rfl ?_
          refine zw_stk hm_210 dX12_findInYoung_147 (st₉ := [.inl (((m15 94 61) + (1 : Int32)) * (m15 94 13)), .inl (m15 94 14), .inl nw, .inr (.inr (some 94))]) rfl rfl ?_
          refine zw_stk hm_210 dX12_findInYoung_148 (st₉ := [.inl ((m15 94 14) + (((m15 94 61) + (1 : Int32)) * (m15 94 13))), .inl nw, .inr (.inr (some 94))]) rfl rfl ?_
          refine zw_cv hm_210 dX12_findInYoung_149 v_12_445_12 hm_185 [.inl ((m15 94 14) + (((m15 94 61) + (1 : Int32)) * (m15 94 13))), .inl nw] [] rfl (zT_rt (zT_zst hS m15) s_94 rfl) ⟨by omega, by omega⟩ rfl ?_
          show ma_wp X (d - 1) (w - 23) 185 0 [(0, .inr (.inr (some 94))), (1, .inl nw), (2, .inl ((m15 94 14) + (((m15 94 61) + (1 : Int32)) * (m15 94 13))))] [] (zst S m15) _
          refine zw_push hm_185 dX12_findInHalf_0 (v := .inr (.inr (some 94))) rfl ?_
          refine zw_gf hm_185 dX12_findInHalf_1 (v := .inl (m15 94 59)) (zT_is (zT_zst hS m15) s_94) (zT_t (zT_zst hS m15) s_94) rfl f_12_276_12 rfl ?_
          refine zw_push hm_185 dX12_findInHalf_4 (v := .inl nw) rfl ?_
          refine zw_stk hm_185 dX12_findInHalf_5 (st₉ := [.inl ((m15 94 59) + nw)]) rfl rfl ?_
          refine zw_push hm_185 dX12_findInHalf_6 (v := .inl ((m15 94 14) + (((m15 94 61) + (1 : Int32)) * (m15 94 13)))) rfl ?_
          refine zw_if2 hm_185 dX12_findInHalf_7 (t := 12) rfl zc2_le ?_ ?_
          · intro hc
            rw [if_pos hc] at h
            refine zw_push hm_185 dX12_findInHalf_12 (v := .inr (.inr (some 94))) rfl ?_
            refine zw_gf hm_185 dX12_findInHalf_13 (v := .inl (m15 94 59)) (zT_is (zT_zst hS m15) s_94) (zT_t (zT_zst hS m15) s_94) rfl f_12_276_12 rfl ?_
            refine zw_sto hm_185 dX12_findInHalf_16 [(3, .inl (m15 94 59)), (0, .inr (.inr (some 94))), (1, .inl nw), (2, .inl ((m15 94 14) + (((m15 94 61) + (1 : Int32)) * (m15 94 13))))] rfl rfl rfl ?_
            refine zw_push hm_185 dX12_findInHalf_17 (v := .inr (.inr (some 94))) rfl ?_
            refine zw_stk hm_185 dX12_findInHalf_18 (st₉ := [.inr (.inr (some 94)), .inr (.inr (some 94))]) rfl rfl ?_
            refine zw_gf hm_185 dX12_findInHalf_19 (v := .inl (m15 94 59)) (zT_is (zT_zst hS m15) s_94) (zT_t (zT_zst hS m15) s_94) rfl f_12_276_12 rfl ?_
            refine zw_push hm_185 dX12_findInHalf_22 (v := .inl nw) rfl ?_
            refine zw_stk hm_185 dX12_findInHalf_23 (st₉ := [.inl ((m15 94 59) + nw), .inr (.inr (some 94))]) rfl rfl ?_
            refine zw_pf hm_185 dX12_findInHalf_24 (zT_is (zT_zst hS m15) s_94) (zT_t (zT_zst hS m15) s_94) p_12_276_12 zk_int ?_
            refine zw_push hm_185 dX12_findInHalf_27 (v := .inl (m15 94 59)) rfl ?_
            refine zw_iret hm_185 dX12_findInHalf_28 ?_
            show ma_wp X d w 210 152 [(3, .inl v16), (2, .inl (m11 94 59)), (0, .inr (.inr (some 94))), (1, .inl nw)] [.inl (m15 94 59)] (ma_put (zst S m15) 94 59 (.inl ((m15 94 59) + nw))) _
            exact zw_iret hm_210 dX12_findInYoung_152 (HQ _ _ h)
          · intro hc
            rw [if_neg hc] at h
            refine zw_push hm_185 dX12_findInHalf_10 (v := .inl (-1 : Int32)) rfl ?_
            refine zw_iret hm_185 dX12_findInHalf_11 ?_
            show ma_wp X d w 210 152 [(3, .inl v16), (2, .inl (m11 94 59)), (0, .inr (.inr (some 94))), (1, .inl nw)] [.inl (-1 : Int32)] (zst S m15) _
            exact zw_iret hm_210 dX12_findInYoung_152 (HQ _ _ h)
        · intro hc
          rw [if_neg hc] at h
          refine zw_push hm_210 dX12_findInYoung_119 (v := .inl (m11 94 59)) rfl ?_
          exact zw_iret hm_210 dX12_findInYoung_120 (HQ _ _ h)
      · intro hc
        rw [if_neg hc] at h
        refine zw_push hm_185 dX12_findInHalf_10 (v := .inl (-1 : Int32)) rfl ?_
        refine zw_iret hm_185 dX12_findInHalf_11 ?_
        show ma_wp X d w 210 114 [(3, .inl v12), (2, .inl (-1 : Int32)), (0, .inr (.inr (some 94))), (1, .inl nw)] [.inl (-1 : Int32)] (zst S m11) _
        refine zw_sto hm_210 dX12_findInYoung_114 [(2, .inl (-1 : Int32)), (3, .inl v12), (0, .inr (.inr (some 94))), (1, .inl nw)] rfl rfl rfl ?_
        refine zw_push hm_210 dX12_findInYoung_115 (v := .inl (-1 : Int32)) rfl ?_
        refine zw_if0 hm_210 dX12_findInYoung_116 (t := 121) rfl zc0_lt (fun _ => ?_) (fun hc => absurd (by decide) hc)
        refine zw_push hm_210 dX12_findInYoung_121 (v := .inr (.inr (some 94))) rfl ?_
        refine zw_cv hm_210 dX12_findInYoung_122 v_12_384_12 hm_211 [] [] rfl (zT_rt (zT_zst hS m11) s_94 rfl) ⟨by omega, by omega⟩ rfl (h _ _ (zst S m11) _ (by omega) (by omega) (zT_zst hS m11) rfl (fun o9 m17 hv => ?_))
        obtain ⟨v18, rfl, h⟩ := zmi_of hv
        show ma_wp X d w 210 125 [(2, .inl (-1 : Int32)), (3, .inl v12), (0, .inr (.inr (some 94))), (1, .inl nw)] [.inl v18] (zst S m17) _
        refine zw_sto hm_210 dX12_findInYoung_125 [(3, .inl v18), (2, .inl (-1 : Int32)), (0, .inr (.inr (some 94))), (1, .inl nw)] rfl rfl rfl ?_
        refine zw_push hm_210 dX12_findInYoung_126 (v := .inr (.inr (some 94))) rfl ?_
        refine zw_cv hm_210 dX12_findInYoung_127 v_12_448_12 hm_214 [] [] rfl (zT_rt (zT_zst hS m17) s_94 rfl) ⟨by omega, by omega⟩ rfl (h _ _ (zst S m17) _ (by omega) (by omega) (zT_zst hS m17) rfl (fun o9 m19 hv => ?_))
        obtain ⟨v20, rfl, h⟩ := zmi_of hv
        show ma_wp X d w 210 130 [(3, .inl v18), (2, .inl (-1 : Int32)), (0, .inr (.inr (some 94))), (1, .inl nw)] [.inl v20] (zst S m19) _
        refine zw_sto hm_210 dX12_findInYoung_130 [(3, .inl v20), (2, .inl (-1 : Int32)), (0, .inr (.inr (some 94))), (1, .inl nw)] rfl rfl rfl ?_
        refine zw_push hm_210 dX12_findInYoung_131 (v := .inr (.inr (some 94))) rfl ?_
        refine zw_push hm_210 dX12_findInYoung_132 (v := .inl nw) rfl ?_
        refine zw_push hm_210 dX12_findInYoung_133 (v := .inr (.inr (some 94))) rfl ?_
        refine zw_gf hm_210 dX12_findInYoung_134 (v := .inl (m19 94 14)) (zT_is (zT_zst hS m19) s_94) (zT_t (zT_zst hS m19) s_94) rfl f_12_210_12 rfl ?_
        refine zw_push hm_210 dX12_findInYoung_137 (v := .inr (.inr (some 94))) rfl ?_
        refine zw_gf hm_210 dX12_findInYoung_138 (v := .inl (m19 94 61)) (zT_is (zT_zst hS m19) s_94) (zT_t (zT_zst hS m19) s_94) rfl f_12_273_12 rfl ?_
        refine zw_push hm_210 dX12_findInYoung_141 (v := .inl (1 : Int32)) rfl ?_
        refine zw_stk hm_210 dX12_findInYoung_142 (st₉ := [.inl ((m19 94 61) + (1 : Int32)), .inl (m19 94 14), .inl nw, .inr (.inr (some 94))]) rfl rfl ?_
        refine zw_push hm_210 dX12_findInYoung_143 (v := .inr (.inr (some 94))) rfl ?_
        refine zw_gf hm_210 dX12_findInYoung_144 (v := .inl (m19 94 13)) (zT_is (zT_zst hS m19) s_94) (zT_t (zT_zst hS m19) s_94) rfl f_12_207_12 rfl ?_
        refine zw_stk hm_210 dX12_findInYoung_147 (st₉ := [.inl (((m19 94 61) + (1 : Int32)) * (m19 94 13)), .inl (m19 94 14), .inl nw, .inr (.inr (some 94))]) rfl rfl ?_
        refine zw_stk hm_210 dX12_findInYoung_148 (st₉ := [.inl ((m19 94 14) + (((m19 94 61) + (1 : Int32)) * (m19 94 13))), .inl nw, .inr (.inr (some 94))]) rfl rfl ?_
        refine zw_cv hm_210 dX12_findInYoung_149 v_12_445_12 hm_185 [.inl ((m19 94 14) + (((m19 94 61) + (1 : Int32)) * (m19 94 13))), .inl nw] [] rfl (zT_rt (zT_zst hS m19) s_94 rfl) ⟨by omega, by omega⟩ rfl ?_
        show ma_wp X (d - 1) (w - 23) 185 0 [(0, .inr (.inr (some 94))), (1, .inl nw), (2, .inl ((m19 94 14) + (((m19 94 61) + (1 : Int32)) * (m19 94 13))))] [] (zst S m19) _
        refine zw_push hm_185 dX12_findInHalf_0 (v := .inr (.inr (some 94))) rfl ?_
        refine zw_gf hm_185 dX12_findInHalf_1 (v := .inl (m19 94 59)) (zT_is (zT_zst hS m19) s_94) (zT_t (zT_zst hS m19) s_94) rfl f_12_276_12 rfl ?_
        refine zw_push hm_185 dX12_findInHalf_4 (v := .inl nw) rfl ?_
        refine zw_stk hm_185 dX12_findInHalf_5 (st₉ := [.inl ((m19 94 59) + nw)]) rfl rfl ?_
        refine zw_push hm_185 dX12_findInHalf_6 (v := .inl ((m19 94 14) + (((m19 94 61) + (1 : Int32)) * (m19 94 13)))) rfl ?_
        refine zw_if2 hm_185 dX12_findInHalf_7 (t := 12) rfl zc2_le ?_ ?_
        · intro hc
          rw [if_pos hc] at h
          refine zw_push hm_185 dX12_findInHalf_12 (v := .inr (.inr (some 94))) rfl ?_
          refine zw_gf hm_185 dX12_findInHalf_13 (v := .inl (m19 94 59)) (zT_is (zT_zst hS m19) s_94) (zT_t (zT_zst hS m19) s_94) rfl f_12_276_12 rfl ?_
          refine zw_sto hm_185 dX12_findInHalf_16 [(3, .inl (m19 94 59)), (0, .inr (.inr (some 94))), (1, .inl nw), (2, .inl ((m19 94 14) + (((m19 94 61) + (1 : Int32)) * (m19 94 13))))] rfl rfl rfl ?_
          refine zw_push hm_185 dX12_findInHalf_17 (v := .inr (.inr (some 94))) rfl ?_
          refine zw_stk hm_185 dX12_findInHalf_18 (st₉ := [.inr (.inr (some 94)), .inr (.inr (some 94))]) rfl rfl ?_
          refine zw_gf hm_185 dX12_findInHalf_19 (v := .inl (m19 94 59)) (zT_is (zT_zst hS m19) s_94) (zT_t (zT_zst hS m19) s_94) rfl f_12_276_12 rfl ?_
          refine zw_push hm_185 dX12_findInHalf_22 (v := .inl nw) rfl ?_
          refine zw_stk hm_185 dX12_findInHalf_23 (st₉ := [.inl ((m19 94 59) + nw), .inr (.inr (some 94))]) rfl rfl ?_
          refine zw_pf hm_185 dX12_findInHalf_24 (zT_is (zT_zst hS m19) s_94) (zT_t (zT_zst hS m19) s_94) p_12_276_12 zk_int ?_
          refine zw_push hm_185 dX12_findInHalf_27 (v := .inl (m19 94 59)) rfl ?_
          refine zw_iret hm_185 dX12_findInHalf_28 ?_
          show ma_wp X d w 210 152 [(3, .inl v20), (2, .inl (-1 : Int32)), (0, .inr (.inr (some 94))), (1, .inl nw)] [.inl (m19 94 59)] (ma_put (zst S m19) 94 59 (.inl ((m19 94 59) + nw))) _
          exact zw_iret hm_210 dX12_findInYoung_152 (HQ _ _ h)
        · intro hc
          rw [if_neg hc] at h
          refine zw_push hm_185 dX12_findInHalf_10 (v := .inl (-1 : Int32)) rfl ?_
          refine zw_iret hm_185 dX12_findInHalf_11 ?_
          show ma_wp X d w 210 152 [(3, .inl v20), (2, .inl (-1 : Int32)), (0, .inr (.inr (some 94))), (1, .inl nw)] [.inl (-1 : Int32)] (zst S m19) _
          exact zw_iret hm_210 dX12_findInYoung_152 (HQ _ _ h)
  · intro hc
    rw [if_neg hc] at h
    refine zw_push hm_210 dX12_findInYoung_10 (v := .inr (.inr (some 94))) rfl ?_
    refine zw_gf hm_210 dX12_findInYoung_11 (v := .inl ((mI S) 94 60)) (zT_is hS s_94) (zT_t hS s_94) rfl f_12_279_12 rfl ?_
    refine zw_push hm_210 dX12_findInYoung_14 (v := .inl nw) rfl ?_
    refine zw_stk hm_210 dX12_findInYoung_15 (st₉ := [.inl (((mI S) 94 60) + nw)]) rfl rfl ?_
    refine zw_push hm_210 dX12_findInYoung_16 (v := .inr (.inr (some 94))) rfl ?_
    refine zw_gf hm_210 dX12_findInYoung_17 (v := .inl ((mI S) 94 14)) (zT_is hS s_94) (zT_t hS s_94) rfl f_12_210_12 rfl ?_
    refine zw_if2 hm_210 dX12_findInYoung_20 (t := 28) rfl zc2_le ?_ ?_
    · intro hc
      rw [if_pos hc] at h
      refine zw_push hm_210 dX12_findInYoung_28 (v := .inr (.inr (some 94))) rfl ?_
      refine zw_gf hm_210 dX12_findInYoung_29 (v := .inl ((mI S) 94 60)) (zT_is hS s_94) (zT_t hS s_94) rfl f_12_279_12 rfl ?_
      refine zw_push hm_210 dX12_findInYoung_32 (v := .inl nw) rfl ?_
      refine zw_stk hm_210 dX12_findInYoung_33 (st₉ := [.inl (((mI S) 94 60) + nw)]) rfl rfl ?_
      refine zw_push hm_210 dX12_findInYoung_34 (v := .inr (.inr (some 94))) rfl ?_
      refine zw_gf hm_210 dX12_findInYoung_35 (v := .inl ((mI S) 94 14)) (zT_is hS s_94) (zT_t hS s_94) rfl f_12_210_12 rfl ?_
      refine zw_if2 hm_210 dX12_findInYoung_38 (t := 43) rfl zc2_le ?_ ?_
      · intro hc
        rw [if_pos hc] at h
        refine zw_push hm_210 dX12_findInYoung_43 (v := .inr (.inr (some 94))) rfl ?_
        refine zw_gf hm_210 dX12_findInYoung_44 (v := .inl ((mI S) 94 60)) (zT_is hS s_94) (zT_t hS s_94) rfl f_12_279_12 rfl ?_
        refine zw_sto hm_210 dX12_findInYoung_47 [(2, .inl ((mI S) 94 60)), (0, .inr (.inr (some 94))), (1, .inl nw)] rfl rfl rfl ?_
        refine zw_push hm_210 dX12_findInYoung_48 (v := .inr (.inr (some 94))) rfl ?_
        refine zw_stk hm_210 dX12_findInYoung_49 (st₉ := [.inr (.inr (some 94)), .inr (.inr (some 94))]) rfl rfl ?_
        refine zw_gf hm_210 dX12_findInYoung_50 (v := .inl ((mI S) 94 60)) (zT_is hS s_94) (zT_t hS s_94) rfl f_12_279_12 rfl ?_
        refine zw_push hm_210 dX12_findInYoung_53 (v := .inl nw) rfl ?_
        refine zw_stk hm_210 dX12_findInYoung_54 (st₉ := [.inl (((mI S) 94 60) + nw), .inr (.inr (some 94))]) rfl rfl ?_
        refine zw_pf hm_210 dX12_findInYoung_55 (zT_is hS s_94) (zT_t hS s_94) p_12_279_12 zk_int ?_
        refine zw_push hm_210 dX12_findInYoung_58 (v := .inl ((mI S) 94 60)) rfl ?_
        exact zw_iret hm_210 dX12_findInYoung_59 (HQ _ _ h)
      · intro hc
        rw [if_neg hc] at h
        refine zw_push hm_210 dX12_findInYoung_41 (v := .inl (-1 : Int32)) rfl ?_
        exact zw_iret hm_210 dX12_findInYoung_42 (HQ _ _ h)
    · intro hc
      rw [if_neg hc] at h
      refine zw_push hm_210 dX12_findInYoung_23 (v := .inr (.inr (some 94))) rfl ?_
      refine zw_cv hm_210 dX12_findInYoung_24 v_12_384_12 hm_211 [] [] rfl (zT_rt hS s_94 rfl) ⟨by omega, by omega⟩ rfl (h _ _ S _ (by omega) (by omega) hS rfl (fun o9 m21 hv => ?_))
      obtain ⟨v22, rfl, h⟩ := zmi_of hv
      show ma_wp X d w 210 27 [(0, .inr (.inr (some 94))), (1, .inl nw)] [.inl v22] (zst S m21) _
      refine zw_sto hm_210 dX12_findInYoung_27 [(2, .inl v22), (0, .inr (.inr (some 94))), (1, .inl nw)] rfl rfl rfl ?_
      refine zw_push hm_210 dX12_findInYoung_28 (v := .inr (.inr (some 94))) rfl ?_
      refine zw_gf hm_210 dX12_findInYoung_29 (v := .inl (m21 94 60)) (zT_is (zT_zst hS m21) s_94) (zT_t (zT_zst hS m21) s_94) rfl f_12_279_12 rfl ?_
      refine zw_push hm_210 dX12_findInYoung_32 (v := .inl nw) rfl ?_
      refine zw_stk hm_210 dX12_findInYoung_33 (st₉ := [.inl ((m21 94 60) + nw)]) rfl rfl ?_
      refine zw_push hm_210 dX12_findInYoung_34 (v := .inr (.inr (some 94))) rfl ?_
      refine zw_gf hm_210 dX12_findInYoung_35 (v := .inl (m21 94 14)) (zT_is (zT_zst hS m21) s_94) (zT_t (zT_zst hS m21) s_94) rfl f_12_210_12 rfl ?_
      refine zw_if2 hm_210 dX12_findInYoung_38 (t := 43) rfl zc2_le ?_ ?_
      · intro hc
        rw [if_pos hc] at h
        refine zw_push hm_210 dX12_findInYoung_43 (v := .inr (.inr (some 94))) rfl ?_
        refine zw_gf hm_210 dX12_findInYoung_44 (v := .inl (m21 94 60)) (zT_is (zT_zst hS m21) s_94) (zT_t (zT_zst hS m21) s_94) rfl f_12_279_12 rfl ?_
        refine zw_sto hm_210 dX12_findInYoung_47 [(2, .inl (m21 94 60)), (0, .inr (.inr (some 94))), (1, .inl nw)] rfl rfl rfl ?_
        refine zw_push hm_210 dX12_findInYoung_48 (v := .inr (.inr (some 94))) rfl ?_
        refine zw_stk hm_210 dX12_findInYoung_49 (st₉ := [.inr (.inr (some 94)), .inr (.inr (some 94))]) rfl rfl ?_
        refine zw_gf hm_210 dX12_findInYoung_50 (v := .inl (m21 94 60)) (zT_is (zT_zst hS m21) s_94) (zT_t (zT_zst hS m21) s_94) rfl f_12_279_12 rfl ?_
        refine zw_push hm_210 dX12_findInYoung_53 (v := .inl nw) rfl ?_
        refine zw_stk hm_210 dX12_findInYoung_54 (st₉ := [.inl ((m21 94 60) + nw), .inr (.inr (some 94))]) rfl rfl ?_
        refine zw_pf hm_210 dX12_findInYoung_55 (zT_is (zT_zst hS m21) s_94) (zT_t (zT_zst hS m21) s_94) p_12_279_12 zk_int ?_
        refine zw_push hm_210 dX12_findInYoung_58 (v := .inl (m21 94 60)) rfl ?_
        exact zw_iret hm_210 dX12_findInYoung_59 (HQ _ _ h)
      · intro hc
        rw [if_neg hc] at h
        refine zw_push hm_210 dX12_findInYoung_41 (v := .inl (-1 : Int32)) rfl ?_
        exact zw_iret hm_210 dX12_findInYoung_42 (HQ _ _ h)
set_option maxHeartbeats 8000000 in
theorem sp_210 {X : Nat × (Nat → Int32)} {P : Option ma_V → (Nat → Nat → Int32) → Prop} {T : Nat} {m : Nat → Nat → Int32} (nw : Int32) (hV : zV m) (hpre0 : 1 ≤ nw.toInt) (hpre1 : nw.toInt ≤ 61) (r_W : zW (m 94 7) (m 98) (m 101) (m 102) (m 108)) (r_GW : zGW T (m 94 55) (m 109)) (r_GU : zGU T (m 94 46) (m 99)) (r_OW : zOw (m 99) (m 103) (m 111)) (r_DX : zDX (m 94 10) (m 99) (m 112) (m 113) (m 114) (m 94 55) (m 98) (m 101) (m 102) (m 108)) (r_HA : zHA (m 94 10) (m 94 11) (m 94 13) (m 94 14) (m 94 16) (m 94 61) (m 94 59) (m 94 60) (m 99) (m 102) (m 103) (m 111) (m 117) (m 98) (m 101) (m 108)) (hpre8 : (m 94 10).toInt = 3) (KZ : ∀ v m₉, zV (zov wr_210 m m₉) → (zGW T (m₉ 94 55) (m₉ 109)) → (zGU T (m 94 46) (m₉ 99)) → (zOw (m₉ 99) (m₉ 103) (m₉ 111)) → (zDX (m 94 10) (m₉ 99) (m 112) (m₉ 113) (m₉ 114) (m₉ 94 55) (m 98) (m 101) (m 102) (m 108)) → (zHA (m 94 10) (m 94 11) (m 94 13) (m 94 14) (m 94 16) (m₉ 94 61) (m₉ 94 59) (m₉ 94 60) (m₉ 99) (m 102) (m₉ 103) (m₉ 111) (m₉ 117) (m 98) (m 101) (m 108)) → (zPL (m 94 10) (m 94 11) (m 94 13) (m 94 14) (m₉ 94 61) (m₉ 94 59) (m₉ 94 60) (m 94 18) (m 94 64) (m₉ 99) (m 102) (m₉ 103) (m₉ 111) v nw) → P (some (.inl v)) (zov wr_210 m m₉)) : zm X 7 152 210 0 [(0, .inr (.inr (some 94))), (1, .inl nw)] m P := by
  have K : ∀ v m₉, zF wr_210 m m₉ → zV m₉ → (zGW T (m₉ 94 55) (m₉ 109)) → (zGU T (m₉ 94 46) (m₉ 99)) → (zOw (m₉ 99) (m₉ 103) (m₉ 111)) → (zDX (m₉ 94 10) (m₉ 99) (m₉ 112) (m₉ 113) (m₉ 114) (m₉ 94 55) (m₉ 98) (m₉ 101) (m₉ 102) (m₉ 108)) → (zHA (m₉ 94 10) (m₉ 94 11) (m₉ 94 13) (m₉ 94 14) (m₉ 94 16) (m₉ 94 61) (m₉ 94 59) (m₉ 94 60) (m₉ 99) (m₉ 102) (m₉ 103) (m₉ 111) (m₉ 117) (m₉ 98) (m₉ 101) (m₉ 108)) → (zPL (m₉ 94 10) (m₉ 94 11) (m₉ 94 13) (m₉ 94 14) (m₉ 94 61) (m₉ 94 59) (m₉ 94 60) (m₉ 94 18) (m₉ 94 64) (m₉ 99) (m₉ 102) (m₉ 103) (m₉ 111) v nw) → P (some (.inl v)) m₉ := by
    intro v m₉ hf z q0 q1 q2 q3 q4 q5
    have e := zov_eq hf
    rw [e] at z ⊢
    try rw [e] at q0
    try rw [e] at q1
    try rw [e] at q2
    try rw [e] at q3
    try rw [e] at q4
    try rw [e] at q5
    exact KZ v m₉ z q0 q1 q2 q3 q4 q5
  refine g_210_0 nw ?_
  have f1 : 0 ≤ (m 94 10).toInt ∧ (m 94 10).toInt ≤ 6 := rs_94_10 (m := m) hV
  have b2 := i_bd nw
  have f3 : 0 ≤ (m 94 13).toInt ∧ (m 94 13).toInt ≤ 1500 := rs_94_13 (m := m) hV
  have li4 : (2 : Int32).toInt = 2 := rfl
  first | have f5 := i_div (x := (m 94 13)) (y := (2 : Int32)) (by omega) (by omega) | have b6 := i_bd ((m 94 13) / (2 : Int32))
  try have f7 : (((m 94 13) / (2 : Int32))).toInt = (m 94 13).toInt / 2 := (i_div (x := (m 94 13)) (y := (2 : Int32)) (by omega) (by omega)).2.2.1
  refine zd (fun (h8 : nw ≤ ((m 94 13) / (2 : Int32))) => ?_) (fun (h8 : ¬ nw ≤ ((m 94 13) / (2 : Int32))) => ?_)
  · skip
    have g9 := i_le h8
    have f10 : 0 ≤ (m 94 59).toInt ∧ (m 94 59).toInt ≤ 4600 := rs_94_59 (m := m) hV
    first | have e11 : ((m 94 59) + nw).toInt = (m 94 59).toInt + nw.toInt := i_add (by omega) (by omega) | have b12 := i_bd ((m 94 59) + nw)
    have f13 : 0 ≤ (m 94 14).toInt ∧ (m 94 14).toInt ≤ 1500 := rs_94_14 (m := m) hV
    have f14 : 0 ≤ (m 94 61).toInt ∧ (m 94 61).toInt ≤ 1 := rs_94_61 (m := m) hV
    first | have e15 : ((m 94 61) + (1 : Int32)).toInt = (m 94 61).toInt + (1) := i_addk rfl (by omega) (by omega) | have b16 := i_bd ((m 94 61) + (1 : Int32))
    first | have f17 := i_mul01 (x := ((m 94 61) + (1 : Int32))) (y := (m 94 13)) (by omega) (by omega) (by omega) (by omega) | have b18 := i_bd (((m 94 61) + (1 : Int32)) * (m 94 13))
    first | have e19 : ((m 94 14) + (((m 94 61) + (1 : Int32)) * (m 94 13))).toInt = (m 94 14).toInt + (((m 94 61) + (1 : Int32)) * (m 94 13)).toInt := i_add (by omega) (by omega) | have b20 := i_bd ((m 94 14) + (((m 94 61) + (1 : Int32)) * (m 94 13)))
    refine zd (fun (h21 : ((m 94 59) + nw) ≤ ((m 94 14) + (((m 94 61) + (1 : Int32)) * (m 94 13)))) => ?_) (fun (h21 : ¬ ((m 94 59) + nw) ≤ ((m 94 14) + (((m 94 61) + (1 : Int32)) * (m 94 13)))) => ?_)
    · skip
      have g22 := i_le h21
      have li23 : (0 : Int32).toInt = 0 := rfl
      refine zd (fun (h24 : (m 94 59) < (0 : Int32)) => ?_) (fun (h24 : ¬ (m 94 59) < (0 : Int32)) => ?_)
      · skip
        have g25 := i_lt h24
        have hV26 : zV (ma_u m 94 59 ((m 94 59) + nw)) := us_94_59 hV (by omega) (by omega)
        refine sp_214  hV26 r_W r_GW r_GU r_OW r_DX (show zHA (m 94 10) (m 94 11) (m 94 13) (m 94 14) (m 94 16) (m 94 61) ((m 94 59) + nw) (m 94 60) (m 99) (m 102) (m 103) (m 111) (m 117) (m 98) (m 101) (m 108) from by first | (exact HA_ot r_HA (by omega) (by omega) (by omega)) | (exact HA_up3 r_HA (by omega) (by omega) (by omega) (by omega) (by omega) (by omega) (by omega)) | (exfalso; omega; done) | (exfalso; contradiction; done)) (show (m 94 10).toInt = 3 from by omega) (fun v2 m1 hV_m1 p0_m1 p1_m1 p2_m1 p3_m1 p4_m1 => zmi_n ?_)
        have p0_m1 : zGW T (m1 94 55) (m1 109) := p0_m1
        have p1_m1 : zGU T (m 94 46) (m1 99) := p1_m1
        have p2_m1 : zOw (m1 99) (m1 103) (m1 111) := p2_m1
        have p3_m1 : zDX (m 94 10) (m1 99) (m 112) (m1 113) (m1 114) (m1 94 55) (m 98) (m 101) (m 102) (m 108) := p3_m1
        have p4_m1 : zHA (m 94 10) (m 94 11) (m 94 13) (m 94 14) (m 94 16) (m1 94 61) (m1 94 59) (m1 94 60) (m1 99) (m 102) (m1 103) (m1 111) (m1 117) (m 98) (m 101) (m 108) := p4_m1
        have f27 : 0 ≤ (m1 94 59).toInt ∧ (m1 94 59).toInt ≤ 4600 := rs_94_59 (m := (zov wr_214 (ma_u m 94 59 ((m 94 59) + nw)) m1)) hV_m1
        first | have e28 : ((m1 94 59) + nw).toInt = (m1 94 59).toInt + nw.toInt := i_add (by omega) (by omega) | have b29 := i_bd ((m1 94 59) + nw)
        have f30 : 0 ≤ (m1 94 61).toInt ∧ (m1 94 61).toInt ≤ 1 := rs_94_61 (m := (zov wr_214 (ma_u m 94 59 ((m 94 59) + nw)) m1)) hV_m1
        first | have e31 : ((m1 94 61) + (1 : Int32)).toInt = (m1 94 61).toInt + (1) := i_addk rfl (by omega) (by omega) | have b32 := i_bd ((m1 94 61) + (1 : Int32))
        first | have f33 := i_mul01 (x := ((m1 94 61) + (1 : Int32))) (y := (m 94 13)) (by omega) (by omega) (by omega) (by omega) | have b34 := i_bd (((m1 94 61) + (1 : Int32)) * (m 94 13))
        first | have e35 : ((m 94 14) + (((m1 94 61) + (1 : Int32)) * (m 94 13))).toInt = (m 94 14).toInt + (((m1 94 61) + (1 : Int32)) * (m 94 13)).toInt := i_add (by omega) (by omega) | have b36 := i_bd ((m 94 14) + (((m1 94 61) + (1 : Int32)) * (m 94 13)))
        refine zd (fun (h37 : ((m1 94 59) + nw) ≤ ((m 94 14) + (((m1 94 61) + (1 : Int32)) * (m 94 13)))) => ?_) (fun (h37 : ¬ ((m1 94 59) + nw) ≤ ((m 94 14) + (((m1 94 61) + (1 : Int32)) * (m 94 13)))) => ?_)
        · skip
          have g38 := i_le h37
          refine zd (fun (h39 : (m1 94 59) < (0 : Int32)) => ?_) (fun (h39 : ¬ (m1 94 59) < (0 : Int32)) => ?_)
          · skip
            have g40 := i_lt h39
            have hV41 : zV (ma_u (zov wr_214 (ma_u m 94 59 ((m 94 59) + nw)) m1) 94 59 ((m1 94 59) + nw)) := us_94_59 hV_m1 (by omega) (by omega)
            refine sp_211  hV41 r_W p0_m1 p1_m1 p2_m1 p3_m1 (show zHA (m 94 10) (m 94 11) (m 94 13) (m 94 14) (m 94 16) (m1 94 61) ((m1 94 59) + nw) (m1 94 60) (m1 99) (m 102) (m1 103) (m1 111) (m1 117) (m 98) (m 101) (m 108) from by first | (exact HA_ot p4_m1 (by omega) (by omega) (by omega)) | (exact HA_up3 p4_m1 (by omega) (by omega) (by omega) (by omega) (by omega) (by omega) (by omega)) | (exfalso; omega; done) | (exfalso; contradiction; done)) (show (m 94 10).toInt = 3 from by omega) (fun v4 m3 hV_m3 p0_m3 p1_m3 p2_m3 p3_m3 p4_m3 => zmi_n ?_)
            have p0_m3 : zGW T (m3 94 55) (m3 109) := p0_m3
            have p1_m3 : zGU T (m 94 46) (m3 99) := p1_m3
            have p2_m3 : zOw (m3 99) (m3 103) (m3 111) := p2_m3
            have p3_m3 : zDX (m 94 10) (m3 99) (m 112) (m3 113) (m3 114) (m3 94 55) (m 98) (m 101) (m 102) (m 108) := p3_m3
            have p4_m3 : zHA (m 94 10) (m 94 11) (m 94 13) (m 94 14) (m 94 16) (m1 94 61) ((m1 94 59) + nw) (m3 94 60) (m3 99) (m 102) (m3 103) (m3 111) (m3 117) (m 98) (m 101) (m 108) := p4_m3
            refine sp_214  hV_m3 r_W p0_m3 p1_m3 p2_m3 p3_m3 p4_m3 (show (m 94 10).toInt = 3 from by omega) (fun v6 m5 hV_m5 p0_m5 p1_m5 p2_m5 p3_m5 p4_m5 => zmi_n ?_)
            have p0_m5 : zGW T (m5 94 55) (m5 109) := p0_m5
            have p1_m5 : zGU T (m 94 46) (m5 99) := p1_m5
            have p2_m5 : zOw (m5 99) (m5 103) (m5 111) := p2_m5
            have p3_m5 : zDX (m 94 10) (m5 99) (m 112) (m5 113) (m5 114) (m5 94 55) (m 98) (m 101) (m 102) (m 108) := p3_m5
            have p4_m5 : zHA (m 94 10) (m 94 11) (m 94 13) (m 94 14) (m 94 16) (m5 94 61) (m5 94 59) (m5 94 60) (m5 99) (m 102) (m5 103) (m5 111) (m5 117) (m 98) (m 101) (m 108) := p4_m5
            have f42 : 0 ≤ (m5 94 59).toInt ∧ (m5 94 59).toInt ≤ 4600 := rs_94_59 (m := (zov wr_214 (zov wr_211 (ma_u (zov wr_214 (ma_u m 94 59 ((m 94 59) + nw)) m1) 94 59 ((m1 94 59) + nw)) m3) m5)) hV_m5
            first | have e43 : ((m5 94 59) + nw).toInt = (m5 94 59).toInt + nw.toInt := i_add (by omega) (by omega) | have b44 := i_bd ((m5 94 59) + nw)
            have f45 : 0 ≤ (m5 94 61).toInt ∧ (m5 94 61).toInt ≤ 1 := rs_94_61 (m := (zov wr_214 (zov wr_211 (ma_u (zov wr_214 (ma_u m 94 59 ((m 94 59) + nw)) m1) 94 59 ((m1 94 59) + nw)) m3) m5)) hV_m5
            first | have e46 : ((m5 94 61) + (1 : Int32)).toInt = (m5 94 61).toInt + (1) := i_addk rfl (by omega) (by omega) | have b47 := i_bd ((m5 94 61) + (1 : Int32))
            first | have f48 := i_mul01 (x := ((m5 94 61) + (1 : Int32))) (y := (m 94 13)) (by omega) (by omega) (by omega) (by omega) | have b49 := i_bd (((m5 94 61) + (1 : Int32)) * (m 94 13))
            first | have e50 : ((m 94 14) + (((m5 94 61) + (1 : Int32)) * (m 94 13))).toInt = (m 94 14).toInt + (((m5 94 61) + (1 : Int32)) * (m 94 13)).toInt := i_add (by omega) (by omega) | have b51 := i_bd ((m 94 14) + (((m5 94 61) + (1 : Int32)) * (m 94 13)))
            refine zd (fun (h52 : ((m5 94 59) + nw) ≤ ((m 94 14) + (((m5 94 61) + (1 : Int32)) * (m 94 13)))) => ?_) (fun (h52 : ¬ ((m5 94 59) + nw) ≤ ((m 94 14) + (((m5 94 61) + (1 : Int32)) * (m 94 13)))) => ?_)
            · skip
              have g53 := i_le h52
              have hV54 : zV (ma_u (zov wr_214 (zov wr_211 (ma_u (zov wr_214 (ma_u m 94 59 ((m 94 59) + nw)) m1) 94 59 ((m1 94 59) + nw)) m3) m5) 94 59 ((m5 94 59) + nw)) := us_94_59 hV_m5 (by omega) (by omega)
              exact K ((m5 94 59)) _ (zF_u (zF_zov (zF_zov (zF_u (zF_zov (zF_u zF_rfl rfl) ws_214_210) rfl) ws_211_210) ws_214_210) rfl) hV54 p0_m5 p1_m5 p2_m5 p3_m5 (show zHA (m 94 10) (m 94 11) (m 94 13) (m 94 14) (m 94 16) (m5 94 61) ((m5 94 59) + nw) (m5 94 60) (m5 99) (m 102) (m5 103) (m5 111) (m5 117) (m 98) (m 101) (m 108) from by first | (exact HA_ot p4_m5 (by omega) (by omega) (by omega)) | (exact HA_up3 p4_m5 (by omega) (by omega) (by omega) (by omega) (by omega) (by omega) (by omega)) | (exfalso; omega; done) | (exfalso; contradiction; done)) (show zPL (m 94 10) (m 94 11) (m 94 13) (m 94 14) (m5 94 61) ((m5 94 59) + nw) (m5 94 60) (m 94 18) (m 94 64) (m5 99) (m 102) (m5 103) (m5 111) (m5 94 59) nw from by first | (exact PL_no (by decide)) | (exact PL_3o p4_m5 (by omega) (by omega) (by omega) rfl (by omega)) | (exact PL_3y p4_m5 (by omega) (by omega) (by omega) (by omega) rfl (by omega)) | (exfalso; omega; done) | (exfalso; contradiction; done))
            · skip
              have g55 := i_nle h52
              have li56 : (-1 : Int32).toInt = -1 := rfl
              exact K ((-1 : Int32)) _ (zF_zov (zF_zov (zF_u (zF_zov (zF_u zF_rfl rfl) ws_214_210) rfl) ws_211_210) ws_214_210) hV_m5 p0_m5 p1_m5 p2_m5 p3_m5 p4_m5 (show zPL (m 94 10) (m 94 11) (m 94 13) (m 94 14) (m5 94 61) (m5 94 59) (m5 94 60) (m 94 18) (m 94 64) (m5 99) (m 102) (m5 103) (m5 111) (-1 : Int32) nw from by first | (exact PL_no (by decide)) | (exact PL_3o p4_m5 (by omega) (by omega) (by omega) rfl (by omega)) | (exact PL_3y p4_m5 (by omega) (by omega) (by omega) (by omega) rfl (by omega)) | (exfalso; omega; done) | (exfalso; contradiction; done))
          · skip
            have g57 := i_nlt h39
            have hV58 : zV (ma_u (zov wr_214 (ma_u m 94 59 ((m 94 59) + nw)) m1) 94 59 ((m1 94 59) + nw)) := us_94_59 hV_m1 (by omega) (by omega)
            exact K ((m1 94 59)) _ (zF_u (zF_zov (zF_u zF_rfl rfl) ws_214_210) rfl) hV58 p0_m1 p1_m1 p2_m1 p3_m1 (show zHA (m 94 10) (m 94 11) (m 94 13) (m 94 14) (m 94 16) (m1 94 61) ((m1 94 59) + nw) (m1 94 60) (m1 99) (m 102) (m1 103) (m1 111) (m1 117) (m 98) (m 101) (m 108) from by first | (exact HA_ot p4_m1 (by omega) (by omega) (by omega)) | (exact HA_up3 p4_m1 (by omega) (by omega) (by omega) (by omega) (by omega) (by omega) (by omega)) | (exfalso; omega; done) | (exfalso; contradiction; done)) (show zPL (m 94 10) (m 94 11) (m 94 13) (m 94 14) (m1 94 61) ((m1 94 59) + nw) (m1 94 60) (m 94 18) (m 94 64) (m1 99) (m 102) (m1 103) (m1 111) (m1 94 59) nw from by first | (exact PL_no (by decide)) | (exact PL_3o p4_m1 (by omega) (by omega) (by omega) rfl (by omega)) | (exact PL_3y p4_m1 (by omega) (by omega) (by omega) (by omega) rfl (by omega)) | (exfalso; omega; done) | (exfalso; contradiction; done))
        · skip
          have g59 := i_nle h37
          refine sp_211  hV_m1 r_W p0_m1 p1_m1 p2_m1 p3_m1 p4_m1 (show (m 94 10).toInt = 3 from by omega) (fun v8 m7 hV_m7 p0_m7 p1_m7 p2_m7 p3_m7 p4_m7 => zmi_n ?_)
          have p0_m7 : zGW T (m7 94 55) (m7 109) := p0_m7
          have p1_m7 : zGU T (m 94 46) (m7 99) := p1_m7
          have p2_m7 : zOw (m7 99) (m7 103) (m7 111) := p2_m7
          have p3_m7 : zDX (m 94 10) (m7 99) (m 112) (m7 113) (m7 114) (m7 94 55) (m 98) (m 101) (m 102) (m 108) := p3_m7
          have p4_m7 : zHA (m 94 10) (m 94 11) (m 94 13) (m 94 14) (m 94 16) (m1 94 61) (m1 94 59) (m7 94 60) (m7 99) (m 102) (m7 103) (m7 111) (m7 117) (m 98) (m 101) (m 108) := p4_m7
          refine sp_214  hV_m7 r_W p0_m7 p1_m7 p2_m7 p3_m7 p4_m7 (show (m 94 10).toInt = 3 from by omega) (fun v10 m9 hV_m9 p0_m9 p1_m9 p2_m9 p3_m9 p4_m9 => zmi_n ?_)
          have p0_m9 : zGW T (m9 94 55) (m9 109) := p0_m9
          have p1_m9 : zGU T (m 94 46) (m9 99) := p1_m9
          have p2_m9 : zOw (m9 99) (m9 103) (m9 111) := p2_m9
          have p3_m9 : zDX (m 94 10) (m9 99) (m 112) (m9 113) (m9 114) (m9 94 55) (m 98) (m 101) (m 102) (m 108) := p3_m9
          have p4_m9 : zHA (m 94 10) (m 94 11) (m 94 13) (m 94 14) (m 94 16) (m9 94 61) (m9 94 59) (m9 94 60) (m9 99) (m 102) (m9 103) (m9 111) (m9 117) (m 98) (m 101) (m 108) := p4_m9
          have f60 : 0 ≤ (m9 94 59).toInt ∧ (m9 94 59).toInt ≤ 4600 := rs_94_59 (m := (zov wr_214 (zov wr_211 (zov wr_214 (ma_u m 94 59 ((m 94 59) + nw)) m1) m7) m9)) hV_m9
          first | have e61 : ((m9 94 59) + nw).toInt = (m9 94 59).toInt + nw.toInt := i_add (by omega) (by omega) | have b62 := i_bd ((m9 94 59) + nw)
          have f63 : 0 ≤ (m9 94 61).toInt ∧ (m9 94 61).toInt ≤ 1 := rs_94_61 (m := (zov wr_214 (zov wr_211 (zov wr_214 (ma_u m 94 59 ((m 94 59) + nw)) m1) m7) m9)) hV_m9
          first | have e64 : ((m9 94 61) + (1 : Int32)).toInt = (m9 94 61).toInt + (1) := i_addk rfl (by omega) (by omega) | have b65 := i_bd ((m9 94 61) + (1 : Int32))
          first | have f66 := i_mul01 (x := ((m9 94 61) + (1 : Int32))) (y := (m 94 13)) (by omega) (by omega) (by omega) (by omega) | have b67 := i_bd (((m9 94 61) + (1 : Int32)) * (m 94 13))
          first | have e68 : ((m 94 14) + (((m9 94 61) + (1 : Int32)) * (m 94 13))).toInt = (m 94 14).toInt + (((m9 94 61) + (1 : Int32)) * (m 94 13)).toInt := i_add (by omega) (by omega) | have b69 := i_bd ((m 94 14) + (((m9 94 61) + (1 : Int32)) * (m 94 13)))
          refine zd (fun (h70 : ((m9 94 59) + nw) ≤ ((m 94 14) + (((m9 94 61) + (1 : Int32)) * (m 94 13)))) => ?_) (fun (h70 : ¬ ((m9 94 59) + nw) ≤ ((m 94 14) + (((m9 94 61) + (1 : Int32)) * (m 94 13)))) => ?_)
          · skip
            have g71 := i_le h70
            have hV72 : zV (ma_u (zov wr_214 (zov wr_211 (zov wr_214 (ma_u m 94 59 ((m 94 59) + nw)) m1) m7) m9) 94 59 ((m9 94 59) + nw)) := us_94_59 hV_m9 (by omega) (by omega)
            exact K ((m9 94 59)) _ (zF_u (zF_zov (zF_zov (zF_zov (zF_u zF_rfl rfl) ws_214_210) ws_211_210) ws_214_210) rfl) hV72 p0_m9 p1_m9 p2_m9 p3_m9 (show zHA (m 94 10) (m 94 11) (m 94 13) (m 94 14) (m 94 16) (m9 94 61) ((m9 94 59) + nw) (m9 94 60) (m9 99) (m 102) (m9 103) (m9 111) (m9 117) (m 98) (m 101) (m 108) from by first | (exact HA_ot p4_m9 (by omega) (by omega) (by omega)) | (exact HA_up3 p4_m9 (by omega) (by omega) (by omega) (by omega) (by omega) (by omega) (by omega)) | (exfalso; omega; done) | (exfalso; contradiction; done)) (show zPL (m 94 10) (m 94 11) (m 94 13) (m 94 14) (m9 94 61) ((m9 94 59) + nw) (m9 94 60) (m 94 18) (m 94 64) (m9 99) (m 102) (m9 103) (m9 111) (m9 94 59) nw from by first | (exact PL_no (by decide)) | (exact PL_3o p4_m9 (by omega) (by omega) (by omega) rfl (by omega)) | (exact PL_3y p4_m9 (by omega) (by omega) (by omega) (by omega) rfl (by omega)) | (exfalso; omega; done) | (exfalso; contradiction; done))
          · skip
            have g73 := i_nle h70
            have li74 : (-1 : Int32).toInt = -1 := rfl
            exact K ((-1 : Int32)) _ (zF_zov (zF_zov (zF_zov (zF_u zF_rfl rfl) ws_214_210) ws_211_210) ws_214_210) hV_m9 p0_m9 p1_m9 p2_m9 p3_m9 p4_m9 (show zPL (m 94 10) (m 94 11) (m 94 13) (m 94 14) (m9 94 61) (m9 94 59) (m9 94 60) (m 94 18) (m 94 64) (m9 99) (m 102) (m9 103) (m9 111) (-1 : Int32) nw from by first | (exact PL_no (by decide)) | (exact PL_3o p4_m9 (by omega) (by omega) (by omega) rfl (by omega)) | (exact PL_3y p4_m9 (by omega) (by omega) (by omega) (by omega) rfl (by omega)) | (exfalso; omega; done) | (exfalso; contradiction; done))
      · skip
        have g75 := i_nlt h24
        have hV76 : zV (ma_u m 94 59 ((m 94 59) + nw)) := us_94_59 hV (by omega) (by omega)
        exact K ((m 94 59)) _ (zF_u zF_rfl rfl) hV76 r_GW r_GU r_OW r_DX (show zHA (m 94 10) (m 94 11) (m 94 13) (m 94 14) (m 94 16) (m 94 61) ((m 94 59) + nw) (m 94 60) (m 99) (m 102) (m 103) (m 111) (m 117) (m 98) (m 101) (m 108) from by first | (exact HA_ot r_HA (by omega) (by omega) (by omega)) | (exact HA_up3 r_HA (by omega) (by omega) (by omega) (by omega) (by omega) (by omega) (by omega)) | (exfalso; omega; done) | (exfalso; contradiction; done)) (show zPL (m 94 10) (m 94 11) (m 94 13) (m 94 14) (m 94 61) ((m 94 59) + nw) (m 94 60) (m 94 18) (m 94 64) (m 99) (m 102) (m 103) (m 111) (m 94 59) nw from by first | (exact PL_no (by decide)) | (exact PL_3o r_HA (by omega) (by omega) (by omega) rfl (by omega)) | (exact PL_3y r_HA (by omega) (by omega) (by omega) (by omega) rfl (by omega)) | (exfalso; omega; done) | (exfalso; contradiction; done))
    · skip
      have g77 := i_nle h21
      refine sp_214  hV r_W r_GW r_GU r_OW r_DX r_HA (show (m 94 10).toInt = 3 from by omega) (fun v12 m11 hV_m11 p0_m11 p1_m11 p2_m11 p3_m11 p4_m11 => zmi_n ?_)
      have p0_m11 : zGW T (m11 94 55) (m11 109) := p0_m11
      have p1_m11 : zGU T (m 94 46) (m11 99) := p1_m11
      have p2_m11 : zOw (m11 99) (m11 103) (m11 111) := p2_m11
      have p3_m11 : zDX (m 94 10) (m11 99) (m 112) (m11 113) (m11 114) (m11 94 55) (m 98) (m 101) (m 102) (m 108) := p3_m11
      have p4_m11 : zHA (m 94 10) (m 94 11) (m 94 13) (m 94 14) (m 94 16) (m11 94 61) (m11 94 59) (m11 94 60) (m11 99) (m 102) (m11 103) (m11 111) (m11 117) (m 98) (m 101) (m 108) := p4_m11
      have f78 : 0 ≤ (m11 94 59).toInt ∧ (m11 94 59).toInt ≤ 4600 := rs_94_59 (m := (zov wr_214 m m11)) hV_m11
      first | have e79 : ((m11 94 59) + nw).toInt = (m11 94 59).toInt + nw.toInt := i_add (by omega) (by omega) | have b80 := i_bd ((m11 94 59) + nw)
      have f81 : 0 ≤ (m11 94 61).toInt ∧ (m11 94 61).toInt ≤ 1 := rs_94_61 (m := (zov wr_214 m m11)) hV_m11
      first | have e82 : ((m11 94 61) + (1 : Int32)).toInt = (m11 94 61).toInt + (1) := i_addk rfl (by omega) (by omega) | have b83 := i_bd ((m11 94 61) + (1 : Int32))
      first | have f84 := i_mul01 (x := ((m11 94 61) + (1 : Int32))) (y := (m 94 13)) (by omega) (by omega) (by omega) (by omega) | have b85 := i_bd (((m11 94 61) + (1 : Int32)) * (m 94 13))
      first | have e86 : ((m 94 14) + (((m11 94 61) + (1 : Int32)) * (m 94 13))).toInt = (m 94 14).toInt + (((m11 94 61) + (1 : Int32)) * (m 94 13)).toInt := i_add (by omega) (by omega) | have b87 := i_bd ((m 94 14) + (((m11 94 61) + (1 : Int32)) * (m 94 13)))
      refine zd (fun (h88 : ((m11 94 59) + nw) ≤ ((m 94 14) + (((m11 94 61) + (1 : Int32)) * (m 94 13)))) => ?_) (fun (h88 : ¬ ((m11 94 59) + nw) ≤ ((m 94 14) + (((m11 94 61) + (1 : Int32)) * (m 94 13)))) => ?_)
      · skip
        have g89 := i_le h88
        have li90 : (0 : Int32).toInt = 0 := rfl
        refine zd (fun (h91 : (m11 94 59) < (0 : Int32)) => ?_) (fun (h91 : ¬ (m11 94 59) < (0 : Int32)) => ?_)
        · skip
          have g92 := i_lt h91
          have hV93 : zV (ma_u (zov wr_214 m m11) 94 59 ((m11 94 59) + nw)) := us_94_59 hV_m11 (by omega) (by omega)
          refine sp_211  hV93 r_W p0_m11 p1_m11 p2_m11 p3_m11 (show zHA (m 94 10) (m 94 11) (m 94 13) (m 94 14) (m 94 16) (m11 94 61) ((m11 94 59) + nw) (m11 94 60) (m11 99) (m 102) (m11 103) (m11 111) (m11 117) (m 98) (m 101) (m 108) from by first | (exact HA_ot p4_m11 (by omega) (by omega) (by omega)) | (exact HA_up3 p4_m11 (by omega) (by omega) (by omega) (by omega) (by omega) (by omega) (by omega)) | (exfalso; omega; done) | (exfalso; contradiction; done)) (show (m 94 10).toInt = 3 from by omega) (fun v14 m13 hV_m13 p0_m13 p1_m13 p2_m13 p3_m13 p4_m13 => zmi_n ?_)
          have p0_m13 : zGW T (m13 94 55) (m13 109) := p0_m13
          have p1_m13 : zGU T (m 94 46) (m13 99) := p1_m13
          have p2_m13 : zOw (m13 99) (m13 103) (m13 111) := p2_m13
          have p3_m13 : zDX (m 94 10) (m13 99) (m 112) (m13 113) (m13 114) (m13 94 55) (m 98) (m 101) (m 102) (m 108) := p3_m13
          have p4_m13 : zHA (m 94 10) (m 94 11) (m 94 13) (m 94 14) (m 94 16) (m11 94 61) ((m11 94 59) + nw) (m13 94 60) (m13 99) (m 102) (m13 103) (m13 111) (m13 117) (m 98) (m 101) (m 108) := p4_m13
          refine sp_214  hV_m13 r_W p0_m13 p1_m13 p2_m13 p3_m13 p4_m13 (show (m 94 10).toInt = 3 from by omega) (fun v16 m15 hV_m15 p0_m15 p1_m15 p2_m15 p3_m15 p4_m15 => zmi_n ?_)
          have p0_m15 : zGW T (m15 94 55) (m15 109) := p0_m15
          have p1_m15 : zGU T (m 94 46) (m15 99) := p1_m15
          have p2_m15 : zOw (m15 99) (m15 103) (m15 111) := p2_m15
          have p3_m15 : zDX (m 94 10) (m15 99) (m 112) (m15 113) (m15 114) (m15 94 55) (m 98) (m 101) (m 102) (m 108) := p3_m15
          have p4_m15 : zHA (m 94 10) (m 94 11) (m 94 13) (m 94 14) (m 94 16) (m15 94 61) (m15 94 59) (m15 94 60) (m15 99) (m 102) (m15 103) (m15 111) (m15 117) (m 98) (m 101) (m 108) := p4_m15
          have f94 : 0 ≤ (m15 94 59).toInt ∧ (m15 94 59).toInt ≤ 4600 := rs_94_59 (m := (zov wr_214 (zov wr_211 (ma_u (zov wr_214 m m11) 94 59 ((m11 94 59) + nw)) m13) m15)) hV_m15
          first | have e95 : ((m15 94 59) + nw).toInt = (m15 94 59).toInt + nw.toInt := i_add (by omega) (by omega) | have b96 := i_bd ((m15 94 59) + nw)
          have f97 : 0 ≤ (m15 94 61).toInt ∧ (m15 94 61).toInt ≤ 1 := rs_94_61 (m := (zov wr_214 (zov wr_211 (ma_u (zov wr_214 m m11) 94 59 ((m11 94 59) + nw)) m13) m15)) hV_m15
          first | have e98 : ((m15 94 61) + (1 : Int32)).toInt = (m15 94 61).toInt + (1) := i_addk rfl (by omega) (by omega) | have b99 := i_bd ((m15 94 61) + (1 : Int32))
          first | have f100 := i_mul01 (x := ((m15 94 61) + (1 : Int32))) (y := (m 94 13)) (by omega) (by omega) (by omega) (by omega) | have b101 := i_bd (((m15 94 61) + (1 : Int32)) * (m 94 13))
          first | have e102 : ((m 94 14) + (((m15 94 61) + (1 : Int32)) * (m 94 13))).toInt = (m 94 14).toInt + (((m15 94 61) + (1 : Int32)) * (m 94 13)).toInt := i_add (by omega) (by omega) | have b103 := i_bd ((m 94 14) + (((m15 94 61) + (1 : Int32)) * (m 94 13)))
          refine zd (fun (h104 : ((m15 94 59) + nw) ≤ ((m 94 14) + (((m15 94 61) + (1 : Int32)) * (m 94 13)))) => ?_) (fun (h104 : ¬ ((m15 94 59) + nw) ≤ ((m 94 14) + (((m15 94 61) + (1 : Int32)) * (m 94 13)))) => ?_)
          · skip
            have g105 := i_le h104
            have hV106 : zV (ma_u (zov wr_214 (zov wr_211 (ma_u (zov wr_214 m m11) 94 59 ((m11 94 59) + nw)) m13) m15) 94 59 ((m15 94 59) + nw)) := us_94_59 hV_m15 (by omega) (by omega)
            exact K ((m15 94 59)) _ (zF_u (zF_zov (zF_zov (zF_u (zF_zov zF_rfl ws_214_210) rfl) ws_211_210) ws_214_210) rfl) hV106 p0_m15 p1_m15 p2_m15 p3_m15 (show zHA (m 94 10) (m 94 11) (m 94 13) (m 94 14) (m 94 16) (m15 94 61) ((m15 94 59) + nw) (m15 94 60) (m15 99) (m 102) (m15 103) (m15 111) (m15 117) (m 98) (m 101) (m 108) from by first | (exact HA_ot p4_m15 (by omega) (by omega) (by omega)) | (exact HA_up3 p4_m15 (by omega) (by omega) (by omega) (by omega) (by omega) (by omega) (by omega)) | (exfalso; omega; done) | (exfalso; contradiction; done)) (show zPL (m 94 10) (m 94 11) (m 94 13) (m 94 14) (m15 94 61) ((m15 94 59) + nw) (m15 94 60) (m 94 18) (m 94 64) (m15 99) (m 102) (m15 103) (m15 111) (m15 94 59) nw from by first | (exact PL_no (by decide)) | (exact PL_3o p4_m15 (by omega) (by omega) (by omega) rfl (by omega)) | (exact PL_3y p4_m15 (by omega) (by omega) (by omega) (by omega) rfl (by omega)) | (exfalso; omega; done) | (exfalso; contradiction; done))
          · skip
            have g107 := i_nle h104
            have li108 : (-1 : Int32).toInt = -1 := rfl
            exact K ((-1 : Int32)) _ (zF_zov (zF_zov (zF_u (zF_zov zF_rfl ws_214_210) rfl) ws_211_210) ws_214_210) hV_m15 p0_m15 p1_m15 p2_m15 p3_m15 p4_m15 (show zPL (m 94 10) (m 94 11) (m 94 13) (m 94 14) (m15 94 61) (m15 94 59) (m15 94 60) (m 94 18) (m 94 64) (m15 99) (m 102) (m15 103) (m15 111) (-1 : Int32) nw from by first | (exact PL_no (by decide)) | (exact PL_3o p4_m15 (by omega) (by omega) (by omega) rfl (by omega)) | (exact PL_3y p4_m15 (by omega) (by omega) (by omega) (by omega) rfl (by omega)) | (exfalso; omega; done) | (exfalso; contradiction; done))
        · skip
          have g109 := i_nlt h91
          have hV110 : zV (ma_u (zov wr_214 m m11) 94 59 ((m11 94 59) + nw)) := us_94_59 hV_m11 (by omega) (by omega)
          exact K ((m11 94 59)) _ (zF_u (zF_zov zF_rfl ws_214_210) rfl) hV110 p0_m11 p1_m11 p2_m11 p3_m11 (show zHA (m 94 10) (m 94 11) (m 94 13) (m 94 14) (m 94 16) (m11 94 61) ((m11 94 59) + nw) (m11 94 60) (m11 99) (m 102) (m11 103) (m11 111) (m11 117) (m 98) (m 101) (m 108) from by first | (exact HA_ot p4_m11 (by omega) (by omega) (by omega)) | (exact HA_up3 p4_m11 (by omega) (by omega) (by omega) (by omega) (by omega) (by omega) (by omega)) | (exfalso; omega; done) | (exfalso; contradiction; done)) (show zPL (m 94 10) (m 94 11) (m 94 13) (m 94 14) (m11 94 61) ((m11 94 59) + nw) (m11 94 60) (m 94 18) (m 94 64) (m11 99) (m 102) (m11 103) (m11 111) (m11 94 59) nw from by first | (exact PL_no (by decide)) | (exact PL_3o p4_m11 (by omega) (by omega) (by omega) rfl (by omega)) | (exact PL_3y p4_m11 (by omega) (by omega) (by omega) (by omega) rfl (by omega)) | (exfalso; omega; done) | (exfalso; contradiction; done))
      · skip
        have g111 := i_nle h88
        refine sp_211  hV_m11 r_W p0_m11 p1_m11 p2_m11 p3_m11 p4_m11 (show (m 94 10).toInt = 3 from by omega) (fun v18 m17 hV_m17 p0_m17 p1_m17 p2_m17 p3_m17 p4_m17 => zmi_n ?_)
        have p0_m17 : zGW T (m17 94 55) (m17 109) := p0_m17
        have p1_m17 : zGU T (m 94 46) (m17 99) := p1_m17
        have p2_m17 : zOw (m17 99) (m17 103) (m17 111) := p2_m17
        have p3_m17 : zDX (m 94 10) (m17 99) (m 112) (m17 113) (m17 114) (m17 94 55) (m 98) (m 101) (m 102) (m 108) := p3_m17
        have p4_m17 : zHA (m 94 10) (m 94 11) (m 94 13) (m 94 14) (m 94 16) (m11 94 61) (m11 94 59) (m17 94 60) (m17 99) (m 102) (m17 103) (m17 111) (m17 117) (m 98) (m 101) (m 108) := p4_m17
        refine sp_214  hV_m17 r_W p0_m17 p1_m17 p2_m17 p3_m17 p4_m17 (show (m 94 10).toInt = 3 from by omega) (fun v20 m19 hV_m19 p0_m19 p1_m19 p2_m19 p3_m19 p4_m19 => zmi_n ?_)
        have p0_m19 : zGW T (m19 94 55) (m19 109) := p0_m19
        have p1_m19 : zGU T (m 94 46) (m19 99) := p1_m19
        have p2_m19 : zOw (m19 99) (m19 103) (m19 111) := p2_m19
        have p3_m19 : zDX (m 94 10) (m19 99) (m 112) (m19 113) (m19 114) (m19 94 55) (m 98) (m 101) (m 102) (m 108) := p3_m19
        have p4_m19 : zHA (m 94 10) (m 94 11) (m 94 13) (m 94 14) (m 94 16) (m19 94 61) (m19 94 59) (m19 94 60) (m19 99) (m 102) (m19 103) (m19 111) (m19 117) (m 98) (m 101) (m 108) := p4_m19
        have f112 : 0 ≤ (m19 94 59).toInt ∧ (m19 94 59).toInt ≤ 4600 := rs_94_59 (m := (zov wr_214 (zov wr_211 (zov wr_214 m m11) m17) m19)) hV_m19
        first | have e113 : ((m19 94 59) + nw).toInt = (m19 94 59).toInt + nw.toInt := i_add (by omega) (by omega) | have b114 := i_bd ((m19 94 59) + nw)
        have f115 : 0 ≤ (m19 94 61).toInt ∧ (m19 94 61).toInt ≤ 1 := rs_94_61 (m := (zov wr_214 (zov wr_211 (zov wr_214 m m11) m17) m19)) hV_m19
        first | have e116 : ((m19 94 61) + (1 : Int32)).toInt = (m19 94 61).toInt + (1) := i_addk rfl (by omega) (by omega) | have b117 := i_bd ((m19 94 61) + (1 : Int32))
        first | have f118 := i_mul01 (x := ((m19 94 61) + (1 : Int32))) (y := (m 94 13)) (by omega) (by omega) (by omega) (by omega) | have b119 := i_bd (((m19 94 61) + (1 : Int32)) * (m 94 13))
        first | have e120 : ((m 94 14) + (((m19 94 61) + (1 : Int32)) * (m 94 13))).toInt = (m 94 14).toInt + (((m19 94 61) + (1 : Int32)) * (m 94 13)).toInt := i_add (by omega) (by omega) | have b121 := i_bd ((m 94 14) + (((m19 94 61) + (1 : Int32)) * (m 94 13)))
        refine zd (fun (h122 : ((m19 94 59) + nw) ≤ ((m 94 14) + (((m19 94 61) + (1 : Int32)) * (m 94 13)))) => ?_) (fun (h122 : ¬ ((m19 94 59) + nw) ≤ ((m 94 14) + (((m19 94 61) + (1 : Int32)) * (m 94 13)))) => ?_)
        · skip
          have g123 := i_le h122
          have hV124 : zV (ma_u (zov wr_214 (zov wr_211 (zov wr_214 m m11) m17) m19) 94 59 ((m19 94 59) + nw)) := us_94_59 hV_m19 (by omega) (by omega)
          exact K ((m19 94 59)) _ (zF_u (zF_zov (zF_zov (zF_zov zF_rfl ws_214_210) ws_211_210) ws_214_210) rfl) hV124 p0_m19 p1_m19 p2_m19 p3_m19 (show zHA (m 94 10) (m 94 11) (m 94 13) (m 94 14) (m 94 16) (m19 94 61) ((m19 94 59) + nw) (m19 94 60) (m19 99) (m 102) (m19 103) (m19 111) (m19 117) (m 98) (m 101) (m 108) from by first | (exact HA_ot p4_m19 (by omega) (by omega) (by omega)) | (exact HA_up3 p4_m19 (by omega) (by omega) (by omega) (by omega) (by omega) (by omega) (by omega)) | (exfalso; omega; done) | (exfalso; contradiction; done)) (show zPL (m 94 10) (m 94 11) (m 94 13) (m 94 14) (m19 94 61) ((m19 94 59) + nw) (m19 94 60) (m 94 18) (m 94 64) (m19 99) (m 102) (m19 103) (m19 111) (m19 94 59) nw from by first | (exact PL_no (by decide)) | (exact PL_3o p4_m19 (by omega) (by omega) (by omega) rfl (by omega)) | (exact PL_3y p4_m19 (by omega) (by omega) (by omega) (by omega) rfl (by omega)) | (exfalso; omega; done) | (exfalso; contradiction; done))
        · skip
          have g125 := i_nle h122
          have li126 : (-1 : Int32).toInt = -1 := rfl
          exact K ((-1 : Int32)) _ (zF_zov (zF_zov (zF_zov zF_rfl ws_214_210) ws_211_210) ws_214_210) hV_m19 p0_m19 p1_m19 p2_m19 p3_m19 p4_m19 (show zPL (m 94 10) (m 94 11) (m 94 13) (m 94 14) (m19 94 61) (m19 94 59) (m19 94 60) (m 94 18) (m 94 64) (m19 99) (m 102) (m19 103) (m19 111) (-1 : Int32) nw from by first | (exact PL_no (by decide)) | (exact PL_3o p4_m19 (by omega) (by omega) (by omega) rfl (by omega)) | (exact PL_3y p4_m19 (by omega) (by omega) (by omega) (by omega) rfl (by omega)) | (exfalso; omega; done) | (exfalso; contradiction; done))
  · skip
    have g127 := i_nle h8
    have f128 : 0 ≤ (m 94 60).toInt ∧ (m 94 60).toInt ≤ 1600 := rs_94_60 (m := m) hV
    first | have e129 : ((m 94 60) + nw).toInt = (m 94 60).toInt + nw.toInt := i_add (by omega) (by omega) | have b130 := i_bd ((m 94 60) + nw)
    have f131 : 0 ≤ (m 94 14).toInt ∧ (m 94 14).toInt ≤ 1500 := rs_94_14 (m := m) hV
    refine zd (fun (h132 : ((m 94 60) + nw) ≤ (m 94 14)) => ?_) (fun (h132 : ¬ ((m 94 60) + nw) ≤ (m 94 14)) => ?_)
    · skip
      have g133 := i_le h132
      refine zd (fun (h134 : ((m 94 60) + nw) ≤ (m 94 14)) => ?_) (fun (h134 : ¬ ((m 94 60) + nw) ≤ (m 94 14)) => ?_)
      · skip
        have g135 := i_le h134
        have hV136 : zV (ma_u m 94 60 ((m 94 60) + nw)) := us_94_60 hV (by omega) (by omega)
        exact K ((m 94 60)) _ (zF_u zF_rfl rfl) hV136 r_GW r_GU r_OW r_DX (show zHA (m 94 10) (m 94 11) (m 94 13) (m 94 14) (m 94 16) (m 94 61) (m 94 59) ((m 94 60) + nw) (m 99) (m 102) (m 103) (m 111) (m 117) (m 98) (m 101) (m 108) from by first | (exact HA_ot r_HA (by omega) (by omega) (by omega)) | (exact HA_up3 r_HA (by omega) (by omega) (by omega) (by omega) (by omega) (by omega) (by omega)) | (exfalso; omega; done) | (exfalso; contradiction; done)) (show zPL (m 94 10) (m 94 11) (m 94 13) (m 94 14) (m 94 61) (m 94 59) ((m 94 60) + nw) (m 94 18) (m 94 64) (m 99) (m 102) (m 103) (m 111) (m 94 60) nw from by first | (exact PL_no (by decide)) | (exact PL_3o r_HA (by omega) (by omega) (by omega) rfl (by omega)) | (exact PL_3y r_HA (by omega) (by omega) (by omega) (by omega) rfl (by omega)) | (exfalso; omega; done) | (exfalso; contradiction; done))
      · skip
        have g137 := i_nle h134
        have li138 : (-1 : Int32).toInt = -1 := rfl
        exact K ((-1 : Int32)) _ zF_rfl hV r_GW r_GU r_OW r_DX r_HA (show zPL (m 94 10) (m 94 11) (m 94 13) (m 94 14) (m 94 61) (m 94 59) (m 94 60) (m 94 18) (m 94 64) (m 99) (m 102) (m 103) (m 111) (-1 : Int32) nw from by first | (exact PL_no (by decide)) | (exact PL_3o r_HA (by omega) (by omega) (by omega) rfl (by omega)) | (exact PL_3y r_HA (by omega) (by omega) (by omega) (by omega) rfl (by omega)) | (exfalso; omega; done) | (exfalso; contradiction; done))
    · skip
      have g139 := i_nle h132
      refine sp_211  hV r_W r_GW r_GU r_OW r_DX r_HA (show (m 94 10).toInt = 3 from by omega) (fun v22 m21 hV_m21 p0_m21 p1_m21 p2_m21 p3_m21 p4_m21 => zmi_n ?_)
      have p0_m21 : zGW T (m21 94 55) (m21 109) := p0_m21
      have p1_m21 : zGU T (m 94 46) (m21 99) := p1_m21
      have p2_m21 : zOw (m21 99) (m21 103) (m21 111) := p2_m21
      have p3_m21 : zDX (m 94 10) (m21 99) (m 112) (m21 113) (m21 114) (m21 94 55) (m 98) (m 101) (m 102) (m 108) := p3_m21
      have p4_m21 : zHA (m 94 10) (m 94 11) (m 94 13) (m 94 14) (m 94 16) (m 94 61) (m 94 59) (m21 94 60) (m21 99) (m 102) (m21 103) (m21 111) (m21 117) (m 98) (m 101) (m 108) := p4_m21
      have f140 : 0 ≤ (m21 94 60).toInt ∧ (m21 94 60).toInt ≤ 1600 := rs_94_60 (m := (zov wr_211 m m21)) hV_m21
      first | have e141 : ((m21 94 60) + nw).toInt = (m21 94 60).toInt + nw.toInt := i_add (by omega) (by omega) | have b142 := i_bd ((m21 94 60) + nw)
      refine zd (fun (h143 : ((m21 94 60) + nw) ≤ (m 94 14)) => ?_) (fun (h143 : ¬ ((m21 94 60) + nw) ≤ (m 94 14)) => ?_)
      · skip
        have g144 := i_le h143
        have hV145 : zV (ma_u (zov wr_211 m m21) 94 60 ((m21 94 60) + nw)) := us_94_60 hV_m21 (by omega) (by omega)
        exact K ((m21 94 60)) _ (zF_u (zF_zov zF_rfl ws_211_210) rfl) hV145 p0_m21 p1_m21 p2_m21 p3_m21 (show zHA (m 94 10) (m 94 11) (m 94 13) (m 94 14) (m 94 16) (m 94 61) (m 94 59) ((m21 94 60) + nw) (m21 99) (m 102) (m21 103) (m21 111) (m21 117) (m 98) (m 101) (m 108) from by first | (exact HA_ot p4_m21 (by omega) (by omega) (by omega)) | (exact HA_up3 p4_m21 (by omega) (by omega) (by omega) (by omega) (by omega) (by omega) (by omega)) | (exfalso; omega; done) | (exfalso; contradiction; done)) (show zPL (m 94 10) (m 94 11) (m 94 13) (m 94 14) (m 94 61) (m 94 59) ((m21 94 60) + nw) (m 94 18) (m 94 64) (m21 99) (m 102) (m21 103) (m21 111) (m21 94 60) nw from by first | (exact PL_no (by decide)) | (exact PL_3o p4_m21 (by omega) (by omega) (by omega) rfl (by omega)) | (exact PL_3y p4_m21 (by omega) (by omega) (by omega) (by omega) rfl (by omega)) | (exfalso; omega; done) | (exfalso; contradiction; done))
      · skip
        have g146 := i_nle h143
        have li147 : (-1 : Int32).toInt = -1 := rfl
        exact K ((-1 : Int32)) _ (zF_zov zF_rfl ws_211_210) hV_m21 p0_m21 p1_m21 p2_m21 p3_m21 p4_m21 (show zPL (m 94 10) (m 94 11) (m 94 13) (m 94 14) (m 94 61) (m 94 59) (m21 94 60) (m 94 18) (m 94 64) (m21 99) (m 102) (m21 103) (m21 111) (-1 : Int32) nw from by first | (exact PL_no (by decide)) | (exact PL_3o p4_m21 (by omega) (by omega) (by omega) rfl (by omega)) | (exact PL_3y p4_m21 (by omega) (by omega) (by omega) (by omega) rfl (by omega)) | (exfalso; omega; done) | (exfalso; contradiction; done))

