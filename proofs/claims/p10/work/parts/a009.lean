/-! from 94.453 -/
/-! the reference (written by wip/tools/gen94m.py) -/
set_option maxRecDepth 100000 in
theorem hm_258 : ma_md 258 = some (12, yX12_about, cX12_about, 4, (some (FieldType.int))) := rfl
theorem s_104 : zs 104 = some (20, 3100) := rfl
theorem r_94_36 : zfi 94 36 = some 104 := rfl
theorem f_12_43_12 : ma_fld 12 43 12 = some 36 := by decide +kernel
theorem dX12_about_0 : decode cX12_about 0 = .ok (.aload_n 0, 1) := by decide +kernel
theorem dX12_about_1 : decode cX12_about 1 = .ok (.iload_n 2, 1) := by decide +kernel
theorem dX12_about_11 : decode cX12_about 11 = .ok (.iconst 1, 1) := by decide +kernel
theorem dX12_about_12 : decode cX12_about 12 = .ok (.goto 15, 3) := by decide +kernel
theorem dX12_about_27 : decode cX12_about 27 = .ok (.invokevirtual 110, 3) := by decide +kernel
theorem dX12_about_30 : decode cX12_about 30 = .ok (.ifCond .eq 5, 3) := by decide +kernel
theorem dX12_about_33 : decode cX12_about 33 = .ok (.iconst 0, 1) := by decide +kernel
theorem dX12_about_34 : decode cX12_about 34 = .ok (.ireturn, 1) := by decide +kernel
theorem dX12_about_5 : decode cX12_about 5 = .ok (.iload_n 2, 1) := by decide +kernel
theorem dX12_about_6 : decode cX12_about 6 = .ok (.bipush 7, 2) := by decide +kernel
theorem dX12_about_15 : decode cX12_about 15 = .ok (.aload_n 0, 1) := by decide +kernel
theorem dX12_about_26 : decode cX12_about 26 = .ok (.iconst 0, 1) := by decide +kernel
theorem dX12_about_35 : decode cX12_about 35 = .ok (.aload_n 0, 1) := by decide +kernel
theorem dX12_about_36 : decode cX12_about 36 = .ok (.iload_n 1, 1) := by decide +kernel
theorem dX12_about_37 : decode cX12_about 37 = .ok (.invokevirtual 499, 3) := by decide +kernel
theorem dX12_about_40 : decode cX12_about 40 = .ok (.istore_n 3, 1) := by decide +kernel
theorem dX12_about_41 : decode cX12_about 41 = .ok (.aload_n 0, 1) := by decide +kernel
theorem dX12_about_42 : decode cX12_about 42 = .ok (.iload_n 3, 1) := by decide +kernel
theorem dX12_about_50 : decode cX12_about 50 = .ok (.iconst 0, 1) := by decide +kernel
theorem dX12_about_51 : decode cX12_about 51 = .ok (.invokevirtual 110, 3) := by decide +kernel
theorem dX12_about_54 : decode cX12_about 54 = .ok (.ifCond .eq 5, 3) := by decide +kernel
theorem dX12_about_59 : decode cX12_about 59 = .ok (.iload_n 2, 1) := by decide +kernel
theorem dX12_about_104 : decode cX12_about 104 = .ok (.aload_n 0, 1) := by decide +kernel
theorem dX12_about_108 : decode cX12_about 108 = .ok (.iload_n 3, 1) := by decide +kernel
theorem dX12_about_110 : decode cX12_about 110 = .ok (.ireturn, 1) := by decide +kernel
theorem dX12_about_109 : decode cX12_about 109 = .ok (.iaload, 1) := by decide +kernel
theorem dX12_about_105 : decode cX12_about 105 = .ok (.getfield 40, 3) := by decide +kernel
theorem dX12_about_60 : decode cX12_about 60 = .ok (.tableswitch 127 0 6 #[44, 51, 57, 64, 83, 102, 120], 44) := by decide +kernel
theorem dX12_about_111 : decode cX12_about 111 = .ok (.aload_n 0, 1) := by decide +kernel
theorem dX12_about_112 : decode cX12_about 112 = .ok (.iload_n 3, 1) := by decide +kernel
theorem dX12_about_113 : decode cX12_about 113 = .ok (.invokevirtual 327, 3) := by decide +kernel
theorem dX12_about_116 : decode cX12_about 116 = .ok (.ireturn, 1) := by decide +kernel
theorem dX12_about_117 : decode cX12_about 117 = .ok (.aload_n 0, 1) := by decide +kernel
theorem dX12_about_121 : decode cX12_about 121 = .ok (.iload_n 3, 1) := by decide +kernel
theorem dX12_about_123 : decode cX12_about 123 = .ok (.ireturn, 1) := by decide +kernel
theorem dX12_about_122 : decode cX12_about 122 = .ok (.iaload, 1) := by decide +kernel
theorem dX12_about_118 : decode cX12_about 118 = .ok (.getfield 34, 3) := by decide +kernel
theorem dX12_about_124 : decode cX12_about 124 = .ok (.aload_n 0, 1) := by decide +kernel
theorem dX12_about_128 : decode cX12_about 128 = .ok (.iconst 3, 1) := by decide +kernel
theorem dX12_about_141 : decode cX12_about 141 = .ok (.iconst 0, 1) := by decide +kernel
theorem dX12_about_142 : decode cX12_about 142 = .ok (.ireturn, 1) := by decide +kernel
theorem dX12_about_132 : decode cX12_about 132 = .ok (.aload_n 0, 1) := by decide +kernel
theorem dX12_about_136 : decode cX12_about 136 = .ok (.iload_n 3, 1) := by decide +kernel
theorem dX12_about_138 : decode cX12_about 138 = .ok (.goto 4, 3) := by decide +kernel
theorem dX12_about_137 : decode cX12_about 137 = .ok (.iaload, 1) := by decide +kernel
theorem dX12_about_133 : decode cX12_about 133 = .ok (.getfield 43, 3) := by decide +kernel
theorem dX12_about_129 : decode cX12_about 129 = .ok (.if_icmp .ne 12, 3) := by decide +kernel
theorem dX12_about_125 : decode cX12_about 125 = .ok (.getfield 199, 3) := by decide +kernel
theorem dX12_about_143 : decode cX12_about 143 = .ok (.aload_n 0, 1) := by decide +kernel
theorem dX12_about_147 : decode cX12_about 147 = .ok (.iconst 4, 1) := by decide +kernel
theorem dX12_about_160 : decode cX12_about 160 = .ok (.iconst 0, 1) := by decide +kernel
theorem dX12_about_161 : decode cX12_about 161 = .ok (.ireturn, 1) := by decide +kernel
theorem dX12_about_151 : decode cX12_about 151 = .ok (.aload_n 0, 1) := by decide +kernel
theorem dX12_about_155 : decode cX12_about 155 = .ok (.iload_n 3, 1) := by decide +kernel
theorem dX12_about_157 : decode cX12_about 157 = .ok (.goto 4, 3) := by decide +kernel
theorem dX12_about_156 : decode cX12_about 156 = .ok (.iaload, 1) := by decide +kernel
theorem dX12_about_152 : decode cX12_about 152 = .ok (.getfield 46, 3) := by decide +kernel
theorem dX12_about_148 : decode cX12_about 148 = .ok (.if_icmp .ne 12, 3) := by decide +kernel
theorem dX12_about_144 : decode cX12_about 144 = .ok (.getfield 199, 3) := by decide +kernel
theorem dX12_about_162 : decode cX12_about 162 = .ok (.aload_n 0, 1) := by decide +kernel
theorem dX12_about_178 : decode cX12_about 178 = .ok (.iconst 0, 1) := by decide +kernel
theorem dX12_about_179 : decode cX12_about 179 = .ok (.ireturn, 1) := by decide +kernel
theorem dX12_about_169 : decode cX12_about 169 = .ok (.aload_n 0, 1) := by decide +kernel
theorem dX12_about_173 : decode cX12_about 173 = .ok (.iload_n 3, 1) := by decide +kernel
theorem dX12_about_175 : decode cX12_about 175 = .ok (.goto 4, 3) := by decide +kernel
theorem dX12_about_174 : decode cX12_about 174 = .ok (.iaload, 1) := by decide +kernel
theorem dX12_about_170 : decode cX12_about 170 = .ok (.getfield 49, 3) := by decide +kernel
theorem dX12_about_166 : decode cX12_about 166 = .ok (.ifCond .eq 12, 3) := by decide +kernel
theorem dX12_about_163 : decode cX12_about 163 = .ok (.getfield 270, 3) := by decide +kernel
theorem dX12_about_180 : decode cX12_about 180 = .ok (.aload_n 0, 1) := by decide +kernel
theorem dX12_about_184 : decode cX12_about 184 = .ok (.iload_n 3, 1) := by decide +kernel
theorem dX12_about_186 : decode cX12_about 186 = .ok (.ireturn, 1) := by decide +kernel
theorem dX12_about_185 : decode cX12_about 185 = .ok (.iaload, 1) := by decide +kernel
theorem dX12_about_181 : decode cX12_about 181 = .ok (.getfield 52, 3) := by decide +kernel
theorem dX12_about_187 : decode cX12_about 187 = .ok (.aload_n 0, 1) := by decide +kernel
theorem dX12_about_191 : decode cX12_about 191 = .ok (.iload_n 3, 1) := by decide +kernel
theorem dX12_about_200 : decode cX12_about 200 = .ok (.iconst 0, 1) := by decide +kernel
theorem dX12_about_201 : decode cX12_about 201 = .ok (.ireturn, 1) := by decide +kernel
theorem dX12_about_196 : decode cX12_about 196 = .ok (.iconst 1, 1) := by decide +kernel
theorem dX12_about_197 : decode cX12_about 197 = .ok (.goto 4, 3) := by decide +kernel
theorem dX12_about_193 : decode cX12_about 193 = .ok (.ifCond .eq 7, 3) := by decide +kernel
theorem dX12_about_192 : decode cX12_about 192 = .ok (.baload, 1) := by decide +kernel
theorem dX12_about_188 : decode cX12_about 188 = .ok (.getfield 59, 3) := by decide +kernel
theorem dX12_about_46 : decode cX12_about 46 = .ok (.iconst 3, 1) := by decide +kernel
theorem dX12_about_47 : decode cX12_about 47 = .ok (.goto 4, 3) := by decide +kernel
theorem dX12_about_57 : decode cX12_about 57 = .ok (.iconst 0, 1) := by decide +kernel
theorem dX12_about_58 : decode cX12_about 58 = .ok (.ireturn, 1) := by decide +kernel
theorem dX12_about_43 : decode cX12_about 43 = .ok (.ifCond .ge 7, 3) := by decide +kernel
theorem dX12_about_22 : decode cX12_about 22 = .ok (.iconst 2, 1) := by decide +kernel
theorem dX12_about_23 : decode cX12_about 23 = .ok (.goto 4, 3) := by decide +kernel
theorem dX12_about_19 : decode cX12_about 19 = .ok (.ifCond .ne 7, 3) := by decide +kernel
theorem dX12_about_16 : decode cX12_about 16 = .ok (.getfield 237, 3) := by decide +kernel
theorem dX12_about_8 : decode cX12_about 8 = .ok (.if_icmp .le 7, 3) := by decide +kernel
theorem dX12_about_2 : decode cX12_about 2 = .ok (.ifCond .lt 9, 3) := by decide +kernel
def wr_258 (c k : Nat) : Bool := Nat.beq c 110 || Nat.beq c 118 || (Nat.beq c 94 && (Nat.beq k 0 || Nat.beq k 73))
theorem ws_245_258 : ∀ c k, wr_245 c k = true → wr_258 c k = true := by
  intro c k h
  simp only [wr_245, Bool.or_eq_true, Bool.and_eq_true, Nat.beq_eq] at h
  rcases h with (rfl | rfl) | ⟨rfl, rfl⟩ <;> rfl
theorem g_258_0 {X : Nat × (Nat → Int32)} {m : Nat → Nat → Int32} {P : Option ma_V → (Nat → Nat → Int32) → Prop} (ob : Int32) (wh : Int32) (h : if wh < 0 then (P (some (.inl (0 : Int32))) (ma_u m 94 0 (1 : Int32))) else (if wh ≤ (7 : Int32) then (if (m 94 8) = 0 then (P (some (.inl (0 : Int32))) (ma_u m 94 0 (2 : Int32))) else (zm X 4 87 245 0 [(0, .inr (.inr (some 94))), (1, .inl ob)] (ma_u m 94 0 (0 : Int32)) (zmi (fun v2 m1 => if 0 ≤ v2 then (if wh = (0 : Int32) then ((0 ≤ v2 ∧ v2.toNatClampNeg < 3100) ∧ (P (some (.inl (m1 103 v2.toNatClampNeg))) (ma_u m1 94 0 (0 : Int32)))) else (if wh = (1 : Int32) then ((0 ≤ v2 ∧ v2.toNatClampNeg < 3100) ∧ (P (some (.inl ((m1 102 v2.toNatClampNeg) + (1 : Int32)))) (ma_u m1 94 0 (0 : Int32)))) else (if wh = (2 : Int32) then ((0 ≤ v2 ∧ v2.toNatClampNeg < 3100) ∧ (P (some (.inl (m1 101 v2.toNatClampNeg))) (ma_u m1 94 0 (0 : Int32)))) else (if wh = (3 : Int32) then (if (m1 94 10) = (3 : Int32) then ((0 ≤ v2 ∧ v2.toNatClampNeg < 3100) ∧ (P (some (.inl (m1 104 v2.toNatClampNeg))) (ma_u m1 94 0 (0 : Int32)))) else (P (some (.inl (0 : Int32))) (ma_u m1 94 0 (0 : Int32)))) else (if wh = (4 : Int32) then (if (m1 94 10) = (4 : Int32) then ((0 ≤ v2 ∧ v2.toNatClampNeg < 3100) ∧ (P (some (.inl (m1 105 v2.toNatClampNeg))) (ma_u m1 94 0 (0 : Int32)))) else (P (some (.inl (0 : Int32))) (ma_u m1 94 0 (0 : Int32)))) else (if wh = (5 : Int32) then (if (m1 94 58) = 0 then (P (some (.inl (0 : Int32))) (ma_u m1 94 0 (0 : Int32))) else ((0 ≤ v2 ∧ v2.toNatClampNeg < 3100) ∧ (P (some (.inl (m1 106 v2.toNatClampNeg))) (ma_u m1 94 0 (0 : Int32))))) else (if wh = (6 : Int32) then ((0 ≤ v2 ∧ v2.toNatClampNeg < 3100) ∧ (P (some (.inl (m1 107 v2.toNatClampNeg))) (ma_u m1 94 0 (0 : Int32)))) else ((0 ≤ v2 ∧ v2.toNatClampNeg < 3100) ∧ (if (m1 109 v2.toNatClampNeg) = 0 then (P (some (.inl (0 : Int32))) (ma_u m1 94 0 (0 : Int32))) else (P (some (.inl (1 : Int32))) (ma_u m1 94 0 (0 : Int32)))))))))))) else (P (some (.inl (0 : Int32))) (ma_u m1 94 0 (3 : Int32))))))) else (P (some (.inl (0 : Int32))) (ma_u m 94 0 (1 : Int32))))) : zm X 5 109 258 0 [(0, .inr (.inr (some 94))), (1, .inl ob), (2, .inl wh)] m P := by
  intro d w S Q hd hw hS hm HQ
  subst hm
  refine zw_push hm_258 dX12_about_0 (v := .inr (.inr (some 94))) rfl ?_
  refine zw_push hm_258 dX12_about_1 (v := .inl wh) rfl ?_
  refine zw_if0 hm_258 dX12_about_2 (t := 11) rfl zc0_lt ?_ ?_
  · intro hc
    rw [if_pos hc] at h
    refine zw_push hm_258 dX12_about_11 (v := .inl (1 : Int32)) rfl ?_
    refine zw_goto hm_258 dX12_about_12 (t := 27) rfl ?_
    refine zw_cv hm_258 dX12_about_27 v_12_110_12 hm_167 [.inl (1 : Int32)] [] rfl (zT_rt hS s_94 rfl) ⟨by omega, by omega⟩ rfl ?_
    show ma_wp X (d - 1) (w - 21) 167 0 [(0, .inr (.inr (some 94))), (1, .inl (1 : Int32))] [] S _
    refine zw_push hm_167 dX12_fails_0 (v := .inr (.inr (some 94))) rfl ?_
    refine zw_push hm_167 dX12_fails_1 (v := .inl (1 : Int32)) rfl ?_
    refine zw_pf hm_167 dX12_fails_2 (zT_is hS s_94) (zT_t hS s_94) p_12_1_12 zk_int ?_
    refine zw_push hm_167 dX12_fails_5 (v := .inl (1 : Int32)) rfl ?_
    refine zw_if0 hm_167 dX12_fails_6 (t := 13) rfl zc0_eq (fun hc => absurd hc (by decide)) (fun _ => ?_)
    refine zw_push hm_167 dX12_fails_9 (v := .inl (1 : Int32)) rfl ?_
    refine zw_goto hm_167 dX12_fails_10 (t := 14) rfl ?_
    refine zw_bret hm_167 dX12_fails_14 (by decide) ?_
    show ma_wp X d w 258 30 [(0, .inr (.inr (some 94))), (1, .inl ob), (2, .inl wh)] [.inl (1 : Int32)] (ma_put S 94 0 (.inl (1 : Int32))) _
    refine zw_if0 hm_258 dX12_about_30 (t := 35) rfl zc0_eq (fun hc => absurd hc (by decide)) (fun _ => ?_)
    refine zw_push hm_258 dX12_about_33 (v := .inl (0 : Int32)) rfl ?_
    exact zw_iret hm_258 dX12_about_34 (HQ _ _ h)
  · intro hc
    rw [if_neg hc] at h
    refine zw_push hm_258 dX12_about_5 (v := .inl wh) rfl ?_
    refine zw_push hm_258 dX12_about_6 (v := .inl (7 : Int32)) rfl ?_
    refine zw_if2 hm_258 dX12_about_8 (t := 15) rfl zc2_le ?_ ?_
    · intro hc
      rw [if_pos hc] at h
      refine zw_push hm_258 dX12_about_15 (v := .inr (.inr (some 94))) rfl ?_
      refine zw_gf hm_258 dX12_about_16 (v := .inl ((mI S) 94 8)) (zT_is hS s_94) (zT_t hS s_94) rfl f_12_237_12 rfl ?_
      refine zw_if0 hm_258 dX12_about_19 (t := 26) rfl zc0_ne ?_ ?_
      · intro hc
        rw [if_neg hc] at h
        refine zw_push hm_258 dX12_about_26 (v := .inl (0 : Int32)) rfl ?_
        refine zw_cv hm_258 dX12_about_27 v_12_110_12 hm_167 [.inl (0 : Int32)] [] rfl (zT_rt hS s_94 rfl) ⟨by omega, by omega⟩ rfl ?_
        show ma_wp X (d - 1) (w - 21) 167 0 [(0, .inr (.inr (some 94))), (1, .inl (0 : Int32))] [] S _
        refine zw_push hm_167 dX12_fails_0 (v := .inr (.inr (some 94))) rfl ?_
        refine zw_push hm_167 dX12_fails_1 (v := .inl (0 : Int32)) rfl ?_
        refine zw_pf hm_167 dX12_fails_2 (zT_is hS s_94) (zT_t hS s_94) p_12_1_12 zk_int ?_
        refine zw_push hm_167 dX12_fails_5 (v := .inl (0 : Int32)) rfl ?_
        refine zw_if0 hm_167 dX12_fails_6 (t := 13) rfl zc0_eq (fun _ => ?_) (fun hc => absurd (by decide) hc)
        refine zw_push hm_167 dX12_fails_13 (v := .inl (0 : Int32)) rfl ?_
        refine zw_bret hm_167 dX12_fails_14 (by decide) ?_
        show ma_wp X d w 258 30 [(0, .inr (.inr (some 94))), (1, .inl ob), (2, .inl wh)] [.inl (0 : Int32)] (ma_put S 94 0 (.inl (0 : Int32))) _
        refine zw_if0 hm_258 dX12_about_30 (t := 35) rfl zc0_eq (fun _ => ?_) (fun hc => absurd (by decide) hc)
        refine zw_push hm_258 dX12_about_35 (v := .inr (.inr (some 94))) rfl ?_
        refine zw_push hm_258 dX12_about_36 (v := .inl ob) rfl ?_
        refine zw_cv hm_258 dX12_about_37 v_12_499_12 hm_245 [.inl ob] [] rfl (zT_rt (zT_pi hS) s_94 rfl) ⟨by omega, by omega⟩ rfl (h _ _ (ma_put S 94 0 (.inl (0 : Int32))) _ (by omega) (by omega) (zT_pi hS) rfl (fun o9 m1 hv => ?_))
        obtain ⟨v2, rfl, h⟩ := zmi_of hv
        show ma_wp X d w 258 40 [(0, .inr (.inr (some 94))), (1, .inl ob), (2, .inl wh)] [.inl v2] (zst S m1) _
        refine zw_sto hm_258 dX12_about_40 [(3, .inl v2), (0, .inr (.inr (some 94))), (1, .inl ob), (2, .inl wh)] rfl rfl rfl ?_
        refine zw_push hm_258 dX12_about_41 (v := .inr (.inr (some 94))) rfl ?_
        refine zw_push hm_258 dX12_about_42 (v := .inl v2) rfl ?_
        refine zw_if0 hm_258 dX12_about_43 (t := 50) rfl zc0_ge ?_ ?_
        · intro hc
          rw [if_pos hc] at h
          refine zw_push hm_258 dX12_about_50 (v := .inl (0 : Int32)) rfl ?_
          refine zw_cv hm_258 dX12_about_51 v_12_110_12 hm_167 [.inl (0 : Int32)] [] rfl (zT_rt (zT_zst hS m1) s_94 rfl) ⟨by omega, by omega⟩ rfl ?_
          show ma_wp X (d - 1) (w - 21) 167 0 [(0, .inr (.inr (some 94))), (1, .inl (0 : Int32))] [] (zst S m1) _
          refine zw_push hm_167 dX12_fails_0 (v := .inr (.inr (some 94))) rfl ?_
          refine zw_push hm_167 dX12_fails_1 (v := .inl (0 : Int32)) rfl ?_
          refine zw_pf hm_167 dX12_fails_2 (zT_is (zT_zst hS m1) s_94) (zT_t (zT_zst hS m1) s_94) p_12_1_12 zk_int ?_
          refine zw_push hm_167 dX12_fails_5 (v := .inl (0 : Int32)) rfl ?_
          refine zw_if0 hm_167 dX12_fails_6 (t := 13) rfl zc0_eq (fun _ => ?_) (fun hc => absurd (by decide) hc)
          refine zw_push hm_167 dX12_fails_13 (v := .inl (0 : Int32)) rfl ?_
          refine zw_bret hm_167 dX12_fails_14 (by decide) ?_
          show ma_wp X d w 258 54 [(3, .inl v2), (0, .inr (.inr (some 94))), (1, .inl ob), (2, .inl wh)] [.inl (0 : Int32)] (ma_put (zst S m1) 94 0 (.inl (0 : Int32))) _
          refine zw_if0 hm_258 dX12_about_54 (t := 59) rfl zc0_eq (fun _ => ?_) (fun hc => absurd (by decide) hc)
          refine zw_push hm_258 dX12_about_59 (v := .inl wh) rfl ?_
          by_cases hc0 : wh = (0 : Int32)
          · rw [if_pos hc0] at h
            refine zw_jmp hm_258 dX12_about_60 (t := 104) (st₉ := []) rfl rfl rfl (ma_jmp_tab (by rw [hc0]; decide +kernel)) ?_
            refine zw_push hm_258 dX12_about_104 (v := .inr (.inr (some 94))) rfl ?_
            refine zw_gf hm_258 dX12_about_105 (v := .inr (.inr (some 103))) (zT_is (zT_pi (zT_zst hS m1)) s_94) (zT_t (zT_pi (zT_zst hS m1)) s_94) rfl f_12_40_12 (zT_f (zT_pi (zT_zst hS m1)) r_94_35) ?_
            refine zw_push hm_258 dX12_about_108 (v := .inl v2) rfl ?_
            obtain ⟨hg, h⟩ := h
            refine zw_ia hm_258 dX12_about_109 (zT_is (zT_pi (zT_zst hS m1)) s_103) (zT_h (zT_pi (zT_zst hS m1)) s_103) rfl hg ?_
            show ma_wp X d w 258 110 [(3, .inl v2), (0, .inr (.inr (some 94))), (1, .inl ob), (2, .inl wh)] [.inl (m1 103 v2.toNatClampNeg)] (ma_put (zst S m1) 94 0 (.inl (0 : Int32))) _
            exact zw_iret hm_258 dX12_about_110 (HQ _ _ h)
          rw [if_neg hc0] at h
          by_cases hc1 : wh = (1 : Int32)
          · rw [if_pos hc1] at h
            refine zw_jmp hm_258 dX12_about_60 (t := 111) (st₉ := []) rfl rfl rfl (ma_jmp_tab (by rw [hc1]; decide +kernel)) ?_
            refine zw_push hm_258 dX12_about_111 (v := .inr (.inr (some 94))) rfl ?_
            refine zw_push hm_258 dX12_about_112 (v := .inl v2) rfl ?_
            refine zw_cv hm_258 dX12_about_113 v_12_327_12 hm_201 [.inl v2] [] rfl (zT_rt (zT_pi (zT_zst hS m1)) s_94 rfl) ⟨by omega, by omega⟩ rfl ?_
            show ma_wp X (d - 1) (w - 21) 201 0 [(0, .inr (.inr (some 94))), (1, .inl v2)] [] (ma_put (zst S m1) 94 0 (.inl (0 : Int32))) _
            refine zw_push hm_201 dX12_sizeOf_0 (v := .inr (.inr (some 94))) rfl ?_
            refine zw_gf hm_201 dX12_sizeOf_1 (v := .inr (.inr (some 102))) (zT_is (zT_pi (zT_zst hS m1)) s_94) (zT_t (zT_pi (zT_zst hS m1)) s_94) rfl f_12_37_12 (zT_f (zT_pi (zT_zst hS m1)) r_94_34) ?_
            refine zw_push hm_201 dX12_sizeOf_4 (v := .inl v2) rfl ?_
            obtain ⟨hg, h⟩ := h
            refine zw_ia hm_201 dX12_sizeOf_5 (zT_is (zT_pi (zT_zst hS m1)) s_102) (zT_h (zT_pi (zT_zst hS m1)) s_102) rfl hg ?_
            show ma_wp X (d - 1) (w - 21) 201 6 [(0, .inr (.inr (some 94))), (1, .inl v2)] [.inl (m1 102 v2.toNatClampNeg)] (ma_put (zst S m1) 94 0 (.inl (0 : Int32))) _
            refine zw_push hm_201 dX12_sizeOf_6 (v := .inl (1 : Int32)) rfl ?_
            refine zw_stk hm_201 dX12_sizeOf_7 (st₉ := [.inl ((m1 102 v2.toNatClampNeg) + (1 : Int32))]) rfl rfl ?_
            refine zw_iret hm_201 dX12_sizeOf_8 ?_
            show ma_wp X d w 258 116 [(3, .inl v2), (0, .inr (.inr (some 94))), (1, .inl ob), (2, .inl wh)] [.inl ((m1 102 v2.toNatClampNeg) + (1 : Int32))] (ma_put (zst S m1) 94 0 (.inl (0 : Int32))) _
            exact zw_iret hm_258 dX12_about_116 (HQ _ _ h)
          rw [if_neg hc1] at h
          by_cases hc2 : wh = (2 : Int32)
          · rw [if_pos hc2] at h
            refine zw_jmp hm_258 dX12_about_60 (t := 117) (st₉ := []) rfl rfl rfl (ma_jmp_tab (by rw [hc2]; decide +kernel)) ?_
            refine zw_push hm_258 dX12_about_117 (v := .inr (.inr (some 94))) rfl ?_
            refine zw_gf hm_258 dX12_about_118 (v := .inr (.inr (some 101))) (zT_is (zT_pi (zT_zst hS m1)) s_94) (zT_t (zT_pi (zT_zst hS m1)) s_94) rfl f_12_34_12 (zT_f (zT_pi (zT_zst hS m1)) r_94_33) ?_
            refine zw_push hm_258 dX12_about_121 (v := .inl v2) rfl ?_
            obtain ⟨hg, h⟩ := h
            refine zw_ia hm_258 dX12_about_122 (zT_is (zT_pi (zT_zst hS m1)) s_101) (zT_h (zT_pi (zT_zst hS m1)) s_101) rfl hg ?_
            show ma_wp X d w 258 123 [(3, .inl v2), (0, .inr (.inr (some 94))), (1, .inl ob), (2, .inl wh)] [.inl (m1 101 v2.toNatClampNeg)] (ma_put (zst S m1) 94 0 (.inl (0 : Int32))) _
            exact zw_iret hm_258 dX12_about_123 (HQ _ _ h)
          rw [if_neg hc2] at h
          by_cases hc3 : wh = (3 : Int32)
          · rw [if_pos hc3] at h
            refine zw_jmp hm_258 dX12_about_60 (t := 124) (st₉ := []) rfl rfl rfl (ma_jmp_tab (by rw [hc3]; decide +kernel)) ?_
            refine zw_push hm_258 dX12_about_124 (v := .inr (.inr (some 94))) rfl ?_
            refine zw_gf hm_258 dX12_about_125 (v := .inl (m1 94 10)) (zT_is (zT_pi (zT_zst hS m1)) s_94) (zT_t (zT_pi (zT_zst hS m1)) s_94) rfl f_12_199_12 rfl ?_
            refine zw_push hm_258 dX12_about_128 (v := .inl (3 : Int32)) rfl ?_
            refine zw_if2 hm_258 dX12_about_129 (t := 141) rfl zc2_ne ?_ ?_
            · intro hc
              rw [if_neg hc] at h
              refine zw_push hm_258 dX12_about_141 (v := .inl (0 : Int32)) rfl ?_
              exact zw_iret hm_258 dX12_about_142 (HQ _ _ h)
            · intro hc
              rw [if_pos (Classical.not_not.mp hc)] at h
              refine zw_push hm_258 dX12_about_132 (v := .inr (.inr (some 94))) rfl ?_
              refine zw_gf hm_258 dX12_about_133 (v := .inr (.inr (some 104))) (zT_is (zT_pi (zT_zst hS m1)) s_94) (zT_t (zT_pi (zT_zst hS m1)) s_94) rfl f_12_43_12 (zT_f (zT_pi (zT_zst hS m1)) r_94_36) ?_
              refine zw_push hm_258 dX12_about_136 (v := .inl v2) rfl ?_
              obtain ⟨hg, h⟩ := h
              refine zw_ia hm_258 dX12_about_137 (zT_is (zT_pi (zT_zst hS m1)) s_104) (zT_h (zT_pi (zT_zst hS m1)) s_104) rfl hg ?_
              show ma_wp X d w 258 138 [(3, .inl v2), (0, .inr (.inr (some 94))), (1, .inl ob), (2, .inl wh)] [.inl (m1 104 v2.toNatClampNeg)] (ma_put (zst S m1) 94 0 (.inl (0 : Int32))) _
              refine zw_goto hm_258 dX12_about_138 (t := 142) rfl ?_
              exact zw_iret hm_258 dX12_about_142 (HQ _ _ h)
          rw [if_neg hc3] at h
          by_cases hc4 : wh = (4 : Int32)
          · rw [if_pos hc4] at h
            refine zw_jmp hm_258 dX12_about_60 (t := 143) (st₉ := []) rfl rfl rfl (ma_jmp_tab (by rw [hc4]; decide +kernel)) ?_
            refine zw_push hm_258 dX12_about_143 (v := .inr (.inr (some 94))) rfl ?_
            refine zw_gf hm_258 dX12_about_144 (v := .inl (m1 94 10)) (zT_is (zT_pi (zT_zst hS m1)) s_94) (zT_t (zT_pi (zT_zst hS m1)) s_94) rfl f_12_199_12 rfl ?_
            refine zw_push hm_258 dX12_about_147 (v := .inl (4 : Int32)) rfl ?_
            refine zw_if2 hm_258 dX12_about_148 (t := 160) rfl zc2_ne ?_ ?_
            · intro hc
              rw [if_neg hc] at h
              refine zw_push hm_258 dX12_about_160 (v := .inl (0 : Int32)) rfl ?_
              exact zw_iret hm_258 dX12_about_161 (HQ _ _ h)
            · intro hc
              rw [if_pos (Classical.not_not.mp hc)] at h
              refine zw_push hm_258 dX12_about_151 (v := .inr (.inr (some 94))) rfl ?_
              refine zw_gf hm_258 dX12_about_152 (v := .inr (.inr (some 105))) (zT_is (zT_pi (zT_zst hS m1)) s_94) (zT_t (zT_pi (zT_zst hS m1)) s_94) rfl f_12_46_12 (zT_f (zT_pi (zT_zst hS m1)) r_94_37) ?_
              refine zw_push hm_258 dX12_about_155 (v := .inl v2) rfl ?_
              obtain ⟨hg, h⟩ := h
              refine zw_ia hm_258 dX12_about_156 (zT_is (zT_pi (zT_zst hS m1)) s_105) (zT_h (zT_pi (zT_zst hS m1)) s_105) rfl hg ?_
              show ma_wp X d w 258 157 [(3, .inl v2), (0, .inr (.inr (some 94))), (1, .inl ob), (2, .inl wh)] [.inl (m1 105 v2.toNatClampNeg)] (ma_put (zst S m1) 94 0 (.inl (0 : Int32))) _
              refine zw_goto hm_258 dX12_about_157 (t := 161) rfl ?_
              exact zw_iret hm_258 dX12_about_161 (HQ _ _ h)
          rw [if_neg hc4] at h
          by_cases hc5 : wh = (5 : Int32)
          · rw [if_pos hc5] at h
            refine zw_jmp hm_258 dX12_about_60 (t := 162) (st₉ := []) rfl rfl rfl (ma_jmp_tab (by rw [hc5]; decide +kernel)) ?_
            refine zw_push hm_258 dX12_about_162 (v := .inr (.inr (some 94))) rfl ?_
            refine zw_gf hm_258 dX12_about_163 (v := .inl (m1 94 58)) (zT_is (zT_pi (zT_zst hS m1)) s_94) (zT_t (zT_pi (zT_zst hS m1)) s_94) rfl f_12_270_12 rfl ?_
            refine zw_if0 hm_258 dX12_about_166 (t := 178) rfl zc0_eq ?_ ?_
            · intro hc
              rw [if_pos hc] at h
              refine zw_push hm_258 dX12_about_178 (v := .inl (0 : Int32)) rfl ?_
              exact zw_iret hm_258 dX12_about_179 (HQ _ _ h)
            · intro hc
              rw [if_neg hc] at h
              refine zw_push hm_258 dX12_about_169 (v := .inr (.inr (some 94))) rfl ?_
              refine zw_gf hm_258 dX12_about_170 (v := .inr (.inr (some 106))) (zT_is (zT_pi (zT_zst hS m1)) s_94) (zT_t (zT_pi (zT_zst hS m1)) s_94) rfl f_12_49_12 (zT_f (zT_pi (zT_zst hS m1)) r_94_38) ?_
              refine zw_push hm_258 dX12_about_173 (v := .inl v2) rfl ?_
              obtain ⟨hg, h⟩ := h
              refine zw_ia hm_258 dX12_about_174 (zT_is (zT_pi (zT_zst hS m1)) s_106) (zT_h (zT_pi (zT_zst hS m1)) s_106) rfl hg ?_
              show ma_wp X d w 258 175 [(3, .inl v2), (0, .inr (.inr (some 94))), (1, .inl ob), (2, .inl wh)] [.inl (m1 106 v2.toNatClampNeg)] (ma_put (zst S m1) 94 0 (.inl (0 : Int32))) _
              refine zw_goto hm_258 dX12_about_175 (t := 179) rfl ?_
              exact zw_iret hm_258 dX12_about_179 (HQ _ _ h)
          rw [if_neg hc5] at h
          by_cases hc6 : wh = (6 : Int32)
          · rw [if_pos hc6] at h
            refine zw_jmp hm_258 dX12_about_60 (t := 180) (st₉ := []) rfl rfl rfl (ma_jmp_tab (by rw [hc6]; decide +kernel)) ?_
            refine zw_push hm_258 dX12_about_180 (v := .inr (.inr (some 94))) rfl ?_
            refine zw_gf hm_258 dX12_about_181 (v := .inr (.inr (some 107))) (zT_is (zT_pi (zT_zst hS m1)) s_94) (zT_t (zT_pi (zT_zst hS m1)) s_94) rfl f_12_52_12 (zT_f (zT_pi (zT_zst hS m1)) r_94_39) ?_
            refine zw_push hm_258 dX12_about_184 (v := .inl v2) rfl ?_
            obtain ⟨hg, h⟩ := h
            refine zw_ia hm_258 dX12_about_185 (zT_is (zT_pi (zT_zst hS m1)) s_107) (zT_h (zT_pi (zT_zst hS m1)) s_107) rfl hg ?_
            show ma_wp X d w 258 186 [(3, .inl v2), (0, .inr (.inr (some 94))), (1, .inl ob), (2, .inl wh)] [.inl (m1 107 v2.toNatClampNeg)] (ma_put (zst S m1) 94 0 (.inl (0 : Int32))) _
            exact zw_iret hm_258 dX12_about_186 (HQ _ _ h)
          rw [if_neg hc6] at h
          refine zw_jmp hm_258 dX12_about_60 (t := 187) (st₉ := []) rfl rfl rfl (ma_jmp_def (m := 7) (by decide) (fun j hj => by
              have hj2 : j = 0 ∨ j = 1 ∨ j = 2 ∨ j = 3 ∨ j = 4 ∨ j = 5 ∨ j = 6 := by omega
              rcases hj2 with rfl | rfl | rfl | rfl | rfl | rfl | rfl
              · exact hc0
              · exact hc1
              · exact hc2
              · exact hc3
              · exact hc4
              · exact hc5
              · exact hc6
              ) rfl) ?_
          refine zw_push hm_258 dX12_about_187 (v := .inr (.inr (some 94))) rfl ?_
          refine zw_gf hm_258 dX12_about_188 (v := .inr (.inr (some 109))) (zT_is (zT_pi (zT_zst hS m1)) s_94) (zT_t (zT_pi (zT_zst hS m1)) s_94) rfl f_12_59_12 (zT_f (zT_pi (zT_zst hS m1)) r_94_41) ?_
          refine zw_push hm_258 dX12_about_191 (v := .inl v2) rfl ?_
          obtain ⟨hg, h⟩ := h
          refine zw_ba hm_258 dX12_about_192 (zT_is (zT_pi (zT_zst hS m1)) s_109) (zT_h (zT_pi (zT_zst hS m1)) s_109) rfl rfl hg ?_
          show ma_wp X d w 258 193 [(3, .inl v2), (0, .inr (.inr (some 94))), (1, .inl ob), (2, .inl wh)] [.inl (m1 109 v2.toNatClampNeg)] (ma_put (zst S m1) 94 0 (.inl (0 : Int32))) _
          refine zw_if0 hm_258 dX12_about_193 (t := 200) rfl zc0_eq ?_ ?_
          · intro hc
            rw [if_pos hc] at h
            refine zw_push hm_258 dX12_about_200 (v := .inl (0 : Int32)) rfl ?_
            exact zw_iret hm_258 dX12_about_201 (HQ _ _ h)
          · intro hc
            rw [if_neg hc] at h
            refine zw_push hm_258 dX12_about_196 (v := .inl (1 : Int32)) rfl ?_
            refine zw_goto hm_258 dX12_about_197 (t := 201) rfl ?_
            exact zw_iret hm_258 dX12_about_201 (HQ _ _ h)
        · intro hc
          rw [if_neg hc] at h
          refine zw_push hm_258 dX12_about_46 (v := .inl (3 : Int32)) rfl ?_
          refine zw_goto hm_258 dX12_about_47 (t := 51) rfl ?_
          refine zw_cv hm_258 dX12_about_51 v_12_110_12 hm_167 [.inl (3 : Int32)] [] rfl (zT_rt (zT_zst hS m1) s_94 rfl) ⟨by omega, by omega⟩ rfl ?_
          show ma_wp X (d - 1) (w - 21) 167 0 [(0, .inr (.inr (some 94))), (1, .inl (3 : Int32))] [] (zst S m1) _
          refine zw_push hm_167 dX12_fails_0 (v := .inr (.inr (some 94))) rfl ?_
          refine zw_push hm_167 dX12_fails_1 (v := .inl (3 : Int32)) rfl ?_
          refine zw_pf hm_167 dX12_fails_2 (zT_is (zT_zst hS m1) s_94) (zT_t (zT_zst hS m1) s_94) p_12_1_12 zk_int ?_
          refine zw_push hm_167 dX12_fails_5 (v := .inl (3 : Int32)) rfl ?_
          refine zw_if0 hm_167 dX12_fails_6 (t := 13) rfl zc0_eq (fun hc => absurd hc (by decide)) (fun _ => ?_)
          refine zw_push hm_167 dX12_fails_9 (v := .inl (1 : Int32)) rfl ?_
          refine zw_goto hm_167 dX12_fails_10 (t := 14) rfl ?_
          refine zw_bret hm_167 dX12_fails_14 (by decide) ?_
          show ma_wp X d w 258 54 [(3, .inl v2), (0, .inr (.inr (some 94))), (1, .inl ob), (2, .inl wh)] [.inl (1 : Int32)] (ma_put (zst S m1) 94 0 (.inl (3 : Int32))) _
          refine zw_if0 hm_258 dX12_about_54 (t := 59) rfl zc0_eq (fun hc => absurd hc (by decide)) (fun _ => ?_)
          refine zw_push hm_258 dX12_about_57 (v := .inl (0 : Int32)) rfl ?_
          exact zw_iret hm_258 dX12_about_58 (HQ _ _ h)
      · intro hc
        rw [if_pos (Classical.not_not.mp hc)] at h
        refine zw_push hm_258 dX12_about_22 (v := .inl (2 : Int32)) rfl ?_
        refine zw_goto hm_258 dX12_about_23 (t := 27) rfl ?_
        refine zw_cv hm_258 dX12_about_27 v_12_110_12 hm_167 [.inl (2 : Int32)] [] rfl (zT_rt hS s_94 rfl) ⟨by omega, by omega⟩ rfl ?_
        show ma_wp X (d - 1) (w - 21) 167 0 [(0, .inr (.inr (some 94))), (1, .inl (2 : Int32))] [] S _
        refine zw_push hm_167 dX12_fails_0 (v := .inr (.inr (some 94))) rfl ?_
        refine zw_push hm_167 dX12_fails_1 (v := .inl (2 : Int32)) rfl ?_
        refine zw_pf hm_167 dX12_fails_2 (zT_is hS s_94) (zT_t hS s_94) p_12_1_12 zk_int ?_
        refine zw_push hm_167 dX12_fails_5 (v := .inl (2 : Int32)) rfl ?_
        refine zw_if0 hm_167 dX12_fails_6 (t := 13) rfl zc0_eq (fun hc => absurd hc (by decide)) (fun _ => ?_)
        refine zw_push hm_167 dX12_fails_9 (v := .inl (1 : Int32)) rfl ?_
        refine zw_goto hm_167 dX12_fails_10 (t := 14) rfl ?_
        refine zw_bret hm_167 dX12_fails_14 (by decide) ?_
        show ma_wp X d w 258 30 [(0, .inr (.inr (some 94))), (1, .inl ob), (2, .inl wh)] [.inl (1 : Int32)] (ma_put S 94 0 (.inl (2 : Int32))) _
        refine zw_if0 hm_258 dX12_about_30 (t := 35) rfl zc0_eq (fun hc => absurd hc (by decide)) (fun _ => ?_)
        refine zw_push hm_258 dX12_about_33 (v := .inl (0 : Int32)) rfl ?_
        exact zw_iret hm_258 dX12_about_34 (HQ _ _ h)
    · intro hc
      rw [if_neg hc] at h
      refine zw_push hm_258 dX12_about_11 (v := .inl (1 : Int32)) rfl ?_
      refine zw_goto hm_258 dX12_about_12 (t := 27) rfl ?_
      refine zw_cv hm_258 dX12_about_27 v_12_110_12 hm_167 [.inl (1 : Int32)] [] rfl (zT_rt hS s_94 rfl) ⟨by omega, by omega⟩ rfl ?_
      show ma_wp X (d - 1) (w - 21) 167 0 [(0, .inr (.inr (some 94))), (1, .inl (1 : Int32))] [] S _
      refine zw_push hm_167 dX12_fails_0 (v := .inr (.inr (some 94))) rfl ?_
      refine zw_push hm_167 dX12_fails_1 (v := .inl (1 : Int32)) rfl ?_
      refine zw_pf hm_167 dX12_fails_2 (zT_is hS s_94) (zT_t hS s_94) p_12_1_12 zk_int ?_
      refine zw_push hm_167 dX12_fails_5 (v := .inl (1 : Int32)) rfl ?_
      refine zw_if0 hm_167 dX12_fails_6 (t := 13) rfl zc0_eq (fun hc => absurd hc (by decide)) (fun _ => ?_)
      refine zw_push hm_167 dX12_fails_9 (v := .inl (1 : Int32)) rfl ?_
      refine zw_goto hm_167 dX12_fails_10 (t := 14) rfl ?_
      refine zw_bret hm_167 dX12_fails_14 (by decide) ?_
      show ma_wp X d w 258 30 [(0, .inr (.inr (some 94))), (1, .inl ob), (2, .inl wh)] [.inl (1 : Int32)] (ma_put S 94 0 (.inl (1 : Int32))) _
      refine zw_if0 hm_258 dX12_about_30 (t := 35) rfl zc0_eq (fun hc => absurd hc (by decide)) (fun _ => ?_)
      refine zw_push hm_258 dX12_about_33 (v := .inl (0 : Int32)) rfl ?_
      exact zw_iret hm_258 dX12_about_34 (HQ _ _ h)
theorem sp_258 {X : Nat × (Nat → Int32)} {P : Option ma_V → (Nat → Nat → Int32) → Prop} {T : Nat} {m : Nat → Nat → Int32} (ob : Int32) (wh : Int32) (hV : zV m) (r_W : zW (m 94 7) (m 98) (m 101) (m 102) (m 108)) (r_GW : zGW T (m 94 55) (m 109)) (r_GU : zGU T (m 94 46) (m 99)) (r_OW : zOw (m 99) (m 103) (m 111)) (r_DX : zDX (m 94 10) (m 99) (m 112) (m 113) (m 114) (m 94 55) (m 98) (m 101) (m 102) (m 108)) (r_GG : zGG (m 94 58) (m 94 56) (m 94 57) (m 106)) (r_HA : zHA (m 94 10) (m 94 11) (m 94 13) (m 94 14) (m 94 16) (m 94 61) (m 94 59) (m 94 60) (m 99) (m 102) (m 103) (m 111) (m 117) (m 98) (m 101) (m 108)) (r_RGc : zRG (m 94 10) (m 94 18) (m 94 64) (m 94 63) (m 99) (m 103) (m 102) (m 116)) (hpre8 : (m 94 58).toInt = 0 ∨ (m 94 10).toInt = 5) (KZ : ∀ v m₉, zV (zov wr_258 m m₉) → (zW (m 94 7) (m 98) (m 101) (m 102) (m 108)) → (zGW T (m 94 55) (m 109)) → (zGU T (m 94 46) (m 99)) → (zOw (m 99) (m 103) (m 111)) → (zDX (m 94 10) (m 99) (m 112) (m 113) (m 114) (m 94 55) (m 98) (m 101) (m 102) (m 108)) → (zGG (m 94 58) (m 94 56) (m 94 57) (m 106)) → (zHA (m 94 10) (m 94 11) (m 94 13) (m 94 14) (m 94 16) (m 94 61) (m 94 59) (m 94 60) (m 99) (m 102) (m 103) (m 111) (m 117) (m 98) (m 101) (m 108)) → (zRG (m 94 10) (m 94 18) (m 94 64) (m 94 63) (m 99) (m 103) (m 102) (m 116)) → ((m 94 58).toInt = 0 ∨ (m 94 10).toInt = 5) → P (some (.inl v)) (zov wr_258 m m₉)) : zm X 5 109 258 0 [(0, .inr (.inr (some 94))), (1, .inl ob), (2, .inl wh)] m P := by
  have K : ∀ v m₉, zF wr_258 m m₉ → zV m₉ → (zW (m₉ 94 7) (m₉ 98) (m₉ 101) (m₉ 102) (m₉ 108)) → (zGW T (m₉ 94 55) (m₉ 109)) → (zGU T (m₉ 94 46) (m₉ 99)) → (zOw (m₉ 99) (m₉ 103) (m₉ 111)) → (zDX (m₉ 94 10) (m₉ 99) (m₉ 112) (m₉ 113) (m₉ 114) (m₉ 94 55) (m₉ 98) (m₉ 101) (m₉ 102) (m₉ 108)) → (zGG (m₉ 94 58) (m₉ 94 56) (m₉ 94 57) (m₉ 106)) → (zHA (m₉ 94 10) (m₉ 94 11) (m₉ 94 13) (m₉ 94 14) (m₉ 94 16) (m₉ 94 61) (m₉ 94 59) (m₉ 94 60) (m₉ 99) (m₉ 102) (m₉ 103) (m₉ 111) (m₉ 117) (m₉ 98) (m₉ 101) (m₉ 108)) → (zRG (m₉ 94 10) (m₉ 94 18) (m₉ 94 64) (m₉ 94 63) (m₉ 99) (m₉ 103) (m₉ 102) (m₉ 116)) → ((m₉ 94 58).toInt = 0 ∨ (m₉ 94 10).toInt = 5) → P (some (.inl v)) m₉ := by
    intro v m₉ hf z q0 q1 q2 q3 q4 q5 q6 q7 q8
    have e := zov_eq hf
    rw [e] at z ⊢
    try rw [e] at q0
    try rw [e] at q1
    try rw [e] at q2
    try rw [e] at q3
    try rw [e] at q4
    try rw [e] at q5
    try rw [e] at q6
    try rw [e] at q7
    try rw [e] at q8
    exact KZ v m₉ z q0 q1 q2 q3 q4 q5 q6 q7 q8
  refine g_258_0 ob wh ?_
  have f1 : 0 ≤ (m 94 58).toInt ∧ (m 94 58).toInt ≤ 1 := rs_94_58 (m := m) hV
  have f2 : 0 ≤ (m 94 10).toInt ∧ (m 94 10).toInt ≤ 6 := rs_94_10 (m := m) hV
  have b3 := i_bd wh
  have li4 : (0 : Int32).toInt = 0 := rfl
  refine zd (fun (h5 : wh < (0 : Int32)) => ?_) (fun (h5 : ¬ wh < (0 : Int32)) => ?_)
  · skip
    have g6 := i_lt h5
    have hV7 : zV (ma_u m 94 0 (1 : Int32)) := uf_94_0 hV
    exact K ((0 : Int32)) _ (zF_u zF_rfl rfl) hV7 r_W r_GW r_GU r_OW r_DX r_GG r_HA r_RGc (show (m 94 58).toInt = 0 ∨ (m 94 10).toInt = 5 from by omega)
  · skip
    have g8 := i_nlt h5
    have li9 : (7 : Int32).toInt = 7 := rfl
    refine zd (fun (h10 : wh ≤ (7 : Int32)) => ?_) (fun (h10 : ¬ wh ≤ (7 : Int32)) => ?_)
    · skip
      have g11 := i_le h10
      have f12 : 0 ≤ (m 94 8).toInt ∧ (m 94 8).toInt ≤ 1 := rs_94_8 (m := m) hV
      refine zd (fun (h13 : (m 94 8) = (0 : Int32)) => ?_) (fun (h13 : ¬ (m 94 8) = (0 : Int32)) => ?_)
      · skip
        have g14 := i_eq h13
        have hV15 : zV (ma_u m 94 0 (2 : Int32)) := uf_94_0 hV
        exact K ((0 : Int32)) _ (zF_u zF_rfl rfl) hV15 r_W r_GW r_GU r_OW r_DX r_GG r_HA r_RGc (show (m 94 58).toInt = 0 ∨ (m 94 10).toInt = 5 from by omega)
      · skip
        have g16 := i_ne h13
        have b17 := i_bd ob
        have hV18 : zV (ma_u m 94 0 (0 : Int32)) := uf_94_0 hV
        refine sp_245 (ob) hV18 r_W r_DX (fun v2 m1 hV_m1 p0_m1 p1_m1 => zmi_n ?_)
        have p0_m1 : -1 ≤ v2.toInt ∧ v2.toInt ≤ 3099 := p0_m1
        have p1_m1 : v2.toInt < 0 ∨ (m 99) v2.toNatClampNeg ≠ 0 := p1_m1
        have b19 := i_bd v2
        refine zd (fun (h20 : (0 : Int32) ≤ v2) => ?_) (fun (h20 : ¬ (0 : Int32) ≤ v2) => ?_)
        · skip
          have g21 := i_le h20
          refine zd (fun (h22 : wh = (0 : Int32)) => ?_) (fun (h22 : ¬ wh = (0 : Int32)) => ?_)
          · skip
            have g23 := i_eq h22
            have hg24 : (0 ≤ v2 ∧ v2.toNatClampNeg < 3100) := i_ix (by omega) (by omega)
            refine ⟨hg24, ?_⟩
            have hV25 : zV (ma_u (zov wr_245 (ma_u m 94 0 (0 : Int32)) m1) 94 0 (0 : Int32)) := uf_94_0 hV_m1
            first | have f26 : 0 ≤ (m 103 v2.toNatClampNeg).toInt ∧ (m 103 v2.toNatClampNeg).toInt ≤ 4599 := ra_103 (m := m) hV (k := v2.toNatClampNeg) (i_ix (n := 3100) (by omega) (by omega)).2 | have b27 := i_bd (m 103 v2.toNatClampNeg)
            exact K ((m 103 v2.toNatClampNeg)) _ (zF_u (zF_zov (zF_u zF_rfl rfl) ws_245_258) rfl) hV25 r_W r_GW r_GU r_OW r_DX r_GG r_HA r_RGc (show (m 94 58).toInt = 0 ∨ (m 94 10).toInt = 5 from by omega)
          · skip
            have g28 := i_ne h22
            have li29 : (1 : Int32).toInt = 1 := rfl
            refine zd (fun (h30 : wh = (1 : Int32)) => ?_) (fun (h30 : ¬ wh = (1 : Int32)) => ?_)
            · skip
              have g31 := i_eq h30
              have hg32 : (0 ≤ v2 ∧ v2.toNatClampNeg < 3100) := i_ix (by omega) (by omega)
              refine ⟨hg32, ?_⟩
              have hV33 : zV (ma_u (zov wr_245 (ma_u m 94 0 (0 : Int32)) m1) 94 0 (0 : Int32)) := uf_94_0 hV_m1
              first | have f34 : 0 ≤ (m 102 v2.toNatClampNeg).toInt ∧ (m 102 v2.toNatClampNeg).toInt ≤ 60 := ra_102 (m := m) hV (k := v2.toNatClampNeg) (i_ix (n := 3100) (by omega) (by omega)).2 | have b35 := i_bd (m 102 v2.toNatClampNeg)
              first | have e36 : ((m 102 v2.toNatClampNeg) + (1 : Int32)).toInt = (m 102 v2.toNatClampNeg).toInt + (1) := i_addk rfl (by omega) (by omega) | have b37 := i_bd ((m 102 v2.toNatClampNeg) + (1 : Int32))
              exact K (((m 102 v2.toNatClampNeg) + (1 : Int32))) _ (zF_u (zF_zov (zF_u zF_rfl rfl) ws_245_258) rfl) hV33 r_W r_GW r_GU r_OW r_DX r_GG r_HA r_RGc (show (m 94 58).toInt = 0 ∨ (m 94 10).toInt = 5 from by omega)
            · skip
              have g38 := i_ne h30
              have li39 : (2 : Int32).toInt = 2 := rfl
              refine zd (fun (h40 : wh = (2 : Int32)) => ?_) (fun (h40 : ¬ wh = (2 : Int32)) => ?_)
              · skip
                have g41 := i_eq h40
                have hg42 : (0 ≤ v2 ∧ v2.toNatClampNeg < 3100) := i_ix (by omega) (by omega)
                refine ⟨hg42, ?_⟩
                have hV43 : zV (ma_u (zov wr_245 (ma_u m 94 0 (0 : Int32)) m1) 94 0 (0 : Int32)) := uf_94_0 hV_m1
                first | have f44 : 0 ≤ (m 101 v2.toNatClampNeg).toInt ∧ (m 101 v2.toNatClampNeg).toInt ≤ 17 := ra_101 (m := m) hV (k := v2.toNatClampNeg) (i_ix (n := 3100) (by omega) (by omega)).2 | have b45 := i_bd (m 101 v2.toNatClampNeg)
                exact K ((m 101 v2.toNatClampNeg)) _ (zF_u (zF_zov (zF_u zF_rfl rfl) ws_245_258) rfl) hV43 r_W r_GW r_GU r_OW r_DX r_GG r_HA r_RGc (show (m 94 58).toInt = 0 ∨ (m 94 10).toInt = 5 from by omega)
              · skip
                have g46 := i_ne h40
                have li47 : (3 : Int32).toInt = 3 := rfl
                refine zd (fun (h48 : wh = (3 : Int32)) => ?_) (fun (h48 : ¬ wh = (3 : Int32)) => ?_)
                · skip
                  have g49 := i_eq h48
                  refine zd (fun (h50 : (m 94 10) = (3 : Int32)) => ?_) (fun (h50 : ¬ (m 94 10) = (3 : Int32)) => ?_)
                  · skip
                    have g51 := i_eq h50
                    have hg52 : (0 ≤ v2 ∧ v2.toNatClampNeg < 3100) := i_ix (by omega) (by omega)
                    refine ⟨hg52, ?_⟩
                    have hV53 : zV (ma_u (zov wr_245 (ma_u m 94 0 (0 : Int32)) m1) 94 0 (0 : Int32)) := uf_94_0 hV_m1
                    have b54 := i_bd (m 104 v2.toNatClampNeg)
                    exact K ((m 104 v2.toNatClampNeg)) _ (zF_u (zF_zov (zF_u zF_rfl rfl) ws_245_258) rfl) hV53 r_W r_GW r_GU r_OW r_DX r_GG r_HA r_RGc (show (m 94 58).toInt = 0 ∨ (m 94 10).toInt = 5 from by omega)
                  · skip
                    have g55 := i_ne h50
                    have hV56 : zV (ma_u (zov wr_245 (ma_u m 94 0 (0 : Int32)) m1) 94 0 (0 : Int32)) := uf_94_0 hV_m1
                    exact K ((0 : Int32)) _ (zF_u (zF_zov (zF_u zF_rfl rfl) ws_245_258) rfl) hV56 r_W r_GW r_GU r_OW r_DX r_GG r_HA r_RGc (show (m 94 58).toInt = 0 ∨ (m 94 10).toInt = 5 from by omega)
                · skip
                  have g57 := i_ne h48
                  have li58 : (4 : Int32).toInt = 4 := rfl
                  refine zd (fun (h59 : wh = (4 : Int32)) => ?_) (fun (h59 : ¬ wh = (4 : Int32)) => ?_)
                  · skip
                    have g60 := i_eq h59
                    refine zd (fun (h61 : (m 94 10) = (4 : Int32)) => ?_) (fun (h61 : ¬ (m 94 10) = (4 : Int32)) => ?_)
                    · skip
                      have g62 := i_eq h61
                      have hg63 : (0 ≤ v2 ∧ v2.toNatClampNeg < 3100) := i_ix (by omega) (by omega)
                      refine ⟨hg63, ?_⟩
                      have hV64 : zV (ma_u (zov wr_245 (ma_u m 94 0 (0 : Int32)) m1) 94 0 (0 : Int32)) := uf_94_0 hV_m1
                      have b65 := i_bd (m 105 v2.toNatClampNeg)
                      exact K ((m 105 v2.toNatClampNeg)) _ (zF_u (zF_zov (zF_u zF_rfl rfl) ws_245_258) rfl) hV64 r_W r_GW r_GU r_OW r_DX r_GG r_HA r_RGc (show (m 94 58).toInt = 0 ∨ (m 94 10).toInt = 5 from by omega)
                    · skip
                      have g66 := i_ne h61
                      have hV67 : zV (ma_u (zov wr_245 (ma_u m 94 0 (0 : Int32)) m1) 94 0 (0 : Int32)) := uf_94_0 hV_m1
                      exact K ((0 : Int32)) _ (zF_u (zF_zov (zF_u zF_rfl rfl) ws_245_258) rfl) hV67 r_W r_GW r_GU r_OW r_DX r_GG r_HA r_RGc (show (m 94 58).toInt = 0 ∨ (m 94 10).toInt = 5 from by omega)
                  · skip
                    have g68 := i_ne h59
                    have li69 : (5 : Int32).toInt = 5 := rfl
                    refine zd (fun (h70 : wh = (5 : Int32)) => ?_) (fun (h70 : ¬ wh = (5 : Int32)) => ?_)
                    · skip
                      have g71 := i_eq h70
                      refine zd (fun (h72 : (m 94 58) = (0 : Int32)) => ?_) (fun (h72 : ¬ (m 94 58) = (0 : Int32)) => ?_)
                      · skip
                        have g73 := i_eq h72
                        have hV74 : zV (ma_u (zov wr_245 (ma_u m 94 0 (0 : Int32)) m1) 94 0 (0 : Int32)) := uf_94_0 hV_m1
                        exact K ((0 : Int32)) _ (zF_u (zF_zov (zF_u zF_rfl rfl) ws_245_258) rfl) hV74 r_W r_GW r_GU r_OW r_DX r_GG r_HA r_RGc (show (m 94 58).toInt = 0 ∨ (m 94 10).toInt = 5 from by omega)
                      · skip
                        have g75 := i_ne h72
                        have hg76 : (0 ≤ v2 ∧ v2.toNatClampNeg < 3100) := i_ix (by omega) (by omega)
                        refine ⟨hg76, ?_⟩
                        have hV77 : zV (ma_u (zov wr_245 (ma_u m 94 0 (0 : Int32)) m1) 94 0 (0 : Int32)) := uf_94_0 hV_m1
                        have b78 := i_bd (m 106 v2.toNatClampNeg)
                        exact K ((m 106 v2.toNatClampNeg)) _ (zF_u (zF_zov (zF_u zF_rfl rfl) ws_245_258) rfl) hV77 r_W r_GW r_GU r_OW r_DX r_GG r_HA r_RGc (show (m 94 58).toInt = 0 ∨ (m 94 10).toInt = 5 from by omega)
                    · skip
                      have g79 := i_ne h70
                      have li80 : (6 : Int32).toInt = 6 := rfl
                      refine zd (fun (h81 : wh = (6 : Int32)) => ?_) (fun (h81 : ¬ wh = (6 : Int32)) => ?_)
                      · skip
                        have g82 := i_eq h81
                        have hg83 : (0 ≤ v2 ∧ v2.toNatClampNeg < 3100) := i_ix (by omega) (by omega)
                        refine ⟨hg83, ?_⟩
                        have hV84 : zV (ma_u (zov wr_245 (ma_u m 94 0 (0 : Int32)) m1) 94 0 (0 : Int32)) := uf_94_0 hV_m1
                        have b85 := i_bd (m 107 v2.toNatClampNeg)
                        exact K ((m 107 v2.toNatClampNeg)) _ (zF_u (zF_zov (zF_u zF_rfl rfl) ws_245_258) rfl) hV84 r_W r_GW r_GU r_OW r_DX r_GG r_HA r_RGc (show (m 94 58).toInt = 0 ∨ (m 94 10).toInt = 5 from by omega)
                      · skip
                        have g86 := i_ne h81
                        have hg87 : (0 ≤ v2 ∧ v2.toNatClampNeg < 3100) := i_ix (by omega) (by omega)
                        refine ⟨hg87, ?_⟩
                        first | have f88 : 0 ≤ (m 109 v2.toNatClampNeg).toInt ∧ (m 109 v2.toNatClampNeg).toInt ≤ 1 := ra_109 (m := m) hV (k := v2.toNatClampNeg) (i_ix (n := 3100) (by omega) (by omega)).2 | have b89 := i_bd (m 109 v2.toNatClampNeg)
                        refine zd (fun (h90 : (m 109 v2.toNatClampNeg) = (0 : Int32)) => ?_) (fun (h90 : ¬ (m 109 v2.toNatClampNeg) = (0 : Int32)) => ?_)
                        · skip
                          have g91 := i_eq h90
                          have hV92 : zV (ma_u (zov wr_245 (ma_u m 94 0 (0 : Int32)) m1) 94 0 (0 : Int32)) := uf_94_0 hV_m1
                          exact K ((0 : Int32)) _ (zF_u (zF_zov (zF_u zF_rfl rfl) ws_245_258) rfl) hV92 r_W r_GW r_GU r_OW r_DX r_GG r_HA r_RGc (show (m 94 58).toInt = 0 ∨ (m 94 10).toInt = 5 from by omega)
                        · skip
                          have g93 := i_ne h90
                          have hV94 : zV (ma_u (zov wr_245 (ma_u m 94 0 (0 : Int32)) m1) 94 0 (0 : Int32)) := uf_94_0 hV_m1
                          exact K ((1 : Int32)) _ (zF_u (zF_zov (zF_u zF_rfl rfl) ws_245_258) rfl) hV94 r_W r_GW r_GU r_OW r_DX r_GG r_HA r_RGc (show (m 94 58).toInt = 0 ∨ (m 94 10).toInt = 5 from by omega)
        · skip
          have g95 := i_nle h20
          have hV96 : zV (ma_u (zov wr_245 (ma_u m 94 0 (0 : Int32)) m1) 94 0 (3 : Int32)) := uf_94_0 hV_m1
          exact K ((0 : Int32)) _ (zF_u (zF_zov (zF_u zF_rfl rfl) ws_245_258) rfl) hV96 r_W r_GW r_GU r_OW r_DX r_GG r_HA r_RGc (show (m 94 58).toInt = 0 ∨ (m 94 10).toInt = 5 from by omega)
    · skip
      have g97 := i_nle h10
      have hV98 : zV (ma_u m 94 0 (1 : Int32)) := uf_94_0 hV
      exact K ((0 : Int32)) _ (zF_u zF_rfl rfl) hV98 r_W r_GW r_GU r_OW r_DX r_GG r_HA r_RGc (show (m 94 58).toInt = 0 ∨ (m 94 10).toInt = 5 from by omega)

/-! from 94.454 -/
/-! the reference (written by wip/tools/gen94m.py) -/
set_option maxRecDepth 100000 in
theorem hm_254 : ma_md 254 = some (12, yX12_wish, cX12_wish, 4, (some (FieldType.int))) := rfl
theorem dX12_wish_0 : decode cX12_wish 0 = .ok (.aload_n 0, 1) := by decide +kernel
theorem dX12_wish_1 : decode cX12_wish 1 = .ok (.aload_n 0, 1) := by decide +kernel
theorem dX12_wish_12 : decode cX12_wish 12 = .ok (.iconst 0, 1) := by decide +kernel
theorem dX12_wish_13 : decode cX12_wish 13 = .ok (.invokevirtual 110, 3) := by decide +kernel
theorem dX12_wish_16 : decode cX12_wish 16 = .ok (.ifCond .eq 5, 3) := by decide +kernel
theorem dX12_wish_21 : decode cX12_wish 21 = .ok (.aload_n 0, 1) := by decide +kernel
theorem dX12_wish_22 : decode cX12_wish 22 = .ok (.iload_n 1, 1) := by decide +kernel
theorem dX12_wish_23 : decode cX12_wish 23 = .ok (.invokevirtual 499, 3) := by decide +kernel
theorem dX12_wish_26 : decode cX12_wish 26 = .ok (.istore_n 2, 1) := by decide +kernel
theorem dX12_wish_27 : decode cX12_wish 27 = .ok (.aload_n 0, 1) := by decide +kernel
theorem dX12_wish_28 : decode cX12_wish 28 = .ok (.iload_n 2, 1) := by decide +kernel
theorem dX12_wish_36 : decode cX12_wish 36 = .ok (.iconst 0, 1) := by decide +kernel
theorem dX12_wish_37 : decode cX12_wish 37 = .ok (.invokevirtual 110, 3) := by decide +kernel
theorem dX12_wish_40 : decode cX12_wish 40 = .ok (.ifCond .eq 5, 3) := by decide +kernel
theorem dX12_wish_45 : decode cX12_wish 45 = .ok (.aload_n 0, 1) := by decide +kernel
theorem dX12_wish_49 : decode cX12_wish 49 = .ok (.iload_n 2, 1) := by decide +kernel
theorem dX12_wish_58 : decode cX12_wish 58 = .ok (.iconst 1, 1) := by decide +kernel
theorem dX12_wish_59 : decode cX12_wish 59 = .ok (.istore_n 3, 1) := by decide +kernel
theorem dX12_wish_60 : decode cX12_wish 60 = .ok (.aload_n 0, 1) := by decide +kernel
theorem dX12_wish_64 : decode cX12_wish 64 = .ok (.iload_n 2, 1) := by decide +kernel
theorem dX12_wish_65 : decode cX12_wish 65 = .ok (.iconst 1, 1) := by decide +kernel
theorem dX12_wish_67 : decode cX12_wish 67 = .ok (.iload_n 3, 1) := by decide +kernel
theorem dX12_wish_68 : decode cX12_wish 68 = .ok (.ireturn, 1) := by decide +kernel
theorem dX12_wish_66 : decode cX12_wish 66 = .ok (.bastore, 1) := by decide +kernel
theorem dX12_wish_61 : decode cX12_wish 61 = .ok (.getfield 59, 3) := by decide +kernel
theorem dX12_wish_54 : decode cX12_wish 54 = .ok (.iconst 0, 1) := by decide +kernel
theorem dX12_wish_55 : decode cX12_wish 55 = .ok (.goto 4, 3) := by decide +kernel
theorem dX12_wish_51 : decode cX12_wish 51 = .ok (.ifCond .eq 7, 3) := by decide +kernel
theorem dX12_wish_50 : decode cX12_wish 50 = .ok (.baload, 1) := by decide +kernel
theorem dX12_wish_46 : decode cX12_wish 46 = .ok (.getfield 59, 3) := by decide +kernel
theorem dX12_wish_32 : decode cX12_wish 32 = .ok (.iconst 2, 1) := by decide +kernel
theorem dX12_wish_33 : decode cX12_wish 33 = .ok (.goto 4, 3) := by decide +kernel
theorem dX12_wish_43 : decode cX12_wish 43 = .ok (.iconst 0, 1) := by decide +kernel
theorem dX12_wish_44 : decode cX12_wish 44 = .ok (.ireturn, 1) := by decide +kernel
theorem dX12_wish_29 : decode cX12_wish 29 = .ok (.ifCond .ge 7, 3) := by decide +kernel
theorem dX12_wish_8 : decode cX12_wish 8 = .ok (.iconst 1, 1) := by decide +kernel
theorem dX12_wish_9 : decode cX12_wish 9 = .ok (.goto 4, 3) := by decide +kernel
theorem dX12_wish_19 : decode cX12_wish 19 = .ok (.iconst 0, 1) := by decide +kernel
theorem dX12_wish_20 : decode cX12_wish 20 = .ok (.ireturn, 1) := by decide +kernel
theorem dX12_wish_5 : decode cX12_wish 5 = .ok (.ifCond .ne 7, 3) := by decide +kernel
theorem dX12_wish_2 : decode cX12_wish 2 = .ok (.getfield 237, 3) := by decide +kernel
def wr_254 (c k : Nat) : Bool := Nat.beq c 109 || Nat.beq c 110 || Nat.beq c 118 || (Nat.beq c 94 && (Nat.beq k 0 || Nat.beq k 73))
theorem ws_245_254 : ∀ c k, wr_245 c k = true → wr_254 c k = true := by
  intro c k h
  simp only [wr_245, Bool.or_eq_true, Bool.and_eq_true, Nat.beq_eq] at h
  rcases h with (rfl | rfl) | ⟨rfl, rfl⟩ <;> rfl
theorem g_254_0 {X : Nat × (Nat → Int32)} {m : Nat → Nat → Int32} {P : Option ma_V → (Nat → Nat → Int32) → Prop} (ob : Int32) (h : if (m 94 8) = 0 then (P (some (.inl (0 : Int32))) (ma_u m 94 0 (1 : Int32))) else (zm X 4 87 245 0 [(0, .inr (.inr (some 94))), (1, .inl ob)] (ma_u m 94 0 (0 : Int32)) (zmi (fun v2 m1 => if 0 ≤ v2 then ((0 ≤ v2 ∧ v2.toNatClampNeg < 3100) ∧ (if (m1 109 v2.toNatClampNeg) = 0 then ((0 ≤ v2 ∧ v2.toNatClampNeg < 3100) ∧ (P (some (.inl (1 : Int32))) (ma_u (ma_u m1 94 0 (0 : Int32)) 109 v2.toNatClampNeg (1 : Int32)))) else ((0 ≤ v2 ∧ v2.toNatClampNeg < 3100) ∧ (P (some (.inl (0 : Int32))) (ma_u (ma_u m1 94 0 (0 : Int32)) 109 v2.toNatClampNeg (1 : Int32)))))) else (P (some (.inl (0 : Int32))) (ma_u m1 94 0 (2 : Int32))))))) : zm X 5 109 254 0 [(0, .inr (.inr (some 94))), (1, .inl ob)] m P := by
  intro d w S Q hd hw hS hm HQ
  subst hm
  refine zw_push hm_254 dX12_wish_0 (v := .inr (.inr (some 94))) rfl ?_
  refine zw_push hm_254 dX12_wish_1 (v := .inr (.inr (some 94))) rfl ?_
  refine zw_gf hm_254 dX12_wish_2 (v := .inl ((mI S) 94 8)) (zT_is hS s_94) (zT_t hS s_94) rfl f_12_237_12 rfl ?_
  refine zw_if0 hm_254 dX12_wish_5 (t := 12) rfl zc0_ne ?_ ?_
  · intro hc
    rw [if_neg hc] at h
    refine zw_push hm_254 dX12_wish_12 (v := .inl (0 : Int32)) rfl ?_
    refine zw_cv hm_254 dX12_wish_13 v_12_110_12 hm_167 [.inl (0 : Int32)] [] rfl (zT_rt hS s_94 rfl) ⟨by omega, by omega⟩ rfl ?_
    show ma_wp X (d - 1) (w - 21) 167 0 [(0, .inr (.inr (some 94))), (1, .inl (0 : Int32))] [] S _
    refine zw_push hm_167 dX12_fails_0 (v := .inr (.inr (some 94))) rfl ?_
    refine zw_push hm_167 dX12_fails_1 (v := .inl (0 : Int32)) rfl ?_
    refine zw_pf hm_167 dX12_fails_2 (zT_is hS s_94) (zT_t hS s_94) p_12_1_12 zk_int ?_
    refine zw_push hm_167 dX12_fails_5 (v := .inl (0 : Int32)) rfl ?_
    refine zw_if0 hm_167 dX12_fails_6 (t := 13) rfl zc0_eq (fun _ => ?_) (fun hc => absurd (by decide) hc)
    refine zw_push hm_167 dX12_fails_13 (v := .inl (0 : Int32)) rfl ?_
    refine zw_bret hm_167 dX12_fails_14 (by decide) ?_
    show ma_wp X d w 254 16 [(0, .inr (.inr (some 94))), (1, .inl ob)] [.inl (0 : Int32)] (ma_put S 94 0 (.inl (0 : Int32))) _
    refine zw_if0 hm_254 dX12_wish_16 (t := 21) rfl zc0_eq (fun _ => ?_) (fun hc => absurd (by decide) hc)
    refine zw_push hm_254 dX12_wish_21 (v := .inr (.inr (some 94))) rfl ?_
    refine zw_push hm_254 dX12_wish_22 (v := .inl ob) rfl ?_
    refine zw_cv hm_254 dX12_wish_23 v_12_499_12 hm_245 [.inl ob] [] rfl (zT_rt (zT_pi hS) s_94 rfl) ⟨by omega, by omega⟩ rfl (h _ _ (ma_put S 94 0 (.inl (0 : Int32))) _ (by omega) (by omega) (zT_pi hS) rfl (fun o9 m1 hv => ?_))
    obtain ⟨v2, rfl, h⟩ := zmi_of hv
    show ma_wp X d w 254 26 [(0, .inr (.inr (some 94))), (1, .inl ob)] [.inl v2] (zst S m1) _
    refine zw_sto hm_254 dX12_wish_26 [(2, .inl v2), (0, .inr (.inr (some 94))), (1, .inl ob)] rfl rfl rfl ?_
    refine zw_push hm_254 dX12_wish_27 (v := .inr (.inr (some 94))) rfl ?_
    refine zw_push hm_254 dX12_wish_28 (v := .inl v2) rfl ?_
    refine zw_if0 hm_254 dX12_wish_29 (t := 36) rfl zc0_ge ?_ ?_
    · intro hc
      rw [if_pos hc] at h
      refine zw_push hm_254 dX12_wish_36 (v := .inl (0 : Int32)) rfl ?_
      refine zw_cv hm_254 dX12_wish_37 v_12_110_12 hm_167 [.inl (0 : Int32)] [] rfl (zT_rt (zT_zst hS m1) s_94 rfl) ⟨by omega, by omega⟩ rfl ?_
      show ma_wp X (d - 1) (w - 21) 167 0 [(0, .inr (.inr (some 94))), (1, .inl (0 : Int32))] [] (zst S m1) _
      refine zw_push hm_167 dX12_fails_0 (v := .inr (.inr (some 94))) rfl ?_
      refine zw_push hm_167 dX12_fails_1 (v := .inl (0 : Int32)) rfl ?_
      refine zw_pf hm_167 dX12_fails_2 (zT_is (zT_zst hS m1) s_94) (zT_t (zT_zst hS m1) s_94) p_12_1_12 zk_int ?_
      refine zw_push hm_167 dX12_fails_5 (v := .inl (0 : Int32)) rfl ?_
      refine zw_if0 hm_167 dX12_fails_6 (t := 13) rfl zc0_eq (fun _ => ?_) (fun hc => absurd (by decide) hc)
      refine zw_push hm_167 dX12_fails_13 (v := .inl (0 : Int32)) rfl ?_
      refine zw_bret hm_167 dX12_fails_14 (by decide) ?_
      show ma_wp X d w 254 40 [(2, .inl v2), (0, .inr (.inr (some 94))), (1, .inl ob)] [.inl (0 : Int32)] (ma_put (zst S m1) 94 0 (.inl (0 : Int32))) _
      refine zw_if0 hm_254 dX12_wish_40 (t := 45) rfl zc0_eq (fun _ => ?_) (fun hc => absurd (by decide) hc)
      refine zw_push hm_254 dX12_wish_45 (v := .inr (.inr (some 94))) rfl ?_
      refine zw_gf hm_254 dX12_wish_46 (v := .inr (.inr (some 109))) (zT_is (zT_pi (zT_zst hS m1)) s_94) (zT_t (zT_pi (zT_zst hS m1)) s_94) rfl f_12_59_12 (zT_f (zT_pi (zT_zst hS m1)) r_94_41) ?_
      refine zw_push hm_254 dX12_wish_49 (v := .inl v2) rfl ?_
      obtain ⟨hg, h⟩ := h
      refine zw_ba hm_254 dX12_wish_50 (zT_is (zT_pi (zT_zst hS m1)) s_109) (zT_h (zT_pi (zT_zst hS m1)) s_109) rfl rfl hg ?_
      show ma_wp X d w 254 51 [(2, .inl v2), (0, .inr (.inr (some 94))), (1, .inl ob)] [.inl (m1 109 v2.toNatClampNeg)] (ma_put (zst S m1) 94 0 (.inl (0 : Int32))) _
      refine zw_if0 hm_254 dX12_wish_51 (t := 58) rfl zc0_eq ?_ ?_
      · intro hc
        rw [if_pos hc] at h
        refine zw_push hm_254 dX12_wish_58 (v := .inl (1 : Int32)) rfl ?_
        refine zw_sto hm_254 dX12_wish_59 [(3, .inl (1 : Int32)), (2, .inl v2), (0, .inr (.inr (some 94))), (1, .inl ob)] rfl rfl rfl ?_
        refine zw_push hm_254 dX12_wish_60 (v := .inr (.inr (some 94))) rfl ?_
        refine zw_gf hm_254 dX12_wish_61 (v := .inr (.inr (some 109))) (zT_is (zT_pi (zT_zst hS m1)) s_94) (zT_t (zT_pi (zT_zst hS m1)) s_94) rfl f_12_59_12 (zT_f (zT_pi (zT_zst hS m1)) r_94_41) ?_
        refine zw_push hm_254 dX12_wish_64 (v := .inl v2) rfl ?_
        refine zw_push hm_254 dX12_wish_65 (v := .inl (1 : Int32)) rfl ?_
        obtain ⟨hg, h⟩ := h
        refine zw_bas22l hm_254 dX12_wish_66 (hx := by decide) (yv := (1 : Int32)) (zT_is (zT_pi (zT_zst hS m1)) s_109) (zT_h (zT_pi (zT_zst hS m1)) s_109) rfl hg ?_
        refine zw_push hm_254 dX12_wish_67 (v := .inl (1 : Int32)) rfl ?_
        exact zw_iret hm_254 dX12_wish_68 (HQ _ _ h)
      · intro hc
        rw [if_neg hc] at h
        refine zw_push hm_254 dX12_wish_54 (v := .inl (0 : Int32)) rfl ?_
        refine zw_goto hm_254 dX12_wish_55 (t := 59) rfl ?_
        refine zw_sto hm_254 dX12_wish_59 [(3, .inl (0 : Int32)), (2, .inl v2), (0, .inr (.inr (some 94))), (1, .inl ob)] rfl rfl rfl ?_
        refine zw_push hm_254 dX12_wish_60 (v := .inr (.inr (some 94))) rfl ?_
        refine zw_gf hm_254 dX12_wish_61 (v := .inr (.inr (some 109))) (zT_is (zT_pi (zT_zst hS m1)) s_94) (zT_t (zT_pi (zT_zst hS m1)) s_94) rfl f_12_59_12 (zT_f (zT_pi (zT_zst hS m1)) r_94_41) ?_
        refine zw_push hm_254 dX12_wish_64 (v := .inl v2) rfl ?_
        refine zw_push hm_254 dX12_wish_65 (v := .inl (1 : Int32)) rfl ?_
        obtain ⟨hg, h⟩ := h
        refine zw_bas22l hm_254 dX12_wish_66 (hx := by decide) (yv := (1 : Int32)) (zT_is (zT_pi (zT_zst hS m1)) s_109) (zT_h (zT_pi (zT_zst hS m1)) s_109) rfl hg ?_
        refine zw_push hm_254 dX12_wish_67 (v := .inl (0 : Int32)) rfl ?_
        exact zw_iret hm_254 dX12_wish_68 (HQ _ _ h)
    · intro hc
      rw [if_neg hc] at h
      refine zw_push hm_254 dX12_wish_32 (v := .inl (2 : Int32)) rfl ?_
      refine zw_goto hm_254 dX12_wish_33 (t := 37) rfl ?_
      refine zw_cv hm_254 dX12_wish_37 v_12_110_12 hm_167 [.inl (2 : Int32)] [] rfl (zT_rt (zT_zst hS m1) s_94 rfl) ⟨by omega, by omega⟩ rfl ?_
      show ma_wp X (d - 1) (w - 21) 167 0 [(0, .inr (.inr (some 94))), (1, .inl (2 : Int32))] [] (zst S m1) _
      refine zw_push hm_167 dX12_fails_0 (v := .inr (.inr (some 94))) rfl ?_
      refine zw_push hm_167 dX12_fails_1 (v := .inl (2 : Int32)) rfl ?_
      refine zw_pf hm_167 dX12_fails_2 (zT_is (zT_zst hS m1) s_94) (zT_t (zT_zst hS m1) s_94) p_12_1_12 zk_int ?_
      refine zw_push hm_167 dX12_fails_5 (v := .inl (2 : Int32)) rfl ?_
      refine zw_if0 hm_167 dX12_fails_6 (t := 13) rfl zc0_eq (fun hc => absurd hc (by decide)) (fun _ => ?_)
      refine zw_push hm_167 dX12_fails_9 (v := .inl (1 : Int32)) rfl ?_
      refine zw_goto hm_167 dX12_fails_10 (t := 14) rfl ?_
      refine zw_bret hm_167 dX12_fails_14 (by decide) ?_
      show ma_wp X d w 254 40 [(2, .inl v2), (0, .inr (.inr (some 94))), (1, .inl ob)] [.inl (1 : Int32)] (ma_put (zst S m1) 94 0 (.inl (2 : Int32))) _
      refine zw_if0 hm_254 dX12_wish_40 (t := 45) rfl zc0_eq (fun hc => absurd hc (by decide)) (fun _ => ?_)
      refine zw_push hm_254 dX12_wish_43 (v := .inl (0 : Int32)) rfl ?_
      exact zw_iret hm_254 dX12_wish_44 (HQ _ _ h)
  · intro hc
    rw [if_pos (Classical.not_not.mp hc)] at h
    refine zw_push hm_254 dX12_wish_8 (v := .inl (1 : Int32)) rfl ?_
    refine zw_goto hm_254 dX12_wish_9 (t := 13) rfl ?_
    refine zw_cv hm_254 dX12_wish_13 v_12_110_12 hm_167 [.inl (1 : Int32)] [] rfl (zT_rt hS s_94 rfl) ⟨by omega, by omega⟩ rfl ?_
    show ma_wp X (d - 1) (w - 21) 167 0 [(0, .inr (.inr (some 94))), (1, .inl (1 : Int32))] [] S _
    refine zw_push hm_167 dX12_fails_0 (v := .inr (.inr (some 94))) rfl ?_
    refine zw_push hm_167 dX12_fails_1 (v := .inl (1 : Int32)) rfl ?_
    refine zw_pf hm_167 dX12_fails_2 (zT_is hS s_94) (zT_t hS s_94) p_12_1_12 zk_int ?_
    refine zw_push hm_167 dX12_fails_5 (v := .inl (1 : Int32)) rfl ?_
    refine zw_if0 hm_167 dX12_fails_6 (t := 13) rfl zc0_eq (fun hc => absurd hc (by decide)) (fun _ => ?_)
    refine zw_push hm_167 dX12_fails_9 (v := .inl (1 : Int32)) rfl ?_
    refine zw_goto hm_167 dX12_fails_10 (t := 14) rfl ?_
    refine zw_bret hm_167 dX12_fails_14 (by decide) ?_
    show ma_wp X d w 254 16 [(0, .inr (.inr (some 94))), (1, .inl ob)] [.inl (1 : Int32)] (ma_put S 94 0 (.inl (1 : Int32))) _
    refine zw_if0 hm_254 dX12_wish_16 (t := 21) rfl zc0_eq (fun hc => absurd hc (by decide)) (fun _ => ?_)
    refine zw_push hm_254 dX12_wish_19 (v := .inl (0 : Int32)) rfl ?_
    exact zw_iret hm_254 dX12_wish_20 (HQ _ _ h)
theorem sp_254 {X : Nat × (Nat → Int32)} {P : Option ma_V → (Nat → Nat → Int32) → Prop} {T : Nat} {m : Nat → Nat → Int32} (ob : Int32) (hV : zV m) (hpre0 : T + 1 ≤ 3000) (r_W : zW (m 94 7) (m 98) (m 101) (m 102) (m 108)) (r_GW : zGW T (m 94 55) (m 109)) (r_GU : zGU T (m 94 46) (m 99)) (r_OW : zOw (m 99) (m 103) (m 111)) (r_DX : zDX (m 94 10) (m 99) (m 112) (m 113) (m 114) (m 94 55) (m 98) (m 101) (m 102) (m 108)) (r_GG : zGG (m 94 58) (m 94 56) (m 94 57) (m 106)) (r_HA : zHA (m 94 10) (m 94 11) (m 94 13) (m 94 14) (m 94 16) (m 94 61) (m 94 59) (m 94 60) (m 99) (m 102) (m 103) (m 111) (m 117) (m 98) (m 101) (m 108)) (r_RGc : zRG (m 94 10) (m 94 18) (m 94 64) (m 94 63) (m 99) (m 103) (m 102) (m 116)) (hpre9 : (m 94 58).toInt = 0 ∨ (m 94 10).toInt = 5) (KZ : ∀ v m₉, zV (zov wr_254 m m₉) → (zW (m 94 7) (m 98) (m 101) (m 102) (m 108)) → (zGW (T + 1) (m 94 55) (m₉ 109)) → (zGU T (m 94 46) (m 99)) → (zOw (m 99) (m 103) (m 111)) → (zDX (m 94 10) (m 99) (m 112) (m 113) (m 114) (m 94 55) (m 98) (m 101) (m 102) (m 108)) → (zGG (m 94 58) (m 94 56) (m 94 57) (m 106)) → (zHA (m 94 10) (m 94 11) (m 94 13) (m 94 14) (m 94 16) (m 94 61) (m 94 59) (m 94 60) (m 99) (m 102) (m 103) (m 111) (m 117) (m 98) (m 101) (m 108)) → (zRG (m 94 10) (m 94 18) (m 94 64) (m 94 63) (m 99) (m 103) (m 102) (m 116)) → ((m 94 58).toInt = 0 ∨ (m 94 10).toInt = 5) → P (some (.inl v)) (zov wr_254 m m₉)) : zm X 5 109 254 0 [(0, .inr (.inr (some 94))), (1, .inl ob)] m P := by
  have K : ∀ v m₉, zF wr_254 m m₉ → zV m₉ → (zW (m₉ 94 7) (m₉ 98) (m₉ 101) (m₉ 102) (m₉ 108)) → (zGW (T + 1) (m₉ 94 55) (m₉ 109)) → (zGU T (m₉ 94 46) (m₉ 99)) → (zOw (m₉ 99) (m₉ 103) (m₉ 111)) → (zDX (m₉ 94 10) (m₉ 99) (m₉ 112) (m₉ 113) (m₉ 114) (m₉ 94 55) (m₉ 98) (m₉ 101) (m₉ 102) (m₉ 108)) → (zGG (m₉ 94 58) (m₉ 94 56) (m₉ 94 57) (m₉ 106)) → (zHA (m₉ 94 10) (m₉ 94 11) (m₉ 94 13) (m₉ 94 14) (m₉ 94 16) (m₉ 94 61) (m₉ 94 59) (m₉ 94 60) (m₉ 99) (m₉ 102) (m₉ 103) (m₉ 111) (m₉ 117) (m₉ 98) (m₉ 101) (m₉ 108)) → (zRG (m₉ 94 10) (m₉ 94 18) (m₉ 94 64) (m₉ 94 63) (m₉ 99) (m₉ 103) (m₉ 102) (m₉ 116)) → ((m₉ 94 58).toInt = 0 ∨ (m₉ 94 10).toInt = 5) → P (some (.inl v)) m₉ := by
    intro v m₉ hf z q0 q1 q2 q3 q4 q5 q6 q7 q8
    have e := zov_eq hf
    rw [e] at z ⊢
    try rw [e] at q0
    try rw [e] at q1
    try rw [e] at q2
    try rw [e] at q3
    try rw [e] at q4
    try rw [e] at q5
    try rw [e] at q6
    try rw [e] at q7
    try rw [e] at q8
    exact KZ v m₉ z q0 q1 q2 q3 q4 q5 q6 q7 q8
  refine g_254_0 ob ?_
  have f1 : 0 ≤ (m 94 58).toInt ∧ (m 94 58).toInt ≤ 1 := rs_94_58 (m := m) hV
  have f2 : 0 ≤ (m 94 10).toInt ∧ (m 94 10).toInt ≤ 6 := rs_94_10 (m := m) hV
  have f3 : 0 ≤ (m 94 8).toInt ∧ (m 94 8).toInt ≤ 1 := rs_94_8 (m := m) hV
  have li4 : (0 : Int32).toInt = 0 := rfl
  refine zd (fun (h5 : (m 94 8) = (0 : Int32)) => ?_) (fun (h5 : ¬ (m 94 8) = (0 : Int32)) => ?_)
  · skip
    have g6 := i_eq h5
    have hV7 : zV (ma_u m 94 0 (1 : Int32)) := uf_94_0 hV
    exact K ((0 : Int32)) _ (zF_u zF_rfl rfl) hV7 r_W (show zGW (T + 1) (m 94 55) (m 109) from by first | (exact GW_up r_GW (by omega)) | (exfalso; omega; done) | (exfalso; contradiction; done)) r_GU r_OW r_DX r_GG r_HA r_RGc (show (m 94 58).toInt = 0 ∨ (m 94 10).toInt = 5 from by omega)
  · skip
    have g8 := i_ne h5
    have b9 := i_bd ob
    have hV10 : zV (ma_u m 94 0 (0 : Int32)) := uf_94_0 hV
    refine sp_245 (ob) hV10 r_W r_DX (fun v2 m1 hV_m1 p0_m1 p1_m1 => zmi_n ?_)
    have p0_m1 : -1 ≤ v2.toInt ∧ v2.toInt ≤ 3099 := p0_m1
    have p1_m1 : v2.toInt < 0 ∨ (m 99) v2.toNatClampNeg ≠ 0 := p1_m1
    have b11 := i_bd v2
    refine zd (fun (h12 : (0 : Int32) ≤ v2) => ?_) (fun (h12 : ¬ (0 : Int32) ≤ v2) => ?_)
    · skip
      have g13 := i_le h12
      have hg14 : (0 ≤ v2 ∧ v2.toNatClampNeg < 3100) := i_ix (by omega) (by omega)
      refine ⟨hg14, ?_⟩
      first | have f15 : 0 ≤ (m 109 v2.toNatClampNeg).toInt ∧ (m 109 v2.toNatClampNeg).toInt ≤ 1 := ra_109 (m := m) hV (k := v2.toNatClampNeg) (i_ix (n := 3100) (by omega) (by omega)).2 | have b16 := i_bd (m 109 v2.toNatClampNeg)
      refine zd (fun (h17 : (m 109 v2.toNatClampNeg) = (0 : Int32)) => ?_) (fun (h17 : ¬ (m 109 v2.toNatClampNeg) = (0 : Int32)) => ?_)
      · skip
        have g18 := i_eq h17
        have hg19 : (0 ≤ v2 ∧ v2.toNatClampNeg < 3100) := i_ix (by omega) (by omega)
        refine ⟨hg19, ?_⟩
        have hV20 : zV (ma_u (zov wr_245 (ma_u m 94 0 (0 : Int32)) m1) 94 0 (0 : Int32)) := uf_94_0 hV_m1
        have li22 : (1 : Int32).toInt = 1 := rfl
        have hV21 : zV (ma_u (ma_u (zov wr_245 (ma_u m 94 0 (0 : Int32)) m1) 94 0 (0 : Int32)) 109 v2.toNatClampNeg (1 : Int32)) := ua_109 hV20 (by omega) (by omega)
        exact K ((1 : Int32)) _ (zF_u (zF_u (zF_zov (zF_u zF_rfl rfl) ws_245_254) rfl) rfl) hV21 r_W (show zGW (T + 1) (m 94 55) ((ma_u m 109 v2.toNatClampNeg (1 : Int32)) 109) from by first | (exact GW_more r_GW (by omega)) | (exfalso; omega; done) | (exfalso; contradiction; done)) r_GU r_OW r_DX r_GG r_HA r_RGc (show (m 94 58).toInt = 0 ∨ (m 94 10).toInt = 5 from by omega)
      · skip
        have g23 := i_ne h17
        have hg24 : (0 ≤ v2 ∧ v2.toNatClampNeg < 3100) := i_ix (by omega) (by omega)
        refine ⟨hg24, ?_⟩
        have hV25 : zV (ma_u (zov wr_245 (ma_u m 94 0 (0 : Int32)) m1) 94 0 (0 : Int32)) := uf_94_0 hV_m1
        have li27 : (1 : Int32).toInt = 1 := rfl
        have hV26 : zV (ma_u (ma_u (zov wr_245 (ma_u m 94 0 (0 : Int32)) m1) 94 0 (0 : Int32)) 109 v2.toNatClampNeg (1 : Int32)) := ua_109 hV25 (by omega) (by omega)
        exact K ((0 : Int32)) _ (zF_u (zF_u (zF_zov (zF_u zF_rfl rfl) ws_245_254) rfl) rfl) hV26 r_W (show zGW (T + 1) (m 94 55) ((ma_u m 109 v2.toNatClampNeg (1 : Int32)) 109) from by first | (exact GW_more r_GW (by omega)) | (exfalso; omega; done) | (exfalso; contradiction; done)) r_GU r_OW r_DX r_GG r_HA r_RGc (show (m 94 58).toInt = 0 ∨ (m 94 10).toInt = 5 from by omega)
    · skip
      have g28 := i_nle h12
      have hV29 : zV (ma_u (zov wr_245 (ma_u m 94 0 (0 : Int32)) m1) 94 0 (2 : Int32)) := uf_94_0 hV_m1
      exact K ((0 : Int32)) _ (zF_u (zF_zov (zF_u zF_rfl rfl) ws_245_254) rfl) hV29 r_W (show zGW (T + 1) (m 94 55) (m 109) from by first | (exact GW_up r_GW (by omega)) | (exfalso; omega; done) | (exfalso; contradiction; done)) r_GU r_OW r_DX r_GG r_HA r_RGc (show (m 94 58).toInt = 0 ∨ (m 94 10).toInt = 5 from by omega)

/-! from 94.455 -/
/-! the reference (written by wip/tools/gen94m.py) -/
set_option maxRecDepth 100000 in
theorem hm_252 : ma_md 252 = some (12, yX12_strong, cX12_strong, 4, (some (FieldType.int))) := rfl
theorem dX12_strong_0 : decode cX12_strong 0 = .ok (.aload_n 0, 1) := by decide +kernel
theorem dX12_strong_1 : decode cX12_strong 1 = .ok (.aload_n 0, 1) := by decide +kernel
theorem dX12_strong_2 : decode cX12_strong 2 = .ok (.iload_n 1, 1) := by decide +kernel
theorem dX12_strong_3 : decode cX12_strong 3 = .ok (.invokevirtual 493, 3) := by decide +kernel
theorem dX12_strong_6 : decode cX12_strong 6 = .ok (.ifCond .eq 11, 3) := by decide +kernel
theorem dX12_strong_17 : decode cX12_strong 17 = .ok (.iconst 1, 1) := by decide +kernel
theorem dX12_strong_18 : decode cX12_strong 18 = .ok (.goto 15, 3) := by decide +kernel
theorem dX12_strong_33 : decode cX12_strong 33 = .ok (.invokevirtual 110, 3) := by decide +kernel
theorem dX12_strong_36 : decode cX12_strong 36 = .ok (.ifCond .eq 5, 3) := by decide +kernel
theorem dX12_strong_39 : decode cX12_strong 39 = .ok (.iconst 0, 1) := by decide +kernel
theorem dX12_strong_40 : decode cX12_strong 40 = .ok (.ireturn, 1) := by decide +kernel
theorem dX12_strong_9 : decode cX12_strong 9 = .ok (.aload_n 0, 1) := by decide +kernel
theorem dX12_strong_10 : decode cX12_strong 10 = .ok (.iload_n 2, 1) := by decide +kernel
theorem dX12_strong_11 : decode cX12_strong 11 = .ok (.invokevirtual 493, 3) := by decide +kernel
theorem dX12_strong_14 : decode cX12_strong 14 = .ok (.ifCond .ne 7, 3) := by decide +kernel
theorem dX12_strong_21 : decode cX12_strong 21 = .ok (.aload_n 0, 1) := by decide +kernel
theorem dX12_strong_32 : decode cX12_strong 32 = .ok (.iconst 0, 1) := by decide +kernel
theorem dX12_strong_41 : decode cX12_strong 41 = .ok (.aload_n 0, 1) := by decide +kernel
theorem dX12_strong_45 : decode cX12_strong 45 = .ok (.iload_n 1, 1) := by decide +kernel
theorem dX12_strong_47 : decode cX12_strong 47 = .ok (.istore_n 3, 1) := by decide +kernel
theorem dX12_strong_48 : decode cX12_strong 48 = .ok (.iload_n 3, 1) := by decide +kernel
theorem dX12_strong_54 : decode cX12_strong 54 = .ok (.aload_n 0, 1) := by decide +kernel
theorem dX12_strong_66 : decode cX12_strong 66 = .ok (.aload_n 0, 1) := by decide +kernel
theorem dX12_strong_67 : decode cX12_strong 67 = .ok (.iload_n 2, 1) := by decide +kernel
theorem dX12_strong_68 : decode cX12_strong 68 = .ok (.iload_n 3, 1) := by decide +kernel
theorem dX12_strong_69 : decode cX12_strong 69 = .ok (.invokevirtual 481, 3) := by decide +kernel
theorem dX12_strong_72 : decode cX12_strong 72 = .ok (.aload_n 0, 1) := by decide +kernel
theorem dX12_strong_76 : decode cX12_strong 76 = .ok (.iload_n 3, 1) := by decide +kernel
theorem dX12_strong_78 : decode cX12_strong 78 = .ok (.ireturn, 1) := by decide +kernel
theorem dX12_strong_77 : decode cX12_strong 77 = .ok (.iaload, 1) := by decide +kernel
theorem dX12_strong_73 : decode cX12_strong 73 = .ok (.getfield 31, 3) := by decide +kernel
theorem dX12_strong_61 : decode cX12_strong 61 = .ok (.aload_n 0, 1) := by decide +kernel
theorem dX12_strong_62 : decode cX12_strong 62 = .ok (.iload_n 3, 1) := by decide +kernel
theorem dX12_strong_63 : decode cX12_strong 63 = .ok (.invokevirtual 396, 3) := by decide +kernel
theorem dX12_strong_58 : decode cX12_strong 58 = .ok (.ifCond .eq 8, 3) := by decide +kernel
theorem dX12_strong_55 : decode cX12_strong 55 = .ok (.getfield 270, 3) := by decide +kernel
theorem dX12_strong_52 : decode cX12_strong 52 = .ok (.iconst (-1), 1) := by decide +kernel
theorem dX12_strong_53 : decode cX12_strong 53 = .ok (.ireturn, 1) := by decide +kernel
theorem dX12_strong_49 : decode cX12_strong 49 = .ok (.ifCond .ge 5, 3) := by decide +kernel
theorem dX12_strong_46 : decode cX12_strong 46 = .ok (.iaload, 1) := by decide +kernel
theorem dX12_strong_42 : decode cX12_strong 42 = .ok (.getfield 71, 3) := by decide +kernel
theorem dX12_strong_28 : decode cX12_strong 28 = .ok (.iconst 2, 1) := by decide +kernel
theorem dX12_strong_29 : decode cX12_strong 29 = .ok (.goto 4, 3) := by decide +kernel
theorem dX12_strong_25 : decode cX12_strong 25 = .ok (.ifCond .ne 7, 3) := by decide +kernel
theorem dX12_strong_22 : decode cX12_strong 22 = .ok (.getfield 237, 3) := by decide +kernel
def wr_252 (c k : Nat) : Bool := Nat.beq c 99 || Nat.beq c 105 || Nat.beq c 106 || Nat.beq c 109 || Nat.beq c 111 || Nat.beq c 112 || Nat.beq c 113 || Nat.beq c 114 || Nat.beq c 115 || Nat.beq c 120 || Nat.beq c 121 || (Nat.beq c 94 && (Nat.beq k 0 || Nat.beq k 44 || Nat.beq k 45 || Nat.beq k 49 || Nat.beq k 55 || Nat.beq k 56 || Nat.beq k 80))
theorem ws_238_252 : ∀ c k, wr_238 c k = true → wr_252 c k = true := by
  intro c k h
  simp only [wr_238, Bool.or_eq_true, Bool.and_eq_true, Nat.beq_eq] at h
  rcases h with ((((((((((rfl | rfl) | rfl) | rfl) | rfl) | rfl) | rfl) | rfl) | rfl) | rfl) | rfl) | ⟨rfl, (((((rfl | rfl) | rfl) | rfl) | rfl) | rfl)⟩ <;> rfl
theorem g_252_0 {X : Nat × (Nat → Int32)} {m : Nat → Nat → Int32} {P : Option ma_V → (Nat → Nat → Int32) → Prop} (ix : Int32) (r1 : Int32) (h : if ix < 0 then (P (some (.inl (0 : Int32))) (ma_u m 94 0 (1 : Int32))) else (if (16 : Int32) ≤ ix then (P (some (.inl (0 : Int32))) (ma_u m 94 0 (1 : Int32))) else (if r1 < 0 then (P (some (.inl (0 : Int32))) (ma_u m 94 0 (1 : Int32))) else (if (16 : Int32) ≤ r1 then (P (some (.inl (0 : Int32))) (ma_u m 94 0 (1 : Int32))) else (if (m 94 8) = 0 then (P (some (.inl (0 : Int32))) (ma_u m 94 0 (2 : Int32))) else ((0 ≤ ix ∧ ix.toNatClampNeg < 16) ∧ (if 0 ≤ (m 113 ix.toNatClampNeg) then (if (m 94 58) = 0 then (zm X 4 88 238 0 [(0, .inr (.inr (some 94))), (1, .inl r1), (2, .inl (m 113 ix.toNatClampNeg))] (ma_u m 94 0 (0 : Int32)) (zmv (fun m1 => (0 ≤ (m 113 ix.toNatClampNeg) ∧ (m 113 ix.toNatClampNeg).toNatClampNeg < 3100) ∧ (P (some (.inl (m1 100 (m 113 ix.toNatClampNeg).toNatClampNeg))) m1)))) else (if (m 113 ix.toNatClampNeg) < 0 then (zm X 4 88 238 0 [(0, .inr (.inr (some 94))), (1, .inl r1), (2, .inl (m 113 ix.toNatClampNeg))] (ma_u m 94 0 (0 : Int32)) (zmv (fun m3 => (0 ≤ (m 113 ix.toNatClampNeg) ∧ (m 113 ix.toNatClampNeg).toNatClampNeg < 3100) ∧ (P (some (.inl (m3 100 (m 113 ix.toNatClampNeg).toNatClampNeg))) m3)))) else ((0 ≤ (m 113 ix.toNatClampNeg) ∧ (m 113 ix.toNatClampNeg).toNatClampNeg < 3100) ∧ (if (m 106 (m 113 ix.toNatClampNeg).toNatClampNeg) = 0 then ((0 ≤ (m 113 ix.toNatClampNeg) ∧ (m 113 ix.toNatClampNeg).toNatClampNeg < 3100) ∧ ((0 ≤ (m 94 56) ∧ (m 94 56).toNatClampNeg < 3100) ∧ (zm X 4 88 238 0 [(0, .inr (.inr (some 94))), (1, .inl r1), (2, .inl (m 113 ix.toNatClampNeg))] (ma_u (ma_u (ma_u (ma_u m 94 0 (0 : Int32)) 106 (m 113 ix.toNatClampNeg).toNatClampNeg (1 : Int32)) 115 (m 94 56).toNatClampNeg (m 113 ix.toNatClampNeg)) 94 56 ((m 94 56) + (1 : Int32))) (zmv (fun m5 => (0 ≤ (m 113 ix.toNatClampNeg) ∧ (m 113 ix.toNatClampNeg).toNatClampNeg < 3100) ∧ (P (some (.inl (m5 100 (m 113 ix.toNatClampNeg).toNatClampNeg))) m5)))))) else (zm X 4 88 238 0 [(0, .inr (.inr (some 94))), (1, .inl r1), (2, .inl (m 113 ix.toNatClampNeg))] (ma_u m 94 0 (0 : Int32)) (zmv (fun m7 => (0 ≤ (m 113 ix.toNatClampNeg) ∧ (m 113 ix.toNatClampNeg).toNatClampNeg < 3100) ∧ (P (some (.inl (m7 100 (m 113 ix.toNatClampNeg).toNatClampNeg))) m7)))))))) else (P (some (.inl (-1 : Int32))) (ma_u m 94 0 (0 : Int32)))))))))) : zm X 5 111 252 0 [(0, .inr (.inr (some 94))), (1, .inl ix), (2, .inl r1)] m P := by
  intro d w S Q hd hw hS hm HQ
  subst hm
  refine zw_push hm_252 dX12_strong_0 (v := .inr (.inr (some 94))) rfl ?_
  refine zw_push hm_252 dX12_strong_1 (v := .inr (.inr (some 94))) rfl ?_
  refine zw_push hm_252 dX12_strong_2 (v := .inl ix) rfl ?_
  refine zw_cv hm_252 dX12_strong_3 v_12_493_12 hm_182 [.inl ix] [.inr (.inr (some 94))] rfl (zT_rt hS s_94 rfl) ⟨by omega, by omega⟩ rfl ?_
  show ma_wp X (d - 1) (w - 21) 182 0 [(0, .inr (.inr (some 94))), (1, .inl ix)] [] S _
  refine zw_push hm_182 dX12_isNamed_0 (v := .inl ix) rfl ?_
  refine zw_if0 hm_182 dX12_isNamed_1 (t := 14) rfl zc0_lt ?_ ?_
  · intro hc
    rw [if_pos hc] at h
    refine zw_push hm_182 dX12_isNamed_14 (v := .inl (0 : Int32)) rfl ?_
    refine zw_bret hm_182 dX12_isNamed_15 (by decide) ?_
    show ma_wp X d w 252 6 [(0, .inr (.inr (some 94))), (1, .inl ix), (2, .inl r1)] [.inl (0 : Int32), .inr (.inr (some 94))] S _
    refine zw_if0 hm_252 dX12_strong_6 (t := 17) rfl zc0_eq (fun _ => ?_) (fun hc => absurd (by decide) hc)
    refine zw_push hm_252 dX12_strong_17 (v := .inl (1 : Int32)) rfl ?_
    refine zw_goto hm_252 dX12_strong_18 (t := 33) rfl ?_
    refine zw_cv hm_252 dX12_strong_33 v_12_110_12 hm_167 [.inl (1 : Int32)] [] rfl (zT_rt hS s_94 rfl) ⟨by omega, by omega⟩ rfl ?_
    show ma_wp X (d - 1) (w - 21) 167 0 [(0, .inr (.inr (some 94))), (1, .inl (1 : Int32))] [] S _
    refine zw_push hm_167 dX12_fails_0 (v := .inr (.inr (some 94))) rfl ?_
    refine zw_push hm_167 dX12_fails_1 (v := .inl (1 : Int32)) rfl ?_
    refine zw_pf hm_167 dX12_fails_2 (zT_is hS s_94) (zT_t hS s_94) p_12_1_12 zk_int ?_
    refine zw_push hm_167 dX12_fails_5 (v := .inl (1 : Int32)) rfl ?_
    refine zw_if0 hm_167 dX12_fails_6 (t := 13) rfl zc0_eq (fun hc => absurd hc (by decide)) (fun _ => ?_)
    refine zw_push hm_167 dX12_fails_9 (v := .inl (1 : Int32)) rfl ?_
    refine zw_goto hm_167 dX12_fails_10 (t := 14) rfl ?_
    refine zw_bret hm_167 dX12_fails_14 (by decide) ?_
    show ma_wp X d w 252 36 [(0, .inr (.inr (some 94))), (1, .inl ix), (2, .inl r1)] [.inl (1 : Int32)] (ma_put S 94 0 (.inl (1 : Int32))) _
    refine zw_if0 hm_252 dX12_strong_36 (t := 41) rfl zc0_eq (fun hc => absurd hc (by decide)) (fun _ => ?_)
    refine zw_push hm_252 dX12_strong_39 (v := .inl (0 : Int32)) rfl ?_
    exact zw_iret hm_252 dX12_strong_40 (HQ _ _ h)
  · intro hc
    rw [if_neg hc] at h
    refine zw_push hm_182 dX12_isNamed_4 (v := .inl ix) rfl ?_
    refine zw_push hm_182 dX12_isNamed_5 (v := .inl (16 : Int32)) rfl ?_
    refine zw_if2 hm_182 dX12_isNamed_7 (t := 14) rfl zc2_ge ?_ ?_
    · intro hc
      rw [if_pos hc] at h
      refine zw_push hm_182 dX12_isNamed_14 (v := .inl (0 : Int32)) rfl ?_
      refine zw_bret hm_182 dX12_isNamed_15 (by decide) ?_
      show ma_wp X d w 252 6 [(0, .inr (.inr (some 94))), (1, .inl ix), (2, .inl r1)] [.inl (0 : Int32), .inr (.inr (some 94))] S _
      refine zw_if0 hm_252 dX12_strong_6 (t := 17) rfl zc0_eq (fun _ => ?_) (fun hc => absurd (by decide) hc)
      refine zw_push hm_252 dX12_strong_17 (v := .inl (1 : Int32)) rfl ?_
      refine zw_goto hm_252 dX12_strong_18 (t := 33) rfl ?_
      refine zw_cv hm_252 dX12_strong_33 v_12_110_12 hm_167 [.inl (1 : Int32)] [] rfl (zT_rt hS s_94 rfl) ⟨by omega, by omega⟩ rfl ?_
      show ma_wp X (d - 1) (w - 21) 167 0 [(0, .inr (.inr (some 94))), (1, .inl (1 : Int32))] [] S _
      refine zw_push hm_167 dX12_fails_0 (v := .inr (.inr (some 94))) rfl ?_
      refine zw_push hm_167 dX12_fails_1 (v := .inl (1 : Int32)) rfl ?_
      refine zw_pf hm_167 dX12_fails_2 (zT_is hS s_94) (zT_t hS s_94) p_12_1_12 zk_int ?_
      refine zw_push hm_167 dX12_fails_5 (v := .inl (1 : Int32)) rfl ?_
      refine zw_if0 hm_167 dX12_fails_6 (t := 13) rfl zc0_eq (fun hc => absurd hc (by decide)) (fun _ => ?_)
      refine zw_push hm_167 dX12_fails_9 (v := .inl (1 : Int32)) rfl ?_
      refine zw_goto hm_167 dX12_fails_10 (t := 14) rfl ?_
      refine zw_bret hm_167 dX12_fails_14 (by decide) ?_
      show ma_wp X d w 252 36 [(0, .inr (.inr (some 94))), (1, .inl ix), (2, .inl r1)] [.inl (1 : Int32)] (ma_put S 94 0 (.inl (1 : Int32))) _
      refine zw_if0 hm_252 dX12_strong_36 (t := 41) rfl zc0_eq (fun hc => absurd hc (by decide)) (fun _ => ?_)
      refine zw_push hm_252 dX12_strong_39 (v := .inl (0 : Int32)) rfl ?_
      exact zw_iret hm_252 dX12_strong_40 (HQ _ _ h)
    · intro hc
      rw [if_neg hc] at h
      refine zw_push hm_182 dX12_isNamed_10 (v := .inl (1 : Int32)) rfl ?_
      refine zw_goto hm_182 dX12_isNamed_11 (t := 15) rfl ?_
      refine zw_bret hm_182 dX12_isNamed_15 (by decide) ?_
      show ma_wp X d w 252 6 [(0, .inr (.inr (some 94))), (1, .inl ix), (2, .inl r1)] [.inl (1 : Int32), .inr (.inr (some 94))] S _
      refine zw_if0 hm_252 dX12_strong_6 (t := 17) rfl zc0_eq (fun hc => absurd hc (by decide)) (fun _ => ?_)
      refine zw_push hm_252 dX12_strong_9 (v := .inr (.inr (some 94))) rfl ?_
      refine zw_push hm_252 dX12_strong_10 (v := .inl r1) rfl ?_
      refine zw_cv hm_252 dX12_strong_11 v_12_493_12 hm_182 [.inl r1] [.inr (.inr (some 94))] rfl (zT_rt hS s_94 rfl) ⟨by omega, by omega⟩ rfl ?_
      show ma_wp X (d - 1) (w - 21) 182 0 [(0, .inr (.inr (some 94))), (1, .inl r1)] [] S _
      refine zw_push hm_182 dX12_isNamed_0 (v := .inl r1) rfl ?_
      refine zw_if0 hm_182 dX12_isNamed_1 (t := 14) rfl zc0_lt ?_ ?_
      · intro hc
        rw [if_pos hc] at h
        refine zw_push hm_182 dX12_isNamed_14 (v := .inl (0 : Int32)) rfl ?_
        refine zw_bret hm_182 dX12_isNamed_15 (by decide) ?_
        show ma_wp X d w 252 14 [(0, .inr (.inr (some 94))), (1, .inl ix), (2, .inl r1)] [.inl (0 : Int32), .inr (.inr (some 94))] S _
        refine zw_if0 hm_252 dX12_strong_14 (t := 21) rfl zc0_ne (fun hc => absurd hc (by decide)) (fun _ => ?_)
        refine zw_push hm_252 dX12_strong_17 (v := .inl (1 : Int32)) rfl ?_
        refine zw_goto hm_252 dX12_strong_18 (t := 33) rfl ?_
        refine zw_cv hm_252 dX12_strong_33 v_12_110_12 hm_167 [.inl (1 : Int32)] [] rfl (zT_rt hS s_94 rfl) ⟨by omega, by omega⟩ rfl ?_
        show ma_wp X (d - 1) (w - 21) 167 0 [(0, .inr (.inr (some 94))), (1, .inl (1 : Int32))] [] S _
        refine zw_push hm_167 dX12_fails_0 (v := .inr (.inr (some 94))) rfl ?_
        refine zw_push hm_167 dX12_fails_1 (v := .inl (1 : Int32)) rfl ?_
        refine zw_pf hm_167 dX12_fails_2 (zT_is hS s_94) (zT_t hS s_94) p_12_1_12 zk_int ?_
        refine zw_push hm_167 dX12_fails_5 (v := .inl (1 : Int32)) rfl ?_
        refine zw_if0 hm_167 dX12_fails_6 (t := 13) rfl zc0_eq (fun hc => absurd hc (by decide)) (fun _ => ?_)
        refine zw_push hm_167 dX12_fails_9 (v := .inl (1 : Int32)) rfl ?_
        refine zw_goto hm_167 dX12_fails_10 (t := 14) rfl ?_
        refine zw_bret hm_167 dX12_fails_14 (by decide) ?_
        show ma_wp X d w 252 36 [(0, .inr (.inr (some 94))), (1, .inl ix), (2, .inl r1)] [.inl (1 : Int32)] (ma_put S 94 0 (.inl (1 : Int32))) _
        refine zw_if0 hm_252 dX12_strong_36 (t := 41) rfl zc0_eq (fun hc => absurd hc (by decide)) (fun _ => ?_)
        refine zw_push hm_252 dX12_strong_39 (v := .inl (0 : Int32)) rfl ?_
        exact zw_iret hm_252 dX12_strong_40 (HQ _ _ h)
      · intro hc
        rw [if_neg hc] at h
        refine zw_push hm_182 dX12_isNamed_4 (v := .inl r1) rfl ?_
        refine zw_push hm_182 dX12_isNamed_5 (v := .inl (16 : Int32)) rfl ?_
        refine zw_if2 hm_182 dX12_isNamed_7 (t := 14) rfl zc2_ge ?_ ?_
        · intro hc
          rw [if_pos hc] at h
          refine zw_push hm_182 dX12_isNamed_14 (v := .inl (0 : Int32)) rfl ?_
          refine zw_bret hm_182 dX12_isNamed_15 (by decide) ?_
          show ma_wp X d w 252 14 [(0, .inr (.inr (some 94))), (1, .inl ix), (2, .inl r1)] [.inl (0 : Int32), .inr (.inr (some 94))] S _
          refine zw_if0 hm_252 dX12_strong_14 (t := 21) rfl zc0_ne (fun hc => absurd hc (by decide)) (fun _ => ?_)
          refine zw_push hm_252 dX12_strong_17 (v := .inl (1 : Int32)) rfl ?_
          refine zw_goto hm_252 dX12_strong_18 (t := 33) rfl ?_
          refine zw_cv hm_252 dX12_strong_33 v_12_110_12 hm_167 [.inl (1 : Int32)] [] rfl (zT_rt hS s_94 rfl) ⟨by omega, by omega⟩ rfl ?_
          show ma_wp X (d - 1) (w - 21) 167 0 [(0, .inr (.inr (some 94))), (1, .inl (1 : Int32))] [] S _
          refine zw_push hm_167 dX12_fails_0 (v := .inr (.inr (some 94))) rfl ?_
          refine zw_push hm_167 dX12_fails_1 (v := .inl (1 : Int32)) rfl ?_
          refine zw_pf hm_167 dX12_fails_2 (zT_is hS s_94) (zT_t hS s_94) p_12_1_12 zk_int ?_
          refine zw_push hm_167 dX12_fails_5 (v := .inl (1 : Int32)) rfl ?_
          refine zw_if0 hm_167 dX12_fails_6 (t := 13) rfl zc0_eq (fun hc => absurd hc (by decide)) (fun _ => ?_)
          refine zw_push hm_167 dX12_fails_9 (v := .inl (1 : Int32)) rfl ?_
          refine zw_goto hm_167 dX12_fails_10 (t := 14) rfl ?_
          refine zw_bret hm_167 dX12_fails_14 (by decide) ?_
          show ma_wp X d w 252 36 [(0, .inr (.inr (some 94))), (1, .inl ix), (2, .inl r1)] [.inl (1 : Int32)] (ma_put S 94 0 (.inl (1 : Int32))) _
          refine zw_if0 hm_252 dX12_strong_36 (t := 41) rfl zc0_eq (fun hc => absurd hc (by decide)) (fun _ => ?_)
          refine zw_push hm_252 dX12_strong_39 (v := .inl (0 : Int32)) rfl ?_
          exact zw_iret hm_252 dX12_strong_40 (HQ _ _ h)
        · intro hc
          rw [if_neg hc] at h
          refine zw_push hm_182 dX12_isNamed_10 (v := .inl (1 : Int32)) rfl ?_
          refine zw_goto hm_182 dX12_isNamed_11 (t := 15) rfl ?_
          refine zw_bret hm_182 dX12_isNamed_15 (by decide) ?_
          show ma_wp X d w 252 14 [(0, .inr (.inr (some 94))), (1, .inl ix), (2, .inl r1)] [.inl (1 : Int32), .inr (.inr (some 94))] S _
          refine zw_if0 hm_252 dX12_strong_14 (t := 21) rfl zc0_ne (fun _ => ?_) (fun hc => absurd (by decide) hc)
          refine zw_push hm_252 dX12_strong_21 (v := .inr (.inr (some 94))) rfl ?_
          refine zw_gf hm_252 dX12_strong_22 (v := .inl ((mI S) 94 8)) (zT_is hS s_94) (zT_t hS s_94) rfl f_12_237_12 rfl ?_
          refine zw_if0 hm_252 dX12_strong_25 (t := 32) rfl zc0_ne ?_ ?_
          · intro hc
            rw [if_neg hc] at h
            refine zw_push hm_252 dX12_strong_32 (v := .inl (0 : Int32)) rfl ?_
            refine zw_cv hm_252 dX12_strong_33 v_12_110_12 hm_167 [.inl (0 : Int32)] [] rfl (zT_rt hS s_94 rfl) ⟨by omega, by omega⟩ rfl ?_
            show ma_wp X (d - 1) (w - 21) 167 0 [(0, .inr (.inr (some 94))), (1, .inl (0 : Int32))] [] S _
            refine zw_push hm_167 dX12_fails_0 (v := .inr (.inr (some 94))) rfl ?_
            refine zw_push hm_167 dX12_fails_1 (v := .inl (0 : Int32)) rfl ?_
            refine zw_pf hm_167 dX12_fails_2 (zT_is hS s_94) (zT_t hS s_94) p_12_1_12 zk_int ?_
            refine zw_push hm_167 dX12_fails_5 (v := .inl (0 : Int32)) rfl ?_
            refine zw_if0 hm_167 dX12_fails_6 (t := 13) rfl zc0_eq (fun _ => ?_) (fun hc => absurd (by decide) hc)
            refine zw_push hm_167 dX12_fails_13 (v := .inl (0 : Int32)) rfl ?_
            refine zw_bret hm_167 dX12_fails_14 (by decide) ?_
            show ma_wp X d w 252 36 [(0, .inr (.inr (some 94))), (1, .inl ix), (2, .inl r1)] [.inl (0 : Int32)] (ma_put S 94 0 (.inl (0 : Int32))) _
            refine zw_if0 hm_252 dX12_strong_36 (t := 41) rfl zc0_eq (fun _ => ?_) (fun hc => absurd (by decide) hc)
            refine zw_push hm_252 dX12_strong_41 (v := .inr (.inr (some 94))) rfl ?_
            refine zw_gf hm_252 dX12_strong_42 (v := .inr (.inr (some 113))) (zT_is (zT_pi hS) s_94) (zT_t (zT_pi hS) s_94) rfl f_12_71_12 (zT_f (zT_pi hS) r_94_52) ?_
            refine zw_push hm_252 dX12_strong_45 (v := .inl ix) rfl ?_
            obtain ⟨hg, h⟩ := h
            refine zw_ia hm_252 dX12_strong_46 (zT_is (zT_pi hS) s_113) (zT_h (zT_pi hS) s_113) rfl hg ?_
            show ma_wp X d w 252 47 [(0, .inr (.inr (some 94))), (1, .inl ix), (2, .inl r1)] [.inl ((mI S) 113 ix.toNatClampNeg)] (ma_put S 94 0 (.inl (0 : Int32))) _
            refine zw_sto hm_252 dX12_strong_47 [(3, .inl ((mI S) 113 ix.toNatClampNeg)), (0, .inr (.inr (some 94))), (1, .inl ix), (2, .inl r1)] rfl rfl rfl ?_
            refine zw_push hm_252 dX12_strong_48 (v := .inl ((mI S) 113 ix.toNatClampNeg)) rfl ?_
            refine zw_if0 hm_252 dX12_strong_49 (t := 54) rfl zc0_ge ?_ ?_
            · intro hc
              rw [if_pos hc] at h
              refine zw_push hm_252 dX12_strong_54 (v := .inr (.inr (some 94))) rfl ?_
              refine zw_gf hm_252 dX12_strong_55 (v := .inl ((mI S) 94 58)) (zT_is (zT_pi hS) s_94) (zT_t (zT_pi hS) s_94) rfl f_12_270_12 rfl ?_
              refine zw_if0 hm_252 dX12_strong_58 (t := 66) rfl zc0_eq ?_ ?_
              · intro hc
                rw [if_pos hc] at h
                refine zw_push hm_252 dX12_strong_66 (v := .inr (.inr (some 94))) rfl ?_
                refine zw_push hm_252 dX12_strong_67 (v := .inl r1) rfl ?_
                refine zw_push hm_252 dX12_strong_68 (v := .inl ((mI S) 113 ix.toNatClampNeg)) rfl ?_
                refine zw_cv hm_252 dX12_strong_69 v_12_481_12 hm_238 [.inl ((mI S) 113 ix.toNatClampNeg), .inl r1] [] rfl (zT_rt (zT_pi hS) s_94 rfl) ⟨by omega, by omega⟩ rfl (h _ _ (ma_put S 94 0 (.inl (0 : Int32))) _ (by omega) (by omega) (zT_pi hS) rfl (fun o9 m1 hv => ?_))
                obtain ⟨rfl, h⟩ := zmv_of hv
                show ma_wp X d w 252 72 [(3, .inl ((mI S) 113 ix.toNatClampNeg)), (0, .inr (.inr (some 94))), (1, .inl ix), (2, .inl r1)] [] (zst S m1) _
                refine zw_push hm_252 dX12_strong_72 (v := .inr (.inr (some 94))) rfl ?_
                refine zw_gf hm_252 dX12_strong_73 (v := .inr (.inr (some 100))) (zT_is (zT_zst hS m1) s_94) (zT_t (zT_zst hS m1) s_94) rfl f_12_31_12 (zT_f (zT_zst hS m1) r_94_32) ?_
                refine zw_push hm_252 dX12_strong_76 (v := .inl ((mI S) 113 ix.toNatClampNeg)) rfl ?_
                obtain ⟨hg, h⟩ := h
                refine zw_ia hm_252 dX12_strong_77 (zT_is (zT_zst hS m1) s_100) (zT_h (zT_zst hS m1) s_100) rfl hg ?_
                show ma_wp X d w 252 78 [(3, .inl ((mI S) 113 ix.toNatClampNeg)), (0, .inr (.inr (some 94))), (1, .inl ix), (2, .inl r1)] [.inl (m1 100 ((mI S) 113 ix.toNatClampNeg).toNatClampNeg)] (zst S m1) _
                exact zw_iret hm_252 dX12_strong_78 (HQ _ _ h)
              · intro hc
                rw [if_neg hc] at h
                refine zw_push hm_252 dX12_strong_61 (v := .inr (.inr (some 94))) rfl ?_
                refine zw_push hm_252 dX12_strong_62 (v := .inl ((mI S) 113 ix.toNatClampNeg)) rfl ?_
                refine zw_cv hm_252 dX12_strong_63 v_12_396_12 hm_221 [.inl ((mI S) 113 ix.toNatClampNeg)] [] rfl (zT_rt (zT_pi hS) s_94 rfl) ⟨by omega, by omega⟩ rfl ?_
                show ma_wp X (d - 1) (w - 21) 221 0 [(0, .inr (.inr (some 94))), (1, .inl ((mI S) 113 ix.toNatClampNeg))] [] (ma_put S 94 0 (.inl (0 : Int32))) _
                refine zw_push hm_221 dX12_toGrey_0 (v := .inl ((mI S) 113 ix.toNatClampNeg)) rfl ?_
                refine zw_if0 hm_221 dX12_toGrey_1 (t := 13) rfl zc0_lt ?_ ?_
                · intro hc
                  rw [if_pos hc] at h
                  refine zw_vret hm_221 dX12_toGrey_13 ?_
                  show ma_wp X d w 252 66 [(3, .inl ((mI S) 113 ix.toNatClampNeg)), (0, .inr (.inr (some 94))), (1, .inl ix), (2, .inl r1)] [] (ma_put S 94 0 (.inl (0 : Int32))) _
                  refine zw_push hm_252 dX12_strong_66 (v := .inr (.inr (some 94))) rfl ?_
                  refine zw_push hm_252 dX12_strong_67 (v := .inl r1) rfl ?_
                  refine zw_push hm_252 dX12_strong_68 (v := .inl ((mI S) 113 ix.toNatClampNeg)) rfl ?_
                  refine zw_cv hm_252 dX12_strong_69 v_12_481_12 hm_238 [.inl ((mI S) 113 ix.toNatClampNeg), .inl r1] [] rfl (zT_rt (zT_pi hS) s_94 rfl) ⟨by omega, by omega⟩ rfl (h _ _ (ma_put S 94 0 (.inl (0 : Int32))) _ (by omega) (by omega) (zT_pi hS) rfl (fun o9 m3 hv => ?_))
                  obtain ⟨rfl, h⟩ := zmv_of hv
                  show ma_wp X d w 252 72 [(3, .inl ((mI S) 113 ix.toNatClampNeg)), (0, .inr (.inr (some 94))), (1, .inl ix), (2, .inl r1)] [] (zst S m3) _
                  refine zw_push hm_252 dX12_strong_72 (v := .inr (.inr (some 94))) rfl ?_
                  refine zw_gf hm_252 dX12_strong_73 (v := .inr (.inr (some 100))) (zT_is (zT_zst hS m3) s_94) (zT_t (zT_zst hS m3) s_94) rfl f_12_31_12 (zT_f (zT_zst hS m3) r_94_32) ?_
                  refine zw_push hm_252 dX12_strong_76 (v := .inl ((mI S) 113 ix.toNatClampNeg)) rfl ?_
                  obtain ⟨hg, h⟩ := h
                  refine zw_ia hm_252 dX12_strong_77 (zT_is (zT_zst hS m3) s_100) (zT_h (zT_zst hS m3) s_100) rfl hg ?_
                  show ma_wp X d w 252 78 [(3, .inl ((mI S) 113 ix.toNatClampNeg)), (0, .inr (.inr (some 94))), (1, .inl ix), (2, .inl r1)] [.inl (m3 100 ((mI S) 113 ix.toNatClampNeg).toNatClampNeg)] (zst S m3) _
                  exact zw_iret hm_252 dX12_strong_78 (HQ _ _ h)
                · intro hc
                  rw [if_neg hc] at h
                  refine zw_push hm_221 dX12_toGrey_4 (v := .inr (.inr (some 94))) rfl ?_
                  refine zw_gf hm_221 dX12_toGrey_5 (v := .inr (.inr (some 106))) (zT_is (zT_pi hS) s_94) (zT_t (zT_pi hS) s_94) rfl f_12_49_12 (zT_f (zT_pi hS) r_94_38) ?_
                  refine zw_push hm_221 dX12_toGrey_8 (v := .inl ((mI S) 113 ix.toNatClampNeg)) rfl ?_
                  obtain ⟨hg, h⟩ := h
                  refine zw_ia hm_221 dX12_toGrey_9 (zT_is (zT_pi hS) s_106) (zT_h (zT_pi hS) s_106) rfl hg ?_
                  show ma_wp X (d - 1) (w - 21) 221 10 [(0, .inr (.inr (some 94))), (1, .inl ((mI S) 113 ix.toNatClampNeg))] [.inl ((mI S) 106 ((mI S) 113 ix.toNatClampNeg).toNatClampNeg)] (ma_put S 94 0 (.inl (0 : Int32))) _
                  refine zw_if0 hm_221 dX12_toGrey_10 (t := 14) rfl zc0_eq ?_ ?_
                  · intro hc
                    rw [if_pos hc] at h
                    refine zw_push hm_221 dX12_toGrey_14 (v := .inr (.inr (some 94))) rfl ?_
                    refine zw_gf hm_221 dX12_toGrey_15 (v := .inr (.inr (some 106))) (zT_is (zT_pi hS) s_94) (zT_t (zT_pi hS) s_94) rfl f_12_49_12 (zT_f (zT_pi hS) r_94_38) ?_
                    refine zw_push hm_221 dX12_toGrey_18 (v := .inl ((mI S) 113 ix.toNatClampNeg)) rfl ?_
                    refine zw_push hm_221 dX12_toGrey_19 (v := .inl (1 : Int32)) rfl ?_
                    obtain ⟨hg, h⟩ := h
                    refine zw_ias hm_221 dX12_toGrey_20 (zT_is (zT_pi hS) s_106) (zT_h (zT_pi hS) s_106) rfl hg ?_
                    refine zw_push hm_221 dX12_toGrey_21 (v := .inr (.inr (some 94))) rfl ?_
                    refine zw_gf hm_221 dX12_toGrey_22 (v := .inr (.inr (some 115))) (zT_is (zT_pi (zT_pi hS)) s_94) (zT_t (zT_pi (zT_pi hS)) s_94) rfl f_12_77_12 (zT_f (zT_pi (zT_pi hS)) r_94_54) ?_
                    refine zw_push hm_221 dX12_toGrey_25 (v := .inr (.inr (some 94))) rfl ?_
                    refine zw_gf hm_221 dX12_toGrey_26 (v := .inl ((mI S) 94 56)) (zT_is (zT_pi (zT_pi hS)) s_94) (zT_t (zT_pi (zT_pi hS)) s_94) rfl f_12_264_12 rfl ?_
                    refine zw_push hm_221 dX12_toGrey_29 (v := .inl ((mI S) 113 ix.toNatClampNeg)) rfl ?_
                    obtain ⟨hg, h⟩ := h
                    refine zw_ias hm_221 dX12_toGrey_30 (zT_is (zT_pi (zT_pi hS)) s_115) (zT_h (zT_pi (zT_pi hS)) s_115) rfl hg ?_
                    refine zw_push hm_221 dX12_toGrey_31 (v := .inr (.inr (some 94))) rfl ?_
                    refine zw_stk hm_221 dX12_toGrey_32 (st₉ := [.inr (.inr (some 94)), .inr (.inr (some 94))]) rfl rfl ?_
                    refine zw_gf hm_221 dX12_toGrey_33 (v := .inl ((mI S) 94 56)) (zT_is (zT_pi (zT_pi (zT_pi hS))) s_94) (zT_t (zT_pi (zT_pi (zT_pi hS))) s_94) rfl f_12_264_12 rfl ?_
                    refine zw_push hm_221 dX12_toGrey_36 (v := .inl (1 : Int32)) rfl ?_
                    refine zw_stk hm_221 dX12_toGrey_37 (st₉ := [.inl (((mI S) 94 56) + (1 : Int32)), .inr (.inr (some 94))]) rfl rfl ?_
                    refine zw_pf hm_221 dX12_toGrey_38 (zT_is (zT_pi (zT_pi (zT_pi hS))) s_94) (zT_t (zT_pi (zT_pi (zT_pi hS))) s_94) p_12_264_12 zk_int ?_
                    refine zw_vret hm_221 dX12_toGrey_41 ?_
                    show ma_wp X d w 252 66 [(3, .inl ((mI S) 113 ix.toNatClampNeg)), (0, .inr (.inr (some 94))), (1, .inl ix), (2, .inl r1)] [] (ma_put (ma_put (ma_put (ma_put S 94 0 (.inl (0 : Int32))) 106 ((mI S) 113 ix.toNatClampNeg).toNatClampNeg (.inl (1 : Int32))) 115 ((mI S) 94 56).toNatClampNeg (.inl ((mI S) 113 ix.toNatClampNeg))) 94 56 (.inl (((mI S) 94 56) + (1 : Int32)))) _
                    refine zw_push hm_252 dX12_strong_66 (v := .inr (.inr (some 94))) rfl ?_
                    refine zw_push hm_252 dX12_strong_67 (v := .inl r1) rfl ?_
                    refine zw_push hm_252 dX12_strong_68 (v := .inl ((mI S) 113 ix.toNatClampNeg)) rfl ?_
                    refine zw_cv hm_252 dX12_strong_69 v_12_481_12 hm_238 [.inl ((mI S) 113 ix.toNatClampNeg), .inl r1] [] rfl (zT_rt (zT_pi (zT_pi (zT_pi (zT_pi hS)))) s_94 rfl) ⟨by omega, by omega⟩ rfl (h _ _ (ma_put (ma_put (ma_put (ma_put S 94 0 (.inl (0 : Int32))) 106 ((mI S) 113 ix.toNatClampNeg).toNatClampNeg (.inl (1 : Int32))) 115 ((mI S) 94 56).toNatClampNeg (.inl ((mI S) 113 ix.toNatClampNeg))) 94 56 (.inl (((mI S) 94 56) + (1 : Int32)))) _ (by omega) (by omega) (zT_pi (zT_pi (zT_pi (zT_pi hS)))) rfl (fun o9 m5 hv => ?_))
                    obtain ⟨rfl, h⟩ := zmv_of hv
                    show ma_wp X d w 252 72 [(3, .inl ((mI S) 113 ix.toNatClampNeg)), (0, .inr (.inr (some 94))), (1, .inl ix), (2, .inl r1)] [] (zst S m5) _
                    refine zw_push hm_252 dX12_strong_72 (v := .inr (.inr (some 94))) rfl ?_
                    refine zw_gf hm_252 dX12_strong_73 (v := .inr (.inr (some 100))) (zT_is (zT_zst hS m5) s_94) (zT_t (zT_zst hS m5) s_94) rfl f_12_31_12 (zT_f (zT_zst hS m5) r_94_32) ?_
                    refine zw_push hm_252 dX12_strong_76 (v := .inl ((mI S) 113 ix.toNatClampNeg)) rfl ?_
                    obtain ⟨hg, h⟩ := h
                    refine zw_ia hm_252 dX12_strong_77 (zT_is (zT_zst hS m5) s_100) (zT_h (zT_zst hS m5) s_100) rfl hg ?_
                    show ma_wp X d w 252 78 [(3, .inl ((mI S) 113 ix.toNatClampNeg)), (0, .inr (.inr (some 94))), (1, .inl ix), (2, .inl r1)] [.inl (m5 100 ((mI S) 113 ix.toNatClampNeg).toNatClampNeg)] (zst S m5) _
                    exact zw_iret hm_252 dX12_strong_78 (HQ _ _ h)
                  · intro hc
                    rw [if_neg hc] at h
                    refine zw_vret hm_221 dX12_toGrey_13 ?_
                    show ma_wp X d w 252 66 [(3, .inl ((mI S) 113 ix.toNatClampNeg)), (0, .inr (.inr (some 94))), (1, .inl ix), (2, .inl r1)] [] (ma_put S 94 0 (.inl (0 : Int32))) _
                    refine zw_push hm_252 dX12_strong_66 (v := .inr (.inr (some 94))) rfl ?_
                    refine zw_push hm_252 dX12_strong_67 (v := .inl r1) rfl ?_
                    refine zw_push hm_252 dX12_strong_68 (v := .inl ((mI S) 113 ix.toNatClampNeg)) rfl ?_
                    refine zw_cv hm_252 dX12_strong_69 v_12_481_12 hm_238 [.inl ((mI S) 113 ix.toNatClampNeg), .inl r1] [] rfl (zT_rt (zT_pi hS) s_94 rfl) ⟨by omega, by omega⟩ rfl (h _ _ (ma_put S 94 0 (.inl (0 : Int32))) _ (by omega) (by omega) (zT_pi hS) rfl (fun o9 m7 hv => ?_))
                    obtain ⟨rfl, h⟩ := zmv_of hv
                    show ma_wp X d w 252 72 [(3, .inl ((mI S) 113 ix.toNatClampNeg)), (0, .inr (.inr (some 94))), (1, .inl ix), (2, .inl r1)] [] (zst S m7) _
                    refine zw_push hm_252 dX12_strong_72 (v := .inr (.inr (some 94))) rfl ?_
                    refine zw_gf hm_252 dX12_strong_73 (v := .inr (.inr (some 100))) (zT_is (zT_zst hS m7) s_94) (zT_t (zT_zst hS m7) s_94) rfl f_12_31_12 (zT_f (zT_zst hS m7) r_94_32) ?_
                    refine zw_push hm_252 dX12_strong_76 (v := .inl ((mI S) 113 ix.toNatClampNeg)) rfl ?_
                    obtain ⟨hg, h⟩ := h
                    refine zw_ia hm_252 dX12_strong_77 (zT_is (zT_zst hS m7) s_100) (zT_h (zT_zst hS m7) s_100) rfl hg ?_
                    show ma_wp X d w 252 78 [(3, .inl ((mI S) 113 ix.toNatClampNeg)), (0, .inr (.inr (some 94))), (1, .inl ix), (2, .inl r1)] [.inl (m7 100 ((mI S) 113 ix.toNatClampNeg).toNatClampNeg)] (zst S m7) _
                    exact zw_iret hm_252 dX12_strong_78 (HQ _ _ h)
            · intro hc
              rw [if_neg hc] at h
              refine zw_push hm_252 dX12_strong_52 (v := .inl (-1 : Int32)) rfl ?_
              exact zw_iret hm_252 dX12_strong_53 (HQ _ _ h)
          · intro hc
            rw [if_pos (Classical.not_not.mp hc)] at h
            refine zw_push hm_252 dX12_strong_28 (v := .inl (2 : Int32)) rfl ?_
            refine zw_goto hm_252 dX12_strong_29 (t := 33) rfl ?_
            refine zw_cv hm_252 dX12_strong_33 v_12_110_12 hm_167 [.inl (2 : Int32)] [] rfl (zT_rt hS s_94 rfl) ⟨by omega, by omega⟩ rfl ?_
            show ma_wp X (d - 1) (w - 21) 167 0 [(0, .inr (.inr (some 94))), (1, .inl (2 : Int32))] [] S _
            refine zw_push hm_167 dX12_fails_0 (v := .inr (.inr (some 94))) rfl ?_
            refine zw_push hm_167 dX12_fails_1 (v := .inl (2 : Int32)) rfl ?_
            refine zw_pf hm_167 dX12_fails_2 (zT_is hS s_94) (zT_t hS s_94) p_12_1_12 zk_int ?_
            refine zw_push hm_167 dX12_fails_5 (v := .inl (2 : Int32)) rfl ?_
            refine zw_if0 hm_167 dX12_fails_6 (t := 13) rfl zc0_eq (fun hc => absurd hc (by decide)) (fun _ => ?_)
            refine zw_push hm_167 dX12_fails_9 (v := .inl (1 : Int32)) rfl ?_
            refine zw_goto hm_167 dX12_fails_10 (t := 14) rfl ?_
            refine zw_bret hm_167 dX12_fails_14 (by decide) ?_
            show ma_wp X d w 252 36 [(0, .inr (.inr (some 94))), (1, .inl ix), (2, .inl r1)] [.inl (1 : Int32)] (ma_put S 94 0 (.inl (2 : Int32))) _
            refine zw_if0 hm_252 dX12_strong_36 (t := 41) rfl zc0_eq (fun hc => absurd hc (by decide)) (fun _ => ?_)
            refine zw_push hm_252 dX12_strong_39 (v := .inl (0 : Int32)) rfl ?_
            exact zw_iret hm_252 dX12_strong_40 (HQ _ _ h)
theorem sp_252 {X : Nat × (Nat → Int32)} {P : Option ma_V → (Nat → Nat → Int32) → Prop} {T : Nat} {m : Nat → Nat → Int32} (ix : Int32) (r1 : Int32) (hV : zV m) (r_W : zW (m 94 7) (m 98) (m 101) (m 102) (m 108)) (r_GW : zGW T (m 94 55) (m 109)) (r_GU : zGU T (m 94 46) (m 99)) (r_OW : zOw (m 99) (m 103) (m 111)) (r_DX : zDX (m 94 10) (m 99) (m 112) (m 113) (m 114) (m 94 55) (m 98) (m 101) (m 102) (m 108)) (r_GG : zGG (m 94 58) (m 94 56) (m 94 57) (m 106)) (r_HA : zHA (m 94 10) (m 94 11) (m 94 13) (m 94 14) (m 94 16) (m 94 61) (m 94 59) (m 94 60) (m 99) (m 102) (m 103) (m 111) (m 117) (m 98) (m 101) (m 108)) (r_RGc : zRG (m 94 10) (m 94 18) (m 94 64) (m 94 63) (m 99) (m 103) (m 102) (m 116)) (hpre8 : (m 94 58).toInt = 0 ∨ (m 94 10).toInt = 5) (KZ : ∀ v m₉, zV (zov wr_252 m m₉) → (zW (m 94 7) (m 98) (m 101) (m 102) (m 108)) → (zGW T (m₉ 94 55) (m₉ 109)) → (zGU T (m 94 46) (m₉ 99)) → (zOw (m₉ 99) (m 103) (m₉ 111)) → (zDX (m 94 10) (m₉ 99) (m₉ 112) (m₉ 113) (m₉ 114) (m₉ 94 55) (m 98) (m 101) (m 102) (m 108)) → (zGG (m 94 58) (m₉ 94 56) (m 94 57) (m₉ 106)) → (zHA (m 94 10) (m 94 11) (m 94 13) (m 94 14) (m 94 16) (m 94 61) (m 94 59) (m 94 60) (m₉ 99) (m 102) (m 103) (m₉ 111) (m 117) (m 98) (m 101) (m 108)) → (zRG (m 94 10) (m 94 18) (m 94 64) (m 94 63) (m₉ 99) (m 103) (m 102) (m 116)) → ((m 94 58).toInt = 0 ∨ (m 94 10).toInt = 5) → P (some (.inl v)) (zov wr_252 m m₉)) : zm X 5 111 252 0 [(0, .inr (.inr (some 94))), (1, .inl ix), (2, .inl r1)] m P := by
  have K : ∀ v m₉, zF wr_252 m m₉ → zV m₉ → (zW (m₉ 94 7) (m₉ 98) (m₉ 101) (m₉ 102) (m₉ 108)) → (zGW T (m₉ 94 55) (m₉ 109)) → (zGU T (m₉ 94 46) (m₉ 99)) → (zOw (m₉ 99) (m₉ 103) (m₉ 111)) → (zDX (m₉ 94 10) (m₉ 99) (m₉ 112) (m₉ 113) (m₉ 114) (m₉ 94 55) (m₉ 98) (m₉ 101) (m₉ 102) (m₉ 108)) → (zGG (m₉ 94 58) (m₉ 94 56) (m₉ 94 57) (m₉ 106)) → (zHA (m₉ 94 10) (m₉ 94 11) (m₉ 94 13) (m₉ 94 14) (m₉ 94 16) (m₉ 94 61) (m₉ 94 59) (m₉ 94 60) (m₉ 99) (m₉ 102) (m₉ 103) (m₉ 111) (m₉ 117) (m₉ 98) (m₉ 101) (m₉ 108)) → (zRG (m₉ 94 10) (m₉ 94 18) (m₉ 94 64) (m₉ 94 63) (m₉ 99) (m₉ 103) (m₉ 102) (m₉ 116)) → ((m₉ 94 58).toInt = 0 ∨ (m₉ 94 10).toInt = 5) → P (some (.inl v)) m₉ := by
    intro v m₉ hf z q0 q1 q2 q3 q4 q5 q6 q7 q8
    have e := zov_eq hf
    rw [e] at z ⊢
    try rw [e] at q0
    try rw [e] at q1
    try rw [e] at q2
    try rw [e] at q3
    try rw [e] at q4
    try rw [e] at q5
    try rw [e] at q6
    try rw [e] at q7
    try rw [e] at q8
    exact KZ v m₉ z q0 q1 q2 q3 q4 q5 q6 q7 q8
  refine g_252_0 ix r1 ?_
  have f1 : 0 ≤ (m 94 58).toInt ∧ (m 94 58).toInt ≤ 1 := rs_94_58 (m := m) hV
  have f2 : 0 ≤ (m 94 10).toInt ∧ (m 94 10).toInt ≤ 6 := rs_94_10 (m := m) hV
  have b3 := i_bd ix
  have li4 : (0 : Int32).toInt = 0 := rfl
  refine zd (fun (h5 : ix < (0 : Int32)) => ?_) (fun (h5 : ¬ ix < (0 : Int32)) => ?_)
  · skip
    have g6 := i_lt h5
    have hV7 : zV (ma_u m 94 0 (1 : Int32)) := uf_94_0 hV
    exact K ((0 : Int32)) _ (zF_u zF_rfl rfl) hV7 r_W r_GW r_GU r_OW r_DX r_GG r_HA r_RGc (show (m 94 58).toInt = 0 ∨ (m 94 10).toInt = 5 from by omega)
  · skip
    have g8 := i_nlt h5
    have li9 : (16 : Int32).toInt = 16 := rfl
    refine zd (fun (h10 : (16 : Int32) ≤ ix) => ?_) (fun (h10 : ¬ (16 : Int32) ≤ ix) => ?_)
    · skip
      have g11 := i_le h10
      have hV12 : zV (ma_u m 94 0 (1 : Int32)) := uf_94_0 hV
      exact K ((0 : Int32)) _ (zF_u zF_rfl rfl) hV12 r_W r_GW r_GU r_OW r_DX r_GG r_HA r_RGc (show (m 94 58).toInt = 0 ∨ (m 94 10).toInt = 5 from by omega)
    · skip
      have g13 := i_nle h10
      have b14 := i_bd r1
      refine zd (fun (h15 : r1 < (0 : Int32)) => ?_) (fun (h15 : ¬ r1 < (0 : Int32)) => ?_)
      · skip
        have g16 := i_lt h15
        have hV17 : zV (ma_u m 94 0 (1 : Int32)) := uf_94_0 hV
        exact K ((0 : Int32)) _ (zF_u zF_rfl rfl) hV17 r_W r_GW r_GU r_OW r_DX r_GG r_HA r_RGc (show (m 94 58).toInt = 0 ∨ (m 94 10).toInt = 5 from by omega)
      · skip
        have g18 := i_nlt h15
        refine zd (fun (h19 : (16 : Int32) ≤ r1) => ?_) (fun (h19 : ¬ (16 : Int32) ≤ r1) => ?_)
        · skip
          have g20 := i_le h19
          have hV21 : zV (ma_u m 94 0 (1 : Int32)) := uf_94_0 hV
          exact K ((0 : Int32)) _ (zF_u zF_rfl rfl) hV21 r_W r_GW r_GU r_OW r_DX r_GG r_HA r_RGc (show (m 94 58).toInt = 0 ∨ (m 94 10).toInt = 5 from by omega)
        · skip
          have g22 := i_nle h19
          have f23 : 0 ≤ (m 94 8).toInt ∧ (m 94 8).toInt ≤ 1 := rs_94_8 (m := m) hV
          refine zd (fun (h24 : (m 94 8) = (0 : Int32)) => ?_) (fun (h24 : ¬ (m 94 8) = (0 : Int32)) => ?_)
          · skip
            have g25 := i_eq h24
            have hV26 : zV (ma_u m 94 0 (2 : Int32)) := uf_94_0 hV
            exact K ((0 : Int32)) _ (zF_u zF_rfl rfl) hV26 r_W r_GW r_GU r_OW r_DX r_GG r_HA r_RGc (show (m 94 58).toInt = 0 ∨ (m 94 10).toInt = 5 from by omega)
          · skip
            have g27 := i_ne h24
            have hg28 : (0 ≤ ix ∧ ix.toNatClampNeg < 16) := i_ix (by omega) (by omega)
            refine ⟨hg28, ?_⟩
            first | have f29 : -1 ≤ (m 113 ix.toNatClampNeg).toInt ∧ (m 113 ix.toNatClampNeg).toInt ≤ 3099 := ra_113 (m := m) hV (k := ix.toNatClampNeg) (i_ix (n := 16) (by omega) (by omega)).2 | have b30 := i_bd (m 113 ix.toNatClampNeg)
            refine zd (fun (h31 : (0 : Int32) ≤ (m 113 ix.toNatClampNeg)) => ?_) (fun (h31 : ¬ (0 : Int32) ≤ (m 113 ix.toNatClampNeg)) => ?_)
            · skip
              have g32 := i_le h31
              refine zd (fun (h33 : (m 94 58) = (0 : Int32)) => ?_) (fun (h33 : ¬ (m 94 58) = (0 : Int32)) => ?_)
              · skip
                have g34 := i_eq h33
                have hV35 : zV (ma_u m 94 0 (0 : Int32)) := uf_94_0 hV
                refine sp_238 (r1) ((m 113 ix.toNatClampNeg)) hV35 (by omega) (by omega) (by omega) (by omega) (show ((m 94 10).toInt = 2 ∨ (m 94 10).toInt = 3) → (m 113 ix.toNatClampNeg).toInt < 0 ∨ (m 99) (m 113 ix.toNatClampNeg).toNatClampNeg ≠ 0 from by first | (exact fun hp => (r_DX hp).2.1 ix.toNatClampNeg (by rw [tn_cast (by omega)]; omega)) | (exfalso; omega; done) | (exfalso; contradiction; done)) r_W r_GW r_GU r_OW r_DX r_GG r_HA r_RGc (show (m 94 58).toInt = 0 ∨ (m 94 10).toInt = 5 from by omega) (fun m1 hV_m1 p0_m1 p1_m1 p2_m1 p3_m1 p4_m1 p5_m1 p6_m1 p7_m1 => zmv_n ?_)
                have p0_m1 : zGW T (m1 94 55) (m1 109) := p0_m1
                have p1_m1 : zGU T (m 94 46) (m1 99) := p1_m1
                have p2_m1 : zOw (m1 99) (m 103) (m1 111) := p2_m1
                have p3_m1 : zDX (m 94 10) (m1 99) (m1 112) (m1 113) (m1 114) (m1 94 55) (m 98) (m 101) (m 102) (m 108) := p3_m1
                have p4_m1 : zGG (m 94 58) (m1 94 56) (m 94 57) (m1 106) := p4_m1
                have p5_m1 : zHA (m 94 10) (m 94 11) (m 94 13) (m 94 14) (m 94 16) (m 94 61) (m 94 59) (m 94 60) (m1 99) (m 102) (m 103) (m1 111) (m 117) (m 98) (m 101) (m 108) := p5_m1
                have p6_m1 : zRG (m 94 10) (m 94 18) (m 94 64) (m 94 63) (m1 99) (m 103) (m 102) (m 116) := p6_m1
                have p7_m1 : (m 94 58).toInt = 0 ∨ (m 94 10).toInt = 5 := p7_m1
                have hg36 : (0 ≤ (m 113 ix.toNatClampNeg) ∧ (m 113 ix.toNatClampNeg).toNatClampNeg < 3100) := i_ix (by omega) (by omega)
                refine ⟨hg36, ?_⟩
                first | have f37 : 0 ≤ (m 100 (m 113 ix.toNatClampNeg).toNatClampNeg).toInt ∧ (m 100 (m 113 ix.toNatClampNeg).toNatClampNeg).toInt ≤ 100000 := ra_100 (m := m) hV (k := (m 113 ix.toNatClampNeg).toNatClampNeg) (i_ix (n := 3100) (by omega) (by omega)).2 | have b38 := i_bd (m 100 (m 113 ix.toNatClampNeg).toNatClampNeg)
                exact K ((m 100 (m 113 ix.toNatClampNeg).toNatClampNeg)) _ (zF_zov (zF_u zF_rfl rfl) ws_238_252) hV_m1 r_W p0_m1 p1_m1 p2_m1 p3_m1 p4_m1 p5_m1 p6_m1 (show (m 94 58).toInt = 0 ∨ (m 94 10).toInt = 5 from by omega)
              · skip
                have g39 := i_ne h33
                refine zd (fun (h40 : (m 113 ix.toNatClampNeg) < (0 : Int32)) => ?_) (fun (h40 : ¬ (m 113 ix.toNatClampNeg) < (0 : Int32)) => ?_)
                · skip
                  have g41 := i_lt h40
                  have hV42 : zV (ma_u m 94 0 (0 : Int32)) := uf_94_0 hV
                  refine sp_238 (r1) ((m 113 ix.toNatClampNeg)) hV42 (by omega) (by omega) (by omega) (by omega) (show ((m 94 10).toInt = 2 ∨ (m 94 10).toInt = 3) → (m 113 ix.toNatClampNeg).toInt < 0 ∨ (m 99) (m 113 ix.toNatClampNeg).toNatClampNeg ≠ 0 from by first | (exact fun hp => (r_DX hp).2.1 ix.toNatClampNeg (by rw [tn_cast (by omega)]; omega)) | (exfalso; omega; done) | (exfalso; contradiction; done)) r_W r_GW r_GU r_OW r_DX r_GG r_HA r_RGc (show (m 94 58).toInt = 0 ∨ (m 94 10).toInt = 5 from by omega) (fun m3 hV_m3 p0_m3 p1_m3 p2_m3 p3_m3 p4_m3 p5_m3 p6_m3 p7_m3 => zmv_n ?_)
                  have p0_m3 : zGW T (m3 94 55) (m3 109) := p0_m3
                  have p1_m3 : zGU T (m 94 46) (m3 99) := p1_m3
                  have p2_m3 : zOw (m3 99) (m 103) (m3 111) := p2_m3
                  have p3_m3 : zDX (m 94 10) (m3 99) (m3 112) (m3 113) (m3 114) (m3 94 55) (m 98) (m 101) (m 102) (m 108) := p3_m3
                  have p4_m3 : zGG (m 94 58) (m3 94 56) (m 94 57) (m3 106) := p4_m3
                  have p5_m3 : zHA (m 94 10) (m 94 11) (m 94 13) (m 94 14) (m 94 16) (m 94 61) (m 94 59) (m 94 60) (m3 99) (m 102) (m 103) (m3 111) (m 117) (m 98) (m 101) (m 108) := p5_m3
                  have p6_m3 : zRG (m 94 10) (m 94 18) (m 94 64) (m 94 63) (m3 99) (m 103) (m 102) (m 116) := p6_m3
                  have p7_m3 : (m 94 58).toInt = 0 ∨ (m 94 10).toInt = 5 := p7_m3
                  have hg43 : (0 ≤ (m 113 ix.toNatClampNeg) ∧ (m 113 ix.toNatClampNeg).toNatClampNeg < 3100) := i_ix (by omega) (by omega)
                  refine ⟨hg43, ?_⟩
                  first | have f44 : 0 ≤ (m 100 (m 113 ix.toNatClampNeg).toNatClampNeg).toInt ∧ (m 100 (m 113 ix.toNatClampNeg).toNatClampNeg).toInt ≤ 100000 := ra_100 (m := m) hV (k := (m 113 ix.toNatClampNeg).toNatClampNeg) (i_ix (n := 3100) (by omega) (by omega)).2 | have b45 := i_bd (m 100 (m 113 ix.toNatClampNeg).toNatClampNeg)
                  exact K ((m 100 (m 113 ix.toNatClampNeg).toNatClampNeg)) _ (zF_zov (zF_u zF_rfl rfl) ws_238_252) hV_m3 r_W p0_m3 p1_m3 p2_m3 p3_m3 p4_m3 p5_m3 p6_m3 (show (m 94 58).toInt = 0 ∨ (m 94 10).toInt = 5 from by omega)
                · skip
                  have g46 := i_nlt h40
                  have hg47 : (0 ≤ (m 113 ix.toNatClampNeg) ∧ (m 113 ix.toNatClampNeg).toNatClampNeg < 3100) := i_ix (by omega) (by omega)
                  refine ⟨hg47, ?_⟩
                  have b48 := i_bd (m 106 (m 113 ix.toNatClampNeg).toNatClampNeg)
                  refine zd (fun (h49 : (m 106 (m 113 ix.toNatClampNeg).toNatClampNeg) = (0 : Int32)) => ?_) (fun (h49 : ¬ (m 106 (m 113 ix.toNatClampNeg).toNatClampNeg) = (0 : Int32)) => ?_)
                  · skip
                    have g50 := i_eq h49
                    have hg51 : (0 ≤ (m 113 ix.toNatClampNeg) ∧ (m 113 ix.toNatClampNeg).toNatClampNeg < 3100) := i_ix (by omega) (by omega)
                    refine ⟨hg51, ?_⟩
                    have f52 : 0 ≤ (m 94 56).toInt ∧ (m 94 56).toInt ≤ 3100 := rs_94_56 (m := m) hV
                    try have gk := G1_room (r_GG (by omega)) (by assumption) (by omega)
                    have hg53 : (0 ≤ (m 94 56) ∧ (m 94 56).toNatClampNeg < 3100) := i_ix (by omega) (by omega)
                    refine ⟨hg53, ?_⟩
                    have hV54 : zV (ma_u m 94 0 (0 : Int32)) := uf_94_0 hV
                    have hV55 : zV (ma_u (ma_u m 94 0 (0 : Int32)) 106 (m 113 ix.toNatClampNeg).toNatClampNeg (1 : Int32)) := ua_106 hV54
                    have hV56 : zV (ma_u (ma_u (ma_u m 94 0 (0 : Int32)) 106 (m 113 ix.toNatClampNeg).toNatClampNeg (1 : Int32)) 115 (m 94 56).toNatClampNeg (m 113 ix.toNatClampNeg)) := ua_115 hV55 (by omega) (by omega)
                    first | have e58 : ((m 94 56) + (1 : Int32)).toInt = (m 94 56).toInt + (1) := i_addk rfl (by omega) (by omega) | have b59 := i_bd ((m 94 56) + (1 : Int32))
                    have hV57 : zV (ma_u (ma_u (ma_u (ma_u m 94 0 (0 : Int32)) 106 (m 113 ix.toNatClampNeg).toNatClampNeg (1 : Int32)) 115 (m 94 56).toNatClampNeg (m 113 ix.toNatClampNeg)) 94 56 ((m 94 56) + (1 : Int32))) := us_94_56 hV56 (by omega) (by omega)
                    refine sp_238 (r1) ((m 113 ix.toNatClampNeg)) hV57 (by omega) (by omega) (by omega) (by omega) (show ((m 94 10).toInt = 2 ∨ (m 94 10).toInt = 3) → (m 113 ix.toNatClampNeg).toInt < 0 ∨ (m 99) (m 113 ix.toNatClampNeg).toNatClampNeg ≠ 0 from by first | (exact fun hp => (r_DX hp).2.1 ix.toNatClampNeg (by rw [tn_cast (by omega)]; omega)) | (exfalso; omega; done) | (exfalso; contradiction; done)) r_W r_GW r_GU r_OW r_DX (show zGG (m 94 58) ((m 94 56) + (1 : Int32)) (m 94 57) ((ma_u m 106 (m 113 ix.toNatClampNeg).toNatClampNeg (1 : Int32)) 106) from by first | (exact fun z => G1_push (r_GG z) (by assumption) (by omega) (by decide) (by assumption)) | (exact fun z => absurd z (by decide)) | (exact fun z => absurd z (by omega)) | (exfalso; omega; done) | (exfalso; contradiction; done)) r_HA r_RGc (show (m 94 58).toInt = 0 ∨ (m 94 10).toInt = 5 from by omega) (fun m5 hV_m5 p0_m5 p1_m5 p2_m5 p3_m5 p4_m5 p5_m5 p6_m5 p7_m5 => zmv_n ?_)
                    have p0_m5 : zGW T (m5 94 55) (m5 109) := p0_m5
                    have p1_m5 : zGU T (m 94 46) (m5 99) := p1_m5
                    have p2_m5 : zOw (m5 99) (m 103) (m5 111) := p2_m5
                    have p3_m5 : zDX (m 94 10) (m5 99) (m5 112) (m5 113) (m5 114) (m5 94 55) (m 98) (m 101) (m 102) (m 108) := p3_m5
                    have p4_m5 : zGG (m 94 58) (m5 94 56) (m 94 57) (m5 106) := p4_m5
                    have p5_m5 : zHA (m 94 10) (m 94 11) (m 94 13) (m 94 14) (m 94 16) (m 94 61) (m 94 59) (m 94 60) (m5 99) (m 102) (m 103) (m5 111) (m 117) (m 98) (m 101) (m 108) := p5_m5
                    have p6_m5 : zRG (m 94 10) (m 94 18) (m 94 64) (m 94 63) (m5 99) (m 103) (m 102) (m 116) := p6_m5
                    have p7_m5 : (m 94 58).toInt = 0 ∨ (m 94 10).toInt = 5 := p7_m5
                    have hg60 : (0 ≤ (m 113 ix.toNatClampNeg) ∧ (m 113 ix.toNatClampNeg).toNatClampNeg < 3100) := i_ix (by omega) (by omega)
                    refine ⟨hg60, ?_⟩
                    first | have f61 : 0 ≤ (m 100 (m 113 ix.toNatClampNeg).toNatClampNeg).toInt ∧ (m 100 (m 113 ix.toNatClampNeg).toNatClampNeg).toInt ≤ 100000 := ra_100 (m := m) hV (k := (m 113 ix.toNatClampNeg).toNatClampNeg) (i_ix (n := 3100) (by omega) (by omega)).2 | have b62 := i_bd (m 100 (m 113 ix.toNatClampNeg).toNatClampNeg)
                    exact K ((m 100 (m 113 ix.toNatClampNeg).toNatClampNeg)) _ (zF_zov (zF_u (zF_u (zF_u (zF_u zF_rfl rfl) rfl) rfl) rfl) ws_238_252) hV_m5 r_W p0_m5 p1_m5 p2_m5 p3_m5 p4_m5 p5_m5 p6_m5 (show (m 94 58).toInt = 0 ∨ (m 94 10).toInt = 5 from by omega)
                  · skip
                    have g63 := i_ne h49
                    have hV64 : zV (ma_u m 94 0 (0 : Int32)) := uf_94_0 hV
                    refine sp_238 (r1) ((m 113 ix.toNatClampNeg)) hV64 (by omega) (by omega) (by omega) (by omega) (show ((m 94 10).toInt = 2 ∨ (m 94 10).toInt = 3) → (m 113 ix.toNatClampNeg).toInt < 0 ∨ (m 99) (m 113 ix.toNatClampNeg).toNatClampNeg ≠ 0 from by first | (exact fun hp => (r_DX hp).2.1 ix.toNatClampNeg (by rw [tn_cast (by omega)]; omega)) | (exfalso; omega; done) | (exfalso; contradiction; done)) r_W r_GW r_GU r_OW r_DX r_GG r_HA r_RGc (show (m 94 58).toInt = 0 ∨ (m 94 10).toInt = 5 from by omega) (fun m7 hV_m7 p0_m7 p1_m7 p2_m7 p3_m7 p4_m7 p5_m7 p6_m7 p7_m7 => zmv_n ?_)
                    have p0_m7 : zGW T (m7 94 55) (m7 109) := p0_m7
                    have p1_m7 : zGU T (m 94 46) (m7 99) := p1_m7
                    have p2_m7 : zOw (m7 99) (m 103) (m7 111) := p2_m7
                    have p3_m7 : zDX (m 94 10) (m7 99) (m7 112) (m7 113) (m7 114) (m7 94 55) (m 98) (m 101) (m 102) (m 108) := p3_m7
                    have p4_m7 : zGG (m 94 58) (m7 94 56) (m 94 57) (m7 106) := p4_m7
                    have p5_m7 : zHA (m 94 10) (m 94 11) (m 94 13) (m 94 14) (m 94 16) (m 94 61) (m 94 59) (m 94 60) (m7 99) (m 102) (m 103) (m7 111) (m 117) (m 98) (m 101) (m 108) := p5_m7
                    have p6_m7 : zRG (m 94 10) (m 94 18) (m 94 64) (m 94 63) (m7 99) (m 103) (m 102) (m 116) := p6_m7
                    have p7_m7 : (m 94 58).toInt = 0 ∨ (m 94 10).toInt = 5 := p7_m7
                    have hg65 : (0 ≤ (m 113 ix.toNatClampNeg) ∧ (m 113 ix.toNatClampNeg).toNatClampNeg < 3100) := i_ix (by omega) (by omega)
                    refine ⟨hg65, ?_⟩
                    first | have f66 : 0 ≤ (m 100 (m 113 ix.toNatClampNeg).toNatClampNeg).toInt ∧ (m 100 (m 113 ix.toNatClampNeg).toNatClampNeg).toInt ≤ 100000 := ra_100 (m := m) hV (k := (m 113 ix.toNatClampNeg).toNatClampNeg) (i_ix (n := 3100) (by omega) (by omega)).2 | have b67 := i_bd (m 100 (m 113 ix.toNatClampNeg).toNatClampNeg)
                    exact K ((m 100 (m 113 ix.toNatClampNeg).toNatClampNeg)) _ (zF_zov (zF_u zF_rfl rfl) ws_238_252) hV_m7 r_W p0_m7 p1_m7 p2_m7 p3_m7 p4_m7 p5_m7 p6_m7 (show (m 94 58).toInt = 0 ∨ (m 94 10).toInt = 5 from by omega)
            · skip
              have g68 := i_nle h31
              have hV69 : zV (ma_u m 94 0 (0 : Int32)) := uf_94_0 hV
              have li70 : (-1 : Int32).toInt = -1 := rfl
              exact K ((-1 : Int32)) _ (zF_u zF_rfl rfl) hV69 r_W r_GW r_GU r_OW r_DX r_GG r_HA r_RGc (show (m 94 58).toInt = 0 ∨ (m 94 10).toInt = 5 from by omega)

/-! from 94.456 -/
/-! the reference (written by wip/tools/gen94m.py) -/
set_option maxRecDepth 100000 in
theorem hm_253 : ma_md 253 = some (12, yX12_hold, cX12_hold, 5, (some (FieldType.int))) := rfl
theorem dX12_hold_0 : decode cX12_hold 0 = .ok (.aload_n 0, 1) := by decide +kernel
theorem dX12_hold_1 : decode cX12_hold 1 = .ok (.aload_n 0, 1) := by decide +kernel
theorem dX12_hold_12 : decode cX12_hold 12 = .ok (.iconst 0, 1) := by decide +kernel
theorem dX12_hold_13 : decode cX12_hold 13 = .ok (.invokevirtual 110, 3) := by decide +kernel
theorem dX12_hold_16 : decode cX12_hold 16 = .ok (.ifCond .eq 5, 3) := by decide +kernel
theorem dX12_hold_21 : decode cX12_hold 21 = .ok (.aload_n 0, 1) := by decide +kernel
theorem dX12_hold_22 : decode cX12_hold 22 = .ok (.iload_n 1, 1) := by decide +kernel
theorem dX12_hold_23 : decode cX12_hold 23 = .ok (.invokevirtual 499, 3) := by decide +kernel
theorem dX12_hold_26 : decode cX12_hold 26 = .ok (.istore_n 3, 1) := by decide +kernel
theorem dX12_hold_27 : decode cX12_hold 27 = .ok (.aload_n 0, 1) := by decide +kernel
theorem dX12_hold_28 : decode cX12_hold 28 = .ok (.iload_n 3, 1) := by decide +kernel
theorem dX12_hold_36 : decode cX12_hold 36 = .ok (.aload_n 0, 1) := by decide +kernel
theorem dX12_hold_40 : decode cX12_hold 40 = .ok (.iconst 2, 1) := by decide +kernel
theorem dX12_hold_73 : decode cX12_hold 73 = .ok (.iconst 3, 1) := by decide +kernel
theorem dX12_hold_74 : decode cX12_hold 74 = .ok (.goto 4, 3) := by decide +kernel
theorem dX12_hold_78 : decode cX12_hold 78 = .ok (.invokevirtual 110, 3) := by decide +kernel
theorem dX12_hold_81 : decode cX12_hold 81 = .ok (.ifCond .eq 5, 3) := by decide +kernel
theorem dX12_hold_84 : decode cX12_hold 84 = .ok (.iconst 0, 1) := by decide +kernel
theorem dX12_hold_85 : decode cX12_hold 85 = .ok (.ireturn, 1) := by decide +kernel
theorem dX12_hold_44 : decode cX12_hold 44 = .ok (.aload_n 0, 1) := by decide +kernel
theorem dX12_hold_48 : decode cX12_hold 48 = .ok (.iconst 3, 1) := by decide +kernel
theorem dX12_hold_60 : decode cX12_hold 60 = .ok (.iload_n 2, 1) := by decide +kernel
theorem dX12_hold_77 : decode cX12_hold 77 = .ok (.iconst 0, 1) := by decide +kernel
theorem dX12_hold_86 : decode cX12_hold 86 = .ok (.aload_n 0, 1) := by decide +kernel
theorem dX12_hold_90 : decode cX12_hold 90 = .ok (.iload_n 3, 1) := by decide +kernel
theorem dX12_hold_92 : decode cX12_hold 92 = .ok (.iload_n 2, 1) := by decide +kernel
theorem dX12_hold_100 : decode cX12_hold 100 = .ok (.iconst (-1), 1) := by decide +kernel
theorem dX12_hold_101 : decode cX12_hold 101 = .ok (.iadd, 1) := by decide +kernel
theorem dX12_hold_102 : decode cX12_hold 102 = .ok (.istore 4, 2) := by decide +kernel
theorem dX12_hold_104 : decode cX12_hold 104 = .ok (.aload_n 0, 1) := by decide +kernel
theorem dX12_hold_108 : decode cX12_hold 108 = .ok (.iload_n 3, 1) := by decide +kernel
theorem dX12_hold_109 : decode cX12_hold 109 = .ok (.iload 4, 2) := by decide +kernel
theorem dX12_hold_112 : decode cX12_hold 112 = .ok (.iload_n 2, 1) := by decide +kernel
theorem dX12_hold_124 : decode cX12_hold 124 = .ok (.aload_n 0, 1) := by decide +kernel
theorem dX12_hold_125 : decode cX12_hold 125 = .ok (.iload_n 3, 1) := by decide +kernel
theorem dX12_hold_126 : decode cX12_hold 126 = .ok (.invokevirtual 490, 3) := by decide +kernel
theorem dX12_hold_129 : decode cX12_hold 129 = .ok (.iload 4, 2) := by decide +kernel
theorem dX12_hold_131 : decode cX12_hold 131 = .ok (.ireturn, 1) := by decide +kernel
theorem dX12_hold_116 : decode cX12_hold 116 = .ok (.aload_n 0, 1) := by decide +kernel
theorem dX12_hold_117 : decode cX12_hold 117 = .ok (.iload_n 3, 1) := by decide +kernel
theorem dX12_hold_118 : decode cX12_hold 118 = .ok (.invokevirtual 484, 3) := by decide +kernel
theorem dX12_hold_121 : decode cX12_hold 121 = .ok (.goto 8, 3) := by decide +kernel
theorem dX12_hold_113 : decode cX12_hold 113 = .ok (.ifCond .eq 11, 3) := by decide +kernel
theorem dX12_hold_111 : decode cX12_hold 111 = .ok (.iastore, 1) := by decide +kernel
theorem dX12_hold_105 : decode cX12_hold 105 = .ok (.getfield 52, 3) := by decide +kernel
theorem dX12_hold_96 : decode cX12_hold 96 = .ok (.iconst 1, 1) := by decide +kernel
theorem dX12_hold_97 : decode cX12_hold 97 = .ok (.goto 4, 3) := by decide +kernel
theorem dX12_hold_93 : decode cX12_hold 93 = .ok (.ifCond .eq 7, 3) := by decide +kernel
theorem dX12_hold_91 : decode cX12_hold 91 = .ok (.iaload, 1) := by decide +kernel
theorem dX12_hold_87 : decode cX12_hold 87 = .ok (.getfield 52, 3) := by decide +kernel
theorem dX12_hold_64 : decode cX12_hold 64 = .ok (.aload_n 0, 1) := by decide +kernel
theorem dX12_hold_68 : decode cX12_hold 68 = .ok (.iload_n 3, 1) := by decide +kernel
theorem dX12_hold_70 : decode cX12_hold 70 = .ok (.ifCond .ne 7, 3) := by decide +kernel
theorem dX12_hold_69 : decode cX12_hold 69 = .ok (.iaload, 1) := by decide +kernel
theorem dX12_hold_65 : decode cX12_hold 65 = .ok (.getfield 52, 3) := by decide +kernel
theorem dX12_hold_61 : decode cX12_hold 61 = .ok (.ifCond .ne 16, 3) := by decide +kernel
theorem dX12_hold_52 : decode cX12_hold 52 = .ok (.aload_n 0, 1) := by decide +kernel
theorem dX12_hold_53 : decode cX12_hold 53 = .ok (.iload_n 3, 1) := by decide +kernel
theorem dX12_hold_54 : decode cX12_hold 54 = .ok (.invokevirtual 314, 3) := by decide +kernel
theorem dX12_hold_57 : decode cX12_hold 57 = .ok (.ifCond .eq 16, 3) := by decide +kernel
theorem dX12_hold_49 : decode cX12_hold 49 = .ok (.if_icmp .ne 11, 3) := by decide +kernel
theorem dX12_hold_45 : decode cX12_hold 45 = .ok (.getfield 199, 3) := by decide +kernel
theorem dX12_hold_41 : decode cX12_hold 41 = .ok (.if_icmp .eq 32, 3) := by decide +kernel
theorem dX12_hold_37 : decode cX12_hold 37 = .ok (.getfield 199, 3) := by decide +kernel
theorem dX12_hold_32 : decode cX12_hold 32 = .ok (.iconst 2, 1) := by decide +kernel
theorem dX12_hold_33 : decode cX12_hold 33 = .ok (.goto 45, 3) := by decide +kernel
theorem dX12_hold_29 : decode cX12_hold 29 = .ok (.ifCond .ge 7, 3) := by decide +kernel
theorem dX12_hold_8 : decode cX12_hold 8 = .ok (.iconst 1, 1) := by decide +kernel
theorem dX12_hold_9 : decode cX12_hold 9 = .ok (.goto 4, 3) := by decide +kernel
theorem dX12_hold_19 : decode cX12_hold 19 = .ok (.iconst 0, 1) := by decide +kernel
theorem dX12_hold_20 : decode cX12_hold 20 = .ok (.ireturn, 1) := by decide +kernel
theorem dX12_hold_5 : decode cX12_hold 5 = .ok (.ifCond .ne 7, 3) := by decide +kernel
theorem dX12_hold_2 : decode cX12_hold 2 = .ok (.getfield 237, 3) := by decide +kernel
def wr_253 (c k : Nat) : Bool := Nat.beq c 99 || Nat.beq c 105 || Nat.beq c 107 || Nat.beq c 109 || Nat.beq c 110 || Nat.beq c 111 || Nat.beq c 113 || Nat.beq c 114 || Nat.beq c 118 || Nat.beq c 120 || Nat.beq c 121 || (Nat.beq c 94 && (Nat.beq k 0 || Nat.beq k 44 || Nat.beq k 45 || Nat.beq k 49 || Nat.beq k 55 || Nat.beq k 73 || Nat.beq k 80))
theorem ws_241_253 : ∀ c k, wr_241 c k = true → wr_253 c k = true := by
  intro c k h
  simp only [wr_241, Bool.or_eq_true, Bool.and_eq_true, Nat.beq_eq] at h
  rcases h with (((((((rfl | rfl) | rfl) | rfl) | rfl) | rfl) | rfl) | rfl) | ⟨rfl, ((((rfl | rfl) | rfl) | rfl) | rfl)⟩ <;> rfl
theorem ws_245_253 : ∀ c k, wr_245 c k = true → wr_253 c k = true := by
  intro c k h
  simp only [wr_245, Bool.or_eq_true, Bool.and_eq_true, Nat.beq_eq] at h
  rcases h with (rfl | rfl) | ⟨rfl, rfl⟩ <;> rfl
theorem g_253_0 {X : Nat × (Nat → Int32)} {m : Nat → Nat → Int32} {P : Option ma_V → (Nat → Nat → Int32) → Prop} (ob : Int32) (on : Int32) (h : if (m 94 8) = 0 then (P (some (.inl (0 : Int32))) (ma_u m 94 0 (1 : Int32))) else (zm X 4 87 245 0 [(0, .inr (.inr (some 94))), (1, .inl ob)] (ma_u m 94 0 (0 : Int32)) (zmi (fun v2 m1 => if 0 ≤ v2 then (if (m1 94 10) = (2 : Int32) then (P (some (.inl (0 : Int32))) (ma_u m1 94 0 (3 : Int32))) else (if (m1 94 10) = (3 : Int32) then ((0 ≤ v2 ∧ v2.toNatClampNeg < 3100) ∧ (if (m1 94 14) ≤ (m1 103 v2.toNatClampNeg) then (P (some (.inl (0 : Int32))) (ma_u m1 94 0 (3 : Int32))) else (if on = 0 then ((0 ≤ v2 ∧ v2.toNatClampNeg < 3100) ∧ (if (m1 107 v2.toNatClampNeg) = 0 then (P (some (.inl (0 : Int32))) (ma_u m1 94 0 (3 : Int32))) else ((0 ≤ v2 ∧ v2.toNatClampNeg < 3100) ∧ (if on = 0 then ((0 ≤ v2 ∧ v2.toNatClampNeg < 3100) ∧ (if on = 0 then (zm X 3 64 241 0 [(0, .inr (.inr (some 94))), (1, .inl v2)] (ma_u (ma_u m1 94 0 (0 : Int32)) 107 v2.toNatClampNeg ((m1 107 v2.toNatClampNeg) + (-1 : Int32))) (zmv (fun m15 => P (some (.inl ((m1 107 v2.toNatClampNeg) + (-1 : Int32)))) m15))) else (if v2 < 0 then (P (some (.inl ((m1 107 v2.toNatClampNeg) + (-1 : Int32)))) (ma_u (ma_u m1 94 0 (0 : Int32)) 107 v2.toNatClampNeg ((m1 107 v2.toNatClampNeg) + (-1 : Int32)))) else (if (m1 94 10) = (4 : Int32) then ((0 ≤ v2 ∧ v2.toNatClampNeg < 3100) ∧ ((0 ≤ v2 ∧ v2.toNatClampNeg < 3100) ∧ (P (some (.inl ((m1 107 v2.toNatClampNeg) + (-1 : Int32)))) (ma_u (ma_u (ma_u m1 94 0 (0 : Int32)) 107 v2.toNatClampNeg ((m1 107 v2.toNatClampNeg) + (-1 : Int32))) 105 v2.toNatClampNeg ((m1 105 v2.toNatClampNeg) + (1 : Int32)))))) else (P (some (.inl ((m1 107 v2.toNatClampNeg) + (-1 : Int32)))) (ma_u (ma_u m1 94 0 (0 : Int32)) 107 v2.toNatClampNeg ((m1 107 v2.toNatClampNeg) + (-1 : Int32)))))))) else ((0 ≤ v2 ∧ v2.toNatClampNeg < 3100) ∧ (if on = 0 then (zm X 3 64 241 0 [(0, .inr (.inr (some 94))), (1, .inl v2)] (ma_u (ma_u m1 94 0 (0 : Int32)) 107 v2.toNatClampNeg ((m1 107 v2.toNatClampNeg) + (1 : Int32))) (zmv (fun m17 => P (some (.inl ((m1 107 v2.toNatClampNeg) + (1 : Int32)))) m17))) else (if v2 < 0 then (P (some (.inl ((m1 107 v2.toNatClampNeg) + (1 : Int32)))) (ma_u (ma_u m1 94 0 (0 : Int32)) 107 v2.toNatClampNeg ((m1 107 v2.toNatClampNeg) + (1 : Int32)))) else (if (m1 94 10) = (4 : Int32) then ((0 ≤ v2 ∧ v2.toNatClampNeg < 3100) ∧ ((0 ≤ v2 ∧ v2.toNatClampNeg < 3100) ∧ (P (some (.inl ((m1 107 v2.toNatClampNeg) + (1 : Int32)))) (ma_u (ma_u (ma_u m1 94 0 (0 : Int32)) 107 v2.toNatClampNeg ((m1 107 v2.toNatClampNeg) + (1 : Int32))) 105 v2.toNatClampNeg ((m1 105 v2.toNatClampNeg) + (1 : Int32)))))) else (P (some (.inl ((m1 107 v2.toNatClampNeg) + (1 : Int32)))) (ma_u (ma_u m1 94 0 (0 : Int32)) 107 v2.toNatClampNeg ((m1 107 v2.toNatClampNeg) + (1 : Int32)))))))))))) else ((0 ≤ v2 ∧ v2.toNatClampNeg < 3100) ∧ (if on = 0 then ((0 ≤ v2 ∧ v2.toNatClampNeg < 3100) ∧ (if on = 0 then (zm X 3 64 241 0 [(0, .inr (.inr (some 94))), (1, .inl v2)] (ma_u (ma_u m1 94 0 (0 : Int32)) 107 v2.toNatClampNeg ((m1 107 v2.toNatClampNeg) + (-1 : Int32))) (zmv (fun m11 => P (some (.inl ((m1 107 v2.toNatClampNeg) + (-1 : Int32)))) m11))) else (if v2 < 0 then (P (some (.inl ((m1 107 v2.toNatClampNeg) + (-1 : Int32)))) (ma_u (ma_u m1 94 0 (0 : Int32)) 107 v2.toNatClampNeg ((m1 107 v2.toNatClampNeg) + (-1 : Int32)))) else (if (m1 94 10) = (4 : Int32) then ((0 ≤ v2 ∧ v2.toNatClampNeg < 3100) ∧ ((0 ≤ v2 ∧ v2.toNatClampNeg < 3100) ∧ (P (some (.inl ((m1 107 v2.toNatClampNeg) + (-1 : Int32)))) (ma_u (ma_u (ma_u m1 94 0 (0 : Int32)) 107 v2.toNatClampNeg ((m1 107 v2.toNatClampNeg) + (-1 : Int32))) 105 v2.toNatClampNeg ((m1 105 v2.toNatClampNeg) + (1 : Int32)))))) else (P (some (.inl ((m1 107 v2.toNatClampNeg) + (-1 : Int32)))) (ma_u (ma_u m1 94 0 (0 : Int32)) 107 v2.toNatClampNeg ((m1 107 v2.toNatClampNeg) + (-1 : Int32)))))))) else ((0 ≤ v2 ∧ v2.toNatClampNeg < 3100) ∧ (if on = 0 then (zm X 3 64 241 0 [(0, .inr (.inr (some 94))), (1, .inl v2)] (ma_u (ma_u m1 94 0 (0 : Int32)) 107 v2.toNatClampNeg ((m1 107 v2.toNatClampNeg) + (1 : Int32))) (zmv (fun m13 => P (some (.inl ((m1 107 v2.toNatClampNeg) + (1 : Int32)))) m13))) else (if v2 < 0 then (P (some (.inl ((m1 107 v2.toNatClampNeg) + (1 : Int32)))) (ma_u (ma_u m1 94 0 (0 : Int32)) 107 v2.toNatClampNeg ((m1 107 v2.toNatClampNeg) + (1 : Int32)))) else (if (m1 94 10) = (4 : Int32) then ((0 ≤ v2 ∧ v2.toNatClampNeg < 3100) ∧ ((0 ≤ v2 ∧ v2.toNatClampNeg < 3100) ∧ (P (some (.inl ((m1 107 v2.toNatClampNeg) + (1 : Int32)))) (ma_u (ma_u (ma_u m1 94 0 (0 : Int32)) 107 v2.toNatClampNeg ((m1 107 v2.toNatClampNeg) + (1 : Int32))) 105 v2.toNatClampNeg ((m1 105 v2.toNatClampNeg) + (1 : Int32)))))) else (P (some (.inl ((m1 107 v2.toNatClampNeg) + (1 : Int32)))) (ma_u (ma_u m1 94 0 (0 : Int32)) 107 v2.toNatClampNeg ((m1 107 v2.toNatClampNeg) + (1 : Int32))))))))))))) else (if on = 0 then ((0 ≤ v2 ∧ v2.toNatClampNeg < 3100) ∧ (if (m1 107 v2.toNatClampNeg) = 0 then (P (some (.inl (0 : Int32))) (ma_u m1 94 0 (3 : Int32))) else ((0 ≤ v2 ∧ v2.toNatClampNeg < 3100) ∧ (if on = 0 then ((0 ≤ v2 ∧ v2.toNatClampNeg < 3100) ∧ (if on = 0 then (zm X 3 64 241 0 [(0, .inr (.inr (some 94))), (1, .inl v2)] (ma_u (ma_u m1 94 0 (0 : Int32)) 107 v2.toNatClampNeg ((m1 107 v2.toNatClampNeg) + (-1 : Int32))) (zmv (fun m7 => P (some (.inl ((m1 107 v2.toNatClampNeg) + (-1 : Int32)))) m7))) else (if v2 < 0 then (P (some (.inl ((m1 107 v2.toNatClampNeg) + (-1 : Int32)))) (ma_u (ma_u m1 94 0 (0 : Int32)) 107 v2.toNatClampNeg ((m1 107 v2.toNatClampNeg) + (-1 : Int32)))) else (if (m1 94 10) = (4 : Int32) then ((0 ≤ v2 ∧ v2.toNatClampNeg < 3100) ∧ ((0 ≤ v2 ∧ v2.toNatClampNeg < 3100) ∧ (P (some (.inl ((m1 107 v2.toNatClampNeg) + (-1 : Int32)))) (ma_u (ma_u (ma_u m1 94 0 (0 : Int32)) 107 v2.toNatClampNeg ((m1 107 v2.toNatClampNeg) + (-1 : Int32))) 105 v2.toNatClampNeg ((m1 105 v2.toNatClampNeg) + (1 : Int32)))))) else (P (some (.inl ((m1 107 v2.toNatClampNeg) + (-1 : Int32)))) (ma_u (ma_u m1 94 0 (0 : Int32)) 107 v2.toNatClampNeg ((m1 107 v2.toNatClampNeg) + (-1 : Int32)))))))) else ((0 ≤ v2 ∧ v2.toNatClampNeg < 3100) ∧ (if on = 0 then (zm X 3 64 241 0 [(0, .inr (.inr (some 94))), (1, .inl v2)] (ma_u (ma_u m1 94 0 (0 : Int32)) 107 v2.toNatClampNeg ((m1 107 v2.toNatClampNeg) + (1 : Int32))) (zmv (fun m9 => P (some (.inl ((m1 107 v2.toNatClampNeg) + (1 : Int32)))) m9))) else (if v2 < 0 then (P (some (.inl ((m1 107 v2.toNatClampNeg) + (1 : Int32)))) (ma_u (ma_u m1 94 0 (0 : Int32)) 107 v2.toNatClampNeg ((m1 107 v2.toNatClampNeg) + (1 : Int32)))) else (if (m1 94 10) = (4 : Int32) then ((0 ≤ v2 ∧ v2.toNatClampNeg < 3100) ∧ ((0 ≤ v2 ∧ v2.toNatClampNeg < 3100) ∧ (P (some (.inl ((m1 107 v2.toNatClampNeg) + (1 : Int32)))) (ma_u (ma_u (ma_u m1 94 0 (0 : Int32)) 107 v2.toNatClampNeg ((m1 107 v2.toNatClampNeg) + (1 : Int32))) 105 v2.toNatClampNeg ((m1 105 v2.toNatClampNeg) + (1 : Int32)))))) else (P (some (.inl ((m1 107 v2.toNatClampNeg) + (1 : Int32)))) (ma_u (ma_u m1 94 0 (0 : Int32)) 107 v2.toNatClampNeg ((m1 107 v2.toNatClampNeg) + (1 : Int32)))))))))))) else ((0 ≤ v2 ∧ v2.toNatClampNeg < 3100) ∧ (if on = 0 then ((0 ≤ v2 ∧ v2.toNatClampNeg < 3100) ∧ (if on = 0 then (zm X 3 64 241 0 [(0, .inr (.inr (some 94))), (1, .inl v2)] (ma_u (ma_u m1 94 0 (0 : Int32)) 107 v2.toNatClampNeg ((m1 107 v2.toNatClampNeg) + (-1 : Int32))) (zmv (fun m3 => P (some (.inl ((m1 107 v2.toNatClampNeg) + (-1 : Int32)))) m3))) else (if v2 < 0 then (P (some (.inl ((m1 107 v2.toNatClampNeg) + (-1 : Int32)))) (ma_u (ma_u m1 94 0 (0 : Int32)) 107 v2.toNatClampNeg ((m1 107 v2.toNatClampNeg) + (-1 : Int32)))) else (if (m1 94 10) = (4 : Int32) then ((0 ≤ v2 ∧ v2.toNatClampNeg < 3100) ∧ ((0 ≤ v2 ∧ v2.toNatClampNeg < 3100) ∧ (P (some (.inl ((m1 107 v2.toNatClampNeg) + (-1 : Int32)))) (ma_u (ma_u (ma_u m1 94 0 (0 : Int32)) 107 v2.toNatClampNeg ((m1 107 v2.toNatClampNeg) + (-1 : Int32))) 105 v2.toNatClampNeg ((m1 105 v2.toNatClampNeg) + (1 : Int32)))))) else (P (some (.inl ((m1 107 v2.toNatClampNeg) + (-1 : Int32)))) (ma_u (ma_u m1 94 0 (0 : Int32)) 107 v2.toNatClampNeg ((m1 107 v2.toNatClampNeg) + (-1 : Int32)))))))) else ((0 ≤ v2 ∧ v2.toNatClampNeg < 3100) ∧ (if on = 0 then (zm X 3 64 241 0 [(0, .inr (.inr (some 94))), (1, .inl v2)] (ma_u (ma_u m1 94 0 (0 : Int32)) 107 v2.toNatClampNeg ((m1 107 v2.toNatClampNeg) + (1 : Int32))) (zmv (fun m5 => P (some (.inl ((m1 107 v2.toNatClampNeg) + (1 : Int32)))) m5))) else (if v2 < 0 then (P (some (.inl ((m1 107 v2.toNatClampNeg) + (1 : Int32)))) (ma_u (ma_u m1 94 0 (0 : Int32)) 107 v2.toNatClampNeg ((m1 107 v2.toNatClampNeg) + (1 : Int32)))) else (if (m1 94 10) = (4 : Int32) then ((0 ≤ v2 ∧ v2.toNatClampNeg < 3100) ∧ ((0 ≤ v2 ∧ v2.toNatClampNeg < 3100) ∧ (P (some (.inl ((m1 107 v2.toNatClampNeg) + (1 : Int32)))) (ma_u (ma_u (ma_u m1 94 0 (0 : Int32)) 107 v2.toNatClampNeg ((m1 107 v2.toNatClampNeg) + (1 : Int32))) 105 v2.toNatClampNeg ((m1 105 v2.toNatClampNeg) + (1 : Int32)))))) else (P (some (.inl ((m1 107 v2.toNatClampNeg) + (1 : Int32)))) (ma_u (ma_u m1 94 0 (0 : Int32)) 107 v2.toNatClampNeg ((m1 107 v2.toNatClampNeg) + (1 : Int32))))))))))))) else (P (some (.inl (0 : Int32))) (ma_u m1 94 0 (2 : Int32))))))) : zm X 5 109 253 0 [(0, .inr (.inr (some 94))), (1, .inl ob), (2, .inl on)] m P := by
  intro d w S Q hd hw hS hm HQ
  subst hm
  refine zw_push hm_253 dX12_hold_0 (v := .inr (.inr (some 94))) rfl ?_
  refine zw_push hm_253 dX12_hold_1 (v := .inr (.inr (some 94))) rfl ?_
  refine zw_gf hm_253 dX12_hold_2 (v := .inl ((mI S) 94 8)) (zT_is hS s_94) (zT_t hS s_94) rfl f_12_237_12 rfl ?_
  refine zw_if0 hm_253 dX12_hold_5 (t := 12) rfl zc0_ne ?_ ?_
  · intro hc
    rw [if_neg hc] at h
    refine zw_push hm_253 dX12_hold_12 (v := .inl (0 : Int32)) rfl ?_
    refine zw_cv hm_253 dX12_hold_13 v_12_110_12 hm_167 [.inl (0 : Int32)] [] rfl (zT_rt hS s_94 rfl) ⟨by omega, by omega⟩ rfl ?_
    show ma_wp X (d - 1) (w - 21) 167 0 [(0, .inr (.inr (some 94))), (1, .inl (0 : Int32))] [] S _
    refine zw_push hm_167 dX12_fails_0 (v := .inr (.inr (some 94))) rfl ?_
    refine zw_push hm_167 dX12_fails_1 (v := .inl (0 : Int32)) rfl ?_
    refine zw_pf hm_167 dX12_fails_2 (zT_is hS s_94) (zT_t hS s_94) p_12_1_12 zk_int ?_
    refine zw_push hm_167 dX12_fails_5 (v := .inl (0 : Int32)) rfl ?_
    refine zw_if0 hm_167 dX12_fails_6 (t := 13) rfl zc0_eq (fun _ => ?_) (fun hc => absurd (by decide) hc)
    refine zw_push hm_167 dX12_fails_13 (v := .inl (0 : Int32)) rfl ?_
    refine zw_bret hm_167 dX12_fails_14 (by decide) ?_
    show ma_wp X d w 253 16 [(0, .inr (.inr (some 94))), (1, .inl ob), (2, .inl on)] [.inl (0 : Int32)] (ma_put S 94 0 (.inl (0 : Int32))) _
    refine zw_if0 hm_253 dX12_hold_16 (t := 21) rfl zc0_eq (fun _ => ?_) (fun hc => absurd (by decide) hc)
    refine zw_push hm_253 dX12_hold_21 (v := .inr (.inr (some 94))) rfl ?_
    refine zw_push hm_253 dX12_hold_22 (v := .inl ob) rfl ?_
    refine zw_cv hm_253 dX12_hold_23 v_12_499_12 hm_245 [.inl ob] [] rfl (zT_rt (zT_pi hS) s_94 rfl) ⟨by omega, by omega⟩ rfl (h _ _ (ma_put S 94 0 (.inl (0 : Int32))) _ (by omega) (by omega) (zT_pi hS) rfl (fun o9 m1 hv => ?_))
    obtain ⟨v2, rfl, h⟩ := zmi_of hv
    show ma_wp X d w 253 26 [(0, .inr (.inr (some 94))), (1, .inl ob), (2, .inl on)] [.inl v2] (zst S m1) _
    refine zw_sto hm_253 dX12_hold_26 [(3, .inl v2), (0, .inr (.inr (some 94))), (1, .inl ob), (2, .inl on)] rfl rfl rfl ?_
    refine zw_push hm_253 dX12_hold_27 (v := .inr (.inr (some 94))) rfl ?_
    refine zw_push hm_253 dX12_hold_28 (v := .inl v2) rfl ?_
    refine zw_if0 hm_253 dX12_hold_29 (t := 36) rfl zc0_ge ?_ ?_
    · intro hc
      rw [if_pos hc] at h
      refine zw_push hm_253 dX12_hold_36 (v := .inr (.inr (some 94))) rfl ?_
      refine zw_gf hm_253 dX12_hold_37 (v := .inl (m1 94 10)) (zT_is (zT_zst hS m1) s_94) (zT_t (zT_zst hS m1) s_94) rfl f_12_199_12 rfl ?_
      refine zw_push hm_253 dX12_hold_40 (v := .inl (2 : Int32)) rfl ?_
      refine zw_if2 hm_253 dX12_hold_41 (t := 73) rfl zc2_eq ?_ ?_
      · intro hc
        rw [if_pos hc] at h
        refine zw_push hm_253 dX12_hold_73 (v := .inl (3 : Int32)) rfl ?_
        refine zw_goto hm_253 dX12_hold_74 (t := 78) rfl ?_
        refine zw_cv hm_253 dX12_hold_78 v_12_110_12 hm_167 [.inl (3 : Int32)] [] rfl (zT_rt (zT_zst hS m1) s_94 rfl) ⟨by omega, by omega⟩ rfl ?_
        show ma_wp X (d - 1) (w - 21) 167 0 [(0, .inr (.inr (some 94))), (1, .inl (3 : Int32))] [] (zst S m1) _
        refine zw_push hm_167 dX12_fails_0 (v := .inr (.inr (some 94))) rfl ?_
        refine zw_push hm_167 dX12_fails_1 (v := .inl (3 : Int32)) rfl ?_
        refine zw_pf hm_167 dX12_fails_2 (zT_is (zT_zst hS m1) s_94) (zT_t (zT_zst hS m1) s_94) p_12_1_12 zk_int ?_
        refine zw_push hm_167 dX12_fails_5 (v := .inl (3 : Int32)) rfl ?_
        refine zw_if0 hm_167 dX12_fails_6 (t := 13) rfl zc0_eq (fun hc => absurd hc (by decide)) (fun _ => ?_)
        refine zw_push hm_167 dX12_fails_9 (v := .inl (1 : Int32)) rfl ?_
        refine zw_goto hm_167 dX12_fails_10 (t := 14) rfl ?_
        refine zw_bret hm_167 dX12_fails_14 (by decide) ?_
        show ma_wp X d w 253 81 [(3, .inl v2), (0, .inr (.inr (some 94))), (1, .inl ob), (2, .inl on)] [.inl (1 : Int32)] (ma_put (zst S m1) 94 0 (.inl (3 : Int32))) _
        refine zw_if0 hm_253 dX12_hold_81 (t := 86) rfl zc0_eq (fun hc => absurd hc (by decide)) (fun _ => ?_)
        refine zw_push hm_253 dX12_hold_84 (v := .inl (0 : Int32)) rfl ?_
        exact zw_iret hm_253 dX12_hold_85 (HQ _ _ h)
      · intro hc
        rw [if_neg hc] at h
        refine zw_push hm_253 dX12_hold_44 (v := .inr (.inr (some 94))) rfl ?_
        refine zw_gf hm_253 dX12_hold_45 (v := .inl (m1 94 10)) (zT_is (zT_zst hS m1) s_94) (zT_t (zT_zst hS m1) s_94) rfl f_12_199_12 rfl ?_
        refine zw_push hm_253 dX12_hold_48 (v := .inl (3 : Int32)) rfl ?_
        refine zw_if2 hm_253 dX12_hold_49 (t := 60) rfl zc2_ne ?_ ?_
        · intro hc
          rw [if_neg hc] at h
          refine zw_push hm_253 dX12_hold_60 (v := .inl on) rfl ?_
          refine zw_if0 hm_253 dX12_hold_61 (t := 77) rfl zc0_ne ?_ ?_
          · intro hc
            rw [if_neg hc] at h
            refine zw_push hm_253 dX12_hold_77 (v := .inl (0 : Int32)) rfl ?_
            refine zw_cv hm_253 dX12_hold_78 v_12_110_12 hm_167 [.inl (0 : Int32)] [] rfl (zT_rt (zT_zst hS m1) s_94 rfl) ⟨by omega, by omega⟩ rfl ?_
            show ma_wp X (d - 1) (w - 21) 167 0 [(0, .inr (.inr (some 94))), (1, .inl (0 : Int32))] [] (zst S m1) _
            refine zw_push hm_167 dX12_fails_0 (v := .inr (.inr (some 94))) rfl ?_
            refine zw_push hm_167 dX12_fails_1 (v := .inl (0 : Int32)) rfl ?_
            refine zw_pf hm_167 dX12_fails_2 (zT_is (zT_zst hS m1) s_94) (zT_t (zT_zst hS m1) s_94) p_12_1_12 zk_int ?_
            refine zw_push hm_167 dX12_fails_5 (v := .inl (0 : Int32)) rfl ?_
            refine zw_if0 hm_167 dX12_fails_6 (t := 13) rfl zc0_eq (fun _ => ?_) (fun hc => absurd (by decide) hc)
            refine zw_push hm_167 dX12_fails_13 (v := .inl (0 : Int32)) rfl ?_
            refine zw_bret hm_167 dX12_fails_14 (by decide) ?_
            show ma_wp X d w 253 81 [(3, .inl v2), (0, .inr (.inr (some 94))), (1, .inl ob), (2, .inl on)] [.inl (0 : Int32)] (ma_put (zst S m1) 94 0 (.inl (0 : Int32))) _
            refine zw_if0 hm_253 dX12_hold_81 (t := 86) rfl zc0_eq (fun _ => ?_) (fun hc => absurd (by decide) hc)
            refine zw_push hm_253 dX12_hold_86 (v := .inr (.inr (some 94))) rfl ?_
            refine zw_gf hm_253 dX12_hold_87 (v := .inr (.inr (some 107))) (zT_is (zT_pi (zT_zst hS m1)) s_94) (zT_t (zT_pi (zT_zst hS m1)) s_94) rfl f_12_52_12 (zT_f (zT_pi (zT_zst hS m1)) r_94_39) ?_
            refine zw_push hm_253 dX12_hold_90 (v := .inl v2) rfl ?_
            obtain ⟨hg, h⟩ := h
            refine zw_ia hm_253 dX12_hold_91 (zT_is (zT_pi (zT_zst hS m1)) s_107) (zT_h (zT_pi (zT_zst hS m1)) s_107) rfl hg ?_
            show ma_wp X d w 253 92 [(3, .inl v2), (0, .inr (.inr (some 94))), (1, .inl ob), (2, .inl on)] [.inl (m1 107 v2.toNatClampNeg)] (ma_put (zst S m1) 94 0 (.inl (0 : Int32))) _
            refine zw_push hm_253 dX12_hold_92 (v := .inl on) rfl ?_
            refine zw_if0 hm_253 dX12_hold_93 (t := 100) rfl zc0_eq ?_ ?_
            · intro hc
              rw [if_pos hc] at h
              refine zw_push hm_253 dX12_hold_100 (v := .inl (-1 : Int32)) rfl ?_
              refine zw_stk hm_253 dX12_hold_101 (st₉ := [.inl ((m1 107 v2.toNatClampNeg) + (-1 : Int32))]) rfl rfl ?_
              refine zw_sto hm_253 dX12_hold_102 [(4, .inl ((m1 107 v2.toNatClampNeg) + (-1 : Int32))), (3, .inl v2), (0, .inr (.inr (some 94))), (1, .inl ob), (2, .inl on)] rfl rfl rfl ?_
              refine zw_push hm_253 dX12_hold_104 (v := .inr (.inr (some 94))) rfl ?_
              refine zw_gf hm_253 dX12_hold_105 (v := .inr (.inr (some 107))) (zT_is (zT_pi (zT_zst hS m1)) s_94) (zT_t (zT_pi (zT_zst hS m1)) s_94) rfl f_12_52_12 (zT_f (zT_pi (zT_zst hS m1)) r_94_39) ?_
              refine zw_push hm_253 dX12_hold_108 (v := .inl v2) rfl ?_
              refine zw_push hm_253 dX12_hold_109 (v := .inl ((m1 107 v2.toNatClampNeg) + (-1 : Int32))) rfl ?_
              obtain ⟨hg, h⟩ := h
              refine zw_ias hm_253 dX12_hold_111 (zT_is (zT_pi (zT_zst hS m1)) s_107) (zT_h (zT_pi (zT_zst hS m1)) s_107) rfl hg ?_
              refine zw_push hm_253 dX12_hold_112 (v := .inl on) rfl ?_
              refine zw_if0 hm_253 dX12_hold_113 (t := 124) rfl zc0_eq ?_ ?_
              · intro hc
                rw [if_pos hc] at h
                refine zw_push hm_253 dX12_hold_124 (v := .inr (.inr (some 94))) rfl ?_
                refine zw_push hm_253 dX12_hold_125 (v := .inl v2) rfl ?_
                refine zw_cv hm_253 dX12_hold_126 v_12_490_12 hm_241 [.inl v2] [] rfl (zT_rt (zT_pi (zT_pi (zT_zst hS m1))) s_94 rfl) ⟨by omega, by omega⟩ rfl (h _ _ (ma_put (ma_put (zst S m1) 94 0 (.inl (0 : Int32))) 107 v2.toNatClampNeg (.inl ((m1 107 v2.toNatClampNeg) + (-1 : Int32)))) _ (by omega) (by omega) (zT_pi (zT_pi (zT_zst hS m1))) rfl (fun o9 m3 hv => ?_))
                obtain ⟨rfl, h⟩ := zmv_of hv
                show ma_wp X d w 253 129 [(4, .inl ((m1 107 v2.toNatClampNeg) + (-1 : Int32))), (3, .inl v2), (0, .inr (.inr (some 94))), (1, .inl ob), (2, .inl on)] [] (zst S m3) _
                refine zw_push hm_253 dX12_hold_129 (v := .inl ((m1 107 v2.toNatClampNeg) + (-1 : Int32))) rfl ?_
                exact zw_iret hm_253 dX12_hold_131 (HQ _ _ h)
              · intro hc
                rw [if_neg hc] at h
                refine zw_push hm_253 dX12_hold_116 (v := .inr (.inr (some 94))) rfl ?_
                refine zw_push hm_253 dX12_hold_117 (v := .inl v2) rfl ?_
                refine zw_cv hm_253 dX12_hold_118 v_12_484_12 hm_239 [.inl v2] [] rfl (zT_rt (zT_pi (zT_pi (zT_zst hS m1))) s_94 rfl) ⟨by omega, by omega⟩ rfl ?_
                show ma_wp X (d - 1) (w - 21) 239 0 [(0, .inr (.inr (some 94))), (1, .inl v2)] [] (ma_put (ma_put (zst S m1) 94 0 (.inl (0 : Int32))) 107 v2.toNatClampNeg (.inl ((m1 107 v2.toNatClampNeg) + (-1 : Int32)))) _
                refine zw_push hm_239 dX12_more_0 (v := .inl v2) rfl ?_
                refine zw_if0 hm_239 dX12_more_1 (t := 22) rfl zc0_lt ?_ ?_
                · intro hc
                  rw [if_pos hc] at h
                  refine zw_vret hm_239 dX12_more_22 ?_
                  show ma_wp X d w 253 121 [(4, .inl ((m1 107 v2.toNatClampNeg) + (-1 : Int32))), (3, .inl v2), (0, .inr (.inr (some 94))), (1, .inl ob), (2, .inl on)] [] (ma_put (ma_put (zst S m1) 94 0 (.inl (0 : Int32))) 107 v2.toNatClampNeg (.inl ((m1 107 v2.toNatClampNeg) + (-1 : Int32)))) _
                  refine zw_goto hm_253 dX12_hold_121 (t := 129) rfl ?_
                  refine zw_push hm_253 dX12_hold_129 (v := .inl ((m1 107 v2.toNatClampNeg) + (-1 : Int32))) rfl ?_
                  exact zw_iret hm_253 dX12_hold_131 (HQ _ _ h)
                · intro hc
                  rw [if_neg hc] at h
                  refine zw_push hm_239 dX12_more_4 (v := .inr (.inr (some 94))) rfl ?_
                  refine zw_gf hm_239 dX12_more_5 (v := .inl (m1 94 10)) (zT_is (zT_pi (zT_pi (zT_zst hS m1))) s_94) (zT_t (zT_pi (zT_pi (zT_zst hS m1))) s_94) rfl f_12_199_12 rfl ?_
                  refine zw_push hm_239 dX12_more_8 (v := .inl (4 : Int32)) rfl ?_
                  refine zw_if2 hm_239 dX12_more_9 (t := 22) rfl zc2_ne ?_ ?_
                  · intro hc
                    rw [if_neg hc] at h
                    refine zw_vret hm_239 dX12_more_22 ?_
                    show ma_wp X d w 253 121 [(4, .inl ((m1 107 v2.toNatClampNeg) + (-1 : Int32))), (3, .inl v2), (0, .inr (.inr (some 94))), (1, .inl ob), (2, .inl on)] [] (ma_put (ma_put (zst S m1) 94 0 (.inl (0 : Int32))) 107 v2.toNatClampNeg (.inl ((m1 107 v2.toNatClampNeg) + (-1 : Int32)))) _
                    refine zw_goto hm_253 dX12_hold_121 (t := 129) rfl ?_
                    refine zw_push hm_253 dX12_hold_129 (v := .inl ((m1 107 v2.toNatClampNeg) + (-1 : Int32))) rfl ?_
                    exact zw_iret hm_253 dX12_hold_131 (HQ _ _ h)
                  · intro hc
                    rw [if_pos (Classical.not_not.mp hc)] at h
                    refine zw_push hm_239 dX12_more_12 (v := .inr (.inr (some 94))) rfl ?_
                    refine zw_gf hm_239 dX12_more_13 (v := .inr (.inr (some 105))) (zT_is (zT_pi (zT_pi (zT_zst hS m1))) s_94) (zT_t (zT_pi (zT_pi (zT_zst hS m1))) s_94) rfl f_12_46_12 (zT_f (zT_pi (zT_pi (zT_zst hS m1))) r_94_37) ?_
                    refine zw_push hm_239 dX12_more_16 (v := .inl v2) rfl ?_
                    refine zw_stk hm_239 dX12_more_17 (st₉ := [.inl v2, .inr (.inr (some 105)), .inl v2, .inr (.inr (some 105))]) rfl rfl ?_
                    obtain ⟨hg, h⟩ := h
                    refine zw_ia hm_239 dX12_more_18 (zT_is (zT_pi (zT_pi (zT_zst hS m1))) s_105) (zT_h (zT_pi (zT_pi (zT_zst hS m1))) s_105) rfl hg ?_
                    show ma_wp X (d - 1) (w - 21) 239 19 [(0, .inr (.inr (some 94))), (1, .inl v2)] [.inl (m1 105 v2.toNatClampNeg), .inl v2, .inr (.inr (some 105))] (ma_put (ma_put (zst S m1) 94 0 (.inl (0 : Int32))) 107 v2.toNatClampNeg (.inl ((m1 107 v2.toNatClampNeg) + (-1 : Int32)))) _
                    refine zw_push hm_239 dX12_more_19 (v := .inl (1 : Int32)) rfl ?_
                    refine zw_stk hm_239 dX12_more_20 (st₉ := [.inl ((m1 105 v2.toNatClampNeg) + (1 : Int32)), .inl v2, .inr (.inr (some 105))]) rfl rfl ?_
                    obtain ⟨hg, h⟩ := h
                    refine zw_ias hm_239 dX12_more_21 (zT_is (zT_pi (zT_pi (zT_zst hS m1))) s_105) (zT_h (zT_pi (zT_pi (zT_zst hS m1))) s_105) rfl hg ?_
                    refine zw_vret hm_239 dX12_more_22 ?_
                    show ma_wp X d w 253 121 [(4, .inl ((m1 107 v2.toNatClampNeg) + (-1 : Int32))), (3, .inl v2), (0, .inr (.inr (some 94))), (1, .inl ob), (2, .inl on)] [] (ma_put (ma_put (ma_put (zst S m1) 94 0 (.inl (0 : Int32))) 107 v2.toNatClampNeg (.inl ((m1 107 v2.toNatClampNeg) + (-1 : Int32)))) 105 v2.toNatClampNeg (.inl ((m1 105 v2.toNatClampNeg) + (1 : Int32)))) _
                    refine zw_goto hm_253 dX12_hold_121 (t := 129) rfl ?_
                    refine zw_push hm_253 dX12_hold_129 (v := .inl ((m1 107 v2.toNatClampNeg) + (-1 : Int32))) rfl ?_
                    exact zw_iret hm_253 dX12_hold_131 (HQ _ _ h)
            · intro hc
              rw [if_neg hc] at h
              refine zw_push hm_253 dX12_hold_96 (v := .inl (1 : Int32)) rfl ?_
              refine zw_goto hm_253 dX12_hold_97 (t := 101) rfl ?_
              refine zw_stk hm_253 dX12_hold_101 (st₉ := [.inl ((m1 107 v2.toNatClampNeg) + (1 : Int32))]) rfl rfl ?_
              refine zw_sto hm_253 dX12_hold_102 [(4, .inl ((m1 107 v2.toNatClampNeg) + (1 : Int32))), (3, .inl v2), (0, .inr (.inr (some 94))), (1, .inl ob), (2, .inl on)] rfl rfl rfl ?_
              refine zw_push hm_253 dX12_hold_104 (v := .inr (.inr (some 94))) rfl ?_
              refine zw_gf hm_253 dX12_hold_105 (v := .inr (.inr (some 107))) (zT_is (zT_pi (zT_zst hS m1)) s_94) (zT_t (zT_pi (zT_zst hS m1)) s_94) rfl f_12_52_12 (zT_f (zT_pi (zT_zst hS m1)) r_94_39) ?_
              refine zw_push hm_253 dX12_hold_108 (v := .inl v2) rfl ?_
              refine zw_push hm_253 dX12_hold_109 (v := .inl ((m1 107 v2.toNatClampNeg) + (1 : Int32))) rfl ?_
              obtain ⟨hg, h⟩ := h
              refine zw_ias hm_253 dX12_hold_111 (zT_is (zT_pi (zT_zst hS m1)) s_107) (zT_h (zT_pi (zT_zst hS m1)) s_107) rfl hg ?_
              refine zw_push hm_253 dX12_hold_112 (v := .inl on) rfl ?_
              refine zw_if0 hm_253 dX12_hold_113 (t := 124) rfl zc0_eq ?_ ?_
              · intro hc
                rw [if_pos hc] at h
                refine zw_push hm_253 dX12_hold_124 (v := .inr (.inr (some 94))) rfl ?_
                refine zw_push hm_253 dX12_hold_125 (v := .inl v2) rfl ?_
                refine zw_cv hm_253 dX12_hold_126 v_12_490_12 hm_241 [.inl v2] [] rfl (zT_rt (zT_pi (zT_pi (zT_zst hS m1))) s_94 rfl) ⟨by omega, by omega⟩ rfl (h _ _ (ma_put (ma_put (zst S m1) 94 0 (.inl (0 : Int32))) 107 v2.toNatClampNeg (.inl ((m1 107 v2.toNatClampNeg) + (1 : Int32)))) _ (by omega) (by omega) (zT_pi (zT_pi (zT_zst hS m1))) rfl (fun o9 m5 hv => ?_))
                obtain ⟨rfl, h⟩ := zmv_of hv
                show ma_wp X d w 253 129 [(4, .inl ((m1 107 v2.toNatClampNeg) + (1 : Int32))), (3, .inl v2), (0, .inr (.inr (some 94))), (1, .inl ob), (2, .inl on)] [] (zst S m5) _
                refine zw_push hm_253 dX12_hold_129 (v := .inl ((m1 107 v2.toNatClampNeg) + (1 : Int32))) rfl ?_
                exact zw_iret hm_253 dX12_hold_131 (HQ _ _ h)
              · intro hc
                rw [if_neg hc] at h
                refine zw_push hm_253 dX12_hold_116 (v := .inr (.inr (some 94))) rfl ?_
                refine zw_push hm_253 dX12_hold_117 (v := .inl v2) rfl ?_
                refine zw_cv hm_253 dX12_hold_118 v_12_484_12 hm_239 [.inl v2] [] rfl (zT_rt (zT_pi (zT_pi (zT_zst hS m1))) s_94 rfl) ⟨by omega, by omega⟩ rfl ?_
                show ma_wp X (d - 1) (w - 21) 239 0 [(0, .inr (.inr (some 94))), (1, .inl v2)] [] (ma_put (ma_put (zst S m1) 94 0 (.inl (0 : Int32))) 107 v2.toNatClampNeg (.inl ((m1 107 v2.toNatClampNeg) + (1 : Int32)))) _
                refine zw_push hm_239 dX12_more_0 (v := .inl v2) rfl ?_
                refine zw_if0 hm_239 dX12_more_1 (t := 22) rfl zc0_lt ?_ ?_
                · intro hc
                  rw [if_pos hc] at h
                  refine zw_vret hm_239 dX12_more_22 ?_
                  show ma_wp X d w 253 121 [(4, .inl ((m1 107 v2.toNatClampNeg) + (1 : Int32))), (3, .inl v2), (0, .inr (.inr (some 94))), (1, .inl ob), (2, .inl on)] [] (ma_put (ma_put (zst S m1) 94 0 (.inl (0 : Int32))) 107 v2.toNatClampNeg (.inl ((m1 107 v2.toNatClampNeg) + (1 : Int32)))) _
                  refine zw_goto hm_253 dX12_hold_121 (t := 129) rfl ?_
                  refine zw_push hm_253 dX12_hold_129 (v := .inl ((m1 107 v2.toNatClampNeg) + (1 : Int32))) rfl ?_
                  exact zw_iret hm_253 dX12_hold_131 (HQ _ _ h)
                · intro hc
                  rw [if_neg hc] at h
                  refine zw_push hm_239 dX12_more_4 (v := .inr (.inr (some 94))) rfl ?_
                  refine zw_gf hm_239 dX12_more_5 (v := .inl (m1 94 10)) (zT_is (zT_pi (zT_pi (zT_zst hS m1))) s_94) (zT_t (zT_pi (zT_pi (zT_zst hS m1))) s_94) rfl f_12_199_12 rfl ?_
                  refine zw_push hm_239 dX12_more_8 (v := .inl (4 : Int32)) rfl ?_
                  refine zw_if2 hm_239 dX12_more_9 (t := 22) rfl zc2_ne ?_ ?_
                  · intro hc
                    rw [if_neg hc] at h
                    refine zw_vret hm_239 dX12_more_22 ?_
                    show ma_wp X d w 253 121 [(4, .inl ((m1 107 v2.toNatClampNeg) + (1 : Int32))), (3, .inl v2), (0, .inr (.inr (some 94))), (1, .inl ob), (2, .inl on)] [] (ma_put (ma_put (zst S m1) 94 0 (.inl (0 : Int32))) 107 v2.toNatClampNeg (.inl ((m1 107 v2.toNatClampNeg) + (1 : Int32)))) _
                    refine zw_goto hm_253 dX12_hold_121 (t := 129) rfl ?_
                    refine zw_push hm_253 dX12_hold_129 (v := .inl ((m1 107 v2.toNatClampNeg) + (1 : Int32))) rfl ?_
                    exact zw_iret hm_253 dX12_hold_131 (HQ _ _ h)
                  · intro hc
                    rw [if_pos (Classical.not_not.mp hc)] at h
                    refine zw_push hm_239 dX12_more_12 (v := .inr (.inr (some 94))) rfl ?_
                    refine zw_gf hm_239 dX12_more_13 (v := .inr (.inr (some 105))) (zT_is (zT_pi (zT_pi (zT_zst hS m1))) s_94) (zT_t (zT_pi (zT_pi (zT_zst hS m1))) s_94) rfl f_12_46_12 (zT_f (zT_pi (zT_pi (zT_zst hS m1))) r_94_37) ?_
                    refine zw_push hm_239 dX12_more_16 (v := .inl v2) rfl ?_
                    refine zw_stk hm_239 dX12_more_17 (st₉ := [.inl v2, .inr (.inr (some 105)), .inl v2, .inr (.inr (some 105))]) rfl rfl ?_
                    obtain ⟨hg, h⟩ := h
                    refine zw_ia hm_239 dX12_more_18 (zT_is (zT_pi (zT_pi (zT_zst hS m1))) s_105) (zT_h (zT_pi (zT_pi (zT_zst hS m1))) s_105) rfl hg ?_
                    show ma_wp X (d - 1) (w - 21) 239 19 [(0, .inr (.inr (some 94))), (1, .inl v2)] [.inl (m1 105 v2.toNatClampNeg), .inl v2, .inr (.inr (some 105))] (ma_put (ma_put (zst S m1) 94 0 (.inl (0 : Int32))) 107 v2.toNatClampNeg (.inl ((m1 107 v2.toNatClampNeg) + (1 : Int32)))) _
                    refine zw_push hm_239 dX12_more_19 (v := .inl (1 : Int32)) rfl ?_
                    refine zw_stk hm_239 dX12_more_20 (st₉ := [.inl ((m1 105 v2.toNatClampNeg) + (1 : Int32)), .inl v2, .inr (.inr (some 105))]) rfl rfl ?_
                    obtain ⟨hg, h⟩ := h
                    refine zw_ias hm_239 dX12_more_21 (zT_is (zT_pi (zT_pi (zT_zst hS m1))) s_105) (zT_h (zT_pi (zT_pi (zT_zst hS m1))) s_105) rfl hg ?_
                    refine zw_vret hm_239 dX12_more_22 ?_
                    show ma_wp X d w 253 121 [(4, .inl ((m1 107 v2.toNatClampNeg) + (1 : Int32))), (3, .inl v2), (0, .inr (.inr (some 94))), (1, .inl ob), (2, .inl on)] [] (ma_put (ma_put (ma_put (zst S m1) 94 0 (.inl (0 : Int32))) 107 v2.toNatClampNeg (.inl ((m1 107 v2.toNatClampNeg) + (1 : Int32)))) 105 v2.toNatClampNeg (.inl ((m1 105 v2.toNatClampNeg) + (1 : Int32)))) _
                    refine zw_goto hm_253 dX12_hold_121 (t := 129) rfl ?_
                    refine zw_push hm_253 dX12_hold_129 (v := .inl ((m1 107 v2.toNatClampNeg) + (1 : Int32))) rfl ?_
                    exact zw_iret hm_253 dX12_hold_131 (HQ _ _ h)
          · intro hc
            rw [if_pos (Classical.not_not.mp hc)] at h
            refine zw_push hm_253 dX12_hold_64 (v := .inr (.inr (some 94))) rfl ?_
            refine zw_gf hm_253 dX12_hold_65 (v := .inr (.inr (some 107))) (zT_is (zT_zst hS m1) s_94) (zT_t (zT_zst hS m1) s_94) rfl f_12_52_12 (zT_f (zT_zst hS m1) r_94_39) ?_
            refine zw_push hm_253 dX12_hold_68 (v := .inl v2) rfl ?_
            obtain ⟨hg, h⟩ := h
            refine zw_ia hm_253 dX12_hold_69 (zT_is (zT_zst hS m1) s_107) (zT_h (zT_zst hS m1) s_107) rfl hg ?_
            show ma_wp X d w 253 70 [(3, .inl v2), (0, .inr (.inr (some 94))), (1, .inl ob), (2, .inl on)] [.inl (m1 107 v2.toNatClampNeg), .inr (.inr (some 94))] (zst S m1) _
            refine zw_if0 hm_253 dX12_hold_70 (t := 77) rfl zc0_ne ?_ ?_
            · intro hc
              rw [if_neg hc] at h
              refine zw_push hm_253 dX12_hold_77 (v := .inl (0 : Int32)) rfl ?_
              refine zw_cv hm_253 dX12_hold_78 v_12_110_12 hm_167 [.inl (0 : Int32)] [] rfl (zT_rt (zT_zst hS m1) s_94 rfl) ⟨by omega, by omega⟩ rfl ?_
              show ma_wp X (d - 1) (w - 21) 167 0 [(0, .inr (.inr (some 94))), (1, .inl (0 : Int32))] [] (zst S m1) _
              refine zw_push hm_167 dX12_fails_0 (v := .inr (.inr (some 94))) rfl ?_
              refine zw_push hm_167 dX12_fails_1 (v := .inl (0 : Int32)) rfl ?_
              refine zw_pf hm_167 dX12_fails_2 (zT_is (zT_zst hS m1) s_94) (zT_t (zT_zst hS m1) s_94) p_12_1_12 zk_int ?_
              refine zw_push hm_167 dX12_fails_5 (v := .inl (0 : Int32)) rfl ?_
              refine zw_if0 hm_167 dX12_fails_6 (t := 13) rfl zc0_eq (fun _ => ?_) (fun hc => absurd (by decide) hc)
              refine zw_push hm_167 dX12_fails_13 (v := .inl (0 : Int32)) rfl ?_
              refine zw_bret hm_167 dX12_fails_14 (by decide) ?_
              show ma_wp X d w 253 81 [(3, .inl v2), (0, .inr (.inr (some 94))), (1, .inl ob), (2, .inl on)] [.inl (0 : Int32)] (ma_put (zst S m1) 94 0 (.inl (0 : Int32))) _
              refine zw_if0 hm_253 dX12_hold_81 (t := 86) rfl zc0_eq (fun _ => ?_) (fun hc => absurd (by decide) hc)
              refine zw_push hm_253 dX12_hold_86 (v := .inr (.inr (some 94))) rfl ?_
              refine zw_gf hm_253 dX12_hold_87 (v := .inr (.inr (some 107))) (zT_is (zT_pi (zT_zst hS m1)) s_94) (zT_t (zT_pi (zT_zst hS m1)) s_94) rfl f_12_52_12 (zT_f (zT_pi (zT_zst hS m1)) r_94_39) ?_
              refine zw_push hm_253 dX12_hold_90 (v := .inl v2) rfl ?_
              obtain ⟨hg, h⟩ := h
              refine zw_ia hm_253 dX12_hold_91 (zT_is (zT_pi (zT_zst hS m1)) s_107) (zT_h (zT_pi (zT_zst hS m1)) s_107) rfl hg ?_
              show ma_wp X d w 253 92 [(3, .inl v2), (0, .inr (.inr (some 94))), (1, .inl ob), (2, .inl on)] [.inl (m1 107 v2.toNatClampNeg)] (ma_put (zst S m1) 94 0 (.inl (0 : Int32))) _
              refine zw_push hm_253 dX12_hold_92 (v := .inl on) rfl ?_
              refine zw_if0 hm_253 dX12_hold_93 (t := 100) rfl zc0_eq ?_ ?_
              · intro hc
                rw [if_pos hc] at h
                refine zw_push hm_253 dX12_hold_100 (v := .inl (-1 : Int32)) rfl ?_
                refine zw_stk hm_253 dX12_hold_101 (st₉ := [.inl ((m1 107 v2.toNatClampNeg) + (-1 : Int32))]) rfl rfl ?_
                refine zw_sto hm_253 dX12_hold_102 [(4, .inl ((m1 107 v2.toNatClampNeg) + (-1 : Int32))), (3, .inl v2), (0, .inr (.inr (some 94))), (1, .inl ob), (2, .inl on)] rfl rfl rfl ?_
                refine zw_push hm_253 dX12_hold_104 (v := .inr (.inr (some 94))) rfl ?_
                refine zw_gf hm_253 dX12_hold_105 (v := .inr (.inr (some 107))) (zT_is (zT_pi (zT_zst hS m1)) s_94) (zT_t (zT_pi (zT_zst hS m1)) s_94) rfl f_12_52_12 (zT_f (zT_pi (zT_zst hS m1)) r_94_39) ?_
                refine zw_push hm_253 dX12_hold_108 (v := .inl v2) rfl ?_
                refine zw_push hm_253 dX12_hold_109 (v := .inl ((m1 107 v2.toNatClampNeg) + (-1 : Int32))) rfl ?_
                obtain ⟨hg, h⟩ := h
                refine zw_ias hm_253 dX12_hold_111 (zT_is (zT_pi (zT_zst hS m1)) s_107) (zT_h (zT_pi (zT_zst hS m1)) s_107) rfl hg ?_
                refine zw_push hm_253 dX12_hold_112 (v := .inl on) rfl ?_
                refine zw_if0 hm_253 dX12_hold_113 (t := 124) rfl zc0_eq ?_ ?_
                · intro hc
                  rw [if_pos hc] at h
                  refine zw_push hm_253 dX12_hold_124 (v := .inr (.inr (some 94))) rfl ?_
                  refine zw_push hm_253 dX12_hold_125 (v := .inl v2) rfl ?_
                  refine zw_cv hm_253 dX12_hold_126 v_12_490_12 hm_241 [.inl v2] [] rfl (zT_rt (zT_pi (zT_pi (zT_zst hS m1))) s_94 rfl) ⟨by omega, by omega⟩ rfl (h _ _ (ma_put (ma_put (zst S m1) 94 0 (.inl (0 : Int32))) 107 v2.toNatClampNeg (.inl ((m1 107 v2.toNatClampNeg) + (-1 : Int32)))) _ (by omega) (by omega) (zT_pi (zT_pi (zT_zst hS m1))) rfl (fun o9 m7 hv => ?_))
                  obtain ⟨rfl, h⟩ := zmv_of hv
                  show ma_wp X d w 253 129 [(4, .inl ((m1 107 v2.toNatClampNeg) + (-1 : Int32))), (3, .inl v2), (0, .inr (.inr (some 94))), (1, .inl ob), (2, .inl on)] [] (zst S m7) _
                  refine zw_push hm_253 dX12_hold_129 (v := .inl ((m1 107 v2.toNatClampNeg) + (-1 : Int32))) rfl ?_
                  exact zw_iret hm_253 dX12_hold_131 (HQ _ _ h)
                · intro hc
                  rw [if_neg hc] at h
                  refine zw_push hm_253 dX12_hold_116 (v := .inr (.inr (some 94))) rfl ?_
                  refine zw_push hm_253 dX12_hold_117 (v := .inl v2) rfl ?_
                  refine zw_cv hm_253 dX12_hold_118 v_12_484_12 hm_239 [.inl v2] [] rfl (zT_rt (zT_pi (zT_pi (zT_zst hS m1))) s_94 rfl) ⟨by omega, by omega⟩ rfl ?_
                  show ma_wp X (d - 1) (w - 21) 239 0 [(0, .inr (.inr (some 94))), (1, .inl v2)] [] (ma_put (ma_put (zst S m1) 94 0 (.inl (0 : Int32))) 107 v2.toNatClampNeg (.inl ((m1 107 v2.toNatClampNeg) + (-1 : Int32)))) _
                  refine zw_push hm_239 dX12_more_0 (v := .inl v2) rfl ?_
                  refine zw_if0 hm_239 dX12_more_1 (t := 22) rfl zc0_lt ?_ ?_
                  · intro hc
                    rw [if_pos hc] at h
                    refine zw_vret hm_239 dX12_more_22 ?_
                    show ma_wp X d w 253 121 [(4, .inl ((m1 107 v2.toNatClampNeg) + (-1 : Int32))), (3, .inl v2), (0, .inr (.inr (some 94))), (1, .inl ob), (2, .inl on)] [] (ma_put (ma_put (zst S m1) 94 0 (.inl (0 : Int32))) 107 v2.toNatClampNeg (.inl ((m1 107 v2.toNatClampNeg) + (-1 : Int32)))) _
                    refine zw_goto hm_253 dX12_hold_121 (t := 129) rfl ?_
                    refine zw_push hm_253 dX12_hold_129 (v := .inl ((m1 107 v2.toNatClampNeg) + (-1 : Int32))) rfl ?_
                    exact zw_iret hm_253 dX12_hold_131 (HQ _ _ h)
                  · intro hc
                    rw [if_neg hc] at h
                    refine zw_push hm_239 dX12_more_4 (v := .inr (.inr (some 94))) rfl ?_
                    refine zw_gf hm_239 dX12_more_5 (v := .inl (m1 94 10)) (zT_is (zT_pi (zT_pi (zT_zst hS m1))) s_94) (zT_t (zT_pi (zT_pi (zT_zst hS m1))) s_94) rfl f_12_199_12 rfl ?_
                    refine zw_push hm_239 dX12_more_8 (v := .inl (4 : Int32)) rfl ?_
                    refine zw_if2 hm_239 dX12_more_9 (t := 22) rfl zc2_ne ?_ ?_
                    · intro hc
                      rw [if_neg hc] at h
                      refine zw_vret hm_239 dX12_more_22 ?_
                      show ma_wp X d w 253 121 [(4, .inl ((m1 107 v2.toNatClampNeg) + (-1 : Int32))), (3, .inl v2), (0, .inr (.inr (some 94))), (1, .inl ob), (2, .inl on)] [] (ma_put (ma_put (zst S m1) 94 0 (.inl (0 : Int32))) 107 v2.toNatClampNeg (.inl ((m1 107 v2.toNatClampNeg) + (-1 : Int32)))) _
                      refine zw_goto hm_253 dX12_hold_121 (t := 129) rfl ?_
                      refine zw_push hm_253 dX12_hold_129 (v := .inl ((m1 107 v2.toNatClampNeg) + (-1 : Int32))) rfl ?_
                      exact zw_iret hm_253 dX12_hold_131 (HQ _ _ h)
                    · intro hc
                      rw [if_pos (Classical.not_not.mp hc)] at h
                      refine zw_push hm_239 dX12_more_12 (v := .inr (.inr (some 94))) rfl ?_
                      refine zw_gf hm_239 dX12_more_13 (v := .inr (.inr (some 105))) (zT_is (zT_pi (zT_pi (zT_zst hS m1))) s_94) (zT_t (zT_pi (zT_pi (zT_zst hS m1))) s_94) rfl f_12_46_12 (zT_f (zT_pi (zT_pi (zT_zst hS m1))) r_94_37) ?_
                      refine zw_push hm_239 dX12_more_16 (v := .inl v2) rfl ?_
                      refine zw_stk hm_239 dX12_more_17 (st₉ := [.inl v2, .inr (.inr (some 105)), .inl v2, .inr (.inr (some 105))]) rfl rfl ?_
                      obtain ⟨hg, h⟩ := h
                      refine zw_ia hm_239 dX12_more_18 (zT_is (zT_pi (zT_pi (zT_zst hS m1))) s_105) (zT_h (zT_pi (zT_pi (zT_zst hS m1))) s_105) rfl hg ?_
                      show ma_wp X (d - 1) (w - 21) 239 19 [(0, .inr (.inr (some 94))), (1, .inl v2)] [.inl (m1 105 v2.toNatClampNeg), .inl v2, .inr (.inr (some 105))] (ma_put (ma_put (zst S m1) 94 0 (.inl (0 : Int32))) 107 v2.toNatClampNeg (.inl ((m1 107 v2.toNatClampNeg) + (-1 : Int32)))) _
                      refine zw_push hm_239 dX12_more_19 (v := .inl (1 : Int32)) rfl ?_
                      refine zw_stk hm_239 dX12_more_20 (st₉ := [.inl ((m1 105 v2.toNatClampNeg) + (1 : Int32)), .inl v2, .inr (.inr (some 105))]) rfl rfl ?_
                      obtain ⟨hg, h⟩ := h
                      refine zw_ias hm_239 dX12_more_21 (zT_is (zT_pi (zT_pi (zT_zst hS m1))) s_105) (zT_h (zT_pi (zT_pi (zT_zst hS m1))) s_105) rfl hg ?_
                      refine zw_vret hm_239 dX12_more_22 ?_
                      show ma_wp X d w 253 121 [(4, .inl ((m1 107 v2.toNatClampNeg) + (-1 : Int32))), (3, .inl v2), (0, .inr (.inr (some 94))), (1, .inl ob), (2, .inl on)] [] (ma_put (ma_put (ma_put (zst S m1) 94 0 (.inl (0 : Int32))) 107 v2.toNatClampNeg (.inl ((m1 107 v2.toNatClampNeg) + (-1 : Int32)))) 105 v2.toNatClampNeg (.inl ((m1 105 v2.toNatClampNeg) + (1 : Int32)))) _
                      refine zw_goto hm_253 dX12_hold_121 (t := 129) rfl ?_
                      refine zw_push hm_253 dX12_hold_129 (v := .inl ((m1 107 v2.toNatClampNeg) + (-1 : Int32))) rfl ?_
                      exact zw_iret hm_253 dX12_hold_131 (HQ _ _ h)
              · intro hc
                rw [if_neg hc] at h
                refine zw_push hm_253 dX12_hold_96 (v := .inl (1 : Int32)) rfl ?_
                refine zw_goto hm_253 dX12_hold_97 (t := 101) rfl ?_
                refine zw_stk hm_253 dX12_hold_101 (st₉ := [.inl ((m1 107 v2.toNatClampNeg) + (1 : Int32))]) rfl rfl ?_
                refine zw_sto hm_253 dX12_hold_102 [(4, .inl ((m1 107 v2.toNatClampNeg) + (1 : Int32))), (3, .inl v2), (0, .inr (.inr (some 94))), (1, .inl ob), (2, .inl on)] rfl rfl rfl ?_
                refine zw_push hm_253 dX12_hold_104 (v := .inr (.inr (some 94))) rfl ?_
                refine zw_gf hm_253 dX12_hold_105 (v := .inr (.inr (some 107))) (zT_is (zT_pi (zT_zst hS m1)) s_94) (zT_t (zT_pi (zT_zst hS m1)) s_94) rfl f_12_52_12 (zT_f (zT_pi (zT_zst hS m1)) r_94_39) ?_
                refine zw_push hm_253 dX12_hold_108 (v := .inl v2) rfl ?_
                refine zw_push hm_253 dX12_hold_109 (v := .inl ((m1 107 v2.toNatClampNeg) + (1 : Int32))) rfl ?_
                obtain ⟨hg, h⟩ := h
                refine zw_ias hm_253 dX12_hold_111 (zT_is (zT_pi (zT_zst hS m1)) s_107) (zT_h (zT_pi (zT_zst hS m1)) s_107) rfl hg ?_
                refine zw_push hm_253 dX12_hold_112 (v := .inl on) rfl ?_
                refine zw_if0 hm_253 dX12_hold_113 (t := 124) rfl zc0_eq ?_ ?_
                · intro hc
                  rw [if_pos hc] at h
                  refine zw_push hm_253 dX12_hold_124 (v := .inr (.inr (some 94))) rfl ?_
                  refine zw_push hm_253 dX12_hold_125 (v := .inl v2) rfl ?_
                  refine zw_cv hm_253 dX12_hold_126 v_12_490_12 hm_241 [.inl v2] [] rfl (zT_rt (zT_pi (zT_pi (zT_zst hS m1))) s_94 rfl) ⟨by omega, by omega⟩ rfl (h _ _ (ma_put (ma_put (zst S m1) 94 0 (.inl (0 : Int32))) 107 v2.toNatClampNeg (.inl ((m1 107 v2.toNatClampNeg) + (1 : Int32)))) _ (by omega) (by omega) (zT_pi (zT_pi (zT_zst hS m1))) rfl (fun o9 m9 hv => ?_))
                  obtain ⟨rfl, h⟩ := zmv_of hv
                  show ma_wp X d w 253 129 [(4, .inl ((m1 107 v2.toNatClampNeg) + (1 : Int32))), (3, .inl v2), (0, .inr (.inr (some 94))), (1, .inl ob), (2, .inl on)] [] (zst S m9) _
                  refine zw_push hm_253 dX12_hold_129 (v := .inl ((m1 107 v2.toNatClampNeg) + (1 : Int32))) rfl ?_
                  exact zw_iret hm_253 dX12_hold_131 (HQ _ _ h)
                · intro hc
                  rw [if_neg hc] at h
                  refine zw_push hm_253 dX12_hold_116 (v := .inr (.inr (some 94))) rfl ?_
                  refine zw_push hm_253 dX12_hold_117 (v := .inl v2) rfl ?_
                  refine zw_cv hm_253 dX12_hold_118 v_12_484_12 hm_239 [.inl v2] [] rfl (zT_rt (zT_pi (zT_pi (zT_zst hS m1))) s_94 rfl) ⟨by omega, by omega⟩ rfl ?_
                  show ma_wp X (d - 1) (w - 21) 239 0 [(0, .inr (.inr (some 94))), (1, .inl v2)] [] (ma_put (ma_put (zst S m1) 94 0 (.inl (0 : Int32))) 107 v2.toNatClampNeg (.inl ((m1 107 v2.toNatClampNeg) + (1 : Int32)))) _
                  refine zw_push hm_239 dX12_more_0 (v := .inl v2) rfl ?_
                  refine zw_if0 hm_239 dX12_more_1 (t := 22) rfl zc0_lt ?_ ?_
                  · intro hc
                    rw [if_pos hc] at h
                    refine zw_vret hm_239 dX12_more_22 ?_
                    show ma_wp X d w 253 121 [(4, .inl ((m1 107 v2.toNatClampNeg) + (1 : Int32))), (3, .inl v2), (0, .inr (.inr (some 94))), (1, .inl ob), (2, .inl on)] [] (ma_put (ma_put (zst S m1) 94 0 (.inl (0 : Int32))) 107 v2.toNatClampNeg (.inl ((m1 107 v2.toNatClampNeg) + (1 : Int32)))) _
                    refine zw_goto hm_253 dX12_hold_121 (t := 129) rfl ?_
                    refine zw_push hm_253 dX12_hold_129 (v := .inl ((m1 107 v2.toNatClampNeg) + (1 : Int32))) rfl ?_
                    exact zw_iret hm_253 dX12_hold_131 (HQ _ _ h)
                  · intro hc
                    rw [if_neg hc] at h
                    refine zw_push hm_239 dX12_more_4 (v := .inr (.inr (some 94))) rfl ?_
                    refine zw_gf hm_239 dX12_more_5 (v := .inl (m1 94 10)) (zT_is (zT_pi (zT_pi (zT_zst hS m1))) s_94) (zT_t (zT_pi (zT_pi (zT_zst hS m1))) s_94) rfl f_12_199_12 rfl ?_
                    refine zw_push hm_239 dX12_more_8 (v := .inl (4 : Int32)) rfl ?_
                    refine zw_if2 hm_239 dX12_more_9 (t := 22) rfl zc2_ne ?_ ?_
                    · intro hc
                      rw [if_neg hc] at h
                      refine zw_vret hm_239 dX12_more_22 ?_
                      show ma_wp X d w 253 121 [(4, .inl ((m1 107 v2.toNatClampNeg) + (1 : Int32))), (3, .inl v2), (0, .inr (.inr (some 94))), (1, .inl ob), (2, .inl on)] [] (ma_put (ma_put (zst S m1) 94 0 (.inl (0 : Int32))) 107 v2.toNatClampNeg (.inl ((m1 107 v2.toNatClampNeg) + (1 : Int32)))) _
                      refine zw_goto hm_253 dX12_hold_121 (t := 129) rfl ?_
                      refine zw_push hm_253 dX12_hold_129 (v := .inl ((m1 107 v2.toNatClampNeg) + (1 : Int32))) rfl ?_
                      exact zw_iret hm_253 dX12_hold_131 (HQ _ _ h)
                    · intro hc
                      rw [if_pos (Classical.not_not.mp hc)] at h
                      refine zw_push hm_239 dX12_more_12 (v := .inr (.inr (some 94))) rfl ?_
                      refine zw_gf hm_239 dX12_more_13 (v := .inr (.inr (some 105))) (zT_is (zT_pi (zT_pi (zT_zst hS m1))) s_94) (zT_t (zT_pi (zT_pi (zT_zst hS m1))) s_94) rfl f_12_46_12 (zT_f (zT_pi (zT_pi (zT_zst hS m1))) r_94_37) ?_
                      refine zw_push hm_239 dX12_more_16 (v := .inl v2) rfl ?_
                      refine zw_stk hm_239 dX12_more_17 (st₉ := [.inl v2, .inr (.inr (some 105)), .inl v2, .inr (.inr (some 105))]) rfl rfl ?_
                      obtain ⟨hg, h⟩ := h
                      refine zw_ia hm_239 dX12_more_18 (zT_is (zT_pi (zT_pi (zT_zst hS m1))) s_105) (zT_h (zT_pi (zT_pi (zT_zst hS m1))) s_105) rfl hg ?_
                      show ma_wp X (d - 1) (w - 21) 239 19 [(0, .inr (.inr (some 94))), (1, .inl v2)] [.inl (m1 105 v2.toNatClampNeg), .inl v2, .inr (.inr (some 105))] (ma_put (ma_put (zst S m1) 94 0 (.inl (0 : Int32))) 107 v2.toNatClampNeg (.inl ((m1 107 v2.toNatClampNeg) + (1 : Int32)))) _
                      refine zw_push hm_239 dX12_more_19 (v := .inl (1 : Int32)) rfl ?_
                      refine zw_stk hm_239 dX12_more_20 (st₉ := [.inl ((m1 105 v2.toNatClampNeg) + (1 : Int32)), .inl v2, .inr (.inr (some 105))]) rfl rfl ?_
                      obtain ⟨hg, h⟩ := h
                      refine zw_ias hm_239 dX12_more_21 (zT_is (zT_pi (zT_pi (zT_zst hS m1))) s_105) (zT_h (zT_pi (zT_pi (zT_zst hS m1))) s_105) rfl hg ?_
                      refine zw_vret hm_239 dX12_more_22 ?_
                      show ma_wp X d w 253 121 [(4, .inl ((m1 107 v2.toNatClampNeg) + (1 : Int32))), (3, .inl v2), (0, .inr (.inr (some 94))), (1, .inl ob), (2, .inl on)] [] (ma_put (ma_put (ma_put (zst S m1) 94 0 (.inl (0 : Int32))) 107 v2.toNatClampNeg (.inl ((m1 107 v2.toNatClampNeg) + (1 : Int32)))) 105 v2.toNatClampNeg (.inl ((m1 105 v2.toNatClampNeg) + (1 : Int32)))) _
                      refine zw_goto hm_253 dX12_hold_121 (t := 129) rfl ?_
                      refine zw_push hm_253 dX12_hold_129 (v := .inl ((m1 107 v2.toNatClampNeg) + (1 : Int32))) rfl ?_
                      exact zw_iret hm_253 dX12_hold_131 (HQ _ _ h)
            · intro hc
              rw [if_pos (Classical.not_not.mp hc)] at h
              refine zw_push hm_253 dX12_hold_73 (v := .inl (3 : Int32)) rfl ?_
              refine zw_goto hm_253 dX12_hold_74 (t := 78) rfl ?_
              refine zw_cv hm_253 dX12_hold_78 v_12_110_12 hm_167 [.inl (3 : Int32)] [] rfl (zT_rt (zT_zst hS m1) s_94 rfl) ⟨by omega, by omega⟩ rfl ?_
              show ma_wp X (d - 1) (w - 21) 167 0 [(0, .inr (.inr (some 94))), (1, .inl (3 : Int32))] [] (zst S m1) _
              refine zw_push hm_167 dX12_fails_0 (v := .inr (.inr (some 94))) rfl ?_
              refine zw_push hm_167 dX12_fails_1 (v := .inl (3 : Int32)) rfl ?_
              refine zw_pf hm_167 dX12_fails_2 (zT_is (zT_zst hS m1) s_94) (zT_t (zT_zst hS m1) s_94) p_12_1_12 zk_int ?_
              refine zw_push hm_167 dX12_fails_5 (v := .inl (3 : Int32)) rfl ?_
              refine zw_if0 hm_167 dX12_fails_6 (t := 13) rfl zc0_eq (fun hc => absurd hc (by decide)) (fun _ => ?_)
              refine zw_push hm_167 dX12_fails_9 (v := .inl (1 : Int32)) rfl ?_
              refine zw_goto hm_167 dX12_fails_10 (t := 14) rfl ?_
              refine zw_bret hm_167 dX12_fails_14 (by decide) ?_
              show ma_wp X d w 253 81 [(3, .inl v2), (0, .inr (.inr (some 94))), (1, .inl ob), (2, .inl on)] [.inl (1 : Int32)] (ma_put (zst S m1) 94 0 (.inl (3 : Int32))) _
              refine zw_if0 hm_253 dX12_hold_81 (t := 86) rfl zc0_eq (fun hc => absurd hc (by decide)) (fun _ => ?_)
              refine zw_push hm_253 dX12_hold_84 (v := .inl (0 : Int32)) rfl ?_
              exact zw_iret hm_253 dX12_hold_85 (HQ _ _ h)
        · intro hc
          rw [if_pos (Classical.not_not.mp hc)] at h
          refine zw_push hm_253 dX12_hold_52 (v := .inr (.inr (some 94))) rfl ?_
          refine zw_push hm_253 dX12_hold_53 (v := .inl v2) rfl ?_
          refine zw_cv hm_253 dX12_hold_54 v_12_314_12 hm_196 [.inl v2] [.inr (.inr (some 94))] rfl (zT_rt (zT_zst hS m1) s_94 rfl) ⟨by omega, by omega⟩ rfl ?_
          show ma_wp X (d - 1) (w - 21) 196 0 [(0, .inr (.inr (some 94))), (1, .inl v2)] [] (zst S m1) _
          refine zw_push hm_196 dX12_isOld_0 (v := .inr (.inr (some 94))) rfl ?_
          refine zw_gf hm_196 dX12_isOld_1 (v := .inr (.inr (some 103))) (zT_is (zT_zst hS m1) s_94) (zT_t (zT_zst hS m1) s_94) rfl f_12_40_12 (zT_f (zT_zst hS m1) r_94_35) ?_
          refine zw_push hm_196 dX12_isOld_4 (v := .inl v2) rfl ?_
          obtain ⟨hg, h⟩ := h
          refine zw_ia hm_196 dX12_isOld_5 (zT_is (zT_zst hS m1) s_103) (zT_h (zT_zst hS m1) s_103) rfl hg ?_
          show ma_wp X (d - 1) (w - 21) 196 6 [(0, .inr (.inr (some 94))), (1, .inl v2)] [.inl (m1 103 v2.toNatClampNeg)] (zst S m1) _
          refine zw_push hm_196 dX12_isOld_6 (v := .inr (.inr (some 94))) rfl ?_
          refine zw_gf hm_196 dX12_isOld_7 (v := .inl (m1 94 14)) (zT_is (zT_zst hS m1) s_94) (zT_t (zT_zst hS m1) s_94) rfl f_12_210_12 rfl ?_
          refine zw_if2 hm_196 dX12_isOld_10 (t := 17) rfl zc2_ge ?_ ?_
          · intro hc
            rw [if_pos hc] at h
            refine zw_push hm_196 dX12_isOld_17 (v := .inl (0 : Int32)) rfl ?_
            refine zw_bret hm_196 dX12_isOld_18 (by decide) ?_
            show ma_wp X d w 253 57 [(3, .inl v2), (0, .inr (.inr (some 94))), (1, .inl ob), (2, .inl on)] [.inl (0 : Int32), .inr (.inr (some 94))] (zst S m1) _
            refine zw_if0 hm_253 dX12_hold_57 (t := 73) rfl zc0_eq (fun _ => ?_) (fun hc => absurd (by decide) hc)
            refine zw_push hm_253 dX12_hold_73 (v := .inl (3 : Int32)) rfl ?_
            refine zw_goto hm_253 dX12_hold_74 (t := 78) rfl ?_
            refine zw_cv hm_253 dX12_hold_78 v_12_110_12 hm_167 [.inl (3 : Int32)] [] rfl (zT_rt (zT_zst hS m1) s_94 rfl) ⟨by omega, by omega⟩ rfl ?_
            show ma_wp X (d - 1) (w - 21) 167 0 [(0, .inr (.inr (some 94))), (1, .inl (3 : Int32))] [] (zst S m1) _
            refine zw_push hm_167 dX12_fails_0 (v := .inr (.inr (some 94))) rfl ?_
            refine zw_push hm_167 dX12_fails_1 (v := .inl (3 : Int32)) rfl ?_
            refine zw_pf hm_167 dX12_fails_2 (zT_is (zT_zst hS m1) s_94) (zT_t (zT_zst hS m1) s_94) p_12_1_12 zk_int ?_
            refine zw_push hm_167 dX12_fails_5 (v := .inl (3 : Int32)) rfl ?_
            refine zw_if0 hm_167 dX12_fails_6 (t := 13) rfl zc0_eq (fun hc => absurd hc (by decide)) (fun _ => ?_)
            refine zw_push hm_167 dX12_fails_9 (v := .inl (1 : Int32)) rfl ?_
            refine zw_goto hm_167 dX12_fails_10 (t := 14) rfl ?_
            refine zw_bret hm_167 dX12_fails_14 (by decide) ?_
            show ma_wp X d w 253 81 [(3, .inl v2), (0, .inr (.inr (some 94))), (1, .inl ob), (2, .inl on)] [.inl (1 : Int32)] (ma_put (zst S m1) 94 0 (.inl (3 : Int32))) _
            refine zw_if0 hm_253 dX12_hold_81 (t := 86) rfl zc0_eq (fun hc => absurd hc (by decide)) (fun _ => ?_)
            refine zw_push hm_253 dX12_hold_84 (v := .inl (0 : Int32)) rfl ?_
            exact zw_iret hm_253 dX12_hold_85 (HQ _ _ h)
          · intro hc
            rw [if_neg hc] at h
            refine zw_push hm_196 dX12_isOld_13 (v := .inl (1 : Int32)) rfl ?_
            refine zw_goto hm_196 dX12_isOld_14 (t := 18) rfl ?_
            refine zw_bret hm_196 dX12_isOld_18 (by decide) ?_
            show ma_wp X d w 253 57 [(3, .inl v2), (0, .inr (.inr (some 94))), (1, .inl ob), (2, .inl on)] [.inl (1 : Int32), .inr (.inr (some 94))] (zst S m1) _
            refine zw_if0 hm_253 dX12_hold_57 (t := 73) rfl zc0_eq (fun hc => absurd hc (by decide)) (fun _ => ?_)
            refine zw_push hm_253 dX12_hold_60 (v := .inl on) rfl ?_
            refine zw_if0 hm_253 dX12_hold_61 (t := 77) rfl zc0_ne ?_ ?_
            · intro hc
              rw [if_neg hc] at h
              refine zw_push hm_253 dX12_hold_77 (v := .inl (0 : Int32)) rfl ?_
              refine zw_cv hm_253 dX12_hold_78 v_12_110_12 hm_167 [.inl (0 : Int32)] [] rfl (zT_rt (zT_zst hS m1) s_94 rfl) ⟨by omega, by omega⟩ rfl ?_
              show ma_wp X (d - 1) (w - 21) 167 0 [(0, .inr (.inr (some 94))), (1, .inl (0 : Int32))] [] (zst S m1) _
              refine zw_push hm_167 dX12_fails_0 (v := .inr (.inr (some 94))) rfl ?_
              refine zw_push hm_167 dX12_fails_1 (v := .inl (0 : Int32)) rfl ?_
              refine zw_pf hm_167 dX12_fails_2 (zT_is (zT_zst hS m1) s_94) (zT_t (zT_zst hS m1) s_94) p_12_1_12 zk_int ?_
              refine zw_push hm_167 dX12_fails_5 (v := .inl (0 : Int32)) rfl ?_
              refine zw_if0 hm_167 dX12_fails_6 (t := 13) rfl zc0_eq (fun _ => ?_) (fun hc => absurd (by decide) hc)
              refine zw_push hm_167 dX12_fails_13 (v := .inl (0 : Int32)) rfl ?_
              refine zw_bret hm_167 dX12_fails_14 (by decide) ?_
              show ma_wp X d w 253 81 [(3, .inl v2), (0, .inr (.inr (some 94))), (1, .inl ob), (2, .inl on)] [.inl (0 : Int32)] (ma_put (zst S m1) 94 0 (.inl (0 : Int32))) _
              refine zw_if0 hm_253 dX12_hold_81 (t := 86) rfl zc0_eq (fun _ => ?_) (fun hc => absurd (by decide) hc)
              refine zw_push hm_253 dX12_hold_86 (v := .inr (.inr (some 94))) rfl ?_
              refine zw_gf hm_253 dX12_hold_87 (v := .inr (.inr (some 107))) (zT_is (zT_pi (zT_zst hS m1)) s_94) (zT_t (zT_pi (zT_zst hS m1)) s_94) rfl f_12_52_12 (zT_f (zT_pi (zT_zst hS m1)) r_94_39) ?_
              refine zw_push hm_253 dX12_hold_90 (v := .inl v2) rfl ?_
              obtain ⟨hg, h⟩ := h
              refine zw_ia hm_253 dX12_hold_91 (zT_is (zT_pi (zT_zst hS m1)) s_107) (zT_h (zT_pi (zT_zst hS m1)) s_107) rfl hg ?_
              show ma_wp X d w 253 92 [(3, .inl v2), (0, .inr (.inr (some 94))), (1, .inl ob), (2, .inl on)] [.inl (m1 107 v2.toNatClampNeg)] (ma_put (zst S m1) 94 0 (.inl (0 : Int32))) _
              refine zw_push hm_253 dX12_hold_92 (v := .inl on) rfl ?_
              refine zw_if0 hm_253 dX12_hold_93 (t := 100) rfl zc0_eq ?_ ?_
              · intro hc
                rw [if_pos hc] at h
                refine zw_push hm_253 dX12_hold_100 (v := .inl (-1 : Int32)) rfl ?_
                refine zw_stk hm_253 dX12_hold_101 (st₉ := [.inl ((m1 107 v2.toNatClampNeg) + (-1 : Int32))]) rfl rfl ?_
                refine zw_sto hm_253 dX12_hold_102 [(4, .inl ((m1 107 v2.toNatClampNeg) + (-1 : Int32))), (3, .inl v2), (0, .inr (.inr (some 94))), (1, .inl ob), (2, .inl on)] rfl rfl rfl ?_
                refine zw_push hm_253 dX12_hold_104 (v := .inr (.inr (some 94))) rfl ?_
                refine zw_gf hm_253 dX12_hold_105 (v := .inr (.inr (some 107))) (zT_is (zT_pi (zT_zst hS m1)) s_94) (zT_t (zT_pi (zT_zst hS m1)) s_94) rfl f_12_52_12 (zT_f (zT_pi (zT_zst hS m1)) r_94_39) ?_
                refine zw_push hm_253 dX12_hold_108 (v := .inl v2) rfl ?_
                refine zw_push hm_253 dX12_hold_109 (v := .inl ((m1 107 v2.toNatClampNeg) + (-1 : Int32))) rfl ?_
                obtain ⟨hg, h⟩ := h
                refine zw_ias hm_253 dX12_hold_111 (zT_is (zT_pi (zT_zst hS m1)) s_107) (zT_h (zT_pi (zT_zst hS m1)) s_107) rfl hg ?_
                refine zw_push hm_253 dX12_hold_112 (v := .inl on) rfl ?_
                refine zw_if0 hm_253 dX12_hold_113 (t := 124) rfl zc0_eq ?_ ?_
                · intro hc
                  rw [if_pos hc] at h
                  refine zw_push hm_253 dX12_hold_124 (v := .inr (.inr (some 94))) rfl ?_
                  refine zw_push hm_253 dX12_hold_125 (v := .inl v2) rfl ?_
                  refine zw_cv hm_253 dX12_hold_126 v_12_490_12 hm_241 [.inl v2] [] rfl (zT_rt (zT_pi (zT_pi (zT_zst hS m1))) s_94 rfl) ⟨by omega, by omega⟩ rfl (h _ _ (ma_put (ma_put (zst S m1) 94 0 (.inl (0 : Int32))) 107 v2.toNatClampNeg (.inl ((m1 107 v2.toNatClampNeg) + (-1 : Int32)))) _ (by omega) (by omega) (zT_pi (zT_pi (zT_zst hS m1))) rfl (fun o9 m11 hv => ?_))
                  obtain ⟨rfl, h⟩ := zmv_of hv
                  show ma_wp X d w 253 129 [(4, .inl ((m1 107 v2.toNatClampNeg) + (-1 : Int32))), (3, .inl v2), (0, .inr (.inr (some 94))), (1, .inl ob), (2, .inl on)] [] (zst S m11) _
                  refine zw_push hm_253 dX12_hold_129 (v := .inl ((m1 107 v2.toNatClampNeg) + (-1 : Int32))) rfl ?_
                  exact zw_iret hm_253 dX12_hold_131 (HQ _ _ h)
                · intro hc
                  rw [if_neg hc] at h
                  refine zw_push hm_253 dX12_hold_116 (v := .inr (.inr (some 94))) rfl ?_
                  refine zw_push hm_253 dX12_hold_117 (v := .inl v2) rfl ?_
                  refine zw_cv hm_253 dX12_hold_118 v_12_484_12 hm_239 [.inl v2] [] rfl (zT_rt (zT_pi (zT_pi (zT_zst hS m1))) s_94 rfl) ⟨by omega, by omega⟩ rfl ?_
                  show ma_wp X (d - 1) (w - 21) 239 0 [(0, .inr (.inr (some 94))), (1, .inl v2)] [] (ma_put (ma_put (zst S m1) 94 0 (.inl (0 : Int32))) 107 v2.toNatClampNeg (.inl ((m1 107 v2.toNatClampNeg) + (-1 : Int32)))) _
                  refine zw_push hm_239 dX12_more_0 (v := .inl v2) rfl ?_
                  refine zw_if0 hm_239 dX12_more_1 (t := 22) rfl zc0_lt ?_ ?_
                  · intro hc
                    rw [if_pos hc] at h
                    refine zw_vret hm_239 dX12_more_22 ?_
                    show ma_wp X d w 253 121 [(4, .inl ((m1 107 v2.toNatClampNeg) + (-1 : Int32))), (3, .inl v2), (0, .inr (.inr (some 94))), (1, .inl ob), (2, .inl on)] [] (ma_put (ma_put (zst S m1) 94 0 (.inl (0 : Int32))) 107 v2.toNatClampNeg (.inl ((m1 107 v2.toNatClampNeg) + (-1 : Int32)))) _
                    refine zw_goto hm_253 dX12_hold_121 (t := 129) rfl ?_
                    refine zw_push hm_253 dX12_hold_129 (v := .inl ((m1 107 v2.toNatClampNeg) + (-1 : Int32))) rfl ?_
                    exact zw_iret hm_253 dX12_hold_131 (HQ _ _ h)
                  · intro hc
                    rw [if_neg hc] at h
                    refine zw_push hm_239 dX12_more_4 (v := .inr (.inr (some 94))) rfl ?_
                    refine zw_gf hm_239 dX12_more_5 (v := .inl (m1 94 10)) (zT_is (zT_pi (zT_pi (zT_zst hS m1))) s_94) (zT_t (zT_pi (zT_pi (zT_zst hS m1))) s_94) rfl f_12_199_12 rfl ?_
                    refine zw_push hm_239 dX12_more_8 (v := .inl (4 : Int32)) rfl ?_
                    refine zw_if2 hm_239 dX12_more_9 (t := 22) rfl zc2_ne ?_ ?_
                    · intro hc
                      rw [if_neg hc] at h
                      refine zw_vret hm_239 dX12_more_22 ?_
                      show ma_wp X d w 253 121 [(4, .inl ((m1 107 v2.toNatClampNeg) + (-1 : Int32))), (3, .inl v2), (0, .inr (.inr (some 94))), (1, .inl ob), (2, .inl on)] [] (ma_put (ma_put (zst S m1) 94 0 (.inl (0 : Int32))) 107 v2.toNatClampNeg (.inl ((m1 107 v2.toNatClampNeg) + (-1 : Int32)))) _
                      refine zw_goto hm_253 dX12_hold_121 (t := 129) rfl ?_
                      refine zw_push hm_253 dX12_hold_129 (v := .inl ((m1 107 v2.toNatClampNeg) + (-1 : Int32))) rfl ?_
                      exact zw_iret hm_253 dX12_hold_131 (HQ _ _ h)
                    · intro hc
                      rw [if_pos (Classical.not_not.mp hc)] at h
                      refine zw_push hm_239 dX12_more_12 (v := .inr (.inr (some 94))) rfl ?_
                      refine zw_gf hm_239 dX12_more_13 (v := .inr (.inr (some 105))) (zT_is (zT_pi (zT_pi (zT_zst hS m1))) s_94) (zT_t (zT_pi (zT_pi (zT_zst hS m1))) s_94) rfl f_12_46_12 (zT_f (zT_pi (zT_pi (zT_zst hS m1))) r_94_37) ?_
                      refine zw_push hm_239 dX12_more_16 (v := .inl v2) rfl ?_
                      refine zw_stk hm_239 dX12_more_17 (st₉ := [.inl v2, .inr (.inr (some 105)), .inl v2, .inr (.inr (some 105))]) rfl rfl ?_
                      obtain ⟨hg, h⟩ := h
                      refine zw_ia hm_239 dX12_more_18 (zT_is (zT_pi (zT_pi (zT_zst hS m1))) s_105) (zT_h (zT_pi (zT_pi (zT_zst hS m1))) s_105) rfl hg ?_
                      show ma_wp X (d - 1) (w - 21) 239 19 [(0, .inr (.inr (some 94))), (1, .inl v2)] [.inl (m1 105 v2.toNatClampNeg), .inl v2, .inr (.inr (some 105))] (ma_put (ma_put (zst S m1) 94 0 (.inl (0 : Int32))) 107 v2.toNatClampNeg (.inl ((m1 107 v2.toNatClampNeg) + (-1 : Int32)))) _
                      refine zw_push hm_239 dX12_more_19 (v := .inl (1 : Int32)) rfl ?_
                      refine zw_stk hm_239 dX12_more_20 (st₉ := [.inl ((m1 105 v2.toNatClampNeg) + (1 : Int32)), .inl v2, .inr (.inr (some 105))]) rfl rfl ?_
                      obtain ⟨hg, h⟩ := h
                      refine zw_ias hm_239 dX12_more_21 (zT_is (zT_pi (zT_pi (zT_zst hS m1))) s_105) (zT_h (zT_pi (zT_pi (zT_zst hS m1))) s_105) rfl hg ?_
                      refine zw_vret hm_239 dX12_more_22 ?_
                      show ma_wp X d w 253 121 [(4, .inl ((m1 107 v2.toNatClampNeg) + (-1 : Int32))), (3, .inl v2), (0, .inr (.inr (some 94))), (1, .inl ob), (2, .inl on)] [] (ma_put (ma_put (ma_put (zst S m1) 94 0 (.inl (0 : Int32))) 107 v2.toNatClampNeg (.inl ((m1 107 v2.toNatClampNeg) + (-1 : Int32)))) 105 v2.toNatClampNeg (.inl ((m1 105 v2.toNatClampNeg) + (1 : Int32)))) _
                      refine zw_goto hm_253 dX12_hold_121 (t := 129) rfl ?_
                      refine zw_push hm_253 dX12_hold_129 (v := .inl ((m1 107 v2.toNatClampNeg) + (-1 : Int32))) rfl ?_
                      exact zw_iret hm_253 dX12_hold_131 (HQ _ _ h)
              · intro hc
                rw [if_neg hc] at h
                refine zw_push hm_253 dX12_hold_96 (v := .inl (1 : Int32)) rfl ?_
                refine zw_goto hm_253 dX12_hold_97 (t := 101) rfl ?_
                refine zw_stk hm_253 dX12_hold_101 (st₉ := [.inl ((m1 107 v2.toNatClampNeg) + (1 : Int32))]) rfl rfl ?_
                refine zw_sto hm_253 dX12_hold_102 [(4, .inl ((m1 107 v2.toNatClampNeg) + (1 : Int32))), (3, .inl v2), (0, .inr (.inr (some 94))), (1, .inl ob), (2, .inl on)] rfl rfl rfl ?_
                refine zw_push hm_253 dX12_hold_104 (v := .inr (.inr (some 94))) rfl ?_
                refine zw_gf hm_253 dX12_hold_105 (v := .inr (.inr (some 107))) (zT_is (zT_pi (zT_zst hS m1)) s_94) (zT_t (zT_pi (zT_zst hS m1)) s_94) rfl f_12_52_12 (zT_f (zT_pi (zT_zst hS m1)) r_94_39) ?_
                refine zw_push hm_253 dX12_hold_108 (v := .inl v2) rfl ?_
                refine zw_push hm_253 dX12_hold_109 (v := .inl ((m1 107 v2.toNatClampNeg) + (1 : Int32))) rfl ?_
                obtain ⟨hg, h⟩ := h
                refine zw_ias hm_253 dX12_hold_111 (zT_is (zT_pi (zT_zst hS m1)) s_107) (zT_h (zT_pi (zT_zst hS m1)) s_107) rfl hg ?_
                refine zw_push hm_253 dX12_hold_112 (v := .inl on) rfl ?_
                refine zw_if0 hm_253 dX12_hold_113 (t := 124) rfl zc0_eq ?_ ?_
                · intro hc
                  rw [if_pos hc] at h
                  refine zw_push hm_253 dX12_hold_124 (v := .inr (.inr (some 94))) rfl ?_
                  refine zw_push hm_253 dX12_hold_125 (v := .inl v2) rfl ?_
                  refine zw_cv hm_253 dX12_hold_126 v_12_490_12 hm_241 [.inl v2] [] rfl (zT_rt (zT_pi (zT_pi (zT_zst hS m1))) s_94 rfl) ⟨by omega, by omega⟩ rfl (h _ _ (ma_put (ma_put (zst S m1) 94 0 (.inl (0 : Int32))) 107 v2.toNatClampNeg (.inl ((m1 107 v2.toNatClampNeg) + (1 : Int32)))) _ (by omega) (by omega) (zT_pi (zT_pi (zT_zst hS m1))) rfl (fun o9 m13 hv => ?_))
                  obtain ⟨rfl, h⟩ := zmv_of hv
                  show ma_wp X d w 253 129 [(4, .inl ((m1 107 v2.toNatClampNeg) + (1 : Int32))), (3, .inl v2), (0, .inr (.inr (some 94))), (1, .inl ob), (2, .inl on)] [] (zst S m13) _
                  refine zw_push hm_253 dX12_hold_129 (v := .inl ((m1 107 v2.toNatClampNeg) + (1 : Int32))) rfl ?_
                  exact zw_iret hm_253 dX12_hold_131 (HQ _ _ h)
                · intro hc
                  rw [if_neg hc] at h
                  refine zw_push hm_253 dX12_hold_116 (v := .inr (.inr (some 94))) rfl ?_
                  refine zw_push hm_253 dX12_hold_117 (v := .inl v2) rfl ?_
                  refine zw_cv hm_253 dX12_hold_118 v_12_484_12 hm_239 [.inl v2] [] rfl (zT_rt (zT_pi (zT_pi (zT_zst hS m1))) s_94 rfl) ⟨by omega, by omega⟩ rfl ?_
                  show ma_wp X (d - 1) (w - 21) 239 0 [(0, .inr (.inr (some 94))), (1, .inl v2)] [] (ma_put (ma_put (zst S m1) 94 0 (.inl (0 : Int32))) 107 v2.toNatClampNeg (.inl ((m1 107 v2.toNatClampNeg) + (1 : Int32)))) _
                  refine zw_push hm_239 dX12_more_0 (v := .inl v2) rfl ?_
                  refine zw_if0 hm_239 dX12_more_1 (t := 22) rfl zc0_lt ?_ ?_
                  · intro hc
                    rw [if_pos hc] at h
                    refine zw_vret hm_239 dX12_more_22 ?_
                    show ma_wp X d w 253 121 [(4, .inl ((m1 107 v2.toNatClampNeg) + (1 : Int32))), (3, .inl v2), (0, .inr (.inr (some 94))), (1, .inl ob), (2, .inl on)] [] (ma_put (ma_put (zst S m1) 94 0 (.inl (0 : Int32))) 107 v2.toNatClampNeg (.inl ((m1 107 v2.toNatClampNeg) + (1 : Int32)))) _
                    refine zw_goto hm_253 dX12_hold_121 (t := 129) rfl ?_
                    refine zw_push hm_253 dX12_hold_129 (v := .inl ((m1 107 v2.toNatClampNeg) + (1 : Int32))) rfl ?_
                    exact zw_iret hm_253 dX12_hold_131 (HQ _ _ h)
                  · intro hc
                    rw [if_neg hc] at h
                    refine zw_push hm_239 dX12_more_4 (v := .inr (.inr (some 94))) rfl ?_
                    refine zw_gf hm_239 dX12_more_5 (v := .inl (m1 94 10)) (zT_is (zT_pi (zT_pi (zT_zst hS m1))) s_94) (zT_t (zT_pi (zT_pi (zT_zst hS m1))) s_94) rfl f_12_199_12 rfl ?_
                    refine zw_push hm_239 dX12_more_8 (v := .inl (4 : Int32)) rfl ?_
                    refine zw_if2 hm_239 dX12_more_9 (t := 22) rfl zc2_ne ?_ ?_
                    · intro hc
                      rw [if_neg hc] at h
                      refine zw_vret hm_239 dX12_more_22 ?_
                      show ma_wp X d w 253 121 [(4, .inl ((m1 107 v2.toNatClampNeg) + (1 : Int32))), (3, .inl v2), (0, .inr (.inr (some 94))), (1, .inl ob), (2, .inl on)] [] (ma_put (ma_put (zst S m1) 94 0 (.inl (0 : Int32))) 107 v2.toNatClampNeg (.inl ((m1 107 v2.toNatClampNeg) + (1 : Int32)))) _
                      refine zw_goto hm_253 dX12_hold_121 (t := 129) rfl ?_
                      refine zw_push hm_253 dX12_hold_129 (v := .inl ((m1 107 v2.toNatClampNeg) + (1 : Int32))) rfl ?_
                      exact zw_iret hm_253 dX12_hold_131 (HQ _ _ h)
                    · intro hc
                      rw [if_pos (Classical.not_not.mp hc)] at h
                      refine zw_push hm_239 dX12_more_12 (v := .inr (.inr (some 94))) rfl ?_
                      refine zw_gf hm_239 dX12_more_13 (v := .inr (.inr (some 105))) (zT_is (zT_pi (zT_pi (zT_zst hS m1))) s_94) (zT_t (zT_pi (zT_pi (zT_zst hS m1))) s_94) rfl f_12_46_12 (zT_f (zT_pi (zT_pi (zT_zst hS m1))) r_94_37) ?_
                      refine zw_push hm_239 dX12_more_16 (v := .inl v2) rfl ?_
                      refine zw_stk hm_239 dX12_more_17 (st₉ := [.inl v2, .inr (.inr (some 105)), .inl v2, .inr (.inr (some 105))]) rfl rfl ?_
                      obtain ⟨hg, h⟩ := h
                      refine zw_ia hm_239 dX12_more_18 (zT_is (zT_pi (zT_pi (zT_zst hS m1))) s_105) (zT_h (zT_pi (zT_pi (zT_zst hS m1))) s_105) rfl hg ?_
                      show ma_wp X (d - 1) (w - 21) 239 19 [(0, .inr (.inr (some 94))), (1, .inl v2)] [.inl (m1 105 v2.toNatClampNeg), .inl v2, .inr (.inr (some 105))] (ma_put (ma_put (zst S m1) 94 0 (.inl (0 : Int32))) 107 v2.toNatClampNeg (.inl ((m1 107 v2.toNatClampNeg) + (1 : Int32)))) _
                      refine zw_push hm_239 dX12_more_19 (v := .inl (1 : Int32)) rfl ?_
                      refine zw_stk hm_239 dX12_more_20 (st₉ := [.inl ((m1 105 v2.toNatClampNeg) + (1 : Int32)), .inl v2, .inr (.inr (some 105))]) rfl rfl ?_
                      obtain ⟨hg, h⟩ := h
                      refine zw_ias hm_239 dX12_more_21 (zT_is (zT_pi (zT_pi (zT_zst hS m1))) s_105) (zT_h (zT_pi (zT_pi (zT_zst hS m1))) s_105) rfl hg ?_
                      refine zw_vret hm_239 dX12_more_22 ?_
                      show ma_wp X d w 253 121 [(4, .inl ((m1 107 v2.toNatClampNeg) + (1 : Int32))), (3, .inl v2), (0, .inr (.inr (some 94))), (1, .inl ob), (2, .inl on)] [] (ma_put (ma_put (ma_put (zst S m1) 94 0 (.inl (0 : Int32))) 107 v2.toNatClampNeg (.inl ((m1 107 v2.toNatClampNeg) + (1 : Int32)))) 105 v2.toNatClampNeg (.inl ((m1 105 v2.toNatClampNeg) + (1 : Int32)))) _
                      refine zw_goto hm_253 dX12_hold_121 (t := 129) rfl ?_
                      refine zw_push hm_253 dX12_hold_129 (v := .inl ((m1 107 v2.toNatClampNeg) + (1 : Int32))) rfl ?_
                      exact zw_iret hm_253 dX12_hold_131 (HQ _ _ h)
            · intro hc
              rw [if_pos (Classical.not_not.mp hc)] at h
              refine zw_push hm_253 dX12_hold_64 (v := .inr (.inr (some 94))) rfl ?_
              refine zw_gf hm_253 dX12_hold_65 (v := .inr (.inr (some 107))) (zT_is (zT_zst hS m1) s_94) (zT_t (zT_zst hS m1) s_94) rfl f_12_52_12 (zT_f (zT_zst hS m1) r_94_39) ?_
              refine zw_push hm_253 dX12_hold_68 (v := .inl v2) rfl ?_
              obtain ⟨hg, h⟩ := h
              refine zw_ia hm_253 dX12_hold_69 (zT_is (zT_zst hS m1) s_107) (zT_h (zT_zst hS m1) s_107) rfl hg ?_
              show ma_wp X d w 253 70 [(3, .inl v2), (0, .inr (.inr (some 94))), (1, .inl ob), (2, .inl on)] [.inl (m1 107 v2.toNatClampNeg), .inr (.inr (some 94))] (zst S m1) _
              refine zw_if0 hm_253 dX12_hold_70 (t := 77) rfl zc0_ne ?_ ?_
              · intro hc
                rw [if_neg hc] at h
                refine zw_push hm_253 dX12_hold_77 (v := .inl (0 : Int32)) rfl ?_
                refine zw_cv hm_253 dX12_hold_78 v_12_110_12 hm_167 [.inl (0 : Int32)] [] rfl (zT_rt (zT_zst hS m1) s_94 rfl) ⟨by omega, by omega⟩ rfl ?_
                show ma_wp X (d - 1) (w - 21) 167 0 [(0, .inr (.inr (some 94))), (1, .inl (0 : Int32))] [] (zst S m1) _
                refine zw_push hm_167 dX12_fails_0 (v := .inr (.inr (some 94))) rfl ?_
                refine zw_push hm_167 dX12_fails_1 (v := .inl (0 : Int32)) rfl ?_
                refine zw_pf hm_167 dX12_fails_2 (zT_is (zT_zst hS m1) s_94) (zT_t (zT_zst hS m1) s_94) p_12_1_12 zk_int ?_
                refine zw_push hm_167 dX12_fails_5 (v := .inl (0 : Int32)) rfl ?_
                refine zw_if0 hm_167 dX12_fails_6 (t := 13) rfl zc0_eq (fun _ => ?_) (fun hc => absurd (by decide) hc)
                refine zw_push hm_167 dX12_fails_13 (v := .inl (0 : Int32)) rfl ?_
                refine zw_bret hm_167 dX12_fails_14 (by decide) ?_
                show ma_wp X d w 253 81 [(3, .inl v2), (0, .inr (.inr (some 94))), (1, .inl ob), (2, .inl on)] [.inl (0 : Int32)] (ma_put (zst S m1) 94 0 (.inl (0 : Int32))) _
                refine zw_if0 hm_253 dX12_hold_81 (t := 86) rfl zc0_eq (fun _ => ?_) (fun hc => absurd (by decide) hc)
                refine zw_push hm_253 dX12_hold_86 (v := .inr (.inr (some 94))) rfl ?_
                refine zw_gf hm_253 dX12_hold_87 (v := .inr (.inr (some 107))) (zT_is (zT_pi (zT_zst hS m1)) s_94) (zT_t (zT_pi (zT_zst hS m1)) s_94) rfl f_12_52_12 (zT_f (zT_pi (zT_zst hS m1)) r_94_39) ?_
                refine zw_push hm_253 dX12_hold_90 (v := .inl v2) rfl ?_
                obtain ⟨hg, h⟩ := h
                refine zw_ia hm_253 dX12_hold_91 (zT_is (zT_pi (zT_zst hS m1)) s_107) (zT_h (zT_pi (zT_zst hS m1)) s_107) rfl hg ?_
                show ma_wp X d w 253 92 [(3, .inl v2), (0, .inr (.inr (some 94))), (1, .inl ob), (2, .inl on)] [.inl (m1 107 v2.toNatClampNeg)] (ma_put (zst S m1) 94 0 (.inl (0 : Int32))) _
                refine zw_push hm_253 dX12_hold_92 (v := .inl on) rfl ?_
                refine zw_if0 hm_253 dX12_hold_93 (t := 100) rfl zc0_eq ?_ ?_
                · intro hc
                  rw [if_pos hc] at h
                  refine zw_push hm_253 dX12_hold_100 (v := .inl (-1 : Int32)) rfl ?_
                  refine zw_stk hm_253 dX12_hold_101 (st₉ := [.inl ((m1 107 v2.toNatClampNeg) + (-1 : Int32))]) rfl rfl ?_
                  refine zw_sto hm_253 dX12_hold_102 [(4, .inl ((m1 107 v2.toNatClampNeg) + (-1 : Int32))), (3, .inl v2), (0, .inr (.inr (some 94))), (1, .inl ob), (2, .inl on)] rfl rfl rfl ?_
                  refine zw_push hm_253 dX12_hold_104 (v := .inr (.inr (some 94))) rfl ?_
                  refine zw_gf hm_253 dX12_hold_105 (v := .inr (.inr (some 107))) (zT_is (zT_pi (zT_zst hS m1)) s_94) (zT_t (zT_pi (zT_zst hS m1)) s_94) rfl f_12_52_12 (zT_f (zT_pi (zT_zst hS m1)) r_94_39) ?_
                  refine zw_push hm_253 dX12_hold_108 (v := .inl v2) rfl ?_
                  refine zw_push hm_253 dX12_hold_109 (v := .inl ((m1 107 v2.toNatClampNeg) + (-1 : Int32))) rfl ?_
                  obtain ⟨hg, h⟩ := h
                  refine zw_ias hm_253 dX12_hold_111 (zT_is (zT_pi (zT_zst hS m1)) s_107) (zT_h (zT_pi (zT_zst hS m1)) s_107) rfl hg ?_
                  refine zw_push hm_253 dX12_hold_112 (v := .inl on) rfl ?_
                  refine zw_if0 hm_253 dX12_hold_113 (t := 124) rfl zc0_eq ?_ ?_
                  · intro hc
                    rw [if_pos hc] at h
                    refine zw_push hm_253 dX12_hold_124 (v := .inr (.inr (some 94))) rfl ?_
                    refine zw_push hm_253 dX12_hold_125 (v := .inl v2) rfl ?_
                    refine zw_cv hm_253 dX12_hold_126 v_12_490_12 hm_241 [.inl v2] [] rfl (zT_rt (zT_pi (zT_pi (zT_zst hS m1))) s_94 rfl) ⟨by omega, by omega⟩ rfl (h _ _ (ma_put (ma_put (zst S m1) 94 0 (.inl (0 : Int32))) 107 v2.toNatClampNeg (.inl ((m1 107 v2.toNatClampNeg) + (-1 : Int32)))) _ (by omega) (by omega) (zT_pi (zT_pi (zT_zst hS m1))) rfl (fun o9 m15 hv => ?_))
                    obtain ⟨rfl, h⟩ := zmv_of hv
                    show ma_wp X d w 253 129 [(4, .inl ((m1 107 v2.toNatClampNeg) + (-1 : Int32))), (3, .inl v2), (0, .inr (.inr (some 94))), (1, .inl ob), (2, .inl on)] [] (zst S m15) _
                    refine zw_push hm_253 dX12_hold_129 (v := .inl ((m1 107 v2.toNatClampNeg) + (-1 : Int32))) rfl ?_
                    exact zw_iret hm_253 dX12_hold_131 (HQ _ _ h)
                  · intro hc
                    rw [if_neg hc] at h
                    refine zw_push hm_253 dX12_hold_116 (v := .inr (.inr (some 94))) rfl ?_
                    refine zw_push hm_253 dX12_hold_117 (v := .inl v2) rfl ?_
                    refine zw_cv hm_253 dX12_hold_118 v_12_484_12 hm_239 [.inl v2] [] rfl (zT_rt (zT_pi (zT_pi (zT_zst hS m1))) s_94 rfl) ⟨by omega, by omega⟩ rfl ?_
                    show ma_wp X (d - 1) (w - 21) 239 0 [(0, .inr (.inr (some 94))), (1, .inl v2)] [] (ma_put (ma_put (zst S m1) 94 0 (.inl (0 : Int32))) 107 v2.toNatClampNeg (.inl ((m1 107 v2.toNatClampNeg) + (-1 : Int32)))) _
                    refine zw_push hm_239 dX12_more_0 (v := .inl v2) rfl ?_
                    refine zw_if0 hm_239 dX12_more_1 (t := 22) rfl zc0_lt ?_ ?_
                    · intro hc
                      rw [if_pos hc] at h
                      refine zw_vret hm_239 dX12_more_22 ?_
                      show ma_wp X d w 253 121 [(4, .inl ((m1 107 v2.toNatClampNeg) + (-1 : Int32))), (3, .inl v2), (0, .inr (.inr (some 94))), (1, .inl ob), (2, .inl on)] [] (ma_put (ma_put (zst S m1) 94 0 (.inl (0 : Int32))) 107 v2.toNatClampNeg (.inl ((m1 107 v2.toNatClampNeg) + (-1 : Int32)))) _
                      refine zw_goto hm_253 dX12_hold_121 (t := 129) rfl ?_
                      refine zw_push hm_253 dX12_hold_129 (v := .inl ((m1 107 v2.toNatClampNeg) + (-1 : Int32))) rfl ?_
                      exact zw_iret hm_253 dX12_hold_131 (HQ _ _ h)
                    · intro hc
                      rw [if_neg hc] at h
                      refine zw_push hm_239 dX12_more_4 (v := .inr (.inr (some 94))) rfl ?_
                      refine zw_gf hm_239 dX12_more_5 (v := .inl (m1 94 10)) (zT_is (zT_pi (zT_pi (zT_zst hS m1))) s_94) (zT_t (zT_pi (zT_pi (zT_zst hS m1))) s_94) rfl f_12_199_12 rfl ?_
                      refine zw_push hm_239 dX12_more_8 (v := .inl (4 : Int32)) rfl ?_
                      refine zw_if2 hm_239 dX12_more_9 (t := 22) rfl zc2_ne ?_ ?_
                      · intro hc
                        rw [if_neg hc] at h
                        refine zw_vret hm_239 dX12_more_22 ?_
                        show ma_wp X d w 253 121 [(4, .inl ((m1 107 v2.toNatClampNeg) + (-1 : Int32))), (3, .inl v2), (0, .inr (.inr (some 94))), (1, .inl ob), (2, .inl on)] [] (ma_put (ma_put (zst S m1) 94 0 (.inl (0 : Int32))) 107 v2.toNatClampNeg (.inl ((m1 107 v2.toNatClampNeg) + (-1 : Int32)))) _
                        refine zw_goto hm_253 dX12_hold_121 (t := 129) rfl ?_
                        refine zw_push hm_253 dX12_hold_129 (v := .inl ((m1 107 v2.toNatClampNeg) + (-1 : Int32))) rfl ?_
                        exact zw_iret hm_253 dX12_hold_131 (HQ _ _ h)
                      · intro hc
                        rw [if_pos (Classical.not_not.mp hc)] at h
                        refine zw_push hm_239 dX12_more_12 (v := .inr (.inr (some 94))) rfl ?_
                        refine zw_gf hm_239 dX12_more_13 (v := .inr (.inr (some 105))) (zT_is (zT_pi (zT_pi (zT_zst hS m1))) s_94) (zT_t (zT_pi (zT_pi (zT_zst hS m1))) s_94) rfl f_12_46_12 (zT_f (zT_pi (zT_pi (zT_zst hS m1))) r_94_37) ?_
                        refine zw_push hm_239 dX12_more_16 (v := .inl v2) rfl ?_
                        refine zw_stk hm_239 dX12_more_17 (st₉ := [.inl v2, .inr (.inr (some 105)), .inl v2, .inr (.inr (some 105))]) rfl rfl ?_
                        obtain ⟨hg, h⟩ := h
                        refine zw_ia hm_239 dX12_more_18 (zT_is (zT_pi (zT_pi (zT_zst hS m1))) s_105) (zT_h (zT_pi (zT_pi (zT_zst hS m1))) s_105) rfl hg ?_
                        show ma_wp X (d - 1) (w - 21) 239 19 [(0, .inr (.inr (some 94))), (1, .inl v2)] [.inl (m1 105 v2.toNatClampNeg), .inl v2, .inr (.inr (some 105))] (ma_put (ma_put (zst S m1) 94 0 (.inl (0 : Int32))) 107 v2.toNatClampNeg (.inl ((m1 107 v2.toNatClampNeg) + (-1 : Int32)))) _
                        refine zw_push hm_239 dX12_more_19 (v := .inl (1 : Int32)) rfl ?_
                        refine zw_stk hm_239 dX12_more_20 (st₉ := [.inl ((m1 105 v2.toNatClampNeg) + (1 : Int32)), .inl v2, .inr (.inr (some 105))]) rfl rfl ?_
                        obtain ⟨hg, h⟩ := h
                        refine zw_ias hm_239 dX12_more_21 (zT_is (zT_pi (zT_pi (zT_zst hS m1))) s_105) (zT_h (zT_pi (zT_pi (zT_zst hS m1))) s_105) rfl hg ?_
                        refine zw_vret hm_239 dX12_more_22 ?_
                        show ma_wp X d w 253 121 [(4, .inl ((m1 107 v2.toNatClampNeg) + (-1 : Int32))), (3, .inl v2), (0, .inr (.inr (some 94))), (1, .inl ob), (2, .inl on)] [] (ma_put (ma_put (ma_put (zst S m1) 94 0 (.inl (0 : Int32))) 107 v2.toNatClampNeg (.inl ((m1 107 v2.toNatClampNeg) + (-1 : Int32)))) 105 v2.toNatClampNeg (.inl ((m1 105 v2.toNatClampNeg) + (1 : Int32)))) _
                        refine zw_goto hm_253 dX12_hold_121 (t := 129) rfl ?_
                        refine zw_push hm_253 dX12_hold_129 (v := .inl ((m1 107 v2.toNatClampNeg) + (-1 : Int32))) rfl ?_
                        exact zw_iret hm_253 dX12_hold_131 (HQ _ _ h)
                · intro hc
                  rw [if_neg hc] at h
                  refine zw_push hm_253 dX12_hold_96 (v := .inl (1 : Int32)) rfl ?_
                  refine zw_goto hm_253 dX12_hold_97 (t := 101) rfl ?_
                  refine zw_stk hm_253 dX12_hold_101 (st₉ := [.inl ((m1 107 v2.toNatClampNeg) + (1 : Int32))]) rfl rfl ?_
                  refine zw_sto hm_253 dX12_hold_102 [(4, .inl ((m1 107 v2.toNatClampNeg) + (1 : Int32))), (3, .inl v2), (0, .inr (.inr (some 94))), (1, .inl ob), (2, .inl on)] rfl rfl rfl ?_
                  refine zw_push hm_253 dX12_hold_104 (v := .inr (.inr (some 94))) rfl ?_
                  refine zw_gf hm_253 dX12_hold_105 (v := .inr (.inr (some 107))) (zT_is (zT_pi (zT_zst hS m1)) s_94) (zT_t (zT_pi (zT_zst hS m1)) s_94) rfl f_12_52_12 (zT_f (zT_pi (zT_zst hS m1)) r_94_39) ?_
                  refine zw_push hm_253 dX12_hold_108 (v := .inl v2) rfl ?_
                  refine zw_push hm_253 dX12_hold_109 (v := .inl ((m1 107 v2.toNatClampNeg) + (1 : Int32))) rfl ?_
                  obtain ⟨hg, h⟩ := h
                  refine zw_ias hm_253 dX12_hold_111 (zT_is (zT_pi (zT_zst hS m1)) s_107) (zT_h (zT_pi (zT_zst hS m1)) s_107) rfl hg ?_
                  refine zw_push hm_253 dX12_hold_112 (v := .inl on) rfl ?_
                  refine zw_if0 hm_253 dX12_hold_113 (t := 124) rfl zc0_eq ?_ ?_
                  · intro hc
                    rw [if_pos hc] at h
                    refine zw_push hm_253 dX12_hold_124 (v := .inr (.inr (some 94))) rfl ?_
                    refine zw_push hm_253 dX12_hold_125 (v := .inl v2) rfl ?_
                    refine zw_cv hm_253 dX12_hold_126 v_12_490_12 hm_241 [.inl v2] [] rfl (zT_rt (zT_pi (zT_pi (zT_zst hS m1))) s_94 rfl) ⟨by omega, by omega⟩ rfl (h _ _ (ma_put (ma_put (zst S m1) 94 0 (.inl (0 : Int32))) 107 v2.toNatClampNeg (.inl ((m1 107 v2.toNatClampNeg) + (1 : Int32)))) _ (by omega) (by omega) (zT_pi (zT_pi (zT_zst hS m1))) rfl (fun o9 m17 hv => ?_))
                    obtain ⟨rfl, h⟩ := zmv_of hv
                    show ma_wp X d w 253 129 [(4, .inl ((m1 107 v2.toNatClampNeg) + (1 : Int32))), (3, .inl v2), (0, .inr (.inr (some 94))), (1, .inl ob), (2, .inl on)] [] (zst S m17) _
                    refine zw_push hm_253 dX12_hold_129 (v := .inl ((m1 107 v2.toNatClampNeg) + (1 : Int32))) rfl ?_
                    exact zw_iret hm_253 dX12_hold_131 (HQ _ _ h)
                  · intro hc
                    rw [if_neg hc] at h
                    refine zw_push hm_253 dX12_hold_116 (v := .inr (.inr (some 94))) rfl ?_
                    refine zw_push hm_253 dX12_hold_117 (v := .inl v2) rfl ?_
                    refine zw_cv hm_253 dX12_hold_118 v_12_484_12 hm_239 [.inl v2] [] rfl (zT_rt (zT_pi (zT_pi (zT_zst hS m1))) s_94 rfl) ⟨by omega, by omega⟩ rfl ?_
                    show ma_wp X (d - 1) (w - 21) 239 0 [(0, .inr (.inr (some 94))), (1, .inl v2)] [] (ma_put (ma_put (zst S m1) 94 0 (.inl (0 : Int32))) 107 v2.toNatClampNeg (.inl ((m1 107 v2.toNatClampNeg) + (1 : Int32)))) _
                    refine zw_push hm_239 dX12_more_0 (v := .inl v2) rfl ?_
                    refine zw_if0 hm_239 dX12_more_1 (t := 22) rfl zc0_lt ?_ ?_
                    · intro hc
                      rw [if_pos hc] at h
                      refine zw_vret hm_239 dX12_more_22 ?_
                      show ma_wp X d w 253 121 [(4, .inl ((m1 107 v2.toNatClampNeg) + (1 : Int32))), (3, .inl v2), (0, .inr (.inr (some 94))), (1, .inl ob), (2, .inl on)] [] (ma_put (ma_put (zst S m1) 94 0 (.inl (0 : Int32))) 107 v2.toNatClampNeg (.inl ((m1 107 v2.toNatClampNeg) + (1 : Int32)))) _
                      refine zw_goto hm_253 dX12_hold_121 (t := 129) rfl ?_
                      refine zw_push hm_253 dX12_hold_129 (v := .inl ((m1 107 v2.toNatClampNeg) + (1 : Int32))) rfl ?_
                      exact zw_iret hm_253 dX12_hold_131 (HQ _ _ h)
                    · intro hc
                      rw [if_neg hc] at h
                      refine zw_push hm_239 dX12_more_4 (v := .inr (.inr (some 94))) rfl ?_
                      refine zw_gf hm_239 dX12_more_5 (v := .inl (m1 94 10)) (zT_is (zT_pi (zT_pi (zT_zst hS m1))) s_94) (zT_t (zT_pi (zT_pi (zT_zst hS m1))) s_94) rfl f_12_199_12 rfl ?_
                      refine zw_push hm_239 dX12_more_8 (v := .inl (4 : Int32)) rfl ?_
                      refine zw_if2 hm_239 dX12_more_9 (t := 22) rfl zc2_ne ?_ ?_
                      · intro hc
                        rw [if_neg hc] at h
                        refine zw_vret hm_239 dX12_more_22 ?_
                        show ma_wp X d w 253 121 [(4, .inl ((m1 107 v2.toNatClampNeg) + (1 : Int32))), (3, .inl v2), (0, .inr (.inr (some 94))), (1, .inl ob), (2, .inl on)] [] (ma_put (ma_put (zst S m1) 94 0 (.inl (0 : Int32))) 107 v2.toNatClampNeg (.inl ((m1 107 v2.toNatClampNeg) + (1 : Int32)))) _
                        refine zw_goto hm_253 dX12_hold_121 (t := 129) rfl ?_
                        refine zw_push hm_253 dX12_hold_129 (v := .inl ((m1 107 v2.toNatClampNeg) + (1 : Int32))) rfl ?_
                        exact zw_iret hm_253 dX12_hold_131 (HQ _ _ h)
                      · intro hc
                        rw [if_pos (Classical.not_not.mp hc)] at h
                        refine zw_push hm_239 dX12_more_12 (v := .inr (.inr (some 94))) rfl ?_
                        refine zw_gf hm_239 dX12_more_13 (v := .inr (.inr (some 105))) (zT_is (zT_pi (zT_pi (zT_zst hS m1))) s_94) (zT_t (zT_pi (zT_pi (zT_zst hS m1))) s_94) rfl f_12_46_12 (zT_f (zT_pi (zT_pi (zT_zst hS m1))) r_94_37) ?_
                        refine zw_push hm_239 dX12_more_16 (v := .inl v2) rfl ?_
                        refine zw_stk hm_239 dX12_more_17 (st₉ := [.inl v2, .inr (.inr (some 105)), .inl v2, .inr (.inr (some 105))]) rfl rfl ?_
                        obtain ⟨hg, h⟩ := h
                        refine zw_ia hm_239 dX12_more_18 (zT_is (zT_pi (zT_pi (zT_zst hS m1))) s_105) (zT_h (zT_pi (zT_pi (zT_zst hS m1))) s_105) rfl hg ?_
                        show ma_wp X (d - 1) (w - 21) 239 19 [(0, .inr (.inr (some 94))), (1, .inl v2)] [.inl (m1 105 v2.toNatClampNeg), .inl v2, .inr (.inr (some 105))] (ma_put (ma_put (zst S m1) 94 0 (.inl (0 : Int32))) 107 v2.toNatClampNeg (.inl ((m1 107 v2.toNatClampNeg) + (1 : Int32)))) _
                        refine zw_push hm_239 dX12_more_19 (v := .inl (1 : Int32)) rfl ?_
                        refine zw_stk hm_239 dX12_more_20 (st₉ := [.inl ((m1 105 v2.toNatClampNeg) + (1 : Int32)), .inl v2, .inr (.inr (some 105))]) rfl rfl ?_
                        obtain ⟨hg, h⟩ := h
                        refine zw_ias hm_239 dX12_more_21 (zT_is (zT_pi (zT_pi (zT_zst hS m1))) s_105) (zT_h (zT_pi (zT_pi (zT_zst hS m1))) s_105) rfl hg ?_
                        refine zw_vret hm_239 dX12_more_22 ?_
                        show ma_wp X d w 253 121 [(4, .inl ((m1 107 v2.toNatClampNeg) + (1 : Int32))), (3, .inl v2), (0, .inr (.inr (some 94))), (1, .inl ob), (2, .inl on)] [] (ma_put (ma_put (ma_put (zst S m1) 94 0 (.inl (0 : Int32))) 107 v2.toNatClampNeg (.inl ((m1 107 v2.toNatClampNeg) + (1 : Int32)))) 105 v2.toNatClampNeg (.inl ((m1 105 v2.toNatClampNeg) + (1 : Int32)))) _
                        refine zw_goto hm_253 dX12_hold_121 (t := 129) rfl ?_
                        refine zw_push hm_253 dX12_hold_129 (v := .inl ((m1 107 v2.toNatClampNeg) + (1 : Int32))) rfl ?_
                        exact zw_iret hm_253 dX12_hold_131 (HQ _ _ h)
              · intro hc
                rw [if_pos (Classical.not_not.mp hc)] at h
                refine zw_push hm_253 dX12_hold_73 (v := .inl (3 : Int32)) rfl ?_
                refine zw_goto hm_253 dX12_hold_74 (t := 78) rfl ?_
                refine zw_cv hm_253 dX12_hold_78 v_12_110_12 hm_167 [.inl (3 : Int32)] [] rfl (zT_rt (zT_zst hS m1) s_94 rfl) ⟨by omega, by omega⟩ rfl ?_
                show ma_wp X (d - 1) (w - 21) 167 0 [(0, .inr (.inr (some 94))), (1, .inl (3 : Int32))] [] (zst S m1) _
                refine zw_push hm_167 dX12_fails_0 (v := .inr (.inr (some 94))) rfl ?_
                refine zw_push hm_167 dX12_fails_1 (v := .inl (3 : Int32)) rfl ?_
                refine zw_pf hm_167 dX12_fails_2 (zT_is (zT_zst hS m1) s_94) (zT_t (zT_zst hS m1) s_94) p_12_1_12 zk_int ?_
                refine zw_push hm_167 dX12_fails_5 (v := .inl (3 : Int32)) rfl ?_
                refine zw_if0 hm_167 dX12_fails_6 (t := 13) rfl zc0_eq (fun hc => absurd hc (by decide)) (fun _ => ?_)
                refine zw_push hm_167 dX12_fails_9 (v := .inl (1 : Int32)) rfl ?_
                refine zw_goto hm_167 dX12_fails_10 (t := 14) rfl ?_
                refine zw_bret hm_167 dX12_fails_14 (by decide) ?_
                show ma_wp X d w 253 81 [(3, .inl v2), (0, .inr (.inr (some 94))), (1, .inl ob), (2, .inl on)] [.inl (1 : Int32)] (ma_put (zst S m1) 94 0 (.inl (3 : Int32))) _
                refine zw_if0 hm_253 dX12_hold_81 (t := 86) rfl zc0_eq (fun hc => absurd hc (by decide)) (fun _ => ?_)
                refine zw_push hm_253 dX12_hold_84 (v := .inl (0 : Int32)) rfl ?_
                exact zw_iret hm_253 dX12_hold_85 (HQ _ _ h)
    · intro hc
      rw [if_neg hc] at h
      refine zw_push hm_253 dX12_hold_32 (v := .inl (2 : Int32)) rfl ?_
      refine zw_goto hm_253 dX12_hold_33 (t := 78) rfl ?_
      refine zw_cv hm_253 dX12_hold_78 v_12_110_12 hm_167 [.inl (2 : Int32)] [] rfl (zT_rt (zT_zst hS m1) s_94 rfl) ⟨by omega, by omega⟩ rfl ?_
      show ma_wp X (d - 1) (w - 21) 167 0 [(0, .inr (.inr (some 94))), (1, .inl (2 : Int32))] [] (zst S m1) _
      refine zw_push hm_167 dX12_fails_0 (v := .inr (.inr (some 94))) rfl ?_
      refine zw_push hm_167 dX12_fails_1 (v := .inl (2 : Int32)) rfl ?_
      refine zw_pf hm_167 dX12_fails_2 (zT_is (zT_zst hS m1) s_94) (zT_t (zT_zst hS m1) s_94) p_12_1_12 zk_int ?_
      refine zw_push hm_167 dX12_fails_5 (v := .inl (2 : Int32)) rfl ?_
      refine zw_if0 hm_167 dX12_fails_6 (t := 13) rfl zc0_eq (fun hc => absurd hc (by decide)) (fun _ => ?_)
      refine zw_push hm_167 dX12_fails_9 (v := .inl (1 : Int32)) rfl ?_
      refine zw_goto hm_167 dX12_fails_10 (t := 14) rfl ?_
      refine zw_bret hm_167 dX12_fails_14 (by decide) ?_
      show ma_wp X d w 253 81 [(3, .inl v2), (0, .inr (.inr (some 94))), (1, .inl ob), (2, .inl on)] [.inl (1 : Int32)] (ma_put (zst S m1) 94 0 (.inl (2 : Int32))) _
      refine zw_if0 hm_253 dX12_hold_81 (t := 86) rfl zc0_eq (fun hc => absurd hc (by decide)) (fun _ => ?_)
      refine zw_push hm_253 dX12_hold_84 (v := .inl (0 : Int32)) rfl ?_
      exact zw_iret hm_253 dX12_hold_85 (HQ _ _ h)
  · intro hc
    rw [if_pos (Classical.not_not.mp hc)] at h
    refine zw_push hm_253 dX12_hold_8 (v := .inl (1 : Int32)) rfl ?_
    refine zw_goto hm_253 dX12_hold_9 (t := 13) rfl ?_
    refine zw_cv hm_253 dX12_hold_13 v_12_110_12 hm_167 [.inl (1 : Int32)] [] rfl (zT_rt hS s_94 rfl) ⟨by omega, by omega⟩ rfl ?_
    show ma_wp X (d - 1) (w - 21) 167 0 [(0, .inr (.inr (some 94))), (1, .inl (1 : Int32))] [] S _
    refine zw_push hm_167 dX12_fails_0 (v := .inr (.inr (some 94))) rfl ?_
    refine zw_push hm_167 dX12_fails_1 (v := .inl (1 : Int32)) rfl ?_
    refine zw_pf hm_167 dX12_fails_2 (zT_is hS s_94) (zT_t hS s_94) p_12_1_12 zk_int ?_
    refine zw_push hm_167 dX12_fails_5 (v := .inl (1 : Int32)) rfl ?_
    refine zw_if0 hm_167 dX12_fails_6 (t := 13) rfl zc0_eq (fun hc => absurd hc (by decide)) (fun _ => ?_)
    refine zw_push hm_167 dX12_fails_9 (v := .inl (1 : Int32)) rfl ?_
    refine zw_goto hm_167 dX12_fails_10 (t := 14) rfl ?_
    refine zw_bret hm_167 dX12_fails_14 (by decide) ?_
    show ma_wp X d w 253 16 [(0, .inr (.inr (some 94))), (1, .inl ob), (2, .inl on)] [.inl (1 : Int32)] (ma_put S 94 0 (.inl (1 : Int32))) _
    refine zw_if0 hm_253 dX12_hold_16 (t := 21) rfl zc0_eq (fun hc => absurd hc (by decide)) (fun _ => ?_)
    refine zw_push hm_253 dX12_hold_19 (v := .inl (0 : Int32)) rfl ?_
    exact zw_iret hm_253 dX12_hold_20 (HQ _ _ h)
theorem sp_253 {X : Nat × (Nat → Int32)} {P : Option ma_V → (Nat → Nat → Int32) → Prop} {T : Nat} {m : Nat → Nat → Int32} (ob : Int32) (on : Int32) (hV : zV m) (r_W : zW (m 94 7) (m 98) (m 101) (m 102) (m 108)) (r_GW : zGW T (m 94 55) (m 109)) (r_GU : zGU T (m 94 46) (m 99)) (r_OW : zOw (m 99) (m 103) (m 111)) (r_DX : zDX (m 94 10) (m 99) (m 112) (m 113) (m 114) (m 94 55) (m 98) (m 101) (m 102) (m 108)) (r_GG : zGG (m 94 58) (m 94 56) (m 94 57) (m 106)) (r_HA : zHA (m 94 10) (m 94 11) (m 94 13) (m 94 14) (m 94 16) (m 94 61) (m 94 59) (m 94 60) (m 99) (m 102) (m 103) (m 111) (m 117) (m 98) (m 101) (m 108)) (r_RGc : zRG (m 94 10) (m 94 18) (m 94 64) (m 94 63) (m 99) (m 103) (m 102) (m 116)) (hpre8 : (m 94 58).toInt = 0 ∨ (m 94 10).toInt = 5) (KZ : ∀ v m₉, zV (zov wr_253 m m₉) → (zW (m 94 7) (m 98) (m 101) (m 102) (m 108)) → (zGW T (m₉ 94 55) (m₉ 109)) → (zGU T (m 94 46) (m₉ 99)) → (zOw (m₉ 99) (m 103) (m₉ 111)) → (zDX (m 94 10) (m₉ 99) (m 112) (m₉ 113) (m₉ 114) (m₉ 94 55) (m 98) (m 101) (m 102) (m 108)) → (zGG (m 94 58) (m 94 56) (m 94 57) (m 106)) → (zHA (m 94 10) (m 94 11) (m 94 13) (m 94 14) (m 94 16) (m 94 61) (m 94 59) (m 94 60) (m₉ 99) (m 102) (m 103) (m₉ 111) (m 117) (m 98) (m 101) (m 108)) → (zRG (m 94 10) (m 94 18) (m 94 64) (m 94 63) (m₉ 99) (m 103) (m 102) (m 116)) → ((m 94 58).toInt = 0 ∨ (m 94 10).toInt = 5) → P (some (.inl v)) (zov wr_253 m m₉)) : zm X 5 109 253 0 [(0, .inr (.inr (some 94))), (1, .inl ob), (2, .inl on)] m P := by
  have K : ∀ v m₉, zF wr_253 m m₉ → zV m₉ → (zW (m₉ 94 7) (m₉ 98) (m₉ 101) (m₉ 102) (m₉ 108)) → (zGW T (m₉ 94 55) (m₉ 109)) → (zGU T (m₉ 94 46) (m₉ 99)) → (zOw (m₉ 99) (m₉ 103) (m₉ 111)) → (zDX (m₉ 94 10) (m₉ 99) (m₉ 112) (m₉ 113) (m₉ 114) (m₉ 94 55) (m₉ 98) (m₉ 101) (m₉ 102) (m₉ 108)) → (zGG (m₉ 94 58) (m₉ 94 56) (m₉ 94 57) (m₉ 106)) → (zHA (m₉ 94 10) (m₉ 94 11) (m₉ 94 13) (m₉ 94 14) (m₉ 94 16) (m₉ 94 61) (m₉ 94 59) (m₉ 94 60) (m₉ 99) (m₉ 102) (m₉ 103) (m₉ 111) (m₉ 117) (m₉ 98) (m₉ 101) (m₉ 108)) → (zRG (m₉ 94 10) (m₉ 94 18) (m₉ 94 64) (m₉ 94 63) (m₉ 99) (m₉ 103) (m₉ 102) (m₉ 116)) → ((m₉ 94 58).toInt = 0 ∨ (m₉ 94 10).toInt = 5) → P (some (.inl v)) m₉ := by
    intro v m₉ hf z q0 q1 q2 q3 q4 q5 q6 q7 q8
    have e := zov_eq hf
    rw [e] at z ⊢
    try rw [e] at q0
    try rw [e] at q1
    try rw [e] at q2
    try rw [e] at q3
    try rw [e] at q4
    try rw [e] at q5
    try rw [e] at q6
    try rw [e] at q7
    try rw [e] at q8
    exact KZ v m₉ z q0 q1 q2 q3 q4 q5 q6 q7 q8
  refine g_253_0 ob on ?_
  have f1 : 0 ≤ (m 94 58).toInt ∧ (m 94 58).toInt ≤ 1 := rs_94_58 (m := m) hV
  have f2 : 0 ≤ (m 94 10).toInt ∧ (m 94 10).toInt ≤ 6 := rs_94_10 (m := m) hV
  have f3 : 0 ≤ (m 94 8).toInt ∧ (m 94 8).toInt ≤ 1 := rs_94_8 (m := m) hV
  have li4 : (0 : Int32).toInt = 0 := rfl
  refine zd (fun (h5 : (m 94 8) = (0 : Int32)) => ?_) (fun (h5 : ¬ (m 94 8) = (0 : Int32)) => ?_)
  · skip
    have g6 := i_eq h5
    have hV7 : zV (ma_u m 94 0 (1 : Int32)) := uf_94_0 hV
    exact K ((0 : Int32)) _ (zF_u zF_rfl rfl) hV7 r_W r_GW r_GU r_OW r_DX r_GG r_HA r_RGc (show (m 94 58).toInt = 0 ∨ (m 94 10).toInt = 5 from by omega)
  · skip
    have g8 := i_ne h5
    have b9 := i_bd ob
    have hV10 : zV (ma_u m 94 0 (0 : Int32)) := uf_94_0 hV
    refine sp_245 (ob) hV10 r_W r_DX (fun v2 m1 hV_m1 p0_m1 p1_m1 => zmi_n ?_)
    have p0_m1 : -1 ≤ v2.toInt ∧ v2.toInt ≤ 3099 := p0_m1
    have p1_m1 : v2.toInt < 0 ∨ (m 99) v2.toNatClampNeg ≠ 0 := p1_m1
    have b11 := i_bd v2
    refine zd (fun (h12 : (0 : Int32) ≤ v2) => ?_) (fun (h12 : ¬ (0 : Int32) ≤ v2) => ?_)
    · skip
      have g13 := i_le h12
      have li14 : (2 : Int32).toInt = 2 := rfl
      refine zd (fun (h15 : (m 94 10) = (2 : Int32)) => ?_) (fun (h15 : ¬ (m 94 10) = (2 : Int32)) => ?_)
      · skip
        have g16 := i_eq h15
        have hV17 : zV (ma_u (zov wr_245 (ma_u m 94 0 (0 : Int32)) m1) 94 0 (3 : Int32)) := uf_94_0 hV_m1
        exact K ((0 : Int32)) _ (zF_u (zF_zov (zF_u zF_rfl rfl) ws_245_253) rfl) hV17 r_W r_GW r_GU r_OW r_DX r_GG r_HA r_RGc (show (m 94 58).toInt = 0 ∨ (m 94 10).toInt = 5 from by omega)
      · skip
        have g18 := i_ne h15
        have li19 : (3 : Int32).toInt = 3 := rfl
        refine zd (fun (h20 : (m 94 10) = (3 : Int32)) => ?_) (fun (h20 : ¬ (m 94 10) = (3 : Int32)) => ?_)
        · skip
          have g21 := i_eq h20
          have hg22 : (0 ≤ v2 ∧ v2.toNatClampNeg < 3100) := i_ix (by omega) (by omega)
          refine ⟨hg22, ?_⟩
          have f23 : 0 ≤ (m 94 14).toInt ∧ (m 94 14).toInt ≤ 1500 := rs_94_14 (m := m) hV
          first | have f24 : 0 ≤ (m 103 v2.toNatClampNeg).toInt ∧ (m 103 v2.toNatClampNeg).toInt ≤ 4599 := ra_103 (m := m) hV (k := v2.toNatClampNeg) (i_ix (n := 3100) (by omega) (by omega)).2 | have b25 := i_bd (m 103 v2.toNatClampNeg)
          refine zd (fun (h26 : (m 94 14) ≤ (m 103 v2.toNatClampNeg)) => ?_) (fun (h26 : ¬ (m 94 14) ≤ (m 103 v2.toNatClampNeg)) => ?_)
          · skip
            have g27 := i_le h26
            have hV28 : zV (ma_u (zov wr_245 (ma_u m 94 0 (0 : Int32)) m1) 94 0 (3 : Int32)) := uf_94_0 hV_m1
            exact K ((0 : Int32)) _ (zF_u (zF_zov (zF_u zF_rfl rfl) ws_245_253) rfl) hV28 r_W r_GW r_GU r_OW r_DX r_GG r_HA r_RGc (show (m 94 58).toInt = 0 ∨ (m 94 10).toInt = 5 from by omega)
          · skip
            have g29 := i_nle h26
            have b30 := i_bd on
            refine zd (fun (h31 : on = (0 : Int32)) => ?_) (fun (h31 : ¬ on = (0 : Int32)) => ?_)
            · skip
              have g32 := i_eq h31
              have hg33 : (0 ≤ v2 ∧ v2.toNatClampNeg < 3100) := i_ix (by omega) (by omega)
              refine ⟨hg33, ?_⟩
              have b34 := i_bd (m 107 v2.toNatClampNeg)
              refine zd (fun (h35 : (m 107 v2.toNatClampNeg) = (0 : Int32)) => ?_) (fun (h35 : ¬ (m 107 v2.toNatClampNeg) = (0 : Int32)) => ?_)
              · skip
                have g36 := i_eq h35
                have hV37 : zV (ma_u (zov wr_245 (ma_u m 94 0 (0 : Int32)) m1) 94 0 (3 : Int32)) := uf_94_0 hV_m1
                exact K ((0 : Int32)) _ (zF_u (zF_zov (zF_u zF_rfl rfl) ws_245_253) rfl) hV37 r_W r_GW r_GU r_OW r_DX r_GG r_HA r_RGc (show (m 94 58).toInt = 0 ∨ (m 94 10).toInt = 5 from by omega)
              · skip
                have g38 := i_ne h35
                have hg39 : (0 ≤ v2 ∧ v2.toNatClampNeg < 3100) := i_ix (by omega) (by omega)
                refine ⟨hg39, ?_⟩
                refine zd (fun (h40 : on = (0 : Int32)) => ?_) (fun (h40 : ¬ on = (0 : Int32)) => ?_)
                · skip
                  have g41 := i_eq h40
                  have hg42 : (0 ≤ v2 ∧ v2.toNatClampNeg < 3100) := i_ix (by omega) (by omega)
                  refine ⟨hg42, ?_⟩
                  refine zd (fun (h43 : on = (0 : Int32)) => ?_) (fun (h43 : ¬ on = (0 : Int32)) => ?_)
                  · skip
                    have g44 := i_eq h43
                    have hV45 : zV (ma_u (zov wr_245 (ma_u m 94 0 (0 : Int32)) m1) 94 0 (0 : Int32)) := uf_94_0 hV_m1
                    have hV46 : zV (ma_u (ma_u (zov wr_245 (ma_u m 94 0 (0 : Int32)) m1) 94 0 (0 : Int32)) 107 v2.toNatClampNeg ((m 107 v2.toNatClampNeg) + (-1 : Int32))) := ua_107 hV45
                    refine sp_241 (v2) hV46 (by omega) r_W r_GW r_GU r_OW r_DX (fun m15 hV_m15 p0_m15 p1_m15 p2_m15 p3_m15 p4_m15 => zmv_n ?_)
                    have p0_m15 : zGW T (m15 94 55) (m15 109) := p0_m15
                    have p1_m15 : zGU T (m 94 46) (m15 99) := p1_m15
                    have p2_m15 : zOw (m15 99) (m 103) (m15 111) := p2_m15
                    have p3_m15 : zDX (m 94 10) (m15 99) (m 112) (m15 113) (m15 114) (m15 94 55) (m 98) (m 101) (m 102) (m 108) := p3_m15
                    have p4_m15 : (m 94 10).toInt ≠ 4 → ((m15 99) = (m 99) ∧ (m15 111) = (m 111) ∧ (m15 113) = (m 113) ∧ (m15 114) = (m 114) ∧ (m15 94 55) = (m 94 55) ∧ (m15 109) = (m 109)) := p4_m15
                    first | have b48 := i_bd ((m 107 v2.toNatClampNeg) + (-1 : Int32)) | have e47 : ((m 107 v2.toNatClampNeg) + (-1 : Int32)).toInt = (m 107 v2.toNatClampNeg).toInt + (-1) := i_addk rfl (by omega) (by omega)
                    exact K (((m 107 v2.toNatClampNeg) + (-1 : Int32))) _ (zF_zov (zF_u (zF_u (zF_zov (zF_u zF_rfl rfl) ws_245_253) rfl) rfl) ws_241_253) hV_m15 r_W p0_m15 p1_m15 p2_m15 p3_m15 r_GG (show zHA (m 94 10) (m 94 11) (m 94 13) (m 94 14) (m 94 16) (m 94 61) (m 94 59) (m 94 60) (m15 99) (m 102) (m 103) (m15 111) (m 117) (m 98) (m 101) (m 108) from by first | (exact HA_lq r_HA (fun z => ⟨(p4_m15 z).1, (p4_m15 z).2.1⟩)) | (exfalso; omega; done) | (exfalso; contradiction; done)) (show zRG (m 94 10) (m 94 18) (m 94 64) (m 94 63) (m15 99) (m 103) (m 102) (m 116) from by first | (exact RG_lq r_RGc (fun z => (p4_m15 z).1)) | (exfalso; omega; done) | (exfalso; contradiction; done)) (show (m 94 58).toInt = 0 ∨ (m 94 10).toInt = 5 from by omega)
                  · skip
                    have g49 := i_ne h43
                    refine zd (fun (h50 : v2 < (0 : Int32)) => ?_) (fun (h50 : ¬ v2 < (0 : Int32)) => ?_)
                    · skip
                      have g51 := i_lt h50
                      have hV52 : zV (ma_u (zov wr_245 (ma_u m 94 0 (0 : Int32)) m1) 94 0 (0 : Int32)) := uf_94_0 hV_m1
                      have hV53 : zV (ma_u (ma_u (zov wr_245 (ma_u m 94 0 (0 : Int32)) m1) 94 0 (0 : Int32)) 107 v2.toNatClampNeg ((m 107 v2.toNatClampNeg) + (-1 : Int32))) := ua_107 hV52
                      first | have e54 : ((m 107 v2.toNatClampNeg) + (-1 : Int32)).toInt = (m 107 v2.toNatClampNeg).toInt + (-1) := i_addk rfl (by omega) (by omega) | have b55 := i_bd ((m 107 v2.toNatClampNeg) + (-1 : Int32))
                      exact K (((m 107 v2.toNatClampNeg) + (-1 : Int32))) _ (zF_u (zF_u (zF_zov (zF_u zF_rfl rfl) ws_245_253) rfl) rfl) hV53 r_W r_GW r_GU r_OW r_DX r_GG r_HA r_RGc (show (m 94 58).toInt = 0 ∨ (m 94 10).toInt = 5 from by omega)
                    · skip
                      have g56 := i_nlt h50
                      have li57 : (4 : Int32).toInt = 4 := rfl
                      refine zd (fun (h58 : (m 94 10) = (4 : Int32)) => ?_) (fun (h58 : ¬ (m 94 10) = (4 : Int32)) => ?_)
                      · skip
                        have g59 := i_eq h58
                        have hg60 : (0 ≤ v2 ∧ v2.toNatClampNeg < 3100) := i_ix (by omega) (by omega)
                        refine ⟨hg60, ?_⟩
                        have hg61 : (0 ≤ v2 ∧ v2.toNatClampNeg < 3100) := i_ix (by omega) (by omega)
                        refine ⟨hg61, ?_⟩
                        have hV62 : zV (ma_u (zov wr_245 (ma_u m 94 0 (0 : Int32)) m1) 94 0 (0 : Int32)) := uf_94_0 hV_m1
                        have hV63 : zV (ma_u (ma_u (zov wr_245 (ma_u m 94 0 (0 : Int32)) m1) 94 0 (0 : Int32)) 107 v2.toNatClampNeg ((m 107 v2.toNatClampNeg) + (-1 : Int32))) := ua_107 hV62
                        have hV64 : zV (ma_u (ma_u (ma_u (zov wr_245 (ma_u m 94 0 (0 : Int32)) m1) 94 0 (0 : Int32)) 107 v2.toNatClampNeg ((m 107 v2.toNatClampNeg) + (-1 : Int32))) 105 v2.toNatClampNeg ((m 105 v2.toNatClampNeg) + (1 : Int32))) := ua_105 hV63
                        first | have e65 : ((m 107 v2.toNatClampNeg) + (-1 : Int32)).toInt = (m 107 v2.toNatClampNeg).toInt + (-1) := i_addk rfl (by omega) (by omega) | have b66 := i_bd ((m 107 v2.toNatClampNeg) + (-1 : Int32))
                        exact K (((m 107 v2.toNatClampNeg) + (-1 : Int32))) _ (zF_u (zF_u (zF_u (zF_zov (zF_u zF_rfl rfl) ws_245_253) rfl) rfl) rfl) hV64 r_W r_GW r_GU r_OW r_DX r_GG r_HA r_RGc (show (m 94 58).toInt = 0 ∨ (m 94 10).toInt = 5 from by omega)
                      · skip
                        have g67 := i_ne h58
                        have hV68 : zV (ma_u (zov wr_245 (ma_u m 94 0 (0 : Int32)) m1) 94 0 (0 : Int32)) := uf_94_0 hV_m1
                        have hV69 : zV (ma_u (ma_u (zov wr_245 (ma_u m 94 0 (0 : Int32)) m1) 94 0 (0 : Int32)) 107 v2.toNatClampNeg ((m 107 v2.toNatClampNeg) + (-1 : Int32))) := ua_107 hV68
                        first | have e70 : ((m 107 v2.toNatClampNeg) + (-1 : Int32)).toInt = (m 107 v2.toNatClampNeg).toInt + (-1) := i_addk rfl (by omega) (by omega) | have b71 := i_bd ((m 107 v2.toNatClampNeg) + (-1 : Int32))
                        exact K (((m 107 v2.toNatClampNeg) + (-1 : Int32))) _ (zF_u (zF_u (zF_zov (zF_u zF_rfl rfl) ws_245_253) rfl) rfl) hV69 r_W r_GW r_GU r_OW r_DX r_GG r_HA r_RGc (show (m 94 58).toInt = 0 ∨ (m 94 10).toInt = 5 from by omega)
                · skip
                  have g72 := i_ne h40
                  have hg73 : (0 ≤ v2 ∧ v2.toNatClampNeg < 3100) := i_ix (by omega) (by omega)
                  refine ⟨hg73, ?_⟩
                  refine zd (fun (h74 : on = (0 : Int32)) => ?_) (fun (h74 : ¬ on = (0 : Int32)) => ?_)
                  · skip
                    have g75 := i_eq h74
                    have hV76 : zV (ma_u (zov wr_245 (ma_u m 94 0 (0 : Int32)) m1) 94 0 (0 : Int32)) := uf_94_0 hV_m1
                    have hV77 : zV (ma_u (ma_u (zov wr_245 (ma_u m 94 0 (0 : Int32)) m1) 94 0 (0 : Int32)) 107 v2.toNatClampNeg ((m 107 v2.toNatClampNeg) + (1 : Int32))) := ua_107 hV76
                    refine sp_241 (v2) hV77 (by omega) r_W r_GW r_GU r_OW r_DX (fun m17 hV_m17 p0_m17 p1_m17 p2_m17 p3_m17 p4_m17 => zmv_n ?_)
                    have p0_m17 : zGW T (m17 94 55) (m17 109) := p0_m17
                    have p1_m17 : zGU T (m 94 46) (m17 99) := p1_m17
                    have p2_m17 : zOw (m17 99) (m 103) (m17 111) := p2_m17
                    have p3_m17 : zDX (m 94 10) (m17 99) (m 112) (m17 113) (m17 114) (m17 94 55) (m 98) (m 101) (m 102) (m 108) := p3_m17
                    have p4_m17 : (m 94 10).toInt ≠ 4 → ((m17 99) = (m 99) ∧ (m17 111) = (m 111) ∧ (m17 113) = (m 113) ∧ (m17 114) = (m 114) ∧ (m17 94 55) = (m 94 55) ∧ (m17 109) = (m 109)) := p4_m17
                    first | have e78 : ((m 107 v2.toNatClampNeg) + (1 : Int32)).toInt = (m 107 v2.toNatClampNeg).toInt + (1) := i_addk rfl (by omega) (by omega) | have b79 := i_bd ((m 107 v2.toNatClampNeg) + (1 : Int32))
                    exact K (((m 107 v2.toNatClampNeg) + (1 : Int32))) _ (zF_zov (zF_u (zF_u (zF_zov (zF_u zF_rfl rfl) ws_245_253) rfl) rfl) ws_241_253) hV_m17 r_W p0_m17 p1_m17 p2_m17 p3_m17 r_GG (show zHA (m 94 10) (m 94 11) (m 94 13) (m 94 14) (m 94 16) (m 94 61) (m 94 59) (m 94 60) (m17 99) (m 102) (m 103) (m17 111) (m 117) (m 98) (m 101) (m 108) from by first | (exact HA_lq r_HA (fun z => ⟨(p4_m17 z).1, (p4_m17 z).2.1⟩)) | (exfalso; omega; done) | (exfalso; contradiction; done)) (show zRG (m 94 10) (m 94 18) (m 94 64) (m 94 63) (m17 99) (m 103) (m 102) (m 116) from by first | (exact RG_lq r_RGc (fun z => (p4_m17 z).1)) | (exfalso; omega; done) | (exfalso; contradiction; done)) (show (m 94 58).toInt = 0 ∨ (m 94 10).toInt = 5 from by omega)
                  · skip
                    have g80 := i_ne h74
                    refine zd (fun (h81 : v2 < (0 : Int32)) => ?_) (fun (h81 : ¬ v2 < (0 : Int32)) => ?_)
                    · skip
                      have g82 := i_lt h81
                      have hV83 : zV (ma_u (zov wr_245 (ma_u m 94 0 (0 : Int32)) m1) 94 0 (0 : Int32)) := uf_94_0 hV_m1
                      have hV84 : zV (ma_u (ma_u (zov wr_245 (ma_u m 94 0 (0 : Int32)) m1) 94 0 (0 : Int32)) 107 v2.toNatClampNeg ((m 107 v2.toNatClampNeg) + (1 : Int32))) := ua_107 hV83
                      first | have e85 : ((m 107 v2.toNatClampNeg) + (1 : Int32)).toInt = (m 107 v2.toNatClampNeg).toInt + (1) := i_addk rfl (by omega) (by omega) | have b86 := i_bd ((m 107 v2.toNatClampNeg) + (1 : Int32))
                      exact K (((m 107 v2.toNatClampNeg) + (1 : Int32))) _ (zF_u (zF_u (zF_zov (zF_u zF_rfl rfl) ws_245_253) rfl) rfl) hV84 r_W r_GW r_GU r_OW r_DX r_GG r_HA r_RGc (show (m 94 58).toInt = 0 ∨ (m 94 10).toInt = 5 from by omega)
                    · skip
                      have g87 := i_nlt h81
                      have li88 : (4 : Int32).toInt = 4 := rfl
                      refine zd (fun (h89 : (m 94 10) = (4 : Int32)) => ?_) (fun (h89 : ¬ (m 94 10) = (4 : Int32)) => ?_)
                      · skip
                        have g90 := i_eq h89
                        have hg91 : (0 ≤ v2 ∧ v2.toNatClampNeg < 3100) := i_ix (by omega) (by omega)
                        refine ⟨hg91, ?_⟩
                        have hg92 : (0 ≤ v2 ∧ v2.toNatClampNeg < 3100) := i_ix (by omega) (by omega)
                        refine ⟨hg92, ?_⟩
                        have hV93 : zV (ma_u (zov wr_245 (ma_u m 94 0 (0 : Int32)) m1) 94 0 (0 : Int32)) := uf_94_0 hV_m1
                        have hV94 : zV (ma_u (ma_u (zov wr_245 (ma_u m 94 0 (0 : Int32)) m1) 94 0 (0 : Int32)) 107 v2.toNatClampNeg ((m 107 v2.toNatClampNeg) + (1 : Int32))) := ua_107 hV93
                        have hV95 : zV (ma_u (ma_u (ma_u (zov wr_245 (ma_u m 94 0 (0 : Int32)) m1) 94 0 (0 : Int32)) 107 v2.toNatClampNeg ((m 107 v2.toNatClampNeg) + (1 : Int32))) 105 v2.toNatClampNeg ((m 105 v2.toNatClampNeg) + (1 : Int32))) := ua_105 hV94
                        first | have e96 : ((m 107 v2.toNatClampNeg) + (1 : Int32)).toInt = (m 107 v2.toNatClampNeg).toInt + (1) := i_addk rfl (by omega) (by omega) | have b97 := i_bd ((m 107 v2.toNatClampNeg) + (1 : Int32))
                        exact K (((m 107 v2.toNatClampNeg) + (1 : Int32))) _ (zF_u (zF_u (zF_u (zF_zov (zF_u zF_rfl rfl) ws_245_253) rfl) rfl) rfl) hV95 r_W r_GW r_GU r_OW r_DX r_GG r_HA r_RGc (show (m 94 58).toInt = 0 ∨ (m 94 10).toInt = 5 from by omega)
                      · skip
                        have g98 := i_ne h89
                        have hV99 : zV (ma_u (zov wr_245 (ma_u m 94 0 (0 : Int32)) m1) 94 0 (0 : Int32)) := uf_94_0 hV_m1
                        have hV100 : zV (ma_u (ma_u (zov wr_245 (ma_u m 94 0 (0 : Int32)) m1) 94 0 (0 : Int32)) 107 v2.toNatClampNeg ((m 107 v2.toNatClampNeg) + (1 : Int32))) := ua_107 hV99
                        first | have e101 : ((m 107 v2.toNatClampNeg) + (1 : Int32)).toInt = (m 107 v2.toNatClampNeg).toInt + (1) := i_addk rfl (by omega) (by omega) | have b102 := i_bd ((m 107 v2.toNatClampNeg) + (1 : Int32))
                        exact K (((m 107 v2.toNatClampNeg) + (1 : Int32))) _ (zF_u (zF_u (zF_zov (zF_u zF_rfl rfl) ws_245_253) rfl) rfl) hV100 r_W r_GW r_GU r_OW r_DX r_GG r_HA r_RGc (show (m 94 58).toInt = 0 ∨ (m 94 10).toInt = 5 from by omega)
            · skip
              have g103 := i_ne h31
              have hg104 : (0 ≤ v2 ∧ v2.toNatClampNeg < 3100) := i_ix (by omega) (by omega)
              refine ⟨hg104, ?_⟩
              refine zd (fun (h105 : on = (0 : Int32)) => ?_) (fun (h105 : ¬ on = (0 : Int32)) => ?_)
              · skip
                have g106 := i_eq h105
                have hg107 : (0 ≤ v2 ∧ v2.toNatClampNeg < 3100) := i_ix (by omega) (by omega)
                refine ⟨hg107, ?_⟩
                refine zd (fun (h108 : on = (0 : Int32)) => ?_) (fun (h108 : ¬ on = (0 : Int32)) => ?_)
                · skip
                  have g109 := i_eq h108
                  have hV110 : zV (ma_u (zov wr_245 (ma_u m 94 0 (0 : Int32)) m1) 94 0 (0 : Int32)) := uf_94_0 hV_m1
                  have hV111 : zV (ma_u (ma_u (zov wr_245 (ma_u m 94 0 (0 : Int32)) m1) 94 0 (0 : Int32)) 107 v2.toNatClampNeg ((m 107 v2.toNatClampNeg) + (-1 : Int32))) := ua_107 hV110
                  refine sp_241 (v2) hV111 (by omega) r_W r_GW r_GU r_OW r_DX (fun m11 hV_m11 p0_m11 p1_m11 p2_m11 p3_m11 p4_m11 => zmv_n ?_)
                  have p0_m11 : zGW T (m11 94 55) (m11 109) := p0_m11
                  have p1_m11 : zGU T (m 94 46) (m11 99) := p1_m11
                  have p2_m11 : zOw (m11 99) (m 103) (m11 111) := p2_m11
                  have p3_m11 : zDX (m 94 10) (m11 99) (m 112) (m11 113) (m11 114) (m11 94 55) (m 98) (m 101) (m 102) (m 108) := p3_m11
                  have p4_m11 : (m 94 10).toInt ≠ 4 → ((m11 99) = (m 99) ∧ (m11 111) = (m 111) ∧ (m11 113) = (m 113) ∧ (m11 114) = (m 114) ∧ (m11 94 55) = (m 94 55) ∧ (m11 109) = (m 109)) := p4_m11
                  have b112 := i_bd (m 107 v2.toNatClampNeg)
                  first | have e113 : ((m 107 v2.toNatClampNeg) + (-1 : Int32)).toInt = (m 107 v2.toNatClampNeg).toInt + (-1) := i_addk rfl (by omega) (by omega) | have b114 := i_bd ((m 107 v2.toNatClampNeg) + (-1 : Int32))
                  exact K (((m 107 v2.toNatClampNeg) + (-1 : Int32))) _ (zF_zov (zF_u (zF_u (zF_zov (zF_u zF_rfl rfl) ws_245_253) rfl) rfl) ws_241_253) hV_m11 r_W p0_m11 p1_m11 p2_m11 p3_m11 r_GG (show zHA (m 94 10) (m 94 11) (m 94 13) (m 94 14) (m 94 16) (m 94 61) (m 94 59) (m 94 60) (m11 99) (m 102) (m 103) (m11 111) (m 117) (m 98) (m 101) (m 108) from by first | (exact HA_lq r_HA (fun z => ⟨(p4_m11 z).1, (p4_m11 z).2.1⟩)) | (exfalso; omega; done) | (exfalso; contradiction; done)) (show zRG (m 94 10) (m 94 18) (m 94 64) (m 94 63) (m11 99) (m 103) (m 102) (m 116) from by first | (exact RG_lq r_RGc (fun z => (p4_m11 z).1)) | (exfalso; omega; done) | (exfalso; contradiction; done)) (show (m 94 58).toInt = 0 ∨ (m 94 10).toInt = 5 from by omega)
                · skip
                  have g115 := i_ne h108
                  refine zd (fun (h116 : v2 < (0 : Int32)) => ?_) (fun (h116 : ¬ v2 < (0 : Int32)) => ?_)
                  · skip
                    have g117 := i_lt h116
                    have hV118 : zV (ma_u (zov wr_245 (ma_u m 94 0 (0 : Int32)) m1) 94 0 (0 : Int32)) := uf_94_0 hV_m1
                    have hV119 : zV (ma_u (ma_u (zov wr_245 (ma_u m 94 0 (0 : Int32)) m1) 94 0 (0 : Int32)) 107 v2.toNatClampNeg ((m 107 v2.toNatClampNeg) + (-1 : Int32))) := ua_107 hV118
                    have b120 := i_bd (m 107 v2.toNatClampNeg)
                    first | have e121 : ((m 107 v2.toNatClampNeg) + (-1 : Int32)).toInt = (m 107 v2.toNatClampNeg).toInt + (-1) := i_addk rfl (by omega) (by omega) | have b122 := i_bd ((m 107 v2.toNatClampNeg) + (-1 : Int32))
                    exact K (((m 107 v2.toNatClampNeg) + (-1 : Int32))) _ (zF_u (zF_u (zF_zov (zF_u zF_rfl rfl) ws_245_253) rfl) rfl) hV119 r_W r_GW r_GU r_OW r_DX r_GG r_HA r_RGc (show (m 94 58).toInt = 0 ∨ (m 94 10).toInt = 5 from by omega)
                  · skip
                    have g123 := i_nlt h116
                    have li124 : (4 : Int32).toInt = 4 := rfl
                    refine zd (fun (h125 : (m 94 10) = (4 : Int32)) => ?_) (fun (h125 : ¬ (m 94 10) = (4 : Int32)) => ?_)
                    · skip
                      have g126 := i_eq h125
                      have hg127 : (0 ≤ v2 ∧ v2.toNatClampNeg < 3100) := i_ix (by omega) (by omega)
                      refine ⟨hg127, ?_⟩
                      have hg128 : (0 ≤ v2 ∧ v2.toNatClampNeg < 3100) := i_ix (by omega) (by omega)
                      refine ⟨hg128, ?_⟩
                      have hV129 : zV (ma_u (zov wr_245 (ma_u m 94 0 (0 : Int32)) m1) 94 0 (0 : Int32)) := uf_94_0 hV_m1
                      have hV130 : zV (ma_u (ma_u (zov wr_245 (ma_u m 94 0 (0 : Int32)) m1) 94 0 (0 : Int32)) 107 v2.toNatClampNeg ((m 107 v2.toNatClampNeg) + (-1 : Int32))) := ua_107 hV129
                      have hV131 : zV (ma_u (ma_u (ma_u (zov wr_245 (ma_u m 94 0 (0 : Int32)) m1) 94 0 (0 : Int32)) 107 v2.toNatClampNeg ((m 107 v2.toNatClampNeg) + (-1 : Int32))) 105 v2.toNatClampNeg ((m 105 v2.toNatClampNeg) + (1 : Int32))) := ua_105 hV130
                      have b132 := i_bd (m 107 v2.toNatClampNeg)
                      first | have e133 : ((m 107 v2.toNatClampNeg) + (-1 : Int32)).toInt = (m 107 v2.toNatClampNeg).toInt + (-1) := i_addk rfl (by omega) (by omega) | have b134 := i_bd ((m 107 v2.toNatClampNeg) + (-1 : Int32))
                      exact K (((m 107 v2.toNatClampNeg) + (-1 : Int32))) _ (zF_u (zF_u (zF_u (zF_zov (zF_u zF_rfl rfl) ws_245_253) rfl) rfl) rfl) hV131 r_W r_GW r_GU r_OW r_DX r_GG r_HA r_RGc (show (m 94 58).toInt = 0 ∨ (m 94 10).toInt = 5 from by omega)
                    · skip
                      have g135 := i_ne h125
                      have hV136 : zV (ma_u (zov wr_245 (ma_u m 94 0 (0 : Int32)) m1) 94 0 (0 : Int32)) := uf_94_0 hV_m1
                      have hV137 : zV (ma_u (ma_u (zov wr_245 (ma_u m 94 0 (0 : Int32)) m1) 94 0 (0 : Int32)) 107 v2.toNatClampNeg ((m 107 v2.toNatClampNeg) + (-1 : Int32))) := ua_107 hV136
                      have b138 := i_bd (m 107 v2.toNatClampNeg)
                      first | have e139 : ((m 107 v2.toNatClampNeg) + (-1 : Int32)).toInt = (m 107 v2.toNatClampNeg).toInt + (-1) := i_addk rfl (by omega) (by omega) | have b140 := i_bd ((m 107 v2.toNatClampNeg) + (-1 : Int32))
                      exact K (((m 107 v2.toNatClampNeg) + (-1 : Int32))) _ (zF_u (zF_u (zF_zov (zF_u zF_rfl rfl) ws_245_253) rfl) rfl) hV137 r_W r_GW r_GU r_OW r_DX r_GG r_HA r_RGc (show (m 94 58).toInt = 0 ∨ (m 94 10).toInt = 5 from by omega)
              · skip
                have g141 := i_ne h105
                have hg142 : (0 ≤ v2 ∧ v2.toNatClampNeg < 3100) := i_ix (by omega) (by omega)
                refine ⟨hg142, ?_⟩
                refine zd (fun (h143 : on = (0 : Int32)) => ?_) (fun (h143 : ¬ on = (0 : Int32)) => ?_)
                · skip
                  have g144 := i_eq h143
                  have hV145 : zV (ma_u (zov wr_245 (ma_u m 94 0 (0 : Int32)) m1) 94 0 (0 : Int32)) := uf_94_0 hV_m1
                  have hV146 : zV (ma_u (ma_u (zov wr_245 (ma_u m 94 0 (0 : Int32)) m1) 94 0 (0 : Int32)) 107 v2.toNatClampNeg ((m 107 v2.toNatClampNeg) + (1 : Int32))) := ua_107 hV145
                  refine sp_241 (v2) hV146 (by omega) r_W r_GW r_GU r_OW r_DX (fun m13 hV_m13 p0_m13 p1_m13 p2_m13 p3_m13 p4_m13 => zmv_n ?_)
                  have p0_m13 : zGW T (m13 94 55) (m13 109) := p0_m13
                  have p1_m13 : zGU T (m 94 46) (m13 99) := p1_m13
                  have p2_m13 : zOw (m13 99) (m 103) (m13 111) := p2_m13
                  have p3_m13 : zDX (m 94 10) (m13 99) (m 112) (m13 113) (m13 114) (m13 94 55) (m 98) (m 101) (m 102) (m 108) := p3_m13
                  have p4_m13 : (m 94 10).toInt ≠ 4 → ((m13 99) = (m 99) ∧ (m13 111) = (m 111) ∧ (m13 113) = (m 113) ∧ (m13 114) = (m 114) ∧ (m13 94 55) = (m 94 55) ∧ (m13 109) = (m 109)) := p4_m13
                  have b147 := i_bd (m 107 v2.toNatClampNeg)
                  first | have e148 : ((m 107 v2.toNatClampNeg) + (1 : Int32)).toInt = (m 107 v2.toNatClampNeg).toInt + (1) := i_addk rfl (by omega) (by omega) | have b149 := i_bd ((m 107 v2.toNatClampNeg) + (1 : Int32))
                  exact K (((m 107 v2.toNatClampNeg) + (1 : Int32))) _ (zF_zov (zF_u (zF_u (zF_zov (zF_u zF_rfl rfl) ws_245_253) rfl) rfl) ws_241_253) hV_m13 r_W p0_m13 p1_m13 p2_m13 p3_m13 r_GG (show zHA (m 94 10) (m 94 11) (m 94 13) (m 94 14) (m 94 16) (m 94 61) (m 94 59) (m 94 60) (m13 99) (m 102) (m 103) (m13 111) (m 117) (m 98) (m 101) (m 108) from by first | (exact HA_lq r_HA (fun z => ⟨(p4_m13 z).1, (p4_m13 z).2.1⟩)) | (exfalso; omega; done) | (exfalso; contradiction; done)) (show zRG (m 94 10) (m 94 18) (m 94 64) (m 94 63) (m13 99) (m 103) (m 102) (m 116) from by first | (exact RG_lq r_RGc (fun z => (p4_m13 z).1)) | (exfalso; omega; done) | (exfalso; contradiction; done)) (show (m 94 58).toInt = 0 ∨ (m 94 10).toInt = 5 from by omega)
                · skip
                  have g150 := i_ne h143
                  refine zd (fun (h151 : v2 < (0 : Int32)) => ?_) (fun (h151 : ¬ v2 < (0 : Int32)) => ?_)
                  · skip
                    have g152 := i_lt h151
                    have hV153 : zV (ma_u (zov wr_245 (ma_u m 94 0 (0 : Int32)) m1) 94 0 (0 : Int32)) := uf_94_0 hV_m1
                    have hV154 : zV (ma_u (ma_u (zov wr_245 (ma_u m 94 0 (0 : Int32)) m1) 94 0 (0 : Int32)) 107 v2.toNatClampNeg ((m 107 v2.toNatClampNeg) + (1 : Int32))) := ua_107 hV153
                    have b155 := i_bd (m 107 v2.toNatClampNeg)
                    first | have e156 : ((m 107 v2.toNatClampNeg) + (1 : Int32)).toInt = (m 107 v2.toNatClampNeg).toInt + (1) := i_addk rfl (by omega) (by omega) | have b157 := i_bd ((m 107 v2.toNatClampNeg) + (1 : Int32))
                    exact K (((m 107 v2.toNatClampNeg) + (1 : Int32))) _ (zF_u (zF_u (zF_zov (zF_u zF_rfl rfl) ws_245_253) rfl) rfl) hV154 r_W r_GW r_GU r_OW r_DX r_GG r_HA r_RGc (show (m 94 58).toInt = 0 ∨ (m 94 10).toInt = 5 from by omega)
                  · skip
                    have g158 := i_nlt h151
                    have li159 : (4 : Int32).toInt = 4 := rfl
                    refine zd (fun (h160 : (m 94 10) = (4 : Int32)) => ?_) (fun (h160 : ¬ (m 94 10) = (4 : Int32)) => ?_)
                    · skip
                      have g161 := i_eq h160
                      have hg162 : (0 ≤ v2 ∧ v2.toNatClampNeg < 3100) := i_ix (by omega) (by omega)
                      refine ⟨hg162, ?_⟩
                      have hg163 : (0 ≤ v2 ∧ v2.toNatClampNeg < 3100) := i_ix (by omega) (by omega)
                      refine ⟨hg163, ?_⟩
                      have hV164 : zV (ma_u (zov wr_245 (ma_u m 94 0 (0 : Int32)) m1) 94 0 (0 : Int32)) := uf_94_0 hV_m1
                      have hV165 : zV (ma_u (ma_u (zov wr_245 (ma_u m 94 0 (0 : Int32)) m1) 94 0 (0 : Int32)) 107 v2.toNatClampNeg ((m 107 v2.toNatClampNeg) + (1 : Int32))) := ua_107 hV164
                      have hV166 : zV (ma_u (ma_u (ma_u (zov wr_245 (ma_u m 94 0 (0 : Int32)) m1) 94 0 (0 : Int32)) 107 v2.toNatClampNeg ((m 107 v2.toNatClampNeg) + (1 : Int32))) 105 v2.toNatClampNeg ((m 105 v2.toNatClampNeg) + (1 : Int32))) := ua_105 hV165
                      have b167 := i_bd (m 107 v2.toNatClampNeg)
                      first | have e168 : ((m 107 v2.toNatClampNeg) + (1 : Int32)).toInt = (m 107 v2.toNatClampNeg).toInt + (1) := i_addk rfl (by omega) (by omega) | have b169 := i_bd ((m 107 v2.toNatClampNeg) + (1 : Int32))
                      exact K (((m 107 v2.toNatClampNeg) + (1 : Int32))) _ (zF_u (zF_u (zF_u (zF_zov (zF_u zF_rfl rfl) ws_245_253) rfl) rfl) rfl) hV166 r_W r_GW r_GU r_OW r_DX r_GG r_HA r_RGc (show (m 94 58).toInt = 0 ∨ (m 94 10).toInt = 5 from by omega)
                    · skip
                      have g170 := i_ne h160
                      have hV171 : zV (ma_u (zov wr_245 (ma_u m 94 0 (0 : Int32)) m1) 94 0 (0 : Int32)) := uf_94_0 hV_m1
                      have hV172 : zV (ma_u (ma_u (zov wr_245 (ma_u m 94 0 (0 : Int32)) m1) 94 0 (0 : Int32)) 107 v2.toNatClampNeg ((m 107 v2.toNatClampNeg) + (1 : Int32))) := ua_107 hV171
                      have b173 := i_bd (m 107 v2.toNatClampNeg)
                      first | have b175 := i_bd ((m 107 v2.toNatClampNeg) + (1 : Int32)) | have e174 : ((m 107 v2.toNatClampNeg) + (1 : Int32)).toInt = (m 107 v2.toNatClampNeg).toInt + (1) := i_addk rfl (by omega) (by omega)
                      exact K (((m 107 v2.toNatClampNeg) + (1 : Int32))) _ (zF_u (zF_u (zF_zov (zF_u zF_rfl rfl) ws_245_253) rfl) rfl) hV172 r_W r_GW r_GU r_OW r_DX r_GG r_HA r_RGc (show (m 94 58).toInt = 0 ∨ (m 94 10).toInt = 5 from by omega)
        · skip
          have g176 := i_ne h20
          have b177 := i_bd on
          refine zd (fun (h178 : on = (0 : Int32)) => ?_) (fun (h178 : ¬ on = (0 : Int32)) => ?_)
          · skip
            have g179 := i_eq h178
            have hg180 : (0 ≤ v2 ∧ v2.toNatClampNeg < 3100) := i_ix (by omega) (by omega)
            refine ⟨hg180, ?_⟩
            have b181 := i_bd (m 107 v2.toNatClampNeg)
            refine zd (fun (h182 : (m 107 v2.toNatClampNeg) = (0 : Int32)) => ?_) (fun (h182 : ¬ (m 107 v2.toNatClampNeg) = (0 : Int32)) => ?_)
            · skip
              have g183 := i_eq h182
              have hV184 : zV (ma_u (zov wr_245 (ma_u m 94 0 (0 : Int32)) m1) 94 0 (3 : Int32)) := uf_94_0 hV_m1
              exact K ((0 : Int32)) _ (zF_u (zF_zov (zF_u zF_rfl rfl) ws_245_253) rfl) hV184 r_W r_GW r_GU r_OW r_DX r_GG r_HA r_RGc (show (m 94 58).toInt = 0 ∨ (m 94 10).toInt = 5 from by omega)
            · skip
              have g185 := i_ne h182
              have hg186 : (0 ≤ v2 ∧ v2.toNatClampNeg < 3100) := i_ix (by omega) (by omega)
              refine ⟨hg186, ?_⟩
              refine zd (fun (h187 : on = (0 : Int32)) => ?_) (fun (h187 : ¬ on = (0 : Int32)) => ?_)
              · skip
                have g188 := i_eq h187
                have hg189 : (0 ≤ v2 ∧ v2.toNatClampNeg < 3100) := i_ix (by omega) (by omega)
                refine ⟨hg189, ?_⟩
                refine zd (fun (h190 : on = (0 : Int32)) => ?_) (fun (h190 : ¬ on = (0 : Int32)) => ?_)
                · skip
                  have g191 := i_eq h190
                  have hV192 : zV (ma_u (zov wr_245 (ma_u m 94 0 (0 : Int32)) m1) 94 0 (0 : Int32)) := uf_94_0 hV_m1
                  have hV193 : zV (ma_u (ma_u (zov wr_245 (ma_u m 94 0 (0 : Int32)) m1) 94 0 (0 : Int32)) 107 v2.toNatClampNeg ((m 107 v2.toNatClampNeg) + (-1 : Int32))) := ua_107 hV192
                  refine sp_241 (v2) hV193 (by omega) r_W r_GW r_GU r_OW r_DX (fun m7 hV_m7 p0_m7 p1_m7 p2_m7 p3_m7 p4_m7 => zmv_n ?_)
                  have p0_m7 : zGW T (m7 94 55) (m7 109) := p0_m7
                  have p1_m7 : zGU T (m 94 46) (m7 99) := p1_m7
                  have p2_m7 : zOw (m7 99) (m 103) (m7 111) := p2_m7
                  have p3_m7 : zDX (m 94 10) (m7 99) (m 112) (m7 113) (m7 114) (m7 94 55) (m 98) (m 101) (m 102) (m 108) := p3_m7
                  have p4_m7 : (m 94 10).toInt ≠ 4 → ((m7 99) = (m 99) ∧ (m7 111) = (m 111) ∧ (m7 113) = (m 113) ∧ (m7 114) = (m 114) ∧ (m7 94 55) = (m 94 55) ∧ (m7 109) = (m 109)) := p4_m7
                  first | have b195 := i_bd ((m 107 v2.toNatClampNeg) + (-1 : Int32)) | have e194 : ((m 107 v2.toNatClampNeg) + (-1 : Int32)).toInt = (m 107 v2.toNatClampNeg).toInt + (-1) := i_addk rfl (by omega) (by omega)
                  exact K (((m 107 v2.toNatClampNeg) + (-1 : Int32))) _ (zF_zov (zF_u (zF_u (zF_zov (zF_u zF_rfl rfl) ws_245_253) rfl) rfl) ws_241_253) hV_m7 r_W p0_m7 p1_m7 p2_m7 p3_m7 r_GG (show zHA (m 94 10) (m 94 11) (m 94 13) (m 94 14) (m 94 16) (m 94 61) (m 94 59) (m 94 60) (m7 99) (m 102) (m 103) (m7 111) (m 117) (m 98) (m 101) (m 108) from by first | (exact HA_lq r_HA (fun z => ⟨(p4_m7 z).1, (p4_m7 z).2.1⟩)) | (exfalso; omega; done) | (exfalso; contradiction; done)) (show zRG (m 94 10) (m 94 18) (m 94 64) (m 94 63) (m7 99) (m 103) (m 102) (m 116) from by first | (exact RG_lq r_RGc (fun z => (p4_m7 z).1)) | (exfalso; omega; done) | (exfalso; contradiction; done)) (show (m 94 58).toInt = 0 ∨ (m 94 10).toInt = 5 from by omega)
                · skip
                  have g196 := i_ne h190
                  refine zd (fun (h197 : v2 < (0 : Int32)) => ?_) (fun (h197 : ¬ v2 < (0 : Int32)) => ?_)
                  · skip
                    have g198 := i_lt h197
                    have hV199 : zV (ma_u (zov wr_245 (ma_u m 94 0 (0 : Int32)) m1) 94 0 (0 : Int32)) := uf_94_0 hV_m1
                    have hV200 : zV (ma_u (ma_u (zov wr_245 (ma_u m 94 0 (0 : Int32)) m1) 94 0 (0 : Int32)) 107 v2.toNatClampNeg ((m 107 v2.toNatClampNeg) + (-1 : Int32))) := ua_107 hV199
                    first | have e201 : ((m 107 v2.toNatClampNeg) + (-1 : Int32)).toInt = (m 107 v2.toNatClampNeg).toInt + (-1) := i_addk rfl (by omega) (by omega) | have b202 := i_bd ((m 107 v2.toNatClampNeg) + (-1 : Int32))
                    exact K (((m 107 v2.toNatClampNeg) + (-1 : Int32))) _ (zF_u (zF_u (zF_zov (zF_u zF_rfl rfl) ws_245_253) rfl) rfl) hV200 r_W r_GW r_GU r_OW r_DX r_GG r_HA r_RGc (show (m 94 58).toInt = 0 ∨ (m 94 10).toInt = 5 from by omega)
                  · skip
                    have g203 := i_nlt h197
                    have li204 : (4 : Int32).toInt = 4 := rfl
                    refine zd (fun (h205 : (m 94 10) = (4 : Int32)) => ?_) (fun (h205 : ¬ (m 94 10) = (4 : Int32)) => ?_)
                    · skip
                      have g206 := i_eq h205
                      have hg207 : (0 ≤ v2 ∧ v2.toNatClampNeg < 3100) := i_ix (by omega) (by omega)
                      refine ⟨hg207, ?_⟩
                      have hg208 : (0 ≤ v2 ∧ v2.toNatClampNeg < 3100) := i_ix (by omega) (by omega)
                      refine ⟨hg208, ?_⟩
                      have hV209 : zV (ma_u (zov wr_245 (ma_u m 94 0 (0 : Int32)) m1) 94 0 (0 : Int32)) := uf_94_0 hV_m1
                      have hV210 : zV (ma_u (ma_u (zov wr_245 (ma_u m 94 0 (0 : Int32)) m1) 94 0 (0 : Int32)) 107 v2.toNatClampNeg ((m 107 v2.toNatClampNeg) + (-1 : Int32))) := ua_107 hV209
                      have hV211 : zV (ma_u (ma_u (ma_u (zov wr_245 (ma_u m 94 0 (0 : Int32)) m1) 94 0 (0 : Int32)) 107 v2.toNatClampNeg ((m 107 v2.toNatClampNeg) + (-1 : Int32))) 105 v2.toNatClampNeg ((m 105 v2.toNatClampNeg) + (1 : Int32))) := ua_105 hV210
                      first | have e212 : ((m 107 v2.toNatClampNeg) + (-1 : Int32)).toInt = (m 107 v2.toNatClampNeg).toInt + (-1) := i_addk rfl (by omega) (by omega) | have b213 := i_bd ((m 107 v2.toNatClampNeg) + (-1 : Int32))
                      exact K (((m 107 v2.toNatClampNeg) + (-1 : Int32))) _ (zF_u (zF_u (zF_u (zF_zov (zF_u zF_rfl rfl) ws_245_253) rfl) rfl) rfl) hV211 r_W r_GW r_GU r_OW r_DX r_GG r_HA r_RGc (show (m 94 58).toInt = 0 ∨ (m 94 10).toInt = 5 from by omega)
                    · skip
                      have g214 := i_ne h205
                      have hV215 : zV (ma_u (zov wr_245 (ma_u m 94 0 (0 : Int32)) m1) 94 0 (0 : Int32)) := uf_94_0 hV_m1
                      have hV216 : zV (ma_u (ma_u (zov wr_245 (ma_u m 94 0 (0 : Int32)) m1) 94 0 (0 : Int32)) 107 v2.toNatClampNeg ((m 107 v2.toNatClampNeg) + (-1 : Int32))) := ua_107 hV215
                      first | have e217 : ((m 107 v2.toNatClampNeg) + (-1 : Int32)).toInt = (m 107 v2.toNatClampNeg).toInt + (-1) := i_addk rfl (by omega) (by omega) | have b218 := i_bd ((m 107 v2.toNatClampNeg) + (-1 : Int32))
                      exact K (((m 107 v2.toNatClampNeg) + (-1 : Int32))) _ (zF_u (zF_u (zF_zov (zF_u zF_rfl rfl) ws_245_253) rfl) rfl) hV216 r_W r_GW r_GU r_OW r_DX r_GG r_HA r_RGc (show (m 94 58).toInt = 0 ∨ (m 94 10).toInt = 5 from by omega)
              · skip
                have g219 := i_ne h187
                have hg220 : (0 ≤ v2 ∧ v2.toNatClampNeg < 3100) := i_ix (by omega) (by omega)
                refine ⟨hg220, ?_⟩
                refine zd (fun (h221 : on = (0 : Int32)) => ?_) (fun (h221 : ¬ on = (0 : Int32)) => ?_)
                · skip
                  have g222 := i_eq h221
                  have hV223 : zV (ma_u (zov wr_245 (ma_u m 94 0 (0 : Int32)) m1) 94 0 (0 : Int32)) := uf_94_0 hV_m1
                  have hV224 : zV (ma_u (ma_u (zov wr_245 (ma_u m 94 0 (0 : Int32)) m1) 94 0 (0 : Int32)) 107 v2.toNatClampNeg ((m 107 v2.toNatClampNeg) + (1 : Int32))) := ua_107 hV223
                  refine sp_241 (v2) hV224 (by omega) r_W r_GW r_GU r_OW r_DX (fun m9 hV_m9 p0_m9 p1_m9 p2_m9 p3_m9 p4_m9 => zmv_n ?_)
                  have p0_m9 : zGW T (m9 94 55) (m9 109) := p0_m9
                  have p1_m9 : zGU T (m 94 46) (m9 99) := p1_m9
                  have p2_m9 : zOw (m9 99) (m 103) (m9 111) := p2_m9
                  have p3_m9 : zDX (m 94 10) (m9 99) (m 112) (m9 113) (m9 114) (m9 94 55) (m 98) (m 101) (m 102) (m 108) := p3_m9
                  have p4_m9 : (m 94 10).toInt ≠ 4 → ((m9 99) = (m 99) ∧ (m9 111) = (m 111) ∧ (m9 113) = (m 113) ∧ (m9 114) = (m 114) ∧ (m9 94 55) = (m 94 55) ∧ (m9 109) = (m 109)) := p4_m9
                  first | have e225 : ((m 107 v2.toNatClampNeg) + (1 : Int32)).toInt = (m 107 v2.toNatClampNeg).toInt + (1) := i_addk rfl (by omega) (by omega) | have b226 := i_bd ((m 107 v2.toNatClampNeg) + (1 : Int32))
                  exact K (((m 107 v2.toNatClampNeg) + (1 : Int32))) _ (zF_zov (zF_u (zF_u (zF_zov (zF_u zF_rfl rfl) ws_245_253) rfl) rfl) ws_241_253) hV_m9 r_W p0_m9 p1_m9 p2_m9 p3_m9 r_GG (show zHA (m 94 10) (m 94 11) (m 94 13) (m 94 14) (m 94 16) (m 94 61) (m 94 59) (m 94 60) (m9 99) (m 102) (m 103) (m9 111) (m 117) (m 98) (m 101) (m 108) from by first | (exact HA_lq r_HA (fun z => ⟨(p4_m9 z).1, (p4_m9 z).2.1⟩)) | (exfalso; omega; done) | (exfalso; contradiction; done)) (show zRG (m 94 10) (m 94 18) (m 94 64) (m 94 63) (m9 99) (m 103) (m 102) (m 116) from by first | (exact RG_lq r_RGc (fun z => (p4_m9 z).1)) | (exfalso; omega; done) | (exfalso; contradiction; done)) (show (m 94 58).toInt = 0 ∨ (m 94 10).toInt = 5 from by omega)
                · skip
                  have g227 := i_ne h221
                  refine zd (fun (h228 : v2 < (0 : Int32)) => ?_) (fun (h228 : ¬ v2 < (0 : Int32)) => ?_)
                  · skip
                    have g229 := i_lt h228
                    have hV230 : zV (ma_u (zov wr_245 (ma_u m 94 0 (0 : Int32)) m1) 94 0 (0 : Int32)) := uf_94_0 hV_m1
                    have hV231 : zV (ma_u (ma_u (zov wr_245 (ma_u m 94 0 (0 : Int32)) m1) 94 0 (0 : Int32)) 107 v2.toNatClampNeg ((m 107 v2.toNatClampNeg) + (1 : Int32))) := ua_107 hV230
                    first | have e232 : ((m 107 v2.toNatClampNeg) + (1 : Int32)).toInt = (m 107 v2.toNatClampNeg).toInt + (1) := i_addk rfl (by omega) (by omega) | have b233 := i_bd ((m 107 v2.toNatClampNeg) + (1 : Int32))
                    exact K (((m 107 v2.toNatClampNeg) + (1 : Int32))) _ (zF_u (zF_u (zF_zov (zF_u zF_rfl rfl) ws_245_253) rfl) rfl) hV231 r_W r_GW r_GU r_OW r_DX r_GG r_HA r_RGc (show (m 94 58).toInt = 0 ∨ (m 94 10).toInt = 5 from by omega)
                  · skip
                    have g234 := i_nlt h228
                    have li235 : (4 : Int32).toInt = 4 := rfl
                    refine zd (fun (h236 : (m 94 10) = (4 : Int32)) => ?_) (fun (h236 : ¬ (m 94 10) = (4 : Int32)) => ?_)
                    · skip
                      have g237 := i_eq h236
                      have hg238 : (0 ≤ v2 ∧ v2.toNatClampNeg < 3100) := i_ix (by omega) (by omega)
                      refine ⟨hg238, ?_⟩
                      have hg239 : (0 ≤ v2 ∧ v2.toNatClampNeg < 3100) := i_ix (by omega) (by omega)
                      refine ⟨hg239, ?_⟩
                      have hV240 : zV (ma_u (zov wr_245 (ma_u m 94 0 (0 : Int32)) m1) 94 0 (0 : Int32)) := uf_94_0 hV_m1
                      have hV241 : zV (ma_u (ma_u (zov wr_245 (ma_u m 94 0 (0 : Int32)) m1) 94 0 (0 : Int32)) 107 v2.toNatClampNeg ((m 107 v2.toNatClampNeg) + (1 : Int32))) := ua_107 hV240
                      have hV242 : zV (ma_u (ma_u (ma_u (zov wr_245 (ma_u m 94 0 (0 : Int32)) m1) 94 0 (0 : Int32)) 107 v2.toNatClampNeg ((m 107 v2.toNatClampNeg) + (1 : Int32))) 105 v2.toNatClampNeg ((m 105 v2.toNatClampNeg) + (1 : Int32))) := ua_105 hV241
                      first | have e243 : ((m 107 v2.toNatClampNeg) + (1 : Int32)).toInt = (m 107 v2.toNatClampNeg).toInt + (1) := i_addk rfl (by omega) (by omega) | have b244 := i_bd ((m 107 v2.toNatClampNeg) + (1 : Int32))
                      exact K (((m 107 v2.toNatClampNeg) + (1 : Int32))) _ (zF_u (zF_u (zF_u (zF_zov (zF_u zF_rfl rfl) ws_245_253) rfl) rfl) rfl) hV242 r_W r_GW r_GU r_OW r_DX r_GG r_HA r_RGc (show (m 94 58).toInt = 0 ∨ (m 94 10).toInt = 5 from by omega)
                    · skip
                      have g245 := i_ne h236
                      have hV246 : zV (ma_u (zov wr_245 (ma_u m 94 0 (0 : Int32)) m1) 94 0 (0 : Int32)) := uf_94_0 hV_m1
                      have hV247 : zV (ma_u (ma_u (zov wr_245 (ma_u m 94 0 (0 : Int32)) m1) 94 0 (0 : Int32)) 107 v2.toNatClampNeg ((m 107 v2.toNatClampNeg) + (1 : Int32))) := ua_107 hV246
                      first | have e248 : ((m 107 v2.toNatClampNeg) + (1 : Int32)).toInt = (m 107 v2.toNatClampNeg).toInt + (1) := i_addk rfl (by omega) (by omega) | have b249 := i_bd ((m 107 v2.toNatClampNeg) + (1 : Int32))
                      exact K (((m 107 v2.toNatClampNeg) + (1 : Int32))) _ (zF_u (zF_u (zF_zov (zF_u zF_rfl rfl) ws_245_253) rfl) rfl) hV247 r_W r_GW r_GU r_OW r_DX r_GG r_HA r_RGc (show (m 94 58).toInt = 0 ∨ (m 94 10).toInt = 5 from by omega)
          · skip
            have g250 := i_ne h178
            have hg251 : (0 ≤ v2 ∧ v2.toNatClampNeg < 3100) := i_ix (by omega) (by omega)
            refine ⟨hg251, ?_⟩
            refine zd (fun (h252 : on = (0 : Int32)) => ?_) (fun (h252 : ¬ on = (0 : Int32)) => ?_)
            · skip
              have g253 := i_eq h252
              have hg254 : (0 ≤ v2 ∧ v2.toNatClampNeg < 3100) := i_ix (by omega) (by omega)
              refine ⟨hg254, ?_⟩
              refine zd (fun (h255 : on = (0 : Int32)) => ?_) (fun (h255 : ¬ on = (0 : Int32)) => ?_)
              · skip
                have g256 := i_eq h255
                have hV257 : zV (ma_u (zov wr_245 (ma_u m 94 0 (0 : Int32)) m1) 94 0 (0 : Int32)) := uf_94_0 hV_m1
                have hV258 : zV (ma_u (ma_u (zov wr_245 (ma_u m 94 0 (0 : Int32)) m1) 94 0 (0 : Int32)) 107 v2.toNatClampNeg ((m 107 v2.toNatClampNeg) + (-1 : Int32))) := ua_107 hV257
                refine sp_241 (v2) hV258 (by omega) r_W r_GW r_GU r_OW r_DX (fun m3 hV_m3 p0_m3 p1_m3 p2_m3 p3_m3 p4_m3 => zmv_n ?_)
                have p0_m3 : zGW T (m3 94 55) (m3 109) := p0_m3
                have p1_m3 : zGU T (m 94 46) (m3 99) := p1_m3
                have p2_m3 : zOw (m3 99) (m 103) (m3 111) := p2_m3
                have p3_m3 : zDX (m 94 10) (m3 99) (m 112) (m3 113) (m3 114) (m3 94 55) (m 98) (m 101) (m 102) (m 108) := p3_m3
                have p4_m3 : (m 94 10).toInt ≠ 4 → ((m3 99) = (m 99) ∧ (m3 111) = (m 111) ∧ (m3 113) = (m 113) ∧ (m3 114) = (m 114) ∧ (m3 94 55) = (m 94 55) ∧ (m3 109) = (m 109)) := p4_m3
                have b259 := i_bd (m 107 v2.toNatClampNeg)
                first | have e260 : ((m 107 v2.toNatClampNeg) + (-1 : Int32)).toInt = (m 107 v2.toNatClampNeg).toInt + (-1) := i_addk rfl (by omega) (by omega) | have b261 := i_bd ((m 107 v2.toNatClampNeg) + (-1 : Int32))
                exact K (((m 107 v2.toNatClampNeg) + (-1 : Int32))) _ (zF_zov (zF_u (zF_u (zF_zov (zF_u zF_rfl rfl) ws_245_253) rfl) rfl) ws_241_253) hV_m3 r_W p0_m3 p1_m3 p2_m3 p3_m3 r_GG (show zHA (m 94 10) (m 94 11) (m 94 13) (m 94 14) (m 94 16) (m 94 61) (m 94 59) (m 94 60) (m3 99) (m 102) (m 103) (m3 111) (m 117) (m 98) (m 101) (m 108) from by first | (exact HA_lq r_HA (fun z => ⟨(p4_m3 z).1, (p4_m3 z).2.1⟩)) | (exfalso; omega; done) | (exfalso; contradiction; done)) (show zRG (m 94 10) (m 94 18) (m 94 64) (m 94 63) (m3 99) (m 103) (m 102) (m 116) from by first | (exact RG_lq r_RGc (fun z => (p4_m3 z).1)) | (exfalso; omega; done) | (exfalso; contradiction; done)) (show (m 94 58).toInt = 0 ∨ (m 94 10).toInt = 5 from by omega)
              · skip
                have g262 := i_ne h255
                refine zd (fun (h263 : v2 < (0 : Int32)) => ?_) (fun (h263 : ¬ v2 < (0 : Int32)) => ?_)
                · skip
                  have g264 := i_lt h263
                  have hV265 : zV (ma_u (zov wr_245 (ma_u m 94 0 (0 : Int32)) m1) 94 0 (0 : Int32)) := uf_94_0 hV_m1
                  have hV266 : zV (ma_u (ma_u (zov wr_245 (ma_u m 94 0 (0 : Int32)) m1) 94 0 (0 : Int32)) 107 v2.toNatClampNeg ((m 107 v2.toNatClampNeg) + (-1 : Int32))) := ua_107 hV265
                  have b267 := i_bd (m 107 v2.toNatClampNeg)
                  first | have e268 : ((m 107 v2.toNatClampNeg) + (-1 : Int32)).toInt = (m 107 v2.toNatClampNeg).toInt + (-1) := i_addk rfl (by omega) (by omega) | have b269 := i_bd ((m 107 v2.toNatClampNeg) + (-1 : Int32))
                  exact K (((m 107 v2.toNatClampNeg) + (-1 : Int32))) _ (zF_u (zF_u (zF_zov (zF_u zF_rfl rfl) ws_245_253) rfl) rfl) hV266 r_W r_GW r_GU r_OW r_DX r_GG r_HA r_RGc (show (m 94 58).toInt = 0 ∨ (m 94 10).toInt = 5 from by omega)
                · skip
                  have g270 := i_nlt h263
                  have li271 : (4 : Int32).toInt = 4 := rfl
                  refine zd (fun (h272 : (m 94 10) = (4 : Int32)) => ?_) (fun (h272 : ¬ (m 94 10) = (4 : Int32)) => ?_)
                  · skip
                    have g273 := i_eq h272
                    have hg274 : (0 ≤ v2 ∧ v2.toNatClampNeg < 3100) := i_ix (by omega) (by omega)
                    refine ⟨hg274, ?_⟩
                    have hg275 : (0 ≤ v2 ∧ v2.toNatClampNeg < 3100) := i_ix (by omega) (by omega)
                    refine ⟨hg275, ?_⟩
                    have hV276 : zV (ma_u (zov wr_245 (ma_u m 94 0 (0 : Int32)) m1) 94 0 (0 : Int32)) := uf_94_0 hV_m1
                    have hV277 : zV (ma_u (ma_u (zov wr_245 (ma_u m 94 0 (0 : Int32)) m1) 94 0 (0 : Int32)) 107 v2.toNatClampNeg ((m 107 v2.toNatClampNeg) + (-1 : Int32))) := ua_107 hV276
                    have hV278 : zV (ma_u (ma_u (ma_u (zov wr_245 (ma_u m 94 0 (0 : Int32)) m1) 94 0 (0 : Int32)) 107 v2.toNatClampNeg ((m 107 v2.toNatClampNeg) + (-1 : Int32))) 105 v2.toNatClampNeg ((m 105 v2.toNatClampNeg) + (1 : Int32))) := ua_105 hV277
                    have b279 := i_bd (m 107 v2.toNatClampNeg)
                    first | have e280 : ((m 107 v2.toNatClampNeg) + (-1 : Int32)).toInt = (m 107 v2.toNatClampNeg).toInt + (-1) := i_addk rfl (by omega) (by omega) | have b281 := i_bd ((m 107 v2.toNatClampNeg) + (-1 : Int32))
                    exact K (((m 107 v2.toNatClampNeg) + (-1 : Int32))) _ (zF_u (zF_u (zF_u (zF_zov (zF_u zF_rfl rfl) ws_245_253) rfl) rfl) rfl) hV278 r_W r_GW r_GU r_OW r_DX r_GG r_HA r_RGc (show (m 94 58).toInt = 0 ∨ (m 94 10).toInt = 5 from by omega)
                  · skip
                    have g282 := i_ne h272
                    have hV283 : zV (ma_u (zov wr_245 (ma_u m 94 0 (0 : Int32)) m1) 94 0 (0 : Int32)) := uf_94_0 hV_m1
                    have hV284 : zV (ma_u (ma_u (zov wr_245 (ma_u m 94 0 (0 : Int32)) m1) 94 0 (0 : Int32)) 107 v2.toNatClampNeg ((m 107 v2.toNatClampNeg) + (-1 : Int32))) := ua_107 hV283
                    have b285 := i_bd (m 107 v2.toNatClampNeg)
                    first | have e286 : ((m 107 v2.toNatClampNeg) + (-1 : Int32)).toInt = (m 107 v2.toNatClampNeg).toInt + (-1) := i_addk rfl (by omega) (by omega) | have b287 := i_bd ((m 107 v2.toNatClampNeg) + (-1 : Int32))
                    exact K (((m 107 v2.toNatClampNeg) + (-1 : Int32))) _ (zF_u (zF_u (zF_zov (zF_u zF_rfl rfl) ws_245_253) rfl) rfl) hV284 r_W r_GW r_GU r_OW r_DX r_GG r_HA r_RGc (show (m 94 58).toInt = 0 ∨ (m 94 10).toInt = 5 from by omega)
            · skip
              have g288 := i_ne h252
              have hg289 : (0 ≤ v2 ∧ v2.toNatClampNeg < 3100) := i_ix (by omega) (by omega)
              refine ⟨hg289, ?_⟩
              refine zd (fun (h290 : on = (0 : Int32)) => ?_) (fun (h290 : ¬ on = (0 : Int32)) => ?_)
              · skip
                have g291 := i_eq h290
                have hV292 : zV (ma_u (zov wr_245 (ma_u m 94 0 (0 : Int32)) m1) 94 0 (0 : Int32)) := uf_94_0 hV_m1
                have hV293 : zV (ma_u (ma_u (zov wr_245 (ma_u m 94 0 (0 : Int32)) m1) 94 0 (0 : Int32)) 107 v2.toNatClampNeg ((m 107 v2.toNatClampNeg) + (1 : Int32))) := ua_107 hV292
                refine sp_241 (v2) hV293 (by omega) r_W r_GW r_GU r_OW r_DX (fun m5 hV_m5 p0_m5 p1_m5 p2_m5 p3_m5 p4_m5 => zmv_n ?_)
                have p0_m5 : zGW T (m5 94 55) (m5 109) := p0_m5
                have p1_m5 : zGU T (m 94 46) (m5 99) := p1_m5
                have p2_m5 : zOw (m5 99) (m 103) (m5 111) := p2_m5
                have p3_m5 : zDX (m 94 10) (m5 99) (m 112) (m5 113) (m5 114) (m5 94 55) (m 98) (m 101) (m 102) (m 108) := p3_m5
                have p4_m5 : (m 94 10).toInt ≠ 4 → ((m5 99) = (m 99) ∧ (m5 111) = (m 111) ∧ (m5 113) = (m 113) ∧ (m5 114) = (m 114) ∧ (m5 94 55) = (m 94 55) ∧ (m5 109) = (m 109)) := p4_m5
                have b294 := i_bd (m 107 v2.toNatClampNeg)
                first | have e295 : ((m 107 v2.toNatClampNeg) + (1 : Int32)).toInt = (m 107 v2.toNatClampNeg).toInt + (1) := i_addk rfl (by omega) (by omega) | have b296 := i_bd ((m 107 v2.toNatClampNeg) + (1 : Int32))
                exact K (((m 107 v2.toNatClampNeg) + (1 : Int32))) _ (zF_zov (zF_u (zF_u (zF_zov (zF_u zF_rfl rfl) ws_245_253) rfl) rfl) ws_241_253) hV_m5 r_W p0_m5 p1_m5 p2_m5 p3_m5 r_GG (show zHA (m 94 10) (m 94 11) (m 94 13) (m 94 14) (m 94 16) (m 94 61) (m 94 59) (m 94 60) (m5 99) (m 102) (m 103) (m5 111) (m 117) (m 98) (m 101) (m 108) from by first | (exact HA_lq r_HA (fun z => ⟨(p4_m5 z).1, (p4_m5 z).2.1⟩)) | (exfalso; omega; done) | (exfalso; contradiction; done)) (show zRG (m 94 10) (m 94 18) (m 94 64) (m 94 63) (m5 99) (m 103) (m 102) (m 116) from by first | (exact RG_lq r_RGc (fun z => (p4_m5 z).1)) | (exfalso; omega; done) | (exfalso; contradiction; done)) (show (m 94 58).toInt = 0 ∨ (m 94 10).toInt = 5 from by omega)
              · skip
                have g297 := i_ne h290
                refine zd (fun (h298 : v2 < (0 : Int32)) => ?_) (fun (h298 : ¬ v2 < (0 : Int32)) => ?_)
                · skip
                  have g299 := i_lt h298
                  have hV300 : zV (ma_u (zov wr_245 (ma_u m 94 0 (0 : Int32)) m1) 94 0 (0 : Int32)) := uf_94_0 hV_m1
                  have hV301 : zV (ma_u (ma_u (zov wr_245 (ma_u m 94 0 (0 : Int32)) m1) 94 0 (0 : Int32)) 107 v2.toNatClampNeg ((m 107 v2.toNatClampNeg) + (1 : Int32))) := ua_107 hV300
                  have b302 := i_bd (m 107 v2.toNatClampNeg)
                  first | have e303 : ((m 107 v2.toNatClampNeg) + (1 : Int32)).toInt = (m 107 v2.toNatClampNeg).toInt + (1) := i_addk rfl (by omega) (by omega) | have b304 := i_bd ((m 107 v2.toNatClampNeg) + (1 : Int32))
                  exact K (((m 107 v2.toNatClampNeg) + (1 : Int32))) _ (zF_u (zF_u (zF_zov (zF_u zF_rfl rfl) ws_245_253) rfl) rfl) hV301 r_W r_GW r_GU r_OW r_DX r_GG r_HA r_RGc (show (m 94 58).toInt = 0 ∨ (m 94 10).toInt = 5 from by omega)
                · skip
                  have g305 := i_nlt h298
                  have li306 : (4 : Int32).toInt = 4 := rfl
                  refine zd (fun (h307 : (m 94 10) = (4 : Int32)) => ?_) (fun (h307 : ¬ (m 94 10) = (4 : Int32)) => ?_)
                  · skip
                    have g308 := i_eq h307
                    have hg309 : (0 ≤ v2 ∧ v2.toNatClampNeg < 3100) := i_ix (by omega) (by omega)
                    refine ⟨hg309, ?_⟩
                    have hg310 : (0 ≤ v2 ∧ v2.toNatClampNeg < 3100) := i_ix (by omega) (by omega)
                    refine ⟨hg310, ?_⟩
                    have hV311 : zV (ma_u (zov wr_245 (ma_u m 94 0 (0 : Int32)) m1) 94 0 (0 : Int32)) := uf_94_0 hV_m1
                    have hV312 : zV (ma_u (ma_u (zov wr_245 (ma_u m 94 0 (0 : Int32)) m1) 94 0 (0 : Int32)) 107 v2.toNatClampNeg ((m 107 v2.toNatClampNeg) + (1 : Int32))) := ua_107 hV311
                    have hV313 : zV (ma_u (ma_u (ma_u (zov wr_245 (ma_u m 94 0 (0 : Int32)) m1) 94 0 (0 : Int32)) 107 v2.toNatClampNeg ((m 107 v2.toNatClampNeg) + (1 : Int32))) 105 v2.toNatClampNeg ((m 105 v2.toNatClampNeg) + (1 : Int32))) := ua_105 hV312
                    have b314 := i_bd (m 107 v2.toNatClampNeg)
                    first | have b316 := i_bd ((m 107 v2.toNatClampNeg) + (1 : Int32)) | have e315 : ((m 107 v2.toNatClampNeg) + (1 : Int32)).toInt = (m 107 v2.toNatClampNeg).toInt + (1) := i_addk rfl (by omega) (by omega)
                    exact K (((m 107 v2.toNatClampNeg) + (1 : Int32))) _ (zF_u (zF_u (zF_u (zF_zov (zF_u zF_rfl rfl) ws_245_253) rfl) rfl) rfl) hV313 r_W r_GW r_GU r_OW r_DX r_GG r_HA r_RGc (show (m 94 58).toInt = 0 ∨ (m 94 10).toInt = 5 from by omega)
                  · skip
                    have g317 := i_ne h307
                    have hV318 : zV (ma_u (zov wr_245 (ma_u m 94 0 (0 : Int32)) m1) 94 0 (0 : Int32)) := uf_94_0 hV_m1
                    have hV319 : zV (ma_u (ma_u (zov wr_245 (ma_u m 94 0 (0 : Int32)) m1) 94 0 (0 : Int32)) 107 v2.toNatClampNeg ((m 107 v2.toNatClampNeg) + (1 : Int32))) := ua_107 hV318
                    have b320 := i_bd (m 107 v2.toNatClampNeg)
                    first | have b322 := i_bd ((m 107 v2.toNatClampNeg) + (1 : Int32)) | have e321 : ((m 107 v2.toNatClampNeg) + (1 : Int32)).toInt = (m 107 v2.toNatClampNeg).toInt + (1) := i_addk rfl (by omega) (by omega)
                    exact K (((m 107 v2.toNatClampNeg) + (1 : Int32))) _ (zF_u (zF_u (zF_zov (zF_u zF_rfl rfl) ws_245_253) rfl) rfl) hV319 r_W r_GW r_GU r_OW r_DX r_GG r_HA r_RGc (show (m 94 58).toInt = 0 ∨ (m 94 10).toInt = 5 from by omega)
    · skip
      have g323 := i_nle h12
      have hV324 : zV (ma_u (zov wr_245 (ma_u m 94 0 (0 : Int32)) m1) 94 0 (2 : Int32)) := uf_94_0 hV_m1
      exact K ((0 : Int32)) _ (zF_u (zF_zov (zF_u zF_rfl rfl) ws_245_253) rfl) hV324 r_W r_GW r_GU r_OW r_DX r_GG r_HA r_RGc (show (m 94 58).toInt = 0 ∨ (m 94 10).toInt = 5 from by omega)

