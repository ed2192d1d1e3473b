/-! from 94.430 -/
/-! the reference (written by wip/tools/gen94m.py) -/
set_option maxRecDepth 100000 in
theorem hm_241 : ma_md 241 = some (12, yX12_less, cX12_less, 5, none) := rfl
theorem v_12_393_12 : ma_vl 12 393 12 = some (1, 242, 1) := by decide +kernel
theorem dX12_less_0 : decode cX12_less 0 = .ok (.iload_n 1, 1) := by decide +kernel
theorem dX12_less_12 : decode cX12_less 12 = .ok (.return_, 1) := by decide +kernel
theorem dX12_less_4 : decode cX12_less 4 = .ok (.aload_n 0, 1) := by decide +kernel
theorem dX12_less_8 : decode cX12_less 8 = .ok (.iconst 4, 1) := by decide +kernel
theorem dX12_less_13 : decode cX12_less 13 = .ok (.aload_n 0, 1) := by decide +kernel
theorem dX12_less_14 : decode cX12_less 14 = .ok (.iconst 0, 1) := by decide +kernel
theorem dX12_less_18 : decode cX12_less 18 = .ok (.aload_n 0, 1) := by decide +kernel
theorem dX12_less_19 : decode cX12_less 19 = .ok (.iload_n 1, 1) := by decide +kernel
theorem dX12_less_20 : decode cX12_less 20 = .ok (.invokevirtual 393, 3) := by decide +kernel
theorem dX12_less_15 : decode cX12_less 15 = .ok (.putfield 390, 3) := by decide +kernel
theorem dX12_less_9 : decode cX12_less 9 = .ok (.if_icmp .eq 4, 3) := by decide +kernel
theorem dX12_less_5 : decode cX12_less 5 = .ok (.getfield 199, 3) := by decide +kernel
theorem dX12_less_1 : decode cX12_less 1 = .ok (.ifCond .lt 11, 3) := by decide +kernel
theorem dX12_less_23 : decode cX12_less 23 = .ok (.aload_n 0, 1) := by decide +kernel
theorem dX12_less_114 : decode cX12_less 114 = .ok (.return_, 1) := by decide +kernel
theorem dX12_less_30 : decode cX12_less 30 = .ok (.aload_n 0, 1) := by decide +kernel
theorem dX12_less_34 : decode cX12_less 34 = .ok (.aload_n 0, 1) := by decide +kernel
theorem dX12_less_38 : decode cX12_less 38 = .ok (.iconst 1, 1) := by decide +kernel
theorem dX12_less_39 : decode cX12_less 39 = .ok (.isub, 1) := by decide +kernel
theorem dX12_less_41 : decode cX12_less 41 = .ok (.istore_n 2, 1) := by decide +kernel
theorem dX12_less_42 : decode cX12_less 42 = .ok (.aload_n 0, 1) := by decide +kernel
theorem dX12_less_46 : decode cX12_less 46 = .ok (.aload_n 0, 1) := by decide +kernel
theorem dX12_less_50 : decode cX12_less 50 = .ok (.iconst 1, 1) := by decide +kernel
theorem dX12_less_51 : decode cX12_less 51 = .ok (.isub, 1) := by decide +kernel
theorem dX12_less_53 : decode cX12_less 53 = .ok (.istore_n 3, 1) := by decide +kernel
theorem dX12_less_54 : decode cX12_less 54 = .ok (.iload_n 3, 1) := by decide +kernel
theorem dX12_less_55 : decode cX12_less 55 = .ok (.aload_n 0, 1) := by decide +kernel
theorem dX12_less_59 : decode cX12_less 59 = .ok (.iload_n 2, 1) := by decide +kernel
theorem dX12_less_77 : decode cX12_less 77 = .ok (.aload_n 0, 1) := by decide +kernel
theorem dX12_less_81 : decode cX12_less 81 = .ok (.aload_n 0, 1) := by decide +kernel
theorem dX12_less_85 : decode cX12_less 85 = .ok (.iconst 1, 1) := by decide +kernel
theorem dX12_less_86 : decode cX12_less 86 = .ok (.isub, 1) := by decide +kernel
theorem dX12_less_87 : decode cX12_less 87 = .ok (.dup2, 1) := by decide +kernel
theorem dX12_less_89 : decode cX12_less 89 = .ok (.iconst 1, 1) := by decide +kernel
theorem dX12_less_90 : decode cX12_less 90 = .ok (.iadd, 1) := by decide +kernel
theorem dX12_less_92 : decode cX12_less 92 = .ok (.aload_n 0, 1) := by decide +kernel
theorem dX12_less_93 : decode cX12_less 93 = .ok (.iload_n 2, 1) := by decide +kernel
theorem dX12_less_94 : decode cX12_less 94 = .ok (.iload_n 3, 1) := by decide +kernel
theorem dX12_less_95 : decode cX12_less 95 = .ok (.invokevirtual 294, 3) := by decide +kernel
theorem dX12_less_98 : decode cX12_less 98 = .ok (.istore 4, 2) := by decide +kernel
theorem dX12_less_100 : decode cX12_less 100 = .ok (.iload 4, 2) := by decide +kernel
theorem dX12_less_111 : decode cX12_less 111 = .ok (.goto (-88), 3) := by decide +kernel
theorem dX12_less_105 : decode cX12_less 105 = .ok (.aload_n 0, 1) := by decide +kernel
theorem dX12_less_106 : decode cX12_less 106 = .ok (.iload 4, 2) := by decide +kernel
theorem dX12_less_108 : decode cX12_less 108 = .ok (.invokevirtual 393, 3) := by decide +kernel
theorem dX12_less_102 : decode cX12_less 102 = .ok (.ifCond .lt 9, 3) := by decide +kernel
theorem dX12_less_91 : decode cX12_less 91 = .ok (.iastore, 1) := by decide +kernel
theorem dX12_less_88 : decode cX12_less 88 = .ok (.iaload, 1) := by decide +kernel
theorem dX12_less_82 : decode cX12_less 82 = .ok (.getfield 390, 3) := by decide +kernel
theorem dX12_less_78 : decode cX12_less 78 = .ok (.getfield 95, 3) := by decide +kernel
theorem dX12_less_64 : decode cX12_less 64 = .ok (.aload_n 0, 1) := by decide +kernel
theorem dX12_less_65 : decode cX12_less 65 = .ok (.dup, 1) := by decide +kernel
theorem dX12_less_69 : decode cX12_less 69 = .ok (.iconst 1, 1) := by decide +kernel
theorem dX12_less_70 : decode cX12_less 70 = .ok (.isub, 1) := by decide +kernel
theorem dX12_less_74 : decode cX12_less 74 = .ok (.goto (-51), 3) := by decide +kernel
theorem dX12_less_71 : decode cX12_less 71 = .ok (.putfield 390, 3) := by decide +kernel
theorem dX12_less_66 : decode cX12_less 66 = .ok (.getfield 390, 3) := by decide +kernel
theorem dX12_less_61 : decode cX12_less 61 = .ok (.if_icmp .ne 16, 3) := by decide +kernel
theorem dX12_less_60 : decode cX12_less 60 = .ok (.iaload, 1) := by decide +kernel
theorem dX12_less_56 : decode cX12_less 56 = .ok (.getfield 37, 3) := by decide +kernel
theorem dX12_less_52 : decode cX12_less 52 = .ok (.iaload, 1) := by decide +kernel
theorem dX12_less_47 : decode cX12_less 47 = .ok (.getfield 390, 3) := by decide +kernel
theorem dX12_less_43 : decode cX12_less 43 = .ok (.getfield 95, 3) := by decide +kernel
theorem dX12_less_40 : decode cX12_less 40 = .ok (.iaload, 1) := by decide +kernel
theorem dX12_less_35 : decode cX12_less 35 = .ok (.getfield 390, 3) := by decide +kernel
theorem dX12_less_31 : decode cX12_less 31 = .ok (.getfield 92, 3) := by decide +kernel
theorem dX12_less_27 : decode cX12_less 27 = .ok (.ifCond .le 87, 3) := by decide +kernel
theorem dX12_less_24 : decode cX12_less 24 = .ok (.getfield 390, 3) := by decide +kernel
def wr_241 (c k : Nat) : Bool := Nat.beq c 99 || Nat.beq c 105 || Nat.beq c 109 || Nat.beq c 111 || Nat.beq c 113 || Nat.beq c 114 || Nat.beq c 120 || Nat.beq c 121 || (Nat.beq c 94 && (Nat.beq k 44 || Nat.beq k 45 || Nat.beq k 49 || Nat.beq k 55 || Nat.beq k 80))
theorem ws_192_241 : ∀ c k, wr_192 c k = true → wr_241 c k = true := fun _ _ h => by cases h
theorem ws_242_241 : ∀ c k, wr_242 c k = true → wr_241 c k = true := by
  intro c k h
  simp only [wr_242, wr_241, Bool.or_eq_true, Bool.and_eq_true, Nat.beq_eq] at h ⊢
  omega
theorem g_241_0 {X : Nat × (Nat → Int32)} {m : Nat → Nat → Int32} {P : Option ma_V → (Nat → Nat → Int32) → Prop} (s : Int32) (h : if s < 0 then (P none m) else (if (m 94 10) = (4 : Int32) then (zm X 2 43 242 0 [(0, .inr (.inr (some 94))), (1, .inl s)] (ma_u m 94 80 (0 : Int32)) (zmv (fun m1 => zm X 3 64 241 23 [(0, .inr (.inr (some 94)))] m1 P))) else (P none m))) : zm X 3 64 241 0 [(0, .inr (.inr (some 94))), (1, .inl s)] m P := by
  intro d w S Q hd hw hS hm HQ
  subst hm
  refine zw_push hm_241 dX12_less_0 (v := .inl s) rfl ?_
  refine zw_if0 hm_241 dX12_less_1 (t := 12) rfl zc0_lt ?_ ?_
  · intro hc
    rw [if_pos hc] at h
    exact zw_vret hm_241 dX12_less_12 (HQ _ _ h)
  · intro hc
    rw [if_neg hc] at h
    refine zw_push hm_241 dX12_less_4 (v := .inr (.inr (some 94))) rfl ?_
    refine zw_gf hm_241 dX12_less_5 (v := .inl ((mI S) 94 10)) (zT_is hS s_94) (zT_t hS s_94) rfl f_12_199_12 rfl ?_
    refine zw_push hm_241 dX12_less_8 (v := .inl (4 : Int32)) rfl ?_
    refine zw_if2 hm_241 dX12_less_9 (t := 13) rfl zc2_eq ?_ ?_
    · intro hc
      rw [if_pos hc] at h
      refine zw_push hm_241 dX12_less_13 (v := .inr (.inr (some 94))) rfl ?_
      refine zw_push hm_241 dX12_less_14 (v := .inl (0 : Int32)) rfl ?_
      refine zw_pf hm_241 dX12_less_15 (zT_is hS s_94) (zT_t hS s_94) p_12_390_12 zk_int ?_
      refine zw_push hm_241 dX12_less_18 (v := .inr (.inr (some 94))) rfl ?_
      refine zw_push hm_241 dX12_less_19 (v := .inl s) rfl ?_
      refine zw_cv hm_241 dX12_less_20 v_12_393_12 hm_242 [.inl s] [] rfl (zT_rt (zT_pi hS) s_94 rfl) ⟨by omega, by omega⟩ rfl (h _ _ (ma_put S 94 80 (.inl (0 : Int32))) _ (by omega) (by omega) (zT_pi hS) rfl (fun o9 m1 hv => ?_))
      obtain ⟨rfl, h⟩ := zmv_of hv
      show ma_wp X d w 241 23 [(0, .inr (.inr (some 94))), (1, .inl s)] [] (zst S m1) _
      exact zw_sub (ma_nd_of (ks := [0]) rfl (by decide)) (ma_nd_of (ks := [0, 1]) rfl (by decide)) (ma_le_cons rfl (ma_le_nil _)) (h d w _ Q (by omega) (by omega) (zT_zst hS m1) rfl HQ)
    · intro hc
      rw [if_neg hc] at h
      exact zw_vret hm_241 dX12_less_12 (HQ _ _ h)
theorem g_241_23 {X : Nat × (Nat → Int32)} {m : Nat → Nat → Int32} {P : Option ma_V → (Nat → Nat → Int32) → Prop}  (h : if (m 94 80) ≤ 0 then (P none m) else ((0 ≤ ((m 94 80) - (1 : Int32)) ∧ ((m 94 80) - (1 : Int32)).toNatClampNeg < 3100) ∧ ((0 ≤ ((m 94 80) - (1 : Int32)) ∧ ((m 94 80) - (1 : Int32)).toNatClampNeg < 3100) ∧ ((0 ≤ (m 120 ((m 94 80) - (1 : Int32)).toNatClampNeg) ∧ (m 120 ((m 94 80) - (1 : Int32)).toNatClampNeg).toNatClampNeg < 3100) ∧ (if (m 121 ((m 94 80) - (1 : Int32)).toNatClampNeg) = (m 102 (m 120 ((m 94 80) - (1 : Int32)).toNatClampNeg).toNatClampNeg) then (zm X 3 64 241 23 [(0, .inr (.inr (some 94)))] (ma_u m 94 80 ((m 94 80) - (1 : Int32))) P) else ((0 ≤ ((m 94 80) - (1 : Int32)) ∧ ((m 94 80) - (1 : Int32)).toNatClampNeg < 3100) ∧ ((0 ≤ ((m 94 80) - (1 : Int32)) ∧ ((m 94 80) - (1 : Int32)).toNatClampNeg < 3100) ∧ (zm X 1 22 192 0 [(0, .inr (.inr (some 94))), (1, .inl (m 120 ((m 94 80) - (1 : Int32)).toNatClampNeg)), (2, .inl (m 121 ((m 94 80) - (1 : Int32)).toNatClampNeg))] (ma_u m 121 ((m 94 80) - (1 : Int32)).toNatClampNeg ((m 121 ((m 94 80) - (1 : Int32)).toNatClampNeg) + (1 : Int32))) (zmi (fun v2 m1 => if v2 < 0 then (zm X 3 64 241 23 [(0, .inr (.inr (some 94)))] m1 P) else (zm X 2 43 242 0 [(0, .inr (.inr (some 94))), (1, .inl v2)] m1 (zmv (fun m3 => zm X 3 64 241 23 [(0, .inr (.inr (some 94)))] m3 P))))))))))))) : zm X 3 64 241 23 [(0, .inr (.inr (some 94)))] m P := by
  intro d w S Q hd hw hS hm HQ
  subst hm
  refine zw_push hm_241 dX12_less_23 (v := .inr (.inr (some 94))) rfl ?_
  refine zw_gf hm_241 dX12_less_24 (v := .inl ((mI S) 94 80)) (zT_is hS s_94) (zT_t hS s_94) rfl f_12_390_12 rfl ?_
  refine zw_if0 hm_241 dX12_less_27 (t := 114) rfl zc0_le ?_ ?_
  · intro hc
    rw [if_pos hc] at h
    exact zw_vret hm_241 dX12_less_114 (HQ _ _ h)
  · intro hc
    rw [if_neg hc] at h
    refine zw_push hm_241 dX12_less_30 (v := .inr (.inr (some 94))) rfl ?_
    refine zw_gf hm_241 dX12_less_31 (v := .inr (.inr (some 120))) (zT_is hS s_94) (zT_t hS s_94) rfl f_12_92_12 (zT_f hS r_94_78) ?_
    refine zw_push hm_241 dX12_less_34 (v := .inr (.inr (some 94))) rfl ?_
    refine zw_gf hm_241 dX12_less_35 (v := .inl ((mI S) 94 80)) (zT_is hS s_94) (zT_t hS s_94) rfl f_12_390_12 rfl ?_
    refine zw_push hm_241 dX12_less_38 (v := .inl (1 : Int32)) rfl ?_
    refine zw_stk hm_241 dX12_less_39 (st₉ := [.inl (((mI S) 94 80) - (1 : Int32)), .inr (.inr (some 120))]) rfl rfl ?_
    obtain ⟨hg, h⟩ := h
    refine zw_ia hm_241 dX12_less_40 (zT_is hS s_120) (zT_h hS s_120) rfl hg ?_
    show ma_wp X d w 241 41 [(0, .inr (.inr (some 94)))] [.inl ((mI S) 120 (((mI S) 94 80) - (1 : Int32)).toNatClampNeg)] S _
    refine zw_sto hm_241 dX12_less_41 [(2, .inl ((mI S) 120 (((mI S) 94 80) - (1 : Int32)).toNatClampNeg)), (0, .inr (.inr (some 94)))] rfl rfl rfl ?_
    refine zw_push hm_241 dX12_less_42 (v := .inr (.inr (some 94))) rfl ?_
    refine zw_gf hm_241 dX12_less_43 (v := .inr (.inr (some 121))) (zT_is hS s_94) (zT_t hS s_94) rfl f_12_95_12 (zT_f hS r_94_79) ?_
    refine zw_push hm_241 dX12_less_46 (v := .inr (.inr (some 94))) rfl ?_
    refine zw_gf hm_241 dX12_less_47 (v := .inl ((mI S) 94 80)) (zT_is hS s_94) (zT_t hS s_94) rfl f_12_390_12 rfl ?_
    refine zw_push hm_241 dX12_less_50 (v := .inl (1 : Int32)) rfl ?_
    refine zw_stk hm_241 dX12_less_51 (st₉ := [.inl (((mI S) 94 80) - (1 : Int32)), .inr (.inr (some 121))]) rfl rfl ?_
    obtain ⟨hg, h⟩ := h
    refine zw_ia hm_241 dX12_less_52 (zT_is hS s_121) (zT_h hS s_121) rfl hg ?_
    show ma_wp X d w 241 53 [(2, .inl ((mI S) 120 (((mI S) 94 80) - (1 : Int32)).toNatClampNeg)), (0, .inr (.inr (some 94)))] [.inl ((mI S) 121 (((mI S) 94 80) - (1 : Int32)).toNatClampNeg)] S _
    refine zw_sto hm_241 dX12_less_53 [(3, .inl ((mI S) 121 (((mI S) 94 80) - (1 : Int32)).toNatClampNeg)), (2, .inl ((mI S) 120 (((mI S) 94 80) - (1 : Int32)).toNatClampNeg)), (0, .inr (.inr (some 94)))] rfl rfl rfl ?_
    refine zw_push hm_241 dX12_less_54 (v := .inl ((mI S) 121 (((mI S) 94 80) - (1 : Int32)).toNatClampNeg)) rfl ?_
    refine zw_push hm_241 dX12_less_55 (v := .inr (.inr (some 94))) rfl ?_
    refine zw_gf hm_241 dX12_less_56 (v := .inr (.inr (some 102))) (zT_is hS s_94) (zT_t hS s_94) rfl f_12_37_12 (zT_f hS r_94_34) ?_
    refine zw_push hm_241 dX12_less_59 (v := .inl ((mI S) 120 (((mI S) 94 80) - (1 : Int32)).toNatClampNeg)) rfl ?_
    obtain ⟨hg, h⟩ := h
    refine zw_ia hm_241 dX12_less_60 (zT_is hS s_102) (zT_h hS s_102) rfl hg ?_
    show ma_wp X d w 241 61 [(3, .inl ((mI S) 121 (((mI S) 94 80) - (1 : Int32)).toNatClampNeg)), (2, .inl ((mI S) 120 (((mI S) 94 80) - (1 : Int32)).toNatClampNeg)), (0, .inr (.inr (some 94)))] [.inl ((mI S) 102 ((mI S) 120 (((mI S) 94 80) - (1 : Int32)).toNatClampNeg).toNatClampNeg), .inl ((mI S) 121 (((mI S) 94 80) - (1 : Int32)).toNatClampNeg)] S _
    refine zw_if2 hm_241 dX12_less_61 (t := 77) rfl zc2_ne ?_ ?_
    · intro hc
      rw [if_neg hc] at h
      refine zw_push hm_241 dX12_less_77 (v := .inr (.inr (some 94))) rfl ?_
      refine zw_gf hm_241 dX12_less_78 (v := .inr (.inr (some 121))) (zT_is hS s_94) (zT_t hS s_94) rfl f_12_95_12 (zT_f hS r_94_79) ?_
      refine zw_push hm_241 dX12_less_81 (v := .inr (.inr (some 94))) rfl ?_
      refine zw_gf hm_241 dX12_less_82 (v := .inl ((mI S) 94 80)) (zT_is hS s_94) (zT_t hS s_94) rfl f_12_390_12 rfl ?_
      refine zw_push hm_241 dX12_less_85 (v := .inl (1 : Int32)) rfl ?_
      refine zw_stk hm_241 dX12_less_86 (st₉ := [.inl (((mI S) 94 80) - (1 : Int32)), .inr (.inr (some 121))]) rfl rfl ?_
      refine zw_stk hm_241 dX12_less_87 (st₉ := [.inl (((mI S) 94 80) - (1 : Int32)), .inr (.inr (some 121)), .inl (((mI S) 94 80) - (1 : Int32)), .inr (.inr (some 121))]) rfl rfl ?_
      obtain ⟨hg, h⟩ := h
      refine zw_ia hm_241 dX12_less_88 (zT_is hS s_121) (zT_h hS s_121) rfl hg ?_
      show ma_wp X d w 241 89 [(3, .inl ((mI S) 121 (((mI S) 94 80) - (1 : Int32)).toNatClampNeg)), (2, .inl ((mI S) 120 (((mI S) 94 80) - (1 : Int32)).toNatClampNeg)), (0, .inr (.inr (some 94)))] [.inl ((mI S) 121 (((mI S) 94 80) - (1 : Int32)).toNatClampNeg), .inl (((mI S) 94 80) - (1 : Int32)), .inr (.inr (some 121))] S _
      refine zw_push hm_241 dX12_less_89 (v := .inl (1 : Int32)) rfl ?_
      refine zw_stk hm_241 dX12_less_90 (st₉ := [.inl (((mI S) 121 (((mI S) 94 80) - (1 : Int32)).toNatClampNeg) + (1 : Int32)), .inl (((mI S) 94 80) - (1 : Int32)), .inr (.inr (some 121))]) rfl rfl ?_
      obtain ⟨hg, h⟩ := h
      refine zw_ias hm_241 dX12_less_91 (zT_is hS s_121) (zT_h hS s_121) rfl hg ?_
      refine zw_push hm_241 dX12_less_92 (v := .inr (.inr (some 94))) rfl ?_
      refine zw_push hm_241 dX12_less_93 (v := .inl ((mI S) 120 (((mI S) 94 80) - (1 : Int32)).toNatClampNeg)) rfl ?_
      refine zw_push hm_241 dX12_less_94 (v := .inl ((mI S) 121 (((mI S) 94 80) - (1 : Int32)).toNatClampNeg)) rfl ?_
      refine zw_cv hm_241 dX12_less_95 v_12_294_12 hm_192 [.inl ((mI S) 121 (((mI S) 94 80) - (1 : Int32)).toNatClampNeg), .inl ((mI S) 120 (((mI S) 94 80) - (1 : Int32)).toNatClampNeg)] [] rfl (zT_rt (zT_pi hS) s_94 rfl) ⟨by omega, by omega⟩ rfl (h _ _ (ma_put S 121 (((mI S) 94 80) - (1 : Int32)).toNatClampNeg (.inl (((mI S) 121 (((mI S) 94 80) - (1 : Int32)).toNatClampNeg) + (1 : Int32)))) _ (by omega) (by omega) (zT_pi hS) rfl (fun o9 m1 hv => ?_))
      obtain ⟨v2, rfl, h⟩ := zmi_of hv
      show ma_wp X d w 241 98 [(3, .inl ((mI S) 121 (((mI S) 94 80) - (1 : Int32)).toNatClampNeg)), (2, .inl ((mI S) 120 (((mI S) 94 80) - (1 : Int32)).toNatClampNeg)), (0, .inr (.inr (some 94)))] [.inl v2] (zst S m1) _
      refine zw_sto hm_241 dX12_less_98 [(4, .inl v2), (3, .inl ((mI S) 121 (((mI S) 94 80) - (1 : Int32)).toNatClampNeg)), (2, .inl ((mI S) 120 (((mI S) 94 80) - (1 : Int32)).toNatClampNeg)), (0, .inr (.inr (some 94)))] rfl rfl rfl ?_
      refine zw_push hm_241 dX12_less_100 (v := .inl v2) rfl ?_
      refine zw_if0 hm_241 dX12_less_102 (t := 111) rfl zc0_lt ?_ ?_
      · intro hc
        rw [if_pos hc] at h
        refine zw_goto hm_241 dX12_less_111 (t := 23) rfl ?_
        exact zw_sub (ma_nd_of (ks := [0]) rfl (by decide)) (ma_nd_of (ks := [4, 3, 2, 0]) rfl (by decide)) (ma_le_cons rfl (ma_le_nil _)) (h d w _ Q (by omega) (by omega) (zT_zst hS m1) rfl HQ)
      · intro hc
        rw [if_neg hc] at h
        refine zw_push hm_241 dX12_less_105 (v := .inr (.inr (some 94))) rfl ?_
        refine zw_push hm_241 dX12_less_106 (v := .inl v2) rfl ?_
        refine zw_cv hm_241 dX12_less_108 v_12_393_12 hm_242 [.inl v2] [] rfl (zT_rt (zT_zst hS m1) s_94 rfl) ⟨by omega, by omega⟩ rfl (h _ _ (zst S m1) _ (by omega) (by omega) (zT_zst hS m1) rfl (fun o9 m3 hv => ?_))
        obtain ⟨rfl, h⟩ := zmv_of hv
        show ma_wp X d w 241 111 [(4, .inl v2), (3, .inl ((mI S) 121 (((mI S) 94 80) - (1 : Int32)).toNatClampNeg)), (2, .inl ((mI S) 120 (((mI S) 94 80) - (1 : Int32)).toNatClampNeg)), (0, .inr (.inr (some 94)))] [] (zst S m3) _
        refine zw_goto hm_241 dX12_less_111 (t := 23) rfl ?_
        exact zw_sub (ma_nd_of (ks := [0]) rfl (by decide)) (ma_nd_of (ks := [4, 3, 2, 0]) rfl (by decide)) (ma_le_cons rfl (ma_le_nil _)) (h d w _ Q (by omega) (by omega) (zT_zst hS m3) rfl HQ)
    · intro hc
      rw [if_pos (Classical.not_not.mp hc)] at h
      refine zw_push hm_241 dX12_less_64 (v := .inr (.inr (some 94))) rfl ?_
      refine zw_stk hm_241 dX12_less_65 (st₉ := [.inr (.inr (some 94)), .inr (.inr (some 94))]) rfl rfl ?_
      refine zw_gf hm_241 dX12_less_66 (v := .inl ((mI S) 94 80)) (zT_is hS s_94) (zT_t hS s_94) rfl f_12_390_12 rfl ?_
      refine zw_push hm_241 dX12_less_69 (v := .inl (1 : Int32)) rfl ?_
      refine zw_stk hm_241 dX12_less_70 (st₉ := [.inl (((mI S) 94 80) - (1 : Int32)), .inr (.inr (some 94))]) rfl rfl ?_
      refine zw_pf hm_241 dX12_less_71 (zT_is hS s_94) (zT_t hS s_94) p_12_390_12 zk_int ?_
      refine zw_goto hm_241 dX12_less_74 (t := 23) rfl ?_
      exact zw_sub (ma_nd_of (ks := [0]) rfl (by decide)) (ma_nd_of (ks := [3, 2, 0]) rfl (by decide)) (ma_le_cons rfl (ma_le_nil _)) (h d w _ Q (by omega) (by omega) (zT_pi hS) rfl HQ)
theorem lp_241_23 {X : Nat × (Nat → Int32)} {P : Option ma_V → (Nat → Nat → Int32) → Prop} {T : Nat} {s : Int32} {m0 : Nat → Nat → Int32} (h0 : zV m0) (K : ∀ m₉, zF wr_241 m0 m₉ → zV m₉ → (zGW T (m₉ 94 55) (m₉ 109)) → (zGU T (m₉ 94 46) (m₉ 99)) → (zOw (m₉ 99) (m₉ 103) (m₉ 111)) → (zDX (m₉ 94 10) (m₉ 99) (m₉ 112) (m₉ 113) (m₉ 114) (m₉ 94 55) (m₉ 98) (m₉ 101) (m₉ 102) (m₉ 108)) → ((m₉ 94 10).toInt ≠ 4 → ((m₉ 99) = (m0 99) ∧ (m₉ 111) = (m0 111) ∧ (m₉ 113) = (m0 113) ∧ (m₉ 114) = (m0 114) ∧ (m₉ 94 55) = (m0 94 55) ∧ (m₉ 109) = (m0 109))) → P none m₉) : ∀ (n : Nat) (m : Nat → Nat → Int32) , ((zlm (m 99) (m 121) (m 94 80) : Int)).toNat = n → zF wr_241 m0 m → zV m → (zW (m 94 7) (m 98) (m 101) (m 102) (m 108)) → (zGW T (m 94 55) (m 109)) → (zGU T (m 94 46) (m 99)) → (zOw (m 99) (m 103) (m 111)) → (zDX (m 94 10) (m 99) (m 112) (m 113) (m 114) (m 94 55) (m 98) (m 101) (m 102) (m 108)) → ((m 94 10).toInt = 4) → (zgo (m 94 80) (m 99)) → (zgw (m 121) (m 120) (m 102) (m 94 80)) → zm X 3 64 241 23 [(0, .inr (.inr (some 94)))] m P := by
  intro n
  induction n using Nat.strongRecOn with
  | _ n IH =>
    intro m  hmu hF hV r_W r_GW r_GU r_OW r_DX hi5 r_GO r_GWD
    refine g_241_23  ?_
    have f1 : 0 ≤ (m 94 10).toInt ∧ (m 94 10).toInt ≤ 6 := rs_94_10 (m := m) hV
    have f2 : 0 ≤ (m 94 80).toInt ∧ (m 94 80).toInt ≤ 3100 := rs_94_80 (m := m) hV
    have li3 : (0 : Int32).toInt = 0 := rfl
    refine zd (fun (h4 : (m 94 80) ≤ (0 : Int32)) => ?_) (fun (h4 : ¬ (m 94 80) ≤ (0 : Int32)) => ?_)
    · skip
      have g5 := i_le h4
      exact K _ hF hV r_GW r_GU r_OW r_DX (show (m 94 10).toInt ≠ 4 → ((m 99) = (m0 99) ∧ (m 111) = (m0 111) ∧ (m 113) = (m0 113) ∧ (m 114) = (m0 114) ∧ (m 94 55) = (m0 94 55) ∧ (m 109) = (m0 109)) from by first | (exact fun z => absurd (by omega) z) | (exact fun _ => ⟨rfl, rfl, rfl, rfl, rfl, rfl⟩) | (exfalso; omega; done) | (exfalso; contradiction; done))
    · skip
      have g6 := i_nle h4
      first | have e7 : ((m 94 80) - (1 : Int32)).toInt = (m 94 80).toInt - (1) := i_subk rfl (by omega) (by omega) | have b8 := i_bd ((m 94 80) - (1 : Int32))
      have hg9 : (0 ≤ ((m 94 80) - (1 : Int32)) ∧ ((m 94 80) - (1 : Int32)).toNatClampNeg < 3100) := i_ix (by omega) (by omega)
      refine ⟨hg9, ?_⟩
      have hg10 : (0 ≤ ((m 94 80) - (1 : Int32)) ∧ ((m 94 80) - (1 : Int32)).toNatClampNeg < 3100) := i_ix (by omega) (by omega)
      refine ⟨hg10, ?_⟩
      first | have f11 : 0 ≤ (m 120 ((m 94 80) - (1 : Int32)).toNatClampNeg).toInt ∧ (m 120 ((m 94 80) - (1 : Int32)).toNatClampNeg).toInt ≤ 3099 := ra_120 (m := m) hV (k := ((m 94 80) - (1 : Int32)).toNatClampNeg) (i_ix (n := 3100) (by omega) (by omega)).2 | have b12 := i_bd (m 120 ((m 94 80) - (1 : Int32)).toNatClampNeg)
      try have gwd := r_GWD ((m 94 80) - (1 : Int32)).toNatClampNeg (by rw [tn_cast (by omega)]; omega)
      have hg13 : (0 ≤ (m 120 ((m 94 80) - (1 : Int32)).toNatClampNeg) ∧ (m 120 ((m 94 80) - (1 : Int32)).toNatClampNeg).toNatClampNeg < 3100) := i_ix (by omega) (by omega)
      refine ⟨hg13, ?_⟩
      first | have f14 : 0 ≤ (m 121 ((m 94 80) - (1 : Int32)).toNatClampNeg).toInt ∧ (m 121 ((m 94 80) - (1 : Int32)).toNatClampNeg).toInt ≤ 60 := ra_121 (m := m) hV (k := ((m 94 80) - (1 : Int32)).toNatClampNeg) (i_ix (n := 3100) (by omega) (by omega)).2 | have b15 := i_bd (m 121 ((m 94 80) - (1 : Int32)).toNatClampNeg)
      first | have f16 : 0 ≤ (m 102 (m 120 ((m 94 80) - (1 : Int32)).toNatClampNeg).toNatClampNeg).toInt ∧ (m 102 (m 120 ((m 94 80) - (1 : Int32)).toNatClampNeg).toNatClampNeg).toInt ≤ 60 := ra_102 (m := m) hV (k := (m 120 ((m 94 80) - (1 : Int32)).toNatClampNeg).toNatClampNeg) (i_ix (n := 3100) (by omega) (by omega)).2 | have b17 := i_bd (m 102 (m 120 ((m 94 80) - (1 : Int32)).toNatClampNeg).toNatClampNeg)
      refine zd (fun (h18 : (m 121 ((m 94 80) - (1 : Int32)).toNatClampNeg) = (m 102 (m 120 ((m 94 80) - (1 : Int32)).toNatClampNeg).toNatClampNeg)) => ?_) (fun (h18 : ¬ (m 121 ((m 94 80) - (1 : Int32)).toNatClampNeg) = (m 102 (m 120 ((m 94 80) - (1 : Int32)).toNatClampNeg).toNatClampNeg)) => ?_)
      · skip
        have g19 := i_eq h18
        have hV20 : zV (ma_u m 94 80 ((m 94 80) - (1 : Int32))) := us_94_80 hV (by omega) (by omega)
        exact IH ((zlm (m 99) (m 121) ((m 94 80) - (1 : Int32)) : Int)).toNat (by first | (have zq := lm_pop (us := m 99) (gw := m 121) (gm := m 94 80) (gm₉ := (m 94 80) - (1 : Int32)) (by omega) (by omega) (fun j hj => ra_121 hV (by omega)); omega) | (have zq := lm_adv (us := m 99) (m := m) (c := 121) (k := ((m 94 80) - (1 : Int32)).toNatClampNeg) (x := (m 121 ((m 94 80) - (1 : Int32)).toNatClampNeg) + (1 : Int32)) (gm := m 94 80) (by omega) (by rw [tn_cast (by omega)]; omega) (by omega) (by omega); have zm := {ML}; omega) | (have zq := lm_adv (us := m 99) (m := m) (c := 121) (k := ((m 94 80) - (1 : Int32)).toNatClampNeg) (x := (m 121 ((m 94 80) - (1 : Int32)).toNatClampNeg) + (1 : Int32)) (gm := m 94 80) (by omega) (by rw [tn_cast (by omega)]; omega) (by omega) (by omega); omega)) _  rfl (zF_u hF rfl) hV20 r_W r_GW r_GU r_OW r_DX (show (m 94 10).toInt = 4 from by omega) (show zgo ((m 94 80) - (1 : Int32)) (m 99) from by first | (exact go_0 (by decide)) | (exact go_pop r_GO (by omega)) | (exfalso; omega; done) | (exfalso; contradiction; done)) (show zgw (m 121) (m 120) (m 102) ((m 94 80) - (1 : Int32)) from by first | (exact gw_0 (by decide)) | (exact gw_pop r_GWD (by omega)) | (exfalso; omega; done) | (exfalso; contradiction; done))
      · skip
        have g21 := i_ne h18
        have hg22 : (0 ≤ ((m 94 80) - (1 : Int32)) ∧ ((m 94 80) - (1 : Int32)).toNatClampNeg < 3100) := i_ix (by omega) (by omega)
        refine ⟨hg22, ?_⟩
        have hg23 : (0 ≤ ((m 94 80) - (1 : Int32)) ∧ ((m 94 80) - (1 : Int32)).toNatClampNeg < 3100) := i_ix (by omega) (by omega)
        refine ⟨hg23, ?_⟩
        first | have e25 : ((m 121 ((m 94 80) - (1 : Int32)).toNatClampNeg) + (1 : Int32)).toInt = (m 121 ((m 94 80) - (1 : Int32)).toNatClampNeg).toInt + (1) := i_addk rfl (by omega) (by omega) | have b26 := i_bd ((m 121 ((m 94 80) - (1 : Int32)).toNatClampNeg) + (1 : Int32))
        have hV24 : zV (ma_u m 121 ((m 94 80) - (1 : Int32)).toNatClampNeg ((m 121 ((m 94 80) - (1 : Int32)).toNatClampNeg) + (1 : Int32))) := ua_121 hV (by omega) (by omega)
        refine sp_192 ((m 120 ((m 94 80) - (1 : Int32)).toNatClampNeg)) ((m 121 ((m 94 80) - (1 : Int32)).toNatClampNeg)) hV24 (by omega) (by omega) (by omega) (show (m 121 ((m 94 80) - (1 : Int32)).toNatClampNeg).toInt < (m 102 (m 120 ((m 94 80) - (1 : Int32)).toNatClampNeg).toNatClampNeg).toInt from by omega) (fun v2 m1 hV_m1 p0_m1 => zmi_n ?_)
        have p0_m1 : v2 = zrf (m 98) (m 101) (m 108) (m 120 ((m 94 80) - (1 : Int32)).toNatClampNeg).toNatClampNeg (m 121 ((m 94 80) - (1 : Int32)).toNatClampNeg).toNatClampNeg := p0_m1
        try have := W_ref r_W (by omega) (by omega) (by omega) (by omega) p0_m1
        have b27 := i_bd v2
        refine zd (fun (h28 : v2 < (0 : Int32)) => ?_) (fun (h28 : ¬ v2 < (0 : Int32)) => ?_)
        · skip
          have g29 := i_lt h28
          exact IH ((zlm (m 99) ((ma_u m 121 ((m 94 80) - (1 : Int32)).toNatClampNeg ((m 121 ((m 94 80) - (1 : Int32)).toNatClampNeg) + (1 : Int32))) 121) (m 94 80) : Int)).toNat (by first | (have zq := lm_pop (us := m 99) (gw := m 121) (gm := m 94 80) (gm₉ := (m 94 80) - (1 : Int32)) (by omega) (by omega) (fun j hj => ra_121 hV (by omega)); omega) | (have zq := lm_adv (us := m 99) (m := m) (c := 121) (k := ((m 94 80) - (1 : Int32)).toNatClampNeg) (x := (m 121 ((m 94 80) - (1 : Int32)).toNatClampNeg) + (1 : Int32)) (gm := m 94 80) (by omega) (by rw [tn_cast (by omega)]; omega) (by omega) (by omega); have zm := {ML}; omega) | (have zq := lm_adv (us := m 99) (m := m) (c := 121) (k := ((m 94 80) - (1 : Int32)).toNatClampNeg) (x := (m 121 ((m 94 80) - (1 : Int32)).toNatClampNeg) + (1 : Int32)) (gm := m 94 80) (by omega) (by rw [tn_cast (by omega)]; omega) (by omega) (by omega); omega)) _  rfl (zF_zov (zF_u hF rfl) ws_192_241) hV_m1 r_W r_GW r_GU r_OW r_DX (show (m 94 10).toInt = 4 from by omega) r_GO (show zgw ((ma_u m 121 ((m 94 80) - (1 : Int32)).toNatClampNeg ((m 121 ((m 94 80) - (1 : Int32)).toNatClampNeg) + (1 : Int32))) 121) (m 120) (m 102) (m 94 80) from by first | (exact gw_adv r_GWD (by omega)) | (exfalso; omega; done) | (exfalso; contradiction; done))
        · skip
          have g30 := i_nlt h28
          refine sp_242 (v2) hV_m1 (by omega) (by omega) (show (m 94 10).toInt = 4 from by omega) r_GW r_GU r_OW r_DX r_GO (show zgw ((ma_u m 121 ((m 94 80) - (1 : Int32)).toNatClampNeg ((m 121 ((m 94 80) - (1 : Int32)).toNatClampNeg) + (1 : Int32))) 121) (m 120) (m 102) (m 94 80) from by first | (exact gw_adv r_GWD (by omega)) | (exfalso; omega; done) | (exfalso; contradiction; done)) (fun m3 hV_m3 p0_m3 p1_m3 p2_m3 p3_m3 p4_m3 p5_m3 p6_m3 => zmv_n ?_)
          have p0_m3 : zGW T (m3 94 55) (m3 109) := p0_m3
          have p1_m3 : zGU T (m 94 46) (m3 99) := p1_m3
          have p2_m3 : zOw (m3 99) (m 103) (m3 111) := p2_m3
          have p3_m3 : zDX (m 94 10) (m3 99) (m 112) (m3 113) (m3 114) (m3 94 55) (m 98) (m 101) (m 102) (m 108) := p3_m3
          have p4_m3 : zgo (m3 94 80) (m3 99) := p4_m3
          have p5_m3 : zgw (m3 121) (m3 120) (m 102) (m3 94 80) := p5_m3
          have p6_m3 : zlm (m3 99) (m3 121) (m3 94 80) ≤ zlm (m 99) ((ma_u m 121 ((m 94 80) - (1 : Int32)).toNatClampNeg ((m 121 ((m 94 80) - (1 : Int32)).toNatClampNeg) + (1 : Int32))) 121) (m 94 80) := p6_m3
          exact IH ((zlm (m3 99) (m3 121) (m3 94 80) : Int)).toNat (by first | (have zq := lm_pop (us := m 99) (gw := m 121) (gm := m 94 80) (gm₉ := (m 94 80) - (1 : Int32)) (by omega) (by omega) (fun j hj => ra_121 hV (by omega)); omega) | (have zq := lm_adv (us := m 99) (m := m) (c := 121) (k := ((m 94 80) - (1 : Int32)).toNatClampNeg) (x := (m 121 ((m 94 80) - (1 : Int32)).toNatClampNeg) + (1 : Int32)) (gm := m 94 80) (by omega) (by rw [tn_cast (by omega)]; omega) (by omega) (by omega); have zm := p6_m3; omega) | (have zq := lm_adv (us := m 99) (m := m) (c := 121) (k := ((m 94 80) - (1 : Int32)).toNatClampNeg) (x := (m 121 ((m 94 80) - (1 : Int32)).toNatClampNeg) + (1 : Int32)) (gm := m 94 80) (by omega) (by rw [tn_cast (by omega)]; omega) (by omega) (by omega); omega)) _  rfl (zF_zov (zF_zov (zF_u hF rfl) ws_192_241) ws_242_241) hV_m3 r_W p0_m3 p1_m3 p2_m3 p3_m3 (show (m 94 10).toInt = 4 from by omega) p4_m3 p5_m3
theorem sp_241 {X : Nat × (Nat → Int32)} {P : Option ma_V → (Nat → Nat → Int32) → Prop} {T : Nat} {m : Nat → Nat → Int32} (s : Int32) (hV : zV m) (hpre0 : s.toInt ≤ 3099) (r_W : zW (m 94 7) (m 98) (m 101) (m 102) (m 108)) (r_GW : zGW T (m 94 55) (m 109)) (r_GU : zGU T (m 94 46) (m 99)) (r_OW : zOw (m 99) (m 103) (m 111)) (r_DX : zDX (m 94 10) (m 99) (m 112) (m 113) (m 114) (m 94 55) (m 98) (m 101) (m 102) (m 108)) (KZ : ∀ m₉, zV (zov wr_241 m m₉) → (zGW T (m₉ 94 55) (m₉ 109)) → (zGU T (m 94 46) (m₉ 99)) → (zOw (m₉ 99) (m 103) (m₉ 111)) → (zDX (m 94 10) (m₉ 99) (m 112) (m₉ 113) (m₉ 114) (m₉ 94 55) (m 98) (m 101) (m 102) (m 108)) → ((m 94 10).toInt ≠ 4 → ((m₉ 99) = (m 99) ∧ (m₉ 111) = (m 111) ∧ (m₉ 113) = (m 113) ∧ (m₉ 114) = (m 114) ∧ (m₉ 94 55) = (m 94 55) ∧ (m₉ 109) = (m 109))) → P none (zov wr_241 m m₉)) : zm X 3 64 241 0 [(0, .inr (.inr (some 94))), (1, .inl s)] m P := by
  have K : ∀ m₉, zF wr_241 m m₉ → zV m₉ → (zGW T (m₉ 94 55) (m₉ 109)) → (zGU T (m₉ 94 46) (m₉ 99)) → (zOw (m₉ 99) (m₉ 103) (m₉ 111)) → (zDX (m₉ 94 10) (m₉ 99) (m₉ 112) (m₉ 113) (m₉ 114) (m₉ 94 55) (m₉ 98) (m₉ 101) (m₉ 102) (m₉ 108)) → ((m₉ 94 10).toInt ≠ 4 → ((m₉ 99) = (m 99) ∧ (m₉ 111) = (m 111) ∧ (m₉ 113) = (m 113) ∧ (m₉ 114) = (m 114) ∧ (m₉ 94 55) = (m 94 55) ∧ (m₉ 109) = (m 109))) → P none m₉ := by
    intro m₉ hf z q0 q1 q2 q3 q4
    have e := zov_eq hf
    rw [e] at z ⊢
    try rw [e] at q0
    try rw [e] at q1
    try rw [e] at q2
    try rw [e] at q3
    try rw [e] at q4
    exact KZ m₉ z q0 q1 q2 q3 q4
  refine g_241_0 s ?_
  have b1 := i_bd s
  have li2 : (0 : Int32).toInt = 0 := rfl
  refine zd (fun (h3 : s < (0 : Int32)) => ?_) (fun (h3 : ¬ s < (0 : Int32)) => ?_)
  · skip
    have g4 := i_lt h3
    exact K _ zF_rfl hV r_GW r_GU r_OW r_DX (show (m 94 10).toInt ≠ 4 → ((m 99) = (m 99) ∧ (m 111) = (m 111) ∧ (m 113) = (m 113) ∧ (m 114) = (m 114) ∧ (m 94 55) = (m 94 55) ∧ (m 109) = (m 109)) from by first | (exact fun z => absurd (by omega) z) | (exact fun _ => ⟨rfl, rfl, rfl, rfl, rfl, rfl⟩) | (exfalso; omega; done) | (exfalso; contradiction; done))
  · skip
    have g5 := i_nlt h3
    have f6 : 0 ≤ (m 94 10).toInt ∧ (m 94 10).toInt ≤ 6 := rs_94_10 (m := m) hV
    have li7 : (4 : Int32).toInt = 4 := rfl
    refine zd (fun (h8 : (m 94 10) = (4 : Int32)) => ?_) (fun (h8 : ¬ (m 94 10) = (4 : Int32)) => ?_)
    · skip
      have g9 := i_eq h8
      have hV10 : zV (ma_u m 94 80 (0 : Int32)) := us_94_80 hV (by omega) (by omega)
      refine sp_242 (s) hV10 (by omega) (by omega) (show (m 94 10).toInt = 4 from by omega) r_GW r_GU r_OW r_DX (show zgo (0 : Int32) (m 99) from by first | (exact go_0 (by decide)) | (exfalso; omega; done) | (exfalso; contradiction; done)) (show zgw (m 121) (m 120) (m 102) (0 : Int32) from by first | (exact gw_0 (by decide)) | (exfalso; omega; done) | (exfalso; contradiction; done)) (fun m1 hV_m1 p0_m1 p1_m1 p2_m1 p3_m1 p4_m1 p5_m1 p6_m1 => zmv_n ?_)
      have p0_m1 : zGW T (m1 94 55) (m1 109) := p0_m1
      have p1_m1 : zGU T (m 94 46) (m1 99) := p1_m1
      have p2_m1 : zOw (m1 99) (m 103) (m1 111) := p2_m1
      have p3_m1 : zDX (m 94 10) (m1 99) (m 112) (m1 113) (m1 114) (m1 94 55) (m 98) (m 101) (m 102) (m 108) := p3_m1
      have p4_m1 : zgo (m1 94 80) (m1 99) := p4_m1
      have p5_m1 : zgw (m1 121) (m1 120) (m 102) (m1 94 80) := p5_m1
      have p6_m1 : zlm (m1 99) (m1 121) (m1 94 80) ≤ zlm (m 99) (m 121) (0 : Int32) := p6_m1
      exact lp_241_23 (s := s) hV K _ _  rfl (zF_zov (zF_u zF_rfl rfl) ws_242_241) hV_m1 r_W p0_m1 p1_m1 p2_m1 p3_m1 (show (m 94 10).toInt = 4 from by omega) p4_m1 p5_m1
    · skip
      have g11 := i_ne h8
      exact K _ zF_rfl hV r_GW r_GU r_OW r_DX (show (m 94 10).toInt ≠ 4 → ((m 99) = (m 99) ∧ (m 111) = (m 111) ∧ (m 113) = (m 113) ∧ (m 114) = (m 114) ∧ (m 94 55) = (m 94 55) ∧ (m 109) = (m 109)) from by first | (exact fun z => absurd (by omega) z) | (exact fun _ => ⟨rfl, rfl, rfl, rfl, rfl, rfl⟩) | (exfalso; omega; done) | (exfalso; contradiction; done))

/-! from 94.431 -/
/-! by regions -/
def zRG1 (si rg pr : Int32) (us at₉ ws rt : Nat → Int32) : Prop := 16 ≤ si.toInt ∧ 1 ≤ rg.toInt ∧ rg.toInt * si.toInt ≤ 1500 ∧ (0 ≤ pr.toInt ∧ pr.toInt < rg.toInt) ∧ (∀ r : Nat, (r : Int) < rg.toInt → (rt r).toInt ≤ si.toInt) ∧ ∀ s, s < 3100 → us s ≠ 0 → (at₉ s).toInt < rg.toInt * si.toInt ∧ (ws s).toInt + 1 ≤ si.toInt
def zLE (rt : Nat → Int32) (rg v : Int32) : Prop := (v.toInt = -1 ∧ ∀ r : Nat, (r : Int) < rg.toInt → rt r ≠ 0) ∨ (0 ≤ v.toInt ∧ v.toInt < rg.toInt ∧ rt v.toNatClampNeg = 0)
section RG1
variable {m : Nat → Nat → Int32} {c k : Nat} {si rg pr pr₉ x r v : Int32} {us us₉ at₉ ws rt : Nat → Int32} {s : Nat}
theorem i_div16 {x y : Int32} (h1 : 0 ≤ x.toInt) (h2 : x.toInt ≤ 1500) (h3 : 16 ≤ y.toInt) : 0 ≤ (x / y).toInt ∧ (x / y).toInt ≤ 93 := by
  have h := i_div (x := x) (y := y) h1 (by omega)
  refine ⟨h.1, ?_⟩
  refine Classical.byContradiction (fun z => ?_)
  have h4 : 94 * 16 ≤ (x / y).toInt * y.toInt := Int.mul_le_mul (by omega) h3 (by omega) (by omega)
  have := h.2.2.2
  omega
theorem RG_at (h : zRG1 si rg pr us at₉ ws rt) (hs : s < 3100) (hu : us s ≠ 0) : (at₉ s).toInt < 1500 ∧ (ws s).toInt + 1 ≤ si.toInt := by
  have := h.2.2.2.2.2 s hs hu
  have := h.2.2.1
  omega
theorem RG_mul (h : zRG1 si rg pr us at₉ ws rt) (h0 : 0 ≤ r.toInt) (h1 : r.toInt < rg.toInt) (hs : si.toInt ≤ 256) (hr : rg.toInt ≤ 93) : 0 ≤ (r * si).toInt ∧ (r * si).toInt + si.toInt ≤ 1500 ∧ (r * si).toInt + si.toInt ≤ rg.toInt * si.toInt := by
  have a := h.1
  have e := i_muln (x := r) (y := si) h0 (by omega) (by omega) (by omega)
  have e2 : (r.toInt + 1) * si.toInt ≤ rg.toInt * si.toInt := Int.mul_le_mul_of_nonneg_right (by omega) (by omega)
  have e3 : (r.toInt + 1) * si.toInt = r.toInt * si.toInt + si.toInt := by rw [Int.add_mul, Int.one_mul]
  have := h.2.2.1
  omega
theorem RG_top (h : zRG1 si rg pr us at₉ ws rt) (h0 : 0 ≤ r.toInt) (h1 : r.toInt < rg.toInt) : (rt r.toNatClampNeg).toInt ≤ si.toInt := h.2.2.2.2.1 _ (by rw [tn_cast h0]; exact h1)
theorem RG_sub (h : zRG1 si rg pr us at₉ ws rt) (hu : ∀ s, s < 3100 → us₉ s ≠ 0 → us s ≠ 0) : zRG1 si rg pr us₉ at₉ ws rt := ⟨h.1, h.2.1, h.2.2.1, h.2.2.2.1, h.2.2.2.2.1, fun s hs z => h.2.2.2.2.2 s hs (hu s hs z)⟩
theorem RG_put (h : zRG1 si rg pr us at₉ ws (m c)) (hx : x.toInt ≤ si.toInt) : zRG1 si rg pr us at₉ ws (ma_u m c k x c) := by
  refine ⟨h.1, h.2.1, h.2.2.1, h.2.2.2.1, fun r hr => ?_, h.2.2.2.2.2⟩
  rw [mu_at]
  split
  · exact hx
  · exact h.2.2.2.2.1 r hr
theorem RG_pr (h : zRG1 si rg pr us at₉ ws rt) (h0 : 0 ≤ pr₉.toInt) (h1 : pr₉.toInt < rg.toInt) : zRG1 si rg pr₉ us at₉ ws rt := ⟨h.1, h.2.1, h.2.2.1, ⟨h0, h1⟩, h.2.2.2.2⟩
theorem LE_no (h : zLE rt rg v) (hz : rt pr.toNatClampNeg = 0) (h0 : 0 ≤ pr.toInt) (h1 : pr.toInt < rg.toInt) : 0 ≤ v.toInt ∧ v.toInt < rg.toInt := by
  rcases h with ⟨_, q⟩ | q
  · exact absurd hz (q _ (by rw [tn_cast h0]; exact h1))
  · exact ⟨q.1, q.2.1⟩
theorem LE_ex (h : zLE rt rg v) (hz : ∃ r : Nat, (r : Int) < rg.toInt ∧ rt r = 0) : 0 ≤ v.toInt ∧ v.toInt < rg.toInt := by
  obtain ⟨r, h1, h2⟩ := hz
  rcases h with ⟨_, q⟩ | q
  · exact absurd h2 (q r h1)
  · exact ⟨q.1, q.2.1⟩
theorem LE_ge (h : zLE rt rg v) (hv : 0 ≤ v.toInt) : v.toInt < rg.toInt ∧ rt v.toNatClampNeg = 0 := h.elim (fun q => by omega) (fun q => q.2)
theorem LE_lo (h : zLE rt rg v) : -1 ≤ v.toInt ∧ v.toInt < rg.toInt ∨ v.toInt = -1 := h.elim (fun q => Or.inr q.1) (fun q => Or.inl ⟨by omega, q.2.1⟩)
theorem ne_step {l l2 : Int32} (h : ∀ r : Nat, (r : Int) < l.toInt → rt r ≠ 0) (h0 : 0 ≤ l.toInt) (hz : rt l.toNatClampNeg ≠ 0) (e : l2.toInt = l.toInt + 1) : ∀ r : Nat, (r : Int) < l2.toInt → rt r ≠ 0 := by
  intro r hr
  by_cases q : r = l.toNatClampNeg
  · rw [q]; exact hz
  · exact h r (by rw [tn_eq] at q; omega)
theorem dn_lt {n : Nat} (hk : k < n) (h0 : m c k = 0) (hx : x ≠ 0) : n - cnt (ma_u m c k x c) n < n - cnt (m c) n := by
  have := cnt_up (x := x) hk h0 hx
  have := cnt_lt hk h0
  omega
end RG1

/-! from 94.432 -/
/-! the reference (written by wip/tools/gen94m.py) -/
set_option maxRecDepth 100000 in
theorem hm_234 : ma_md 234 = some (12, yX12_leastEmpty, cX12_leastEmpty, 2, (some (FieldType.int))) := rfl
theorem s_116 : zs 116 = some (20, 128) := rfl
theorem r_94_65 : zfi 94 65 = some 116 := rfl
theorem f_12_80_12 : ma_fld 12 80 12 = some 65 := by decide +kernel
theorem f_12_234_12 : ma_fld 12 234 12 = some 64 := by decide +kernel
theorem dX12_leastEmpty_0 : decode cX12_leastEmpty 0 = .ok (.iconst 0, 1) := by decide +kernel
theorem dX12_leastEmpty_1 : decode cX12_leastEmpty 1 = .ok (.istore_n 1, 1) := by decide +kernel
theorem dX12_leastEmpty_2 : decode cX12_leastEmpty 2 = .ok (.iload_n 1, 1) := by decide +kernel
theorem dX12_leastEmpty_3 : decode cX12_leastEmpty 3 = .ok (.aload_n 0, 1) := by decide +kernel
theorem dX12_leastEmpty_27 : decode cX12_leastEmpty 27 = .ok (.iconst (-1), 1) := by decide +kernel
theorem dX12_leastEmpty_28 : decode cX12_leastEmpty 28 = .ok (.ireturn, 1) := by decide +kernel
theorem dX12_leastEmpty_10 : decode cX12_leastEmpty 10 = .ok (.aload_n 0, 1) := by decide +kernel
theorem dX12_leastEmpty_14 : decode cX12_leastEmpty 14 = .ok (.iload_n 1, 1) := by decide +kernel
theorem dX12_leastEmpty_21 : decode cX12_leastEmpty 21 = .ok (.iinc 1 1, 3) := by decide +kernel
theorem dX12_leastEmpty_24 : decode cX12_leastEmpty 24 = .ok (.goto (-22), 3) := by decide +kernel
theorem dX12_leastEmpty_19 : decode cX12_leastEmpty 19 = .ok (.iload_n 1, 1) := by decide +kernel
theorem dX12_leastEmpty_20 : decode cX12_leastEmpty 20 = .ok (.ireturn, 1) := by decide +kernel
theorem dX12_leastEmpty_16 : decode cX12_leastEmpty 16 = .ok (.ifCond .ne 5, 3) := by decide +kernel
theorem dX12_leastEmpty_15 : decode cX12_leastEmpty 15 = .ok (.iaload, 1) := by decide +kernel
theorem dX12_leastEmpty_11 : decode cX12_leastEmpty 11 = .ok (.getfield 80, 3) := by decide +kernel
theorem dX12_leastEmpty_7 : decode cX12_leastEmpty 7 = .ok (.if_icmp .ge 20, 3) := by decide +kernel
theorem dX12_leastEmpty_4 : decode cX12_leastEmpty 4 = .ok (.getfield 234, 3) := by decide +kernel
def wr_234 (_ _ : Nat) : Bool := false
theorem g_234_0 {X : Nat × (Nat → Int32)} {m : Nat → Nat → Int32} {P : Option ma_V → (Nat → Nat → Int32) → Prop}  (h : zm X 0 0 234 2 [(0, .inr (.inr (some 94))), (1, .inl (0 : Int32))] m P) : zm X 0 0 234 0 [(0, .inr (.inr (some 94)))] m P := by
  intro d w S Q hd hw hS hm HQ
  subst hm
  refine zw_push hm_234 dX12_leastEmpty_0 (v := .inl (0 : Int32)) rfl ?_
  refine zw_sto hm_234 dX12_leastEmpty_1 [(1, .inl (0 : Int32)), (0, .inr (.inr (some 94)))] rfl rfl rfl ?_
  exact zw_sub (ma_nd_of (ks := [0, 1]) rfl (by decide)) (ma_nd_of (ks := [1, 0]) rfl (by decide)) (ma_le_cons rfl (ma_le_cons rfl (ma_le_nil _))) (h d w _ Q (by omega) (by omega) hS rfl HQ)
theorem g_234_2 {X : Nat × (Nat → Int32)} {m : Nat → Nat → Int32} {P : Option ma_V → (Nat → Nat → Int32) → Prop} (l1 : Int32) (h : if (m 94 64) ≤ l1 then (P (some (.inl (-1 : Int32))) m) else ((0 ≤ l1 ∧ l1.toNatClampNeg < 128) ∧ (if (m 116 l1.toNatClampNeg) = 0 then (P (some (.inl l1)) m) else (zm X 0 0 234 2 [(0, .inr (.inr (some 94))), (1, .inl (l1 + (1 : Int32)))] m P)))) : zm X 0 0 234 2 [(0, .inr (.inr (some 94))), (1, .inl l1)] m P := by
  intro d w S Q hd hw hS hm HQ
  subst hm
  refine zw_push hm_234 dX12_leastEmpty_2 (v := .inl l1) rfl ?_
  refine zw_push hm_234 dX12_leastEmpty_3 (v := .inr (.inr (some 94))) rfl ?_
  refine zw_gf hm_234 dX12_leastEmpty_4 (v := .inl ((mI S) 94 64)) (zT_is hS s_94) (zT_t hS s_94) rfl f_12_234_12 rfl ?_
  refine zw_if2 hm_234 dX12_leastEmpty_7 (t := 27) rfl zc2_ge ?_ ?_
  · intro hc
    rw [if_pos hc] at h
    refine zw_push hm_234 dX12_leastEmpty_27 (v := .inl (-1 : Int32)) rfl ?_
    exact zw_iret hm_234 dX12_leastEmpty_28 (HQ _ _ h)
  · intro hc
    rw [if_neg hc] at h
    refine zw_push hm_234 dX12_leastEmpty_10 (v := .inr (.inr (some 94))) rfl ?_
    refine zw_gf hm_234 dX12_leastEmpty_11 (v := .inr (.inr (some 116))) (zT_is hS s_94) (zT_t hS s_94) rfl f_12_80_12 (zT_f hS r_94_65) ?_
    refine zw_push hm_234 dX12_leastEmpty_14 (v := .inl l1) rfl ?_
    obtain ⟨hg, h⟩ := h
    refine zw_ia hm_234 dX12_leastEmpty_15 (zT_is hS s_116) (zT_h hS s_116) rfl hg ?_
    show ma_wp X d w 234 16 [(0, .inr (.inr (some 94))), (1, .inl l1)] [.inl ((mI S) 116 l1.toNatClampNeg)] S _
    refine zw_if0 hm_234 dX12_leastEmpty_16 (t := 21) rfl zc0_ne ?_ ?_
    · intro hc
      rw [if_neg hc] at h
      refine zw_sto hm_234 dX12_leastEmpty_21 [(1, .inl (l1 + (1 : Int32))), (0, .inr (.inr (some 94)))] rfl rfl rfl ?_
      refine zw_goto hm_234 dX12_leastEmpty_24 (t := 2) rfl ?_
      exact zw_sub (ma_nd_of (ks := [0, 1]) rfl (by decide)) (ma_nd_of (ks := [1, 0]) rfl (by decide)) (ma_le_cons rfl (ma_le_cons rfl (ma_le_nil _))) (h d w _ Q (by omega) (by omega) hS rfl HQ)
    · intro hc
      rw [if_pos (Classical.not_not.mp hc)] at h
      refine zw_push hm_234 dX12_leastEmpty_19 (v := .inl l1) rfl ?_
      exact zw_iret hm_234 dX12_leastEmpty_20 (HQ _ _ h)
theorem lp_234_2 {X : Nat × (Nat → Int32)} {P : Option ma_V → (Nat → Nat → Int32) → Prop} {m0 : Nat → Nat → Int32} (h0 : zV m0) (K : ∀ v m₉, zF wr_234 m0 m₉ → zV m₉ → (zLE (m₉ 116) (m₉ 94 64) v) → P (some (.inl v)) m₉) : ∀ (n : Nat) (m : Nat → Nat → Int32) (l1 : Int32), (128 - l1.toInt).toNat = n → zF wr_234 m0 m → zV m → (0 ≤ l1.toInt) → (∀ r : Nat, (r : Int) < l1.toInt → (m 116) r ≠ 0) → zm X 0 0 234 2 [(0, .inr (.inr (some 94))), (1, .inl l1)] m P := by
  intro n
  induction n using Nat.strongRecOn with
  | _ n IH =>
    intro m l1 hmu hF hV hi0 r_LZ
    refine g_234_2 l1 ?_
    have f1 : 0 ≤ (m 94 64).toInt ∧ (m 94 64).toInt ≤ 93 := rs_94_64 (m := m) hV
    have b2 := i_bd l1
    refine zd (fun (h3 : (m 94 64) ≤ l1) => ?_) (fun (h3 : ¬ (m 94 64) ≤ l1) => ?_)
    · skip
      have g4 := i_le h3
      have li5 : (-1 : Int32).toInt = -1 := rfl
      exact K ((-1 : Int32)) _ hF hV (show zLE (m 116) (m 94 64) (-1 : Int32) from by first | (exact Or.inr ⟨by omega, by omega, by assumption⟩) | (exact Or.inl ⟨by decide, fun r hr => r_LZ r (by omega)⟩) | (exfalso; omega; done) | (exfalso; contradiction; done))
    · skip
      have g6 := i_nle h3
      have hg7 : (0 ≤ l1 ∧ l1.toNatClampNeg < 128) := i_ix (by omega) (by omega)
      refine ⟨hg7, ?_⟩
      first | have f8 : 0 ≤ (m 116 l1.toNatClampNeg).toInt ∧ (m 116 l1.toNatClampNeg).toInt ≤ 4600 := ra_116 (m := m) hV (k := l1.toNatClampNeg) (i_ix (n := 128) (by omega) (by omega)).2 | have b9 := i_bd (m 116 l1.toNatClampNeg)
      have li10 : (0 : Int32).toInt = 0 := rfl
      refine zd (fun (h11 : (m 116 l1.toNatClampNeg) = (0 : Int32)) => ?_) (fun (h11 : ¬ (m 116 l1.toNatClampNeg) = (0 : Int32)) => ?_)
      · skip
        have g12 := i_eq h11
        exact K (l1) _ hF hV (show zLE (m 116) (m 94 64) l1 from by first | (exact Or.inr ⟨by omega, by omega, by assumption⟩) | (exact Or.inl ⟨by decide, fun r hr => r_LZ r (by omega)⟩) | (exfalso; omega; done) | (exfalso; contradiction; done))
      · skip
        have g13 := i_ne h11
        first | have e14 : (l1 + (1 : Int32)).toInt = l1.toInt + (1) := i_addk rfl (by omega) (by omega) | have b15 := i_bd (l1 + (1 : Int32))
        exact IH (128 - (l1 + (1 : Int32)).toInt).toNat (by omega) _ ((l1 + (1 : Int32))) rfl hF hV (by omega) (show ∀ r : Nat, (r : Int) < (l1 + (1 : Int32)).toInt → (m 116) r ≠ 0 from by first | (intro r hr; omega; done) | (exact ne_step r_LZ (by omega) (by assumption) (by omega)) | (exfalso; omega; done) | (exfalso; contradiction; done))
theorem sp_234 {X : Nat × (Nat → Int32)} {P : Option ma_V → (Nat → Nat → Int32) → Prop} {m : Nat → Nat → Int32}  (hV : zV m)  (KZ : ∀ v m₉, zV (zov wr_234 m m₉) → (zLE (m 116) (m 94 64) v) → P (some (.inl v)) (zov wr_234 m m₉)) : zm X 0 0 234 0 [(0, .inr (.inr (some 94)))] m P := by
  have K : ∀ v m₉, zF wr_234 m m₉ → zV m₉ → (zLE (m₉ 116) (m₉ 94 64) v) → P (some (.inl v)) m₉ := by
    intro v m₉ hf z q0
    have e := zov_eq hf
    rw [e] at z ⊢
    try rw [e] at q0
    exact KZ v m₉ z q0
  refine g_234_0  ?_
  have li1 : (0 : Int32).toInt = 0 := rfl
  exact lp_234_2 hV K _ _ ((0 : Int32)) rfl zF_rfl hV (by omega) (show ∀ r : Nat, (r : Int) < (0 : Int32).toInt → (m 116) r ≠ 0 from by first | (intro r hr; omega; done) | (exfalso; omega; done) | (exfalso; contradiction; done))
set_option maxRecDepth 100000 in
theorem hm_233 : ma_md 233 = some (12, yX12_emptyRegions, cX12_emptyRegions, 3, (some (FieldType.int))) := rfl
theorem dX12_emptyRegions_0 : decode cX12_emptyRegions 0 = .ok (.iconst 0, 1) := by decide +kernel
theorem dX12_emptyRegions_1 : decode cX12_emptyRegions 1 = .ok (.istore_n 1, 1) := by decide +kernel
theorem dX12_emptyRegions_2 : decode cX12_emptyRegions 2 = .ok (.iconst 0, 1) := by decide +kernel
theorem dX12_emptyRegions_3 : decode cX12_emptyRegions 3 = .ok (.istore_n 2, 1) := by decide +kernel
theorem dX12_emptyRegions_4 : decode cX12_emptyRegions 4 = .ok (.iload_n 2, 1) := by decide +kernel
theorem dX12_emptyRegions_5 : decode cX12_emptyRegions 5 = .ok (.aload_n 0, 1) := by decide +kernel
theorem dX12_emptyRegions_30 : decode cX12_emptyRegions 30 = .ok (.iload_n 1, 1) := by decide +kernel
theorem dX12_emptyRegions_31 : decode cX12_emptyRegions 31 = .ok (.ireturn, 1) := by decide +kernel
theorem dX12_emptyRegions_12 : decode cX12_emptyRegions 12 = .ok (.aload_n 0, 1) := by decide +kernel
theorem dX12_emptyRegions_16 : decode cX12_emptyRegions 16 = .ok (.iload_n 2, 1) := by decide +kernel
theorem dX12_emptyRegions_24 : decode cX12_emptyRegions 24 = .ok (.iinc 2 1, 3) := by decide +kernel
theorem dX12_emptyRegions_27 : decode cX12_emptyRegions 27 = .ok (.goto (-23), 3) := by decide +kernel
theorem dX12_emptyRegions_21 : decode cX12_emptyRegions 21 = .ok (.iinc 1 1, 3) := by decide +kernel
theorem dX12_emptyRegions_18 : decode cX12_emptyRegions 18 = .ok (.ifCond .ne 6, 3) := by decide +kernel
theorem dX12_emptyRegions_17 : decode cX12_emptyRegions 17 = .ok (.iaload, 1) := by decide +kernel
theorem dX12_emptyRegions_13 : decode cX12_emptyRegions 13 = .ok (.getfield 80, 3) := by decide +kernel
theorem dX12_emptyRegions_9 : decode cX12_emptyRegions 9 = .ok (.if_icmp .ge 21, 3) := by decide +kernel
theorem dX12_emptyRegions_6 : decode cX12_emptyRegions 6 = .ok (.getfield 234, 3) := by decide +kernel
def wr_233 (_ _ : Nat) : Bool := false
theorem g_233_0 {X : Nat × (Nat → Int32)} {m : Nat → Nat → Int32} {P : Option ma_V → (Nat → Nat → Int32) → Prop}  (h : zm X 0 0 233 4 [(0, .inr (.inr (some 94))), (1, .inl (0 : Int32)), (2, .inl (0 : Int32))] m P) : zm X 0 0 233 0 [(0, .inr (.inr (some 94)))] m P := by
  intro d w S Q hd hw hS hm HQ
  subst hm
  refine zw_push hm_233 dX12_emptyRegions_0 (v := .inl (0 : Int32)) rfl ?_
  refine zw_sto hm_233 dX12_emptyRegions_1 [(1, .inl (0 : Int32)), (0, .inr (.inr (some 94)))] rfl rfl rfl ?_
  refine zw_push hm_233 dX12_emptyRegions_2 (v := .inl (0 : Int32)) rfl ?_
  refine zw_sto hm_233 dX12_emptyRegions_3 [(2, .inl (0 : Int32)), (1, .inl (0 : Int32)), (0, .inr (.inr (some 94)))] rfl rfl rfl ?_
  exact zw_sub (ma_nd_of (ks := [0, 1, 2]) rfl (by decide)) (ma_nd_of (ks := [2, 1, 0]) rfl (by decide)) (ma_le_cons rfl (ma_le_cons rfl (ma_le_cons rfl (ma_le_nil _)))) (h d w _ Q (by omega) (by omega) hS rfl HQ)
theorem g_233_4 {X : Nat × (Nat → Int32)} {m : Nat → Nat → Int32} {P : Option ma_V → (Nat → Nat → Int32) → Prop} (l1 : Int32) (l2 : Int32) (h : if (m 94 64) ≤ l2 then (P (some (.inl l1)) m) else ((0 ≤ l2 ∧ l2.toNatClampNeg < 128) ∧ (if (m 116 l2.toNatClampNeg) = 0 then (zm X 0 0 233 4 [(0, .inr (.inr (some 94))), (1, .inl (l1 + (1 : Int32))), (2, .inl (l2 + (1 : Int32)))] m P) else (zm X 0 0 233 4 [(0, .inr (.inr (some 94))), (1, .inl l1), (2, .inl (l2 + (1 : Int32)))] m P)))) : zm X 0 0 233 4 [(0, .inr (.inr (some 94))), (1, .inl l1), (2, .inl l2)] m P := by
  intro d w S Q hd hw hS hm HQ
  subst hm
  refine zw_push hm_233 dX12_emptyRegions_4 (v := .inl l2) rfl ?_
  refine zw_push hm_233 dX12_emptyRegions_5 (v := .inr (.inr (some 94))) rfl ?_
  refine zw_gf hm_233 dX12_emptyRegions_6 (v := .inl ((mI S) 94 64)) (zT_is hS s_94) (zT_t hS s_94) rfl f_12_234_12 rfl ?_
  refine zw_if2 hm_233 dX12_emptyRegions_9 (t := 30) rfl zc2_ge ?_ ?_
  · intro hc
    rw [if_pos hc] at h
    refine zw_push hm_233 dX12_emptyRegions_30 (v := .inl l1) rfl ?_
    exact zw_iret hm_233 dX12_emptyRegions_31 (HQ _ _ h)
  · intro hc
    rw [if_neg hc] at h
    refine zw_push hm_233 dX12_emptyRegions_12 (v := .inr (.inr (some 94))) rfl ?_
    refine zw_gf hm_233 dX12_emptyRegions_13 (v := .inr (.inr (some 116))) (zT_is hS s_94) (zT_t hS s_94) rfl f_12_80_12 (zT_f hS r_94_65) ?_
    refine zw_push hm_233 dX12_emptyRegions_16 (v := .inl l2) rfl ?_
    obtain ⟨hg, h⟩ := h
    refine zw_ia hm_233 dX12_emptyRegions_17 (zT_is hS s_116) (zT_h hS s_116) rfl hg ?_
    show ma_wp X d w 233 18 [(0, .inr (.inr (some 94))), (1, .inl l1), (2, .inl l2)] [.inl ((mI S) 116 l2.toNatClampNeg)] S _
    refine zw_if0 hm_233 dX12_emptyRegions_18 (t := 24) rfl zc0_ne ?_ ?_
    · intro hc
      rw [if_neg hc] at h
      refine zw_sto hm_233 dX12_emptyRegions_24 [(2, .inl (l2 + (1 : Int32))), (0, .inr (.inr (some 94))), (1, .inl l1)] rfl rfl rfl ?_
      refine zw_goto hm_233 dX12_emptyRegions_27 (t := 4) rfl ?_
      exact zw_sub (ma_nd_of (ks := [0, 1, 2]) rfl (by decide)) (ma_nd_of (ks := [2, 0, 1]) rfl (by decide)) (ma_le_cons rfl (ma_le_cons rfl (ma_le_cons rfl (ma_le_nil _)))) (h d w _ Q (by omega) (by omega) hS rfl HQ)
    · intro hc
      rw [if_pos (Classical.not_not.mp hc)] at h
      refine zw_sto hm_233 dX12_emptyRegions_21 [(1, .inl (l1 + (1 : Int32))), (0, .inr (.inr (some 94))), (2, .inl l2)] rfl rfl rfl ?_
      refine zw_sto hm_233 dX12_emptyRegions_24 [(2, .inl (l2 + (1 : Int32))), (1, .inl (l1 + (1 : Int32))), (0, .inr (.inr (some 94)))] rfl rfl rfl ?_
      refine zw_goto hm_233 dX12_emptyRegions_27 (t := 4) rfl ?_
      exact zw_sub (ma_nd_of (ks := [0, 1, 2]) rfl (by decide)) (ma_nd_of (ks := [2, 1, 0]) rfl (by decide)) (ma_le_cons rfl (ma_le_cons rfl (ma_le_cons rfl (ma_le_nil _)))) (h d w _ Q (by omega) (by omega) hS rfl HQ)
theorem lp_233_4 {X : Nat × (Nat → Int32)} {P : Option ma_V → (Nat → Nat → Int32) → Prop} {m0 : Nat → Nat → Int32} (h0 : zV m0) (K : ∀ v m₉, zF wr_233 m0 m₉ → zV m₉ → (v.toInt ≤ 0 ∨ ∃ r : Nat, (r : Int) < (m₉ 94 64).toInt ∧ (m₉ 116) r = 0) → P (some (.inl v)) m₉) : ∀ (n : Nat) (m : Nat → Nat → Int32) (l1 : Int32) (l2 : Int32), (128 - l2.toInt).toNat = n → zF wr_233 m0 m → zV m → (0 ≤ l2.toInt) → (l1.toInt ≤ 0 ∨ ∃ r : Nat, (r : Int) < (m 94 64).toInt ∧ (m 116) r = 0) → zm X 0 0 233 4 [(0, .inr (.inr (some 94))), (1, .inl l1), (2, .inl l2)] m P := by
  intro n
  induction n using Nat.strongRecOn with
  | _ n IH =>
    intro m l1 l2 hmu hF hV hi0 r_EMl
    refine g_233_4 l1 l2 ?_
    have f1 : 0 ≤ (m 94 64).toInt ∧ (m 94 64).toInt ≤ 93 := rs_94_64 (m := m) hV
    have b2 := i_bd l2
    refine zd (fun (h3 : (m 94 64) ≤ l2) => ?_) (fun (h3 : ¬ (m 94 64) ≤ l2) => ?_)
    · skip
      have g4 := i_le h3
      have b5 := i_bd l1
      exact K (l1) _ hF hV (show l1.toInt ≤ 0 ∨ ∃ r : Nat, (r : Int) < (m 94 64).toInt ∧ (m 116) r = 0 from by first | (exact r_EMl) | (exfalso; omega; done) | (exfalso; contradiction; done))
    · skip
      have g6 := i_nle h3
      have hg7 : (0 ≤ l2 ∧ l2.toNatClampNeg < 128) := i_ix (by omega) (by omega)
      refine ⟨hg7, ?_⟩
      first | have f8 : 0 ≤ (m 116 l2.toNatClampNeg).toInt ∧ (m 116 l2.toNatClampNeg).toInt ≤ 4600 := ra_116 (m := m) hV (k := l2.toNatClampNeg) (i_ix (n := 128) (by omega) (by omega)).2 | have b9 := i_bd (m 116 l2.toNatClampNeg)
      have li10 : (0 : Int32).toInt = 0 := rfl
      refine zd (fun (h11 : (m 116 l2.toNatClampNeg) = (0 : Int32)) => ?_) (fun (h11 : ¬ (m 116 l2.toNatClampNeg) = (0 : Int32)) => ?_)
      · skip
        have g12 := i_eq h11
        have b13 := i_bd l1
        first | have e14 : (l1 + (1 : Int32)).toInt = l1.toInt + (1) := i_addk rfl (by omega) (by omega) | have b15 := i_bd (l1 + (1 : Int32))
        first | have e16 : (l2 + (1 : Int32)).toInt = l2.toInt + (1) := i_addk rfl (by omega) (by omega) | have b17 := i_bd (l2 + (1 : Int32))
        exact IH (128 - (l2 + (1 : Int32)).toInt).toNat (by omega) _ ((l1 + (1 : Int32))) ((l2 + (1 : Int32))) rfl hF hV (by omega) (show (l1 + (1 : Int32)).toInt ≤ 0 ∨ ∃ r : Nat, (r : Int) < (m 94 64).toInt ∧ (m 116) r = 0 from by first | (exact Or.inl (by decide)) | (exact Or.inr ⟨l2.toNatClampNeg, by rw [tn_cast (by omega)]; omega, by assumption⟩) | (exfalso; omega; done) | (exfalso; contradiction; done))
      · skip
        have g18 := i_ne h11
        have b19 := i_bd l1
        first | have e20 : (l2 + (1 : Int32)).toInt = l2.toInt + (1) := i_addk rfl (by omega) (by omega) | have b21 := i_bd (l2 + (1 : Int32))
        exact IH (128 - (l2 + (1 : Int32)).toInt).toNat (by omega) _ (l1) ((l2 + (1 : Int32))) rfl hF hV (by omega) r_EMl
theorem sp_233 {X : Nat × (Nat → Int32)} {P : Option ma_V → (Nat → Nat → Int32) → Prop} {m : Nat → Nat → Int32}  (hV : zV m)  (KZ : ∀ v m₉, zV (zov wr_233 m m₉) → (v.toInt ≤ 0 ∨ ∃ r : Nat, (r : Int) < (m 94 64).toInt ∧ (m 116) r = 0) → P (some (.inl v)) (zov wr_233 m m₉)) : zm X 0 0 233 0 [(0, .inr (.inr (some 94)))] m P := by
  have K : ∀ v m₉, zF wr_233 m m₉ → zV m₉ → (v.toInt ≤ 0 ∨ ∃ r : Nat, (r : Int) < (m₉ 94 64).toInt ∧ (m₉ 116) r = 0) → P (some (.inl v)) m₉ := by
    intro v m₉ hf z q0
    have e := zov_eq hf
    rw [e] at z ⊢
    try rw [e] at q0
    exact KZ v m₉ z q0
  refine g_233_0  ?_
  have li1 : (0 : Int32).toInt = 0 := rfl
  exact lp_233_4 hV K _ _ ((0 : Int32)) ((0 : Int32)) rfl zF_rfl hV (by omega) (show (0 : Int32).toInt ≤ 0 ∨ ∃ r : Nat, (r : Int) < (m 94 64).toInt ∧ (m 116) r = 0 from by first | (exact Or.inl (by decide)) | (exact Or.inr ⟨l2.toNatClampNeg, by rw [tn_cast (by omega)]; omega, by assumption⟩) | (exfalso; omega; done) | (exfalso; contradiction; done))

