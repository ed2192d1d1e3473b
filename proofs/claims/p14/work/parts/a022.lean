/-! from 94.412 -/
/-! the reference (written by wip/tools/gen94m.py) -/
set_option maxRecDepth 100000 in
theorem hm_188 : ma_md 188 = some (12, yX12_keepReached, cX12_keepReached, 2, none) := rfl
theorem s_107 : zs 107 = some (20, 3100) := rfl
theorem s_112 : zs 112 = some (20, 16) := rfl
theorem s_114 : zs 114 = some (20, 3100) := rfl
theorem r_94_39 : zfi 94 39 = some 107 := rfl
theorem r_94_51 : zfi 94 51 = some 112 := rfl
theorem r_94_53 : zfi 94 53 = some 114 := rfl
theorem f_12_52_12 : ma_fld 12 52 12 = some 39 := by decide +kernel
theorem f_12_68_12 : ma_fld 12 68 12 = some 51 := by decide +kernel
theorem f_12_74_12 : ma_fld 12 74 12 = some 53 := by decide +kernel
theorem f_12_261_12 : ma_fld 12 261 12 = some 55 := by decide +kernel
theorem v_12_301_12 : ma_vl 12 301 12 = some (1, 189, 0) := by decide +kernel
theorem v_12_304_12 : ma_vl 12 304 12 = some (1, 191, 0) := by decide +kernel
theorem dX12_keepReached_0 : decode cX12_keepReached 0 = .ok (.aload_n 0, 1) := by decide +kernel
theorem dX12_keepReached_1 : decode cX12_keepReached 1 = .ok (.invokevirtual 301, 3) := by decide +kernel
theorem dX12_keepReached_4 : decode cX12_keepReached 4 = .ok (.aload_n 0, 1) := by decide +kernel
theorem dX12_keepReached_5 : decode cX12_keepReached 5 = .ok (.iconst 0, 1) := by decide +kernel
theorem dX12_keepReached_9 : decode cX12_keepReached 9 = .ok (.iconst 0, 1) := by decide +kernel
theorem dX12_keepReached_10 : decode cX12_keepReached 10 = .ok (.istore_n 1, 1) := by decide +kernel
theorem dX12_keepReached_6 : decode cX12_keepReached 6 = .ok (.putfield 291, 3) := by decide +kernel
theorem dX12_keepReached_11 : decode cX12_keepReached 11 = .ok (.iload_n 1, 1) := by decide +kernel
theorem dX12_keepReached_12 : decode cX12_keepReached 12 = .ok (.bipush 16, 2) := by decide +kernel
theorem dX12_keepReached_33 : decode cX12_keepReached 33 = .ok (.iconst 0, 1) := by decide +kernel
theorem dX12_keepReached_34 : decode cX12_keepReached 34 = .ok (.istore_n 1, 1) := by decide +kernel
theorem dX12_keepReached_17 : decode cX12_keepReached 17 = .ok (.aload_n 0, 1) := by decide +kernel
theorem dX12_keepReached_18 : decode cX12_keepReached 18 = .ok (.aload_n 0, 1) := by decide +kernel
theorem dX12_keepReached_22 : decode cX12_keepReached 22 = .ok (.iload_n 1, 1) := by decide +kernel
theorem dX12_keepReached_24 : decode cX12_keepReached 24 = .ok (.invokevirtual 298, 3) := by decide +kernel
theorem dX12_keepReached_27 : decode cX12_keepReached 27 = .ok (.iinc 1 1, 3) := by decide +kernel
theorem dX12_keepReached_30 : decode cX12_keepReached 30 = .ok (.goto (-19), 3) := by decide +kernel
theorem dX12_keepReached_23 : decode cX12_keepReached 23 = .ok (.iaload, 1) := by decide +kernel
theorem dX12_keepReached_19 : decode cX12_keepReached 19 = .ok (.getfield 68, 3) := by decide +kernel
theorem dX12_keepReached_14 : decode cX12_keepReached 14 = .ok (.if_icmp .ge 19, 3) := by decide +kernel
theorem dX12_keepReached_35 : decode cX12_keepReached 35 = .ok (.iload_n 1, 1) := by decide +kernel
theorem dX12_keepReached_36 : decode cX12_keepReached 36 = .ok (.aload_n 0, 1) := by decide +kernel
theorem dX12_keepReached_59 : decode cX12_keepReached 59 = .ok (.iconst 0, 1) := by decide +kernel
theorem dX12_keepReached_60 : decode cX12_keepReached 60 = .ok (.istore_n 1, 1) := by decide +kernel
theorem dX12_keepReached_43 : decode cX12_keepReached 43 = .ok (.aload_n 0, 1) := by decide +kernel
theorem dX12_keepReached_44 : decode cX12_keepReached 44 = .ok (.aload_n 0, 1) := by decide +kernel
theorem dX12_keepReached_48 : decode cX12_keepReached 48 = .ok (.iload_n 1, 1) := by decide +kernel
theorem dX12_keepReached_50 : decode cX12_keepReached 50 = .ok (.invokevirtual 298, 3) := by decide +kernel
theorem dX12_keepReached_53 : decode cX12_keepReached 53 = .ok (.iinc 1 1, 3) := by decide +kernel
theorem dX12_keepReached_56 : decode cX12_keepReached 56 = .ok (.goto (-21), 3) := by decide +kernel
theorem dX12_keepReached_49 : decode cX12_keepReached 49 = .ok (.iaload, 1) := by decide +kernel
theorem dX12_keepReached_45 : decode cX12_keepReached 45 = .ok (.getfield 74, 3) := by decide +kernel
theorem dX12_keepReached_40 : decode cX12_keepReached 40 = .ok (.if_icmp .ge 19, 3) := by decide +kernel
theorem dX12_keepReached_37 : decode cX12_keepReached 37 = .ok (.getfield 261, 3) := by decide +kernel
theorem dX12_keepReached_61 : decode cX12_keepReached 61 = .ok (.iload_n 1, 1) := by decide +kernel
theorem dX12_keepReached_62 : decode cX12_keepReached 62 = .ok (.sipush 3100, 3) := by decide +kernel
theorem dX12_keepReached_97 : decode cX12_keepReached 97 = .ok (.aload_n 0, 1) := by decide +kernel
theorem dX12_keepReached_98 : decode cX12_keepReached 98 = .ok (.invokevirtual 304, 3) := by decide +kernel
theorem dX12_keepReached_101 : decode cX12_keepReached 101 = .ok (.return_, 1) := by decide +kernel
theorem dX12_keepReached_68 : decode cX12_keepReached 68 = .ok (.aload_n 0, 1) := by decide +kernel
theorem dX12_keepReached_72 : decode cX12_keepReached 72 = .ok (.iload_n 1, 1) := by decide +kernel
theorem dX12_keepReached_91 : decode cX12_keepReached 91 = .ok (.iinc 1 1, 3) := by decide +kernel
theorem dX12_keepReached_94 : decode cX12_keepReached 94 = .ok (.goto (-33), 3) := by decide +kernel
theorem dX12_keepReached_77 : decode cX12_keepReached 77 = .ok (.aload_n 0, 1) := by decide +kernel
theorem dX12_keepReached_81 : decode cX12_keepReached 81 = .ok (.iload_n 1, 1) := by decide +kernel
theorem dX12_keepReached_86 : decode cX12_keepReached 86 = .ok (.aload_n 0, 1) := by decide +kernel
theorem dX12_keepReached_87 : decode cX12_keepReached 87 = .ok (.iload_n 1, 1) := by decide +kernel
theorem dX12_keepReached_88 : decode cX12_keepReached 88 = .ok (.invokevirtual 298, 3) := by decide +kernel
theorem dX12_keepReached_83 : decode cX12_keepReached 83 = .ok (.ifCond .le 8, 3) := by decide +kernel
theorem dX12_keepReached_82 : decode cX12_keepReached 82 = .ok (.iaload, 1) := by decide +kernel
theorem dX12_keepReached_78 : decode cX12_keepReached 78 = .ok (.getfield 52, 3) := by decide +kernel
theorem dX12_keepReached_74 : decode cX12_keepReached 74 = .ok (.ifCond .eq 17, 3) := by decide +kernel
theorem dX12_keepReached_73 : decode cX12_keepReached 73 = .ok (.baload, 1) := by decide +kernel
theorem dX12_keepReached_69 : decode cX12_keepReached 69 = .ok (.getfield 27, 3) := by decide +kernel
theorem dX12_keepReached_65 : decode cX12_keepReached 65 = .ok (.if_icmp .ge 32, 3) := by decide +kernel
def wr_188 (c k : Nat) : Bool := Nat.beq c 110 || Nat.beq c 118 || (Nat.beq c 94 && (Nat.beq k 73))
theorem ws_189_188 : ∀ c k, wr_189 c k = true → wr_188 c k = true := by
  intro c k h
  simp only [wr_189, wr_188, Bool.or_eq_true, Bool.and_eq_true, Nat.beq_eq] at h ⊢
  omega
theorem ws_191_188 : ∀ c k, wr_191 c k = true → wr_188 c k = true := by
  intro c k h
  simp only [wr_191, wr_188, Bool.or_eq_true, Bool.and_eq_true, Nat.beq_eq] at h ⊢
  omega
theorem g_188_0 {X : Nat × (Nat → Int32)} {m : Nat → Nat → Int32} {P : Option ma_V → (Nat → Nat → Int32) → Prop}  (h : zm X 0 0 189 0 [(0, .inr (.inr (some 94)))] m (zmv (fun m1 => zm X 3 66 188 11 [(0, .inr (.inr (some 94))), (1, .inl (0 : Int32))] (ma_u m1 94 73 (0 : Int32)) P))) : zm X 3 66 188 0 [(0, .inr (.inr (some 94)))] m P := by
  intro d w S Q hd hw hS hm HQ
  subst hm
  refine zw_push hm_188 dX12_keepReached_0 (v := .inr (.inr (some 94))) rfl ?_
  refine zw_cv hm_188 dX12_keepReached_1 v_12_301_12 hm_189 [] [] rfl (zT_rt hS s_94 rfl) ⟨by omega, by omega⟩ rfl (h _ _ S _ (by omega) (by omega) hS rfl (fun o9 m1 hv => ?_))
  obtain ⟨rfl, h⟩ := zmv_of hv
  show ma_wp X d w 188 4 [(0, .inr (.inr (some 94)))] [] (zst S m1) _
  refine zw_push hm_188 dX12_keepReached_4 (v := .inr (.inr (some 94))) rfl ?_
  refine zw_push hm_188 dX12_keepReached_5 (v := .inl (0 : Int32)) rfl ?_
  refine zw_pf hm_188 dX12_keepReached_6 (zT_is (zT_zst hS m1) s_94) (zT_t (zT_zst hS m1) s_94) p_12_291_12 zk_int ?_
  refine zw_push hm_188 dX12_keepReached_9 (v := .inl (0 : Int32)) rfl ?_
  refine zw_sto hm_188 dX12_keepReached_10 [(1, .inl (0 : Int32)), (0, .inr (.inr (some 94)))] rfl rfl rfl ?_
  exact zw_sub (ma_nd_of (ks := [0, 1]) rfl (by decide)) (ma_nd_of (ks := [1, 0]) rfl (by decide)) (ma_le_cons rfl (ma_le_cons rfl (ma_le_nil _))) (h d w _ Q (by omega) (by omega) (zT_pi (zT_zst hS m1)) rfl HQ)
theorem g_188_11 {X : Nat × (Nat → Int32)} {m : Nat → Nat → Int32} {P : Option ma_V → (Nat → Nat → Int32) → Prop} (l1 : Int32) (h : if (16 : Int32) ≤ l1 then (zm X 3 66 188 35 [(0, .inr (.inr (some 94))), (1, .inl (0 : Int32))] m P) else ((0 ≤ l1 ∧ l1.toNatClampNeg < 16) ∧ (if (m 112 l1.toNatClampNeg) < 0 then (zm X 3 66 188 11 [(0, .inr (.inr (some 94))), (1, .inl (l1 + (1 : Int32)))] m P) else ((0 ≤ (m 112 l1.toNatClampNeg) ∧ (m 112 l1.toNatClampNeg).toNatClampNeg < 3100) ∧ (if (m 110 (m 112 l1.toNatClampNeg).toNatClampNeg) = 0 then ((0 ≤ (m 112 l1.toNatClampNeg) ∧ (m 112 l1.toNatClampNeg).toNatClampNeg < 3100) ∧ ((0 ≤ (m 94 73) ∧ (m 94 73).toNatClampNeg < 3100) ∧ (zm X 3 66 188 11 [(0, .inr (.inr (some 94))), (1, .inl (l1 + (1 : Int32)))] (ma_u (ma_u (ma_u m 110 (m 112 l1.toNatClampNeg).toNatClampNeg (1 : Int32)) 118 (m 94 73).toNatClampNeg (m 112 l1.toNatClampNeg)) 94 73 ((m 94 73) + (1 : Int32))) P))) else (zm X 3 66 188 11 [(0, .inr (.inr (some 94))), (1, .inl (l1 + (1 : Int32)))] m P)))))) : zm X 3 66 188 11 [(0, .inr (.inr (some 94))), (1, .inl l1)] m P := by
  intro d w S Q hd hw hS hm HQ
  subst hm
  refine zw_push hm_188 dX12_keepReached_11 (v := .inl l1) rfl ?_
  refine zw_push hm_188 dX12_keepReached_12 (v := .inl (16 : Int32)) rfl ?_
  refine zw_if2 hm_188 dX12_keepReached_14 (t := 33) rfl zc2_ge ?_ ?_
  · intro hc
    rw [if_pos hc] at h
    refine zw_push hm_188 dX12_keepReached_33 (v := .inl (0 : Int32)) rfl ?_
    refine zw_sto hm_188 dX12_keepReached_34 [(1, .inl (0 : Int32)), (0, .inr (.inr (some 94)))] rfl rfl rfl ?_
    exact zw_sub (ma_nd_of (ks := [0, 1]) rfl (by decide)) (ma_nd_of (ks := [1, 0]) rfl (by decide)) (ma_le_cons rfl (ma_le_cons rfl (ma_le_nil _))) (h d w _ Q (by omega) (by omega) hS rfl HQ)
  · intro hc
    rw [if_neg hc] at h
    refine zw_push hm_188 dX12_keepReached_17 (v := .inr (.inr (some 94))) rfl ?_
    refine zw_push hm_188 dX12_keepReached_18 (v := .inr (.inr (some 94))) rfl ?_
    refine zw_gf hm_188 dX12_keepReached_19 (v := .inr (.inr (some 112))) (zT_is hS s_94) (zT_t hS s_94) rfl f_12_68_12 (zT_f hS r_94_51) ?_
    refine zw_push hm_188 dX12_keepReached_22 (v := .inl l1) rfl ?_
    obtain ⟨hg, h⟩ := h
    refine zw_ia hm_188 dX12_keepReached_23 (zT_is hS s_112) (zT_h hS s_112) rfl hg ?_
    show ma_wp X d w 188 24 [(0, .inr (.inr (some 94))), (1, .inl l1)] [.inl ((mI S) 112 l1.toNatClampNeg), .inr (.inr (some 94))] S _
    refine zw_cv hm_188 dX12_keepReached_24 v_12_298_12 hm_190 [.inl ((mI S) 112 l1.toNatClampNeg)] [] rfl (zT_rt hS s_94 rfl) ⟨by omega, by omega⟩ rfl ?_
    show ma_wp X (d - 1) (w - 21) 190 0 [(0, .inr (.inr (some 94))), (1, .inl ((mI S) 112 l1.toNatClampNeg))] [] S _
    refine zw_push hm_190 dX12_keep_0 (v := .inl ((mI S) 112 l1.toNatClampNeg)) rfl ?_
    refine zw_if0 hm_190 dX12_keep_1 (t := 13) rfl zc0_lt ?_ ?_
    · intro hc
      rw [if_pos hc] at h
      refine zw_vret hm_190 dX12_keep_13 ?_
      show ma_wp X d w 188 27 [(0, .inr (.inr (some 94))), (1, .inl l1)] [] S _
      refine zw_sto hm_188 dX12_keepReached_27 [(1, .inl (l1 + (1 : Int32))), (0, .inr (.inr (some 94)))] rfl rfl rfl ?_
      refine zw_goto hm_188 dX12_keepReached_30 (t := 11) rfl ?_
      exact zw_sub (ma_nd_of (ks := [0, 1]) rfl (by decide)) (ma_nd_of (ks := [1, 0]) rfl (by decide)) (ma_le_cons rfl (ma_le_cons rfl (ma_le_nil _))) (h d w _ Q (by omega) (by omega) hS rfl HQ)
    · intro hc
      rw [if_neg hc] at h
      refine zw_push hm_190 dX12_keep_4 (v := .inr (.inr (some 94))) rfl ?_
      refine zw_gf hm_190 dX12_keep_5 (v := .inr (.inr (some 110))) (zT_is hS s_94) (zT_t hS s_94) rfl f_12_62_12 (zT_f hS r_94_42) ?_
      refine zw_push hm_190 dX12_keep_8 (v := .inl ((mI S) 112 l1.toNatClampNeg)) rfl ?_
      obtain ⟨hg, h⟩ := h
      refine zw_ba hm_190 dX12_keep_9 (zT_is hS s_110) (zT_h hS s_110) rfl rfl hg ?_
      show ma_wp X (d - 1) (w - 21) 190 10 [(0, .inr (.inr (some 94))), (1, .inl ((mI S) 112 l1.toNatClampNeg))] [.inl ((mI S) 110 ((mI S) 112 l1.toNatClampNeg).toNatClampNeg)] S _
      refine zw_if0 hm_190 dX12_keep_10 (t := 14) rfl zc0_eq ?_ ?_
      · intro hc
        rw [if_pos hc] at h
        refine zw_push hm_190 dX12_keep_14 (v := .inr (.inr (some 94))) rfl ?_
        refine zw_gf hm_190 dX12_keep_15 (v := .inr (.inr (some 110))) (zT_is hS s_94) (zT_t hS s_94) rfl f_12_62_12 (zT_f hS r_94_42) ?_
        refine zw_push hm_190 dX12_keep_18 (v := .inl ((mI S) 112 l1.toNatClampNeg)) rfl ?_
        refine zw_push hm_190 dX12_keep_19 (v := .inl (1 : Int32)) rfl ?_
        obtain ⟨hg, h⟩ := h
        refine zw_bas22l hm_190 dX12_keep_20 (hx := by decide) (yv := (1 : Int32)) (zT_is hS s_110) (zT_h hS s_110) rfl hg ?_
        refine zw_push hm_190 dX12_keep_21 (v := .inr (.inr (some 94))) rfl ?_
        refine zw_gf hm_190 dX12_keep_22 (v := .inr (.inr (some 118))) (zT_is (zT_pi hS) s_94) (zT_t (zT_pi hS) s_94) rfl f_12_86_12 (zT_f (zT_pi hS) r_94_72) ?_
        refine zw_push hm_190 dX12_keep_25 (v := .inr (.inr (some 94))) rfl ?_
        refine zw_gf hm_190 dX12_keep_26 (v := .inl ((mI S) 94 73)) (zT_is (zT_pi hS) s_94) (zT_t (zT_pi hS) s_94) rfl f_12_291_12 rfl ?_
        refine zw_push hm_190 dX12_keep_29 (v := .inl ((mI S) 112 l1.toNatClampNeg)) rfl ?_
        obtain ⟨hg, h⟩ := h
        refine zw_ias hm_190 dX12_keep_30 (zT_is (zT_pi hS) s_118) (zT_h (zT_pi hS) s_118) rfl hg ?_
        refine zw_push hm_190 dX12_keep_31 (v := .inr (.inr (some 94))) rfl ?_
        refine zw_stk hm_190 dX12_keep_32 (st₉ := [.inr (.inr (some 94)), .inr (.inr (some 94))]) rfl rfl ?_
        refine zw_gf hm_190 dX12_keep_33 (v := .inl ((mI S) 94 73)) (zT_is (zT_pi (zT_pi hS)) s_94) (zT_t (zT_pi (zT_pi hS)) s_94) rfl f_12_291_12 rfl ?_
        refine zw_push hm_190 dX12_keep_36 (v := .inl (1 : Int32)) rfl ?_
        refine zw_stk hm_190 dX12_keep_37 (st₉ := [.inl (((mI S) 94 73) + (1 : Int32)), .inr (.inr (some 94))]) rfl rfl ?_
        refine zw_pf hm_190 dX12_keep_38 (zT_is (zT_pi (zT_pi hS)) s_94) (zT_t (zT_pi (zT_pi hS)) s_94) p_12_291_12 zk_int ?_
        refine zw_vret hm_190 dX12_keep_41 ?_
        show ma_wp X d w 188 27 [(0, .inr (.inr (some 94))), (1, .inl l1)] [] (ma_put (ma_put (ma_put S 110 ((mI S) 112 l1.toNatClampNeg).toNatClampNeg (.inl (1 : Int32))) 118 ((mI S) 94 73).toNatClampNeg (.inl ((mI S) 112 l1.toNatClampNeg))) 94 73 (.inl (((mI S) 94 73) + (1 : Int32)))) _
        refine zw_sto hm_188 dX12_keepReached_27 [(1, .inl (l1 + (1 : Int32))), (0, .inr (.inr (some 94)))] rfl rfl rfl ?_
        refine zw_goto hm_188 dX12_keepReached_30 (t := 11) rfl ?_
        exact zw_sub (ma_nd_of (ks := [0, 1]) rfl (by decide)) (ma_nd_of (ks := [1, 0]) rfl (by decide)) (ma_le_cons rfl (ma_le_cons rfl (ma_le_nil _))) (h d w _ Q (by omega) (by omega) (zT_pi (zT_pi (zT_pi hS))) rfl HQ)
      · intro hc
        rw [if_neg hc] at h
        refine zw_vret hm_190 dX12_keep_13 ?_
        show ma_wp X d w 188 27 [(0, .inr (.inr (some 94))), (1, .inl l1)] [] S _
        refine zw_sto hm_188 dX12_keepReached_27 [(1, .inl (l1 + (1 : Int32))), (0, .inr (.inr (some 94)))] rfl rfl rfl ?_
        refine zw_goto hm_188 dX12_keepReached_30 (t := 11) rfl ?_
        exact zw_sub (ma_nd_of (ks := [0, 1]) rfl (by decide)) (ma_nd_of (ks := [1, 0]) rfl (by decide)) (ma_le_cons rfl (ma_le_cons rfl (ma_le_nil _))) (h d w _ Q (by omega) (by omega) hS rfl HQ)
theorem g_188_35 {X : Nat × (Nat → Int32)} {m : Nat → Nat → Int32} {P : Option ma_V → (Nat → Nat → Int32) → Prop} (l1 : Int32) (h : if (m 94 55) ≤ l1 then (zm X 3 66 188 61 [(0, .inr (.inr (some 94))), (1, .inl (0 : Int32))] m P) else ((0 ≤ l1 ∧ l1.toNatClampNeg < 3100) ∧ (if (m 114 l1.toNatClampNeg) < 0 then (zm X 3 66 188 35 [(0, .inr (.inr (some 94))), (1, .inl (l1 + (1 : Int32)))] m P) else ((0 ≤ (m 114 l1.toNatClampNeg) ∧ (m 114 l1.toNatClampNeg).toNatClampNeg < 3100) ∧ (if (m 110 (m 114 l1.toNatClampNeg).toNatClampNeg) = 0 then ((0 ≤ (m 114 l1.toNatClampNeg) ∧ (m 114 l1.toNatClampNeg).toNatClampNeg < 3100) ∧ ((0 ≤ (m 94 73) ∧ (m 94 73).toNatClampNeg < 3100) ∧ (zm X 3 66 188 35 [(0, .inr (.inr (some 94))), (1, .inl (l1 + (1 : Int32)))] (ma_u (ma_u (ma_u m 110 (m 114 l1.toNatClampNeg).toNatClampNeg (1 : Int32)) 118 (m 94 73).toNatClampNeg (m 114 l1.toNatClampNeg)) 94 73 ((m 94 73) + (1 : Int32))) P))) else (zm X 3 66 188 35 [(0, .inr (.inr (some 94))), (1, .inl (l1 + (1 : Int32)))] m P)))))) : zm X 3 66 188 35 [(0, .inr (.inr (some 94))), (1, .inl l1)] m P := by
  intro d w S Q hd hw hS hm HQ
  subst hm
  refine zw_push hm_188 dX12_keepReached_35 (v := .inl l1) rfl ?_
  refine zw_push hm_188 dX12_keepReached_36 (v := .inr (.inr (some 94))) rfl ?_
  refine zw_gf hm_188 dX12_keepReached_37 (v := .inl ((mI S) 94 55)) (zT_is hS s_94) (zT_t hS s_94) rfl f_12_261_12 rfl ?_
  refine zw_if2 hm_188 dX12_keepReached_40 (t := 59) rfl zc2_ge ?_ ?_
  · intro hc
    rw [if_pos hc] at h
    refine zw_push hm_188 dX12_keepReached_59 (v := .inl (0 : Int32)) rfl ?_
    refine zw_sto hm_188 dX12_keepReached_60 [(1, .inl (0 : Int32)), (0, .inr (.inr (some 94)))] rfl rfl rfl ?_
    exact zw_sub (ma_nd_of (ks := [0, 1]) rfl (by decide)) (ma_nd_of (ks := [1, 0]) rfl (by decide)) (ma_le_cons rfl (ma_le_cons rfl (ma_le_nil _))) (h d w _ Q (by omega) (by omega) hS rfl HQ)
  · intro hc
    rw [if_neg hc] at h
    refine zw_push hm_188 dX12_keepReached_43 (v := .inr (.inr (some 94))) rfl ?_
    refine zw_push hm_188 dX12_keepReached_44 (v := .inr (.inr (some 94))) rfl ?_
    refine zw_gf hm_188 dX12_keepReached_45 (v := .inr (.inr (some 114))) (zT_is hS s_94) (zT_t hS s_94) rfl f_12_74_12 (zT_f hS r_94_53) ?_
    refine zw_push hm_188 dX12_keepReached_48 (v := .inl l1) rfl ?_
    obtain ⟨hg, h⟩ := h
    refine zw_ia hm_188 dX12_keepReached_49 (zT_is hS s_114) (zT_h hS s_114) rfl hg ?_
    show ma_wp X d w 188 50 [(0, .inr (.inr (some 94))), (1, .inl l1)] [.inl ((mI S) 114 l1.toNatClampNeg), .inr (.inr (some 94))] S _
    refine zw_cv hm_188 dX12_keepReached_50 v_12_298_12 hm_190 [.inl ((mI S) 114 l1.toNatClampNeg)] [] rfl (zT_rt hS s_94 rfl) ⟨by omega, by omega⟩ rfl ?_
    show ma_wp X (d - 1) (w - 21) 190 0 [(0, .inr (.inr (some 94))), (1, .inl ((mI S) 114 l1.toNatClampNeg))] [] S _
    refine zw_push hm_190 dX12_keep_0 (v := .inl ((mI S) 114 l1.toNatClampNeg)) rfl ?_
    refine zw_if0 hm_190 dX12_keep_1 (t := 13) rfl zc0_lt ?_ ?_
    · intro hc
      rw [if_pos hc] at h
      refine zw_vret hm_190 dX12_keep_13 ?_
      show ma_wp X d w 188 53 [(0, .inr (.inr (some 94))), (1, .inl l1)] [] S _
      refine zw_sto hm_188 dX12_keepReached_53 [(1, .inl (l1 + (1 : Int32))), (0, .inr (.inr (some 94)))] rfl rfl rfl ?_
      refine zw_goto hm_188 dX12_keepReached_56 (t := 35) rfl ?_
      exact zw_sub (ma_nd_of (ks := [0, 1]) rfl (by decide)) (ma_nd_of (ks := [1, 0]) rfl (by decide)) (ma_le_cons rfl (ma_le_cons rfl (ma_le_nil _))) (h d w _ Q (by omega) (by omega) hS rfl HQ)
    · intro hc
      rw [if_neg hc] at h
      refine zw_push hm_190 dX12_keep_4 (v := .inr (.inr (some 94))) rfl ?_
      refine zw_gf hm_190 dX12_keep_5 (v := .inr (.inr (some 110))) (zT_is hS s_94) (zT_t hS s_94) rfl f_12_62_12 (zT_f hS r_94_42) ?_
      refine zw_push hm_190 dX12_keep_8 (v := .inl ((mI S) 114 l1.toNatClampNeg)) rfl ?_
      obtain ⟨hg, h⟩ := h
      refine zw_ba hm_190 dX12_keep_9 (zT_is hS s_110) (zT_h hS s_110) rfl rfl hg ?_
      show ma_wp X (d - 1) (w - 21) 190 10 [(0, .inr (.inr (some 94))), (1, .inl ((mI S) 114 l1.toNatClampNeg))] [.inl ((mI S) 110 ((mI S) 114 l1.toNatClampNeg).toNatClampNeg)] S _
      refine zw_if0 hm_190 dX12_keep_10 (t := 14) rfl zc0_eq ?_ ?_
      · intro hc
        rw [if_pos hc] at h
        refine zw_push hm_190 dX12_keep_14 (v := .inr (.inr (some 94))) rfl ?_
        refine zw_gf hm_190 dX12_keep_15 (v := .inr (.inr (some 110))) (zT_is hS s_94) (zT_t hS s_94) rfl f_12_62_12 (zT_f hS r_94_42) ?_
        refine zw_push hm_190 dX12_keep_18 (v := .inl ((mI S) 114 l1.toNatClampNeg)) rfl ?_
        refine zw_push hm_190 dX12_keep_19 (v := .inl (1 : Int32)) rfl ?_
        obtain ⟨hg, h⟩ := h
        refine zw_bas22l hm_190 dX12_keep_20 (hx := by decide) (yv := (1 : Int32)) (zT_is hS s_110) (zT_h hS s_110) rfl hg ?_
        refine zw_push hm_190 dX12_keep_21 (v := .inr (.inr (some 94))) rfl ?_
        refine zw_gf hm_190 dX12_keep_22 (v := .inr (.inr (some 118))) (zT_is (zT_pi hS) s_94) (zT_t (zT_pi hS) s_94) rfl f_12_86_12 (zT_f (zT_pi hS) r_94_72) ?_
        refine zw_push hm_190 dX12_keep_25 (v := .inr (.inr (some 94))) rfl ?_
        refine zw_gf hm_190 dX12_keep_26 (v := .inl ((mI S) 94 73)) (zT_is (zT_pi hS) s_94) (zT_t (zT_pi hS) s_94) rfl f_12_291_12 rfl ?_
        refine zw_push hm_190 dX12_keep_29 (v := .inl ((mI S) 114 l1.toNatClampNeg)) rfl ?_
        obtain ⟨hg, h⟩ := h
        refine zw_ias hm_190 dX12_keep_30 (zT_is (zT_pi hS) s_118) (zT_h (zT_pi hS) s_118) rfl hg ?_
        refine zw_push hm_190 dX12_keep_31 (v := .inr (.inr (some 94))) rfl ?_
        refine zw_stk hm_190 dX12_keep_32 (st₉ := [.inr (.inr (some 94)), .inr (.inr (some 94))]) rfl rfl ?_
        refine zw_gf hm_190 dX12_keep_33 (v := .inl ((mI S) 94 73)) (zT_is (zT_pi (zT_pi hS)) s_94) (zT_t (zT_pi (zT_pi hS)) s_94) rfl f_12_291_12 rfl ?_
        refine zw_push hm_190 dX12_keep_36 (v := .inl (1 : Int32)) rfl ?_
        refine zw_stk hm_190 dX12_keep_37 (st₉ := [.inl (((mI S) 94 73) + (1 : Int32)), .inr (.inr (some 94))]) rfl rfl ?_
        refine zw_pf hm_190 dX12_keep_38 (zT_is (zT_pi (zT_pi hS)) s_94) (zT_t (zT_pi (zT_pi hS)) s_94) p_12_291_12 zk_int ?_
        refine zw_vret hm_190 dX12_keep_41 ?_
        show ma_wp X d w 188 53 [(0, .inr (.inr (some 94))), (1, .inl l1)] [] (ma_put (ma_put (ma_put S 110 ((mI S) 114 l1.toNatClampNeg).toNatClampNeg (.inl (1 : Int32))) 118 ((mI S) 94 73).toNatClampNeg (.inl ((mI S) 114 l1.toNatClampNeg))) 94 73 (.inl (((mI S) 94 73) + (1 : Int32)))) _
        refine zw_sto hm_188 dX12_keepReached_53 [(1, .inl (l1 + (1 : Int32))), (0, .inr (.inr (some 94)))] rfl rfl rfl ?_
        refine zw_goto hm_188 dX12_keepReached_56 (t := 35) rfl ?_
        exact zw_sub (ma_nd_of (ks := [0, 1]) rfl (by decide)) (ma_nd_of (ks := [1, 0]) rfl (by decide)) (ma_le_cons rfl (ma_le_cons rfl (ma_le_nil _))) (h d w _ Q (by omega) (by omega) (zT_pi (zT_pi (zT_pi hS))) rfl HQ)
      · intro hc
        rw [if_neg hc] at h
        refine zw_vret hm_190 dX12_keep_13 ?_
        show ma_wp X d w 188 53 [(0, .inr (.inr (some 94))), (1, .inl l1)] [] S _
        refine zw_sto hm_188 dX12_keepReached_53 [(1, .inl (l1 + (1 : Int32))), (0, .inr (.inr (some 94)))] rfl rfl rfl ?_
        refine zw_goto hm_188 dX12_keepReached_56 (t := 35) rfl ?_
        exact zw_sub (ma_nd_of (ks := [0, 1]) rfl (by decide)) (ma_nd_of (ks := [1, 0]) rfl (by decide)) (ma_le_cons rfl (ma_le_cons rfl (ma_le_nil _))) (h d w _ Q (by omega) (by omega) hS rfl HQ)
theorem g_188_61 {X : Nat × (Nat → Int32)} {m : Nat → Nat → Int32} {P : Option ma_V → (Nat → Nat → Int32) → Prop} (l1 : Int32) (h : if (3100 : Int32) ≤ l1 then (zm X 2 44 191 0 [(0, .inr (.inr (some 94)))] m (zmv (fun m1 => P none m1))) else ((0 ≤ l1 ∧ l1.toNatClampNeg < 3100) ∧ (if (m 99 l1.toNatClampNeg) = 0 then (zm X 3 66 188 61 [(0, .inr (.inr (some 94))), (1, .inl (l1 + (1 : Int32)))] m P) else ((0 ≤ l1 ∧ l1.toNatClampNeg < 3100) ∧ (if (m 107 l1.toNatClampNeg) ≤ 0 then (zm X 3 66 188 61 [(0, .inr (.inr (some 94))), (1, .inl (l1 + (1 : Int32)))] m P) else (if l1 < 0 then (zm X 3 66 188 61 [(0, .inr (.inr (some 94))), (1, .inl (l1 + (1 : Int32)))] m P) else ((0 ≤ l1 ∧ l1.toNatClampNeg < 3100) ∧ (if (m 110 l1.toNatClampNeg) = 0 then ((0 ≤ l1 ∧ l1.toNatClampNeg < 3100) ∧ ((0 ≤ (m 94 73) ∧ (m 94 73).toNatClampNeg < 3100) ∧ (zm X 3 66 188 61 [(0, .inr (.inr (some 94))), (1, .inl (l1 + (1 : Int32)))] (ma_u (ma_u (ma_u m 110 l1.toNatClampNeg (1 : Int32)) 118 (m 94 73).toNatClampNeg l1) 94 73 ((m 94 73) + (1 : Int32))) P))) else (zm X 3 66 188 61 [(0, .inr (.inr (some 94))), (1, .inl (l1 + (1 : Int32)))] m P))))))))) : zm X 3 66 188 61 [(0, .inr (.inr (some 94))), (1, .inl l1)] m P := by
  intro d w S Q hd hw hS hm HQ
  subst hm
  refine zw_push hm_188 dX12_keepReached_61 (v := .inl l1) rfl ?_
  refine zw_push hm_188 dX12_keepReached_62 (v := .inl (3100 : Int32)) rfl ?_
  refine zw_if2 hm_188 dX12_keepReached_65 (t := 97) rfl zc2_ge ?_ ?_
  · intro hc
    rw [if_pos hc] at h
    refine zw_push hm_188 dX12_keepReached_97 (v := .inr (.inr (some 94))) rfl ?_
    refine zw_cv hm_188 dX12_keepReached_98 v_12_304_12 hm_191 [] [] rfl (zT_rt hS s_94 rfl) ⟨by omega, by omega⟩ rfl (h _ _ S _ (by omega) (by omega) hS rfl (fun o9 m1 hv => ?_))
    obtain ⟨rfl, h⟩ := zmv_of hv
    show ma_wp X d w 188 101 [(0, .inr (.inr (some 94))), (1, .inl l1)] [] (zst S m1) _
    exact zw_vret hm_188 dX12_keepReached_101 (HQ _ _ h)
  · intro hc
    rw [if_neg hc] at h
    refine zw_push hm_188 dX12_keepReached_68 (v := .inr (.inr (some 94))) rfl ?_
    refine zw_gf hm_188 dX12_keepReached_69 (v := .inr (.inr (some 99))) (zT_is hS s_94) (zT_t hS s_94) rfl f_12_27_12 (zT_f hS r_94_31) ?_
    refine zw_push hm_188 dX12_keepReached_72 (v := .inl l1) rfl ?_
    obtain ⟨hg, h⟩ := h
    refine zw_ba hm_188 dX12_keepReached_73 (zT_is hS s_99) (zT_h hS s_99) rfl rfl hg ?_
    show ma_wp X d w 188 74 [(0, .inr (.inr (some 94))), (1, .inl l1)] [.inl ((mI S) 99 l1.toNatClampNeg)] S _
    refine zw_if0 hm_188 dX12_keepReached_74 (t := 91) rfl zc0_eq ?_ ?_
    · intro hc
      rw [if_pos hc] at h
      refine zw_sto hm_188 dX12_keepReached_91 [(1, .inl (l1 + (1 : Int32))), (0, .inr (.inr (some 94)))] rfl rfl rfl ?_
      refine zw_goto hm_188 dX12_keepReached_94 (t := 61) rfl ?_
      exact zw_sub (ma_nd_of (ks := [0, 1]) rfl (by decide)) (ma_nd_of (ks := [1, 0]) rfl (by decide)) (ma_le_cons rfl (ma_le_cons rfl (ma_le_nil _))) (h d w _ Q (by omega) (by omega) hS rfl HQ)
    · intro hc
      rw [if_neg hc] at h
      refine zw_push hm_188 dX12_keepReached_77 (v := .inr (.inr (some 94))) rfl ?_
      refine zw_gf hm_188 dX12_keepReached_78 (v := .inr (.inr (some 107))) (zT_is hS s_94) (zT_t hS s_94) rfl f_12_52_12 (zT_f hS r_94_39) ?_
      refine zw_push hm_188 dX12_keepReached_81 (v := .inl l1) rfl ?_
      obtain ⟨hg, h⟩ := h
      refine zw_ia hm_188 dX12_keepReached_82 (zT_is hS s_107) (zT_h hS s_107) rfl hg ?_
      show ma_wp X d w 188 83 [(0, .inr (.inr (some 94))), (1, .inl l1)] [.inl ((mI S) 107 l1.toNatClampNeg)] S _
      refine zw_if0 hm_188 dX12_keepReached_83 (t := 91) rfl zc0_le ?_ ?_
      · intro hc
        rw [if_pos hc] at h
        refine zw_sto hm_188 dX12_keepReached_91 [(1, .inl (l1 + (1 : Int32))), (0, .inr (.inr (some 94)))] rfl rfl rfl ?_
        refine zw_goto hm_188 dX12_keepReached_94 (t := 61) rfl ?_
        exact zw_sub (ma_nd_of (ks := [0, 1]) rfl (by decide)) (ma_nd_of (ks := [1, 0]) rfl (by decide)) (ma_le_cons rfl (ma_le_cons rfl (ma_le_nil _))) (h d w _ Q (by omega) (by omega) hS rfl HQ)
      · intro hc
        rw [if_neg hc] at h
        refine zw_push hm_188 dX12_keepReached_86 (v := .inr (.inr (some 94))) rfl ?_
        refine zw_push hm_188 dX12_keepReached_87 (v := .inl l1) rfl ?_
        refine zw_cv hm_188 dX12_keepReached_88 v_12_298_12 hm_190 [.inl l1] [] rfl (zT_rt hS s_94 rfl) ⟨by omega, by omega⟩ rfl ?_
        show ma_wp X (d - 1) (w - 21) 190 0 [(0, .inr (.inr (some 94))), (1, .inl l1)] [] S _
        refine zw_push hm_190 dX12_keep_0 (v := .inl l1) rfl ?_
        refine zw_if0 hm_190 dX12_keep_1 (t := 13) rfl zc0_lt ?_ ?_
        · intro hc
          rw [if_pos hc] at h
          refine zw_vret hm_190 dX12_keep_13 ?_
          show ma_wp X d w 188 91 [(0, .inr (.inr (some 94))), (1, .inl l1)] [] S _
          refine zw_sto hm_188 dX12_keepReached_91 [(1, .inl (l1 + (1 : Int32))), (0, .inr (.inr (some 94)))] rfl rfl rfl ?_
          refine zw_goto hm_188 dX12_keepReached_94 (t := 61) rfl ?_
          exact zw_sub (ma_nd_of (ks := [0, 1]) rfl (by decide)) (ma_nd_of (ks := [1, 0]) rfl (by decide)) (ma_le_cons rfl (ma_le_cons rfl (ma_le_nil _))) (h d w _ Q (by omega) (by omega) hS rfl HQ)
        · intro hc
          rw [if_neg hc] at h
          refine zw_push hm_190 dX12_keep_4 (v := .inr (.inr (some 94))) rfl ?_
          refine zw_gf hm_190 dX12_keep_5 (v := .inr (.inr (some 110))) (zT_is hS s_94) (zT_t hS s_94) rfl f_12_62_12 (zT_f hS r_94_42) ?_
          refine zw_push hm_190 dX12_keep_8 (v := .inl l1) rfl ?_
          obtain ⟨hg, h⟩ := h
          refine zw_ba hm_190 dX12_keep_9 (zT_is hS s_110) (zT_h hS s_110) rfl rfl hg ?_
          show ma_wp X (d - 1) (w - 21) 190 10 [(0, .inr (.inr (some 94))), (1, .inl l1)] [.inl ((mI S) 110 l1.toNatClampNeg)] S _
          refine zw_if0 hm_190 dX12_keep_10 (t := 14) rfl zc0_eq ?_ ?_
          · intro hc
            rw [if_pos hc] at h
            refine zw_push hm_190 dX12_keep_14 (v := .inr (.inr (some 94))) rfl ?_
            refine zw_gf hm_190 dX12_keep_15 (v := .inr (.inr (some 110))) (zT_is hS s_94) (zT_t hS s_94) rfl f_12_62_12 (zT_f hS r_94_42) ?_
            refine zw_push hm_190 dX12_keep_18 (v := .inl l1) rfl ?_
            refine zw_push hm_190 dX12_keep_19 (v := .inl (1 : Int32)) rfl ?_
            obtain ⟨hg, h⟩ := h
            refine zw_bas22l hm_190 dX12_keep_20 (hx := by decide) (yv := (1 : Int32)) (zT_is hS s_110) (zT_h hS s_110) rfl hg ?_
            refine zw_push hm_190 dX12_keep_21 (v := .inr (.inr (some 94))) rfl ?_
            refine zw_gf hm_190 dX12_keep_22 (v := .inr (.inr (some 118))) (zT_is (zT_pi hS) s_94) (zT_t (zT_pi hS) s_94) rfl f_12_86_12 (zT_f (zT_pi hS) r_94_72) ?_
            refine zw_push hm_190 dX12_keep_25 (v := .inr (.inr (some 94))) rfl ?_
            refine zw_gf hm_190 dX12_keep_26 (v := .inl ((mI S) 94 73)) (zT_is (zT_pi hS) s_94) (zT_t (zT_pi hS) s_94) rfl f_12_291_12 rfl ?_
            refine zw_push hm_190 dX12_keep_29 (v := .inl l1) rfl ?_
            obtain ⟨hg, h⟩ := h
            refine zw_ias hm_190 dX12_keep_30 (zT_is (zT_pi hS) s_118) (zT_h (zT_pi hS) s_118) rfl hg ?_
            refine zw_push hm_190 dX12_keep_31 (v := .inr (.inr (some 94))) rfl ?_
            refine zw_stk hm_190 dX12_keep_32 (st₉ := [.inr (.inr (some 94)), .inr (.inr (some 94))]) rfl rfl ?_
            refine zw_gf hm_190 dX12_keep_33 (v := .inl ((mI S) 94 73)) (zT_is (zT_pi (zT_pi hS)) s_94) (zT_t (zT_pi (zT_pi hS)) s_94) rfl f_12_291_12 rfl ?_
            refine zw_push hm_190 dX12_keep_36 (v := .inl (1 : Int32)) rfl ?_
            refine zw_stk hm_190 dX12_keep_37 (st₉ := [.inl (((mI S) 94 73) + (1 : Int32)), .inr (.inr (some 94))]) rfl rfl ?_
            refine zw_pf hm_190 dX12_keep_38 (zT_is (zT_pi (zT_pi hS)) s_94) (zT_t (zT_pi (zT_pi hS)) s_94) p_12_291_12 zk_int ?_
            refine zw_vret hm_190 dX12_keep_41 ?_
            show ma_wp X d w 188 91 [(0, .inr (.inr (some 94))), (1, .inl l1)] [] (ma_put (ma_put (ma_put S 110 l1.toNatClampNeg (.inl (1 : Int32))) 118 ((mI S) 94 73).toNatClampNeg (.inl l1)) 94 73 (.inl (((mI S) 94 73) + (1 : Int32)))) _
            refine zw_sto hm_188 dX12_keepReached_91 [(1, .inl (l1 + (1 : Int32))), (0, .inr (.inr (some 94)))] rfl rfl rfl ?_
            refine zw_goto hm_188 dX12_keepReached_94 (t := 61) rfl ?_
            exact zw_sub (ma_nd_of (ks := [0, 1]) rfl (by decide)) (ma_nd_of (ks := [1, 0]) rfl (by decide)) (ma_le_cons rfl (ma_le_cons rfl (ma_le_nil _))) (h d w _ Q (by omega) (by omega) (zT_pi (zT_pi (zT_pi hS))) rfl HQ)
          · intro hc
            rw [if_neg hc] at h
            refine zw_vret hm_190 dX12_keep_13 ?_
            show ma_wp X d w 188 91 [(0, .inr (.inr (some 94))), (1, .inl l1)] [] S _
            refine zw_sto hm_188 dX12_keepReached_91 [(1, .inl (l1 + (1 : Int32))), (0, .inr (.inr (some 94)))] rfl rfl rfl ?_
            refine zw_goto hm_188 dX12_keepReached_94 (t := 61) rfl ?_
            exact zw_sub (ma_nd_of (ks := [0, 1]) rfl (by decide)) (ma_nd_of (ks := [1, 0]) rfl (by decide)) (ma_le_cons rfl (ma_le_cons rfl (ma_le_nil _))) (h d w _ Q (by omega) (by omega) hS rfl HQ)
theorem lp_188_61 {X : Nat × (Nat → Int32)} {P : Option ma_V → (Nat → Nat → Int32) → Prop} {m0 : Nat → Nat → Int32} (h0 : zV m0) (K : ∀ m₉, zF wr_188 m0 m₉ → zV m₉ → ((m₉ 94 73).toInt = 0) → (((m₉ 94 10).toInt = 2 ∨ (m₉ 94 10).toInt = 3) → zCL (m₉ 110) (m₉ 98) (m₉ 101) (m₉ 102) (m₉ 108) (m₉ 118) (m₉ 94 73) 3100 0) → (zKU (m₉ 94 10) (m₉ 99) (m₉ 110)) → (((m₉ 94 10).toInt = 2 ∨ (m₉ 94 10).toInt = 3) → zcov (m₉ 110) (m₉ 112) 16) → (((m₉ 94 10).toInt = 2 ∨ (m₉ 94 10).toInt = 3) → zcov (m₉ 110) (m₉ 114) (m₉ 94 55).toInt) → P none m₉) : ∀ (n : Nat) (m : Nat → Nat → Int32) (l1 : Int32), (3100 - l1.toInt).toNat = n → zF wr_188 m0 m → zV m → (0 ≤ l1.toInt) → (zKS (m 110) (m 94 73)) → (zW (m 94 7) (m 98) (m 101) (m 102) (m 108)) → (((m 94 10).toInt = 2 ∨ (m 94 10).toInt = 3) → zCL (m 110) (m 98) (m 101) (m 102) (m 108) (m 118) (m 94 73) 3100 0) → (zKU (m 94 10) (m 99) (m 110)) → (zDX (m 94 10) (m 99) (m 112) (m 113) (m 114) (m 94 55) (m 98) (m 101) (m 102) (m 108)) → (((m 94 10).toInt = 2 ∨ (m 94 10).toInt = 3) → zcov (m 110) (m 112) 16) → (((m 94 10).toInt = 2 ∨ (m 94 10).toInt = 3) → zcov (m 110) (m 114) (m 94 55).toInt) → zm X 3 66 188 61 [(0, .inr (.inr (some 94))), (1, .inl l1)] m P := by
  intro n
  induction n using Nat.strongRecOn with
  | _ n IH =>
    intro m l1 hmu hF hV hi0 r_KS r_W r_CL r_KU r_DX r_COVR r_COVW
    refine g_188_61 l1 ?_
    have li1 : (3100 : Int32).toInt = 3100 := rfl
    have b2 := i_bd l1
    refine zd (fun (h3 : (3100 : Int32) ≤ l1) => ?_) (fun (h3 : ¬ (3100 : Int32) ≤ l1) => ?_)
    · skip
      have g4 := i_le h3
      refine sp_191  hV r_KS r_W r_CL r_KU r_DX (fun m1 hV_m1 p0_m1 p1_m1 p2_m1 p3_m1 => zmv_n ?_)
      have p0_m1 : (m1 94 73).toInt = 0 := p0_m1
      have p1_m1 : ((m 94 10).toInt = 2 ∨ (m 94 10).toInt = 3) → zCL (m1 110) (m 98) (m 101) (m 102) (m 108) (m1 118) (m1 94 73) 3100 0 := p1_m1
      have p2_m1 : zle (m 110) (m1 110) := p2_m1
      have p3_m1 : zKU (m 94 10) (m 99) (m1 110) := p3_m1
      have f5 : 0 ≤ (m1 94 73).toInt ∧ (m1 94 73).toInt ≤ 3100 := rs_94_73 (m := (zov wr_191 m m1)) hV_m1
      exact K _ (zF_zov hF ws_191_188) hV_m1 (show (m1 94 73).toInt = 0 from by omega) p1_m1 p3_m1 (show ((m 94 10).toInt = 2 ∨ (m 94 10).toInt = 3) → zcov (m1 110) (m 112) 16 from by first | (exact fun hp => cov_0 (by decide)) | (exact fun hp => cov_one (r_COVR hp) rfl (by omega) (by omega) (Or.inl (by omega))) | (exact fun hp => cov_one (r_COVR hp) rfl (by omega) (by omega) (Or.inr (by assumption))) | (exact fun hp => cov_cut (r_COVR hp) (by omega)) | (exact fun hp => cov_le (r_COVR hp) p2_m1 (fun k hk => (ra_112 hV_m1 (by omega)).2)) | (exact fun hp => cov_le (r_COVR hp) p2_m1 (fun k hk => (ra_114 hV_m1 (by have := rs_94_55 hV; omega)).2)) | (exfalso; omega; done) | (exfalso; contradiction; done)) (show ((m 94 10).toInt = 2 ∨ (m 94 10).toInt = 3) → zcov (m1 110) (m 114) (m 94 55).toInt from by first | (exact fun hp => cov_0 (by decide)) | (exact fun hp => cov_one (r_COVW hp) rfl (by omega) (by omega) (Or.inl (by omega))) | (exact fun hp => cov_one (r_COVW hp) rfl (by omega) (by omega) (Or.inr (by assumption))) | (exact fun hp => cov_cut (r_COVW hp) (by omega)) | (exact fun hp => cov_le (r_COVW hp) p2_m1 (fun k hk => (ra_112 hV_m1 (by omega)).2)) | (exact fun hp => cov_le (r_COVW hp) p2_m1 (fun k hk => (ra_114 hV_m1 (by have := rs_94_55 hV; omega)).2)) | (exfalso; omega; done) | (exfalso; contradiction; done))
    · skip
      have g6 := i_nle h3
      have hg7 : (0 ≤ l1 ∧ l1.toNatClampNeg < 3100) := i_ix (by omega) (by omega)
      refine ⟨hg7, ?_⟩
      first | have f8 : 0 ≤ (m 99 l1.toNatClampNeg).toInt ∧ (m 99 l1.toNatClampNeg).toInt ≤ 1 := ra_99 (m := m) hV (k := l1.toNatClampNeg) (i_ix (n := 3100) (by omega) (by omega)).2 | have b9 := i_bd (m 99 l1.toNatClampNeg)
      have li10 : (0 : Int32).toInt = 0 := rfl
      refine zd (fun (h11 : (m 99 l1.toNatClampNeg) = (0 : Int32)) => ?_) (fun (h11 : ¬ (m 99 l1.toNatClampNeg) = (0 : Int32)) => ?_)
      · skip
        have g12 := i_eq h11
        first | have e13 : (l1 + (1 : Int32)).toInt = l1.toInt + (1) := i_addk rfl (by omega) (by omega) | have b14 := i_bd (l1 + (1 : Int32))
        exact IH (3100 - (l1 + (1 : Int32)).toInt).toNat (by omega) _ ((l1 + (1 : Int32))) rfl hF hV (by omega) r_KS r_W r_CL r_KU r_DX r_COVR r_COVW
      · skip
        have g15 := i_ne h11
        have hg16 : (0 ≤ l1 ∧ l1.toNatClampNeg < 3100) := i_ix (by omega) (by omega)
        refine ⟨hg16, ?_⟩
        have b17 := i_bd (m 107 l1.toNatClampNeg)
        refine zd (fun (h18 : (m 107 l1.toNatClampNeg) ≤ (0 : Int32)) => ?_) (fun (h18 : ¬ (m 107 l1.toNatClampNeg) ≤ (0 : Int32)) => ?_)
        · skip
          have g19 := i_le h18
          first | have e20 : (l1 + (1 : Int32)).toInt = l1.toInt + (1) := i_addk rfl (by omega) (by omega) | have b21 := i_bd (l1 + (1 : Int32))
          exact IH (3100 - (l1 + (1 : Int32)).toInt).toNat (by omega) _ ((l1 + (1 : Int32))) rfl hF hV (by omega) r_KS r_W r_CL r_KU r_DX r_COVR r_COVW
        · skip
          have g22 := i_nle h18
          refine zd (fun (h23 : l1 < (0 : Int32)) => ?_) (fun (h23 : ¬ l1 < (0 : Int32)) => ?_)
          · skip
            have g24 := i_lt h23
            first | have e25 : (l1 + (1 : Int32)).toInt = l1.toInt + (1) := i_addk rfl (by omega) (by omega) | have b26 := i_bd (l1 + (1 : Int32))
            exact IH (3100 - (l1 + (1 : Int32)).toInt).toNat (by omega) _ ((l1 + (1 : Int32))) rfl hF hV (by omega) r_KS r_W r_CL r_KU r_DX r_COVR r_COVW
          · skip
            have g27 := i_nlt h23
            have hg28 : (0 ≤ l1 ∧ l1.toNatClampNeg < 3100) := i_ix (by omega) (by omega)
            refine ⟨hg28, ?_⟩
            first | have f29 : 0 ≤ (m 110 l1.toNatClampNeg).toInt ∧ (m 110 l1.toNatClampNeg).toInt ≤ 1 := ra_110 (m := m) hV (k := l1.toNatClampNeg) (i_ix (n := 3100) (by omega) (by omega)).2 | have b30 := i_bd (m 110 l1.toNatClampNeg)
            refine zd (fun (h31 : (m 110 l1.toNatClampNeg) = (0 : Int32)) => ?_) (fun (h31 : ¬ (m 110 l1.toNatClampNeg) = (0 : Int32)) => ?_)
            · skip
              have g32 := i_eq h31
              have hg33 : (0 ≤ l1 ∧ l1.toNatClampNeg < 3100) := i_ix (by omega) (by omega)
              refine ⟨hg33, ?_⟩
              have f34 : 0 ≤ (m 94 73).toInt ∧ (m 94 73).toInt ≤ 3100 := rs_94_73 (m := m) hV
              try have gk := KS_room r_KS (by assumption) (by omega)
              have hg35 : (0 ≤ (m 94 73) ∧ (m 94 73).toNatClampNeg < 3100) := i_ix (by omega) (by omega)
              refine ⟨hg35, ?_⟩
              have li37 : (1 : Int32).toInt = 1 := rfl
              have hV36 : zV (ma_u m 110 l1.toNatClampNeg (1 : Int32)) := ua_110 hV (by omega) (by omega)
              have hV38 : zV (ma_u (ma_u m 110 l1.toNatClampNeg (1 : Int32)) 118 (m 94 73).toNatClampNeg l1) := ua_118 hV36 (by omega) (by omega)
              first | have e40 : ((m 94 73) + (1 : Int32)).toInt = (m 94 73).toInt + (1) := i_addk rfl (by omega) (by omega) | have b41 := i_bd ((m 94 73) + (1 : Int32))
              have hV39 : zV (ma_u (ma_u (ma_u m 110 l1.toNatClampNeg (1 : Int32)) 118 (m 94 73).toNatClampNeg l1) 94 73 ((m 94 73) + (1 : Int32))) := us_94_73 hV38 (by omega) (by omega)
              first | have e42 : (l1 + (1 : Int32)).toInt = l1.toInt + (1) := i_addk rfl (by omega) (by omega) | have b43 := i_bd (l1 + (1 : Int32))
              exact IH (3100 - (l1 + (1 : Int32)).toInt).toNat (by omega) _ ((l1 + (1 : Int32))) rfl (zF_u (zF_u (zF_u hF rfl) rfl) rfl) hV39 (by omega) (show zKS ((ma_u m 110 l1.toNatClampNeg (1 : Int32)) 110) ((m 94 73) + (1 : Int32)) from by first | (exact KS_push r_KS (by assumption) (by omega) (by decide) (by assumption)) | (exact KS_push (KS_0 (r := m 110) (y := m 94 73) (by omega)) (by assumption) (by omega) (by decide) (by assumption)) | (exfalso; omega; done) | (exfalso; contradiction; done)) r_W (show ((m 94 10).toInt = 2 ∨ (m 94 10).toInt = 3) → zCL ((ma_u m 110 l1.toNatClampNeg (1 : Int32)) 110) (m 98) (m 101) (m 102) (m 108) ((ma_u m 118 (m 94 73).toNatClampNeg l1) 118) ((m 94 73) + (1 : Int32)) 3100 0 from by first | (exact fun hp => CL_push (r_CL hp) (by decide) (by omega) rfl (by assumption)) | (exfalso; omega; done) | (exfalso; contradiction; done)) (show zKU (m 94 10) (m 99) ((ma_u m 110 l1.toNatClampNeg (1 : Int32)) 110) from by first | (exact KU_push r_KU (fun _ => by assumption)) | (exfalso; omega; done) | (exfalso; contradiction; done)) r_DX (show ((m 94 10).toInt = 2 ∨ (m 94 10).toInt = 3) → zcov ((ma_u m 110 l1.toNatClampNeg (1 : Int32)) 110) (m 112) 16 from by first | (exact fun hp => cov_one (cov_push (r_COVR hp) (by decide)) rfl (by omega) (by omega) (Or.inr (by rw [mu_self]; decide))) | (exact fun hp => cov_push (r_COVR hp) (by decide)) | (exfalso; omega; done) | (exfalso; contradiction; done)) (show ((m 94 10).toInt = 2 ∨ (m 94 10).toInt = 3) → zcov ((ma_u m 110 l1.toNatClampNeg (1 : Int32)) 110) (m 114) (m 94 55).toInt from by first | (exact fun hp => cov_one (cov_push (r_COVW hp) (by decide)) rfl (by omega) (by omega) (Or.inr (by rw [mu_self]; decide))) | (exact fun hp => cov_push (r_COVW hp) (by decide)) | (exfalso; omega; done) | (exfalso; contradiction; done))
            · skip
              have g44 := i_ne h31
              first | have e45 : (l1 + (1 : Int32)).toInt = l1.toInt + (1) := i_addk rfl (by omega) (by omega) | have b46 := i_bd (l1 + (1 : Int32))
              exact IH (3100 - (l1 + (1 : Int32)).toInt).toNat (by omega) _ ((l1 + (1 : Int32))) rfl hF hV (by omega) r_KS r_W r_CL r_KU r_DX r_COVR r_COVW
theorem lp_188_35 {X : Nat × (Nat → Int32)} {P : Option ma_V → (Nat → Nat → Int32) → Prop} {m0 : Nat → Nat → Int32} (h0 : zV m0) (K : ∀ m₉, zF wr_188 m0 m₉ → zV m₉ → ((m₉ 94 73).toInt = 0) → (((m₉ 94 10).toInt = 2 ∨ (m₉ 94 10).toInt = 3) → zCL (m₉ 110) (m₉ 98) (m₉ 101) (m₉ 102) (m₉ 108) (m₉ 118) (m₉ 94 73) 3100 0) → (zKU (m₉ 94 10) (m₉ 99) (m₉ 110)) → (((m₉ 94 10).toInt = 2 ∨ (m₉ 94 10).toInt = 3) → zcov (m₉ 110) (m₉ 112) 16) → (((m₉ 94 10).toInt = 2 ∨ (m₉ 94 10).toInt = 3) → zcov (m₉ 110) (m₉ 114) (m₉ 94 55).toInt) → P none m₉) : ∀ (n : Nat) (m : Nat → Nat → Int32) (l1 : Int32), (3100 - l1.toInt).toNat = n → zF wr_188 m0 m → zV m → (0 ≤ l1.toInt) → (zKS (m 110) (m 94 73)) → (zW (m 94 7) (m 98) (m 101) (m 102) (m 108)) → (((m 94 10).toInt = 2 ∨ (m 94 10).toInt = 3) → zCL (m 110) (m 98) (m 101) (m 102) (m 108) (m 118) (m 94 73) 3100 0) → (zKU (m 94 10) (m 99) (m 110)) → (zDX (m 94 10) (m 99) (m 112) (m 113) (m 114) (m 94 55) (m 98) (m 101) (m 102) (m 108)) → (((m 94 10).toInt = 2 ∨ (m 94 10).toInt = 3) → zcov (m 110) (m 112) 16) → (((m 94 10).toInt = 2 ∨ (m 94 10).toInt = 3) → zcov (m 110) (m 114) l1.toInt) → zm X 3 66 188 35 [(0, .inr (.inr (some 94))), (1, .inl l1)] m P := by
  intro n
  induction n using Nat.strongRecOn with
  | _ n IH =>
    intro m l1 hmu hF hV hi0 r_KS r_W r_CL r_KU r_DX r_COVR r_COVW
    refine g_188_35 l1 ?_
    have f1 : 0 ≤ (m 94 55).toInt ∧ (m 94 55).toInt ≤ 3100 := rs_94_55 (m := m) hV
    have b2 := i_bd l1
    refine zd (fun (h3 : (m 94 55) ≤ l1) => ?_) (fun (h3 : ¬ (m 94 55) ≤ l1) => ?_)
    · skip
      have g4 := i_le h3
      have li5 : (0 : Int32).toInt = 0 := rfl
      exact lp_188_61 h0 K _ _ ((0 : Int32)) rfl hF hV (by omega) r_KS r_W r_CL r_KU r_DX r_COVR (show ((m 94 10).toInt = 2 ∨ (m 94 10).toInt = 3) → zcov (m 110) (m 114) (m 94 55).toInt from by first | (exact fun hp => cov_0 (by decide)) | (exact fun hp => cov_one (r_COVW hp) rfl (by omega) (by omega) (Or.inl (by omega))) | (exact fun hp => cov_one (r_COVW hp) rfl (by omega) (by omega) (Or.inr (by assumption))) | (exact fun hp => cov_cut (r_COVW hp) (by omega)) | (exfalso; omega; done) | (exfalso; contradiction; done))
    · skip
      have g6 := i_nle h3
      have hg7 : (0 ≤ l1 ∧ l1.toNatClampNeg < 3100) := i_ix (by omega) (by omega)
      refine ⟨hg7, ?_⟩
      first | have f8 : 0 ≤ (m 114 l1.toNatClampNeg).toInt ∧ (m 114 l1.toNatClampNeg).toInt ≤ 3099 := ra_114 (m := m) hV (k := l1.toNatClampNeg) (i_ix (n := 3100) (by omega) (by omega)).2 | have b9 := i_bd (m 114 l1.toNatClampNeg)
      have li10 : (0 : Int32).toInt = 0 := rfl
      refine zd (fun (h11 : (m 114 l1.toNatClampNeg) < (0 : Int32)) => ?_) (fun (h11 : ¬ (m 114 l1.toNatClampNeg) < (0 : Int32)) => ?_)
      · skip
        have g12 := i_lt h11
        first | have e13 : (l1 + (1 : Int32)).toInt = l1.toInt + (1) := i_addk rfl (by omega) (by omega) | have b14 := i_bd (l1 + (1 : Int32))
        exact IH (3100 - (l1 + (1 : Int32)).toInt).toNat (by omega) _ ((l1 + (1 : Int32))) rfl hF hV (by omega) r_KS r_W r_CL r_KU r_DX r_COVR (show ((m 94 10).toInt = 2 ∨ (m 94 10).toInt = 3) → zcov (m 110) (m 114) (l1 + (1 : Int32)).toInt from by first | (exact fun hp => cov_0 (by decide)) | (exact fun hp => cov_one (r_COVW hp) rfl (by omega) (by omega) (Or.inl (by omega))) | (exact fun hp => cov_one (r_COVW hp) rfl (by omega) (by omega) (Or.inr (by assumption))) | (exact fun hp => cov_cut (r_COVW hp) (by omega)) | (exfalso; omega; done) | (exfalso; contradiction; done))
      · skip
        have g15 := i_nlt h11
        have hg16 : (0 ≤ (m 114 l1.toNatClampNeg) ∧ (m 114 l1.toNatClampNeg).toNatClampNeg < 3100) := i_ix (by omega) (by omega)
        refine ⟨hg16, ?_⟩
        first | have f17 : 0 ≤ (m 110 (m 114 l1.toNatClampNeg).toNatClampNeg).toInt ∧ (m 110 (m 114 l1.toNatClampNeg).toNatClampNeg).toInt ≤ 1 := ra_110 (m := m) hV (k := (m 114 l1.toNatClampNeg).toNatClampNeg) (i_ix (n := 3100) (by omega) (by omega)).2 | have b18 := i_bd (m 110 (m 114 l1.toNatClampNeg).toNatClampNeg)
        refine zd (fun (h19 : (m 110 (m 114 l1.toNatClampNeg).toNatClampNeg) = (0 : Int32)) => ?_) (fun (h19 : ¬ (m 110 (m 114 l1.toNatClampNeg).toNatClampNeg) = (0 : Int32)) => ?_)
        · skip
          have g20 := i_eq h19
          have hg21 : (0 ≤ (m 114 l1.toNatClampNeg) ∧ (m 114 l1.toNatClampNeg).toNatClampNeg < 3100) := i_ix (by omega) (by omega)
          refine ⟨hg21, ?_⟩
          have f22 : 0 ≤ (m 94 73).toInt ∧ (m 94 73).toInt ≤ 3100 := rs_94_73 (m := m) hV
          try have gk := KS_room r_KS (by assumption) (by omega)
          have hg23 : (0 ≤ (m 94 73) ∧ (m 94 73).toNatClampNeg < 3100) := i_ix (by omega) (by omega)
          refine ⟨hg23, ?_⟩
          have li25 : (1 : Int32).toInt = 1 := rfl
          have hV24 : zV (ma_u m 110 (m 114 l1.toNatClampNeg).toNatClampNeg (1 : Int32)) := ua_110 hV (by omega) (by omega)
          have hV26 : zV (ma_u (ma_u m 110 (m 114 l1.toNatClampNeg).toNatClampNeg (1 : Int32)) 118 (m 94 73).toNatClampNeg (m 114 l1.toNatClampNeg)) := ua_118 hV24 (by omega) (by omega)
          first | have e28 : ((m 94 73) + (1 : Int32)).toInt = (m 94 73).toInt + (1) := i_addk rfl (by omega) (by omega) | have b29 := i_bd ((m 94 73) + (1 : Int32))
          have hV27 : zV (ma_u (ma_u (ma_u m 110 (m 114 l1.toNatClampNeg).toNatClampNeg (1 : Int32)) 118 (m 94 73).toNatClampNeg (m 114 l1.toNatClampNeg)) 94 73 ((m 94 73) + (1 : Int32))) := us_94_73 hV26 (by omega) (by omega)
          first | have e30 : (l1 + (1 : Int32)).toInt = l1.toInt + (1) := i_addk rfl (by omega) (by omega) | have b31 := i_bd (l1 + (1 : Int32))
          exact IH (3100 - (l1 + (1 : Int32)).toInt).toNat (by omega) _ ((l1 + (1 : Int32))) rfl (zF_u (zF_u (zF_u hF rfl) rfl) rfl) hV27 (by omega) (show zKS ((ma_u m 110 (m 114 l1.toNatClampNeg).toNatClampNeg (1 : Int32)) 110) ((m 94 73) + (1 : Int32)) from by first | (exact KS_push r_KS (by assumption) (by omega) (by decide) (by assumption)) | (exact KS_push (KS_0 (r := m 110) (y := m 94 73) (by omega)) (by assumption) (by omega) (by decide) (by assumption)) | (exfalso; omega; done) | (exfalso; contradiction; done)) r_W (show ((m 94 10).toInt = 2 ∨ (m 94 10).toInt = 3) → zCL ((ma_u m 110 (m 114 l1.toNatClampNeg).toNatClampNeg (1 : Int32)) 110) (m 98) (m 101) (m 102) (m 108) ((ma_u m 118 (m 94 73).toNatClampNeg (m 114 l1.toNatClampNeg)) 118) ((m 94 73) + (1 : Int32)) 3100 0 from by first | (exact fun hp => CL_push (r_CL hp) (by decide) (by omega) rfl (by assumption)) | (exfalso; omega; done) | (exfalso; contradiction; done)) (show zKU (m 94 10) (m 99) ((ma_u m 110 (m 114 l1.toNatClampNeg).toNatClampNeg (1 : Int32)) 110) from by first | (exact KU_push r_KU (fun hp => KU_root (r_DX hp).2.2.1 (j := l1) (by omega) (by omega) rfl (by omega))) | (exfalso; omega; done) | (exfalso; contradiction; done)) r_DX (show ((m 94 10).toInt = 2 ∨ (m 94 10).toInt = 3) → zcov ((ma_u m 110 (m 114 l1.toNatClampNeg).toNatClampNeg (1 : Int32)) 110) (m 112) 16 from by first | (exact fun hp => cov_one (cov_push (r_COVR hp) (by decide)) rfl (by omega) (by omega) (Or.inr (by rw [mu_self]; decide))) | (exact fun hp => cov_push (r_COVR hp) (by decide)) | (exfalso; omega; done) | (exfalso; contradiction; done)) (show ((m 94 10).toInt = 2 ∨ (m 94 10).toInt = 3) → zcov ((ma_u m 110 (m 114 l1.toNatClampNeg).toNatClampNeg (1 : Int32)) 110) (m 114) (l1 + (1 : Int32)).toInt from by first | (exact fun hp => cov_one (cov_push (r_COVW hp) (by decide)) rfl (by omega) (by omega) (Or.inr (by rw [mu_self]; decide))) | (exact fun hp => cov_push (r_COVW hp) (by decide)) | (exfalso; omega; done) | (exfalso; contradiction; done))
        · skip
          have g32 := i_ne h19
          first | have e33 : (l1 + (1 : Int32)).toInt = l1.toInt + (1) := i_addk rfl (by omega) (by omega) | have b34 := i_bd (l1 + (1 : Int32))
          exact IH (3100 - (l1 + (1 : Int32)).toInt).toNat (by omega) _ ((l1 + (1 : Int32))) rfl hF hV (by omega) r_KS r_W r_CL r_KU r_DX r_COVR (show ((m 94 10).toInt = 2 ∨ (m 94 10).toInt = 3) → zcov (m 110) (m 114) (l1 + (1 : Int32)).toInt from by first | (exact fun hp => cov_0 (by decide)) | (exact fun hp => cov_one (r_COVW hp) rfl (by omega) (by omega) (Or.inl (by omega))) | (exact fun hp => cov_one (r_COVW hp) rfl (by omega) (by omega) (Or.inr (by assumption))) | (exact fun hp => cov_cut (r_COVW hp) (by omega)) | (exfalso; omega; done) | (exfalso; contradiction; done))
theorem lp_188_11 {X : Nat × (Nat → Int32)} {P : Option ma_V → (Nat → Nat → Int32) → Prop} {m0 : Nat → Nat → Int32} (h0 : zV m0) (K : ∀ m₉, zF wr_188 m0 m₉ → zV m₉ → ((m₉ 94 73).toInt = 0) → (((m₉ 94 10).toInt = 2 ∨ (m₉ 94 10).toInt = 3) → zCL (m₉ 110) (m₉ 98) (m₉ 101) (m₉ 102) (m₉ 108) (m₉ 118) (m₉ 94 73) 3100 0) → (zKU (m₉ 94 10) (m₉ 99) (m₉ 110)) → (((m₉ 94 10).toInt = 2 ∨ (m₉ 94 10).toInt = 3) → zcov (m₉ 110) (m₉ 112) 16) → (((m₉ 94 10).toInt = 2 ∨ (m₉ 94 10).toInt = 3) → zcov (m₉ 110) (m₉ 114) (m₉ 94 55).toInt) → P none m₉) : ∀ (n : Nat) (m : Nat → Nat → Int32) (l1 : Int32), (16 - l1.toInt).toNat = n → zF wr_188 m0 m → zV m → (0 ≤ l1.toInt) → (zKS (m 110) (m 94 73)) → (zW (m 94 7) (m 98) (m 101) (m 102) (m 108)) → (((m 94 10).toInt = 2 ∨ (m 94 10).toInt = 3) → zCL (m 110) (m 98) (m 101) (m 102) (m 108) (m 118) (m 94 73) 3100 0) → (zKU (m 94 10) (m 99) (m 110)) → (zDX (m 94 10) (m 99) (m 112) (m 113) (m 114) (m 94 55) (m 98) (m 101) (m 102) (m 108)) → (((m 94 10).toInt = 2 ∨ (m 94 10).toInt = 3) → zcov (m 110) (m 112) l1.toInt) → zm X 3 66 188 11 [(0, .inr (.inr (some 94))), (1, .inl l1)] m P := by
  intro n
  induction n using Nat.strongRecOn with
  | _ n IH =>
    intro m l1 hmu hF hV hi0 r_KS r_W r_CL r_KU r_DX r_COVR
    refine g_188_11 l1 ?_
    have li1 : (16 : Int32).toInt = 16 := rfl
    have b2 := i_bd l1
    refine zd (fun (h3 : (16 : Int32) ≤ l1) => ?_) (fun (h3 : ¬ (16 : Int32) ≤ l1) => ?_)
    · skip
      have g4 := i_le h3
      have li5 : (0 : Int32).toInt = 0 := rfl
      exact lp_188_35 h0 K _ _ ((0 : Int32)) rfl hF hV (by omega) r_KS r_W r_CL r_KU r_DX (show ((m 94 10).toInt = 2 ∨ (m 94 10).toInt = 3) → zcov (m 110) (m 112) 16 from by first | (exact fun hp => cov_0 (by decide)) | (exact fun hp => cov_one (r_COVR hp) rfl (by omega) (by omega) (Or.inl (by omega))) | (exact fun hp => cov_one (r_COVR hp) rfl (by omega) (by omega) (Or.inr (by assumption))) | (exact fun hp => cov_cut (r_COVR hp) (by omega)) | (exfalso; omega; done) | (exfalso; contradiction; done)) (show ((m 94 10).toInt = 2 ∨ (m 94 10).toInt = 3) → zcov (m 110) (m 114) (0 : Int32).toInt from by first | (exact fun hp => cov_0 (by decide)) | (exfalso; omega; done) | (exfalso; contradiction; done))
    · skip
      have g6 := i_nle h3
      have hg7 : (0 ≤ l1 ∧ l1.toNatClampNeg < 16) := i_ix (by omega) (by omega)
      refine ⟨hg7, ?_⟩
      first | have f8 : -1 ≤ (m 112 l1.toNatClampNeg).toInt ∧ (m 112 l1.toNatClampNeg).toInt ≤ 3099 := ra_112 (m := m) hV (k := l1.toNatClampNeg) (i_ix (n := 16) (by omega) (by omega)).2 | have b9 := i_bd (m 112 l1.toNatClampNeg)
      have li10 : (0 : Int32).toInt = 0 := rfl
      refine zd (fun (h11 : (m 112 l1.toNatClampNeg) < (0 : Int32)) => ?_) (fun (h11 : ¬ (m 112 l1.toNatClampNeg) < (0 : Int32)) => ?_)
      · skip
        have g12 := i_lt h11
        first | have e13 : (l1 + (1 : Int32)).toInt = l1.toInt + (1) := i_addk rfl (by omega) (by omega) | have b14 := i_bd (l1 + (1 : Int32))
        exact IH (16 - (l1 + (1 : Int32)).toInt).toNat (by omega) _ ((l1 + (1 : Int32))) rfl hF hV (by omega) r_KS r_W r_CL r_KU r_DX (show ((m 94 10).toInt = 2 ∨ (m 94 10).toInt = 3) → zcov (m 110) (m 112) (l1 + (1 : Int32)).toInt from by first | (exact fun hp => cov_0 (by decide)) | (exact fun hp => cov_one (r_COVR hp) rfl (by omega) (by omega) (Or.inl (by omega))) | (exact fun hp => cov_one (r_COVR hp) rfl (by omega) (by omega) (Or.inr (by assumption))) | (exact fun hp => cov_cut (r_COVR hp) (by omega)) | (exfalso; omega; done) | (exfalso; contradiction; done))
      · skip
        have g15 := i_nlt h11
        have hg16 : (0 ≤ (m 112 l1.toNatClampNeg) ∧ (m 112 l1.toNatClampNeg).toNatClampNeg < 3100) := i_ix (by omega) (by omega)
        refine ⟨hg16, ?_⟩
        first | have f17 : 0 ≤ (m 110 (m 112 l1.toNatClampNeg).toNatClampNeg).toInt ∧ (m 110 (m 112 l1.toNatClampNeg).toNatClampNeg).toInt ≤ 1 := ra_110 (m := m) hV (k := (m 112 l1.toNatClampNeg).toNatClampNeg) (i_ix (n := 3100) (by omega) (by omega)).2 | have b18 := i_bd (m 110 (m 112 l1.toNatClampNeg).toNatClampNeg)
        refine zd (fun (h19 : (m 110 (m 112 l1.toNatClampNeg).toNatClampNeg) = (0 : Int32)) => ?_) (fun (h19 : ¬ (m 110 (m 112 l1.toNatClampNeg).toNatClampNeg) = (0 : Int32)) => ?_)
        · skip
          have g20 := i_eq h19
          have hg21 : (0 ≤ (m 112 l1.toNatClampNeg) ∧ (m 112 l1.toNatClampNeg).toNatClampNeg < 3100) := i_ix (by omega) (by omega)
          refine ⟨hg21, ?_⟩
          have f22 : 0 ≤ (m 94 73).toInt ∧ (m 94 73).toInt ≤ 3100 := rs_94_73 (m := m) hV
          try have gk := KS_room r_KS (by assumption) (by omega)
          have hg23 : (0 ≤ (m 94 73) ∧ (m 94 73).toNatClampNeg < 3100) := i_ix (by omega) (by omega)
          refine ⟨hg23, ?_⟩
          have li25 : (1 : Int32).toInt = 1 := rfl
          have hV24 : zV (ma_u m 110 (m 112 l1.toNatClampNeg).toNatClampNeg (1 : Int32)) := ua_110 hV (by omega) (by omega)
          have hV26 : zV (ma_u (ma_u m 110 (m 112 l1.toNatClampNeg).toNatClampNeg (1 : Int32)) 118 (m 94 73).toNatClampNeg (m 112 l1.toNatClampNeg)) := ua_118 hV24 (by omega) (by omega)
          first | have e28 : ((m 94 73) + (1 : Int32)).toInt = (m 94 73).toInt + (1) := i_addk rfl (by omega) (by omega) | have b29 := i_bd ((m 94 73) + (1 : Int32))
          have hV27 : zV (ma_u (ma_u (ma_u m 110 (m 112 l1.toNatClampNeg).toNatClampNeg (1 : Int32)) 118 (m 94 73).toNatClampNeg (m 112 l1.toNatClampNeg)) 94 73 ((m 94 73) + (1 : Int32))) := us_94_73 hV26 (by omega) (by omega)
          first | have e30 : (l1 + (1 : Int32)).toInt = l1.toInt + (1) := i_addk rfl (by omega) (by omega) | have b31 := i_bd (l1 + (1 : Int32))
          exact IH (16 - (l1 + (1 : Int32)).toInt).toNat (by omega) _ ((l1 + (1 : Int32))) rfl (zF_u (zF_u (zF_u hF rfl) rfl) rfl) hV27 (by omega) (show zKS ((ma_u m 110 (m 112 l1.toNatClampNeg).toNatClampNeg (1 : Int32)) 110) ((m 94 73) + (1 : Int32)) from by first | (exact KS_push r_KS (by assumption) (by omega) (by decide) (by assumption)) | (exact KS_push (KS_0 (r := m 110) (y := m 94 73) (by omega)) (by assumption) (by omega) (by decide) (by assumption)) | (exfalso; omega; done) | (exfalso; contradiction; done)) r_W (show ((m 94 10).toInt = 2 ∨ (m 94 10).toInt = 3) → zCL ((ma_u m 110 (m 112 l1.toNatClampNeg).toNatClampNeg (1 : Int32)) 110) (m 98) (m 101) (m 102) (m 108) ((ma_u m 118 (m 94 73).toNatClampNeg (m 112 l1.toNatClampNeg)) 118) ((m 94 73) + (1 : Int32)) 3100 0 from by first | (exact fun hp => CL_push (r_CL hp) (by decide) (by omega) rfl (by assumption)) | (exfalso; omega; done) | (exfalso; contradiction; done)) (show zKU (m 94 10) (m 99) ((ma_u m 110 (m 112 l1.toNatClampNeg).toNatClampNeg (1 : Int32)) 110) from by first | (exact KU_push r_KU (fun hp => KU_root (r_DX hp).1 (j := l1) (by omega) (by omega) rfl (by omega))) | (exfalso; omega; done) | (exfalso; contradiction; done)) r_DX (show ((m 94 10).toInt = 2 ∨ (m 94 10).toInt = 3) → zcov ((ma_u m 110 (m 112 l1.toNatClampNeg).toNatClampNeg (1 : Int32)) 110) (m 112) (l1 + (1 : Int32)).toInt from by first | (exact fun hp => cov_one (cov_push (r_COVR hp) (by decide)) rfl (by omega) (by omega) (Or.inr (by rw [mu_self]; decide))) | (exact fun hp => cov_push (r_COVR hp) (by decide)) | (exfalso; omega; done) | (exfalso; contradiction; done))
        · skip
          have g32 := i_ne h19
          first | have e33 : (l1 + (1 : Int32)).toInt = l1.toInt + (1) := i_addk rfl (by omega) (by omega) | have b34 := i_bd (l1 + (1 : Int32))
          exact IH (16 - (l1 + (1 : Int32)).toInt).toNat (by omega) _ ((l1 + (1 : Int32))) rfl hF hV (by omega) r_KS r_W r_CL r_KU r_DX (show ((m 94 10).toInt = 2 ∨ (m 94 10).toInt = 3) → zcov (m 110) (m 112) (l1 + (1 : Int32)).toInt from by first | (exact fun hp => cov_0 (by decide)) | (exact fun hp => cov_one (r_COVR hp) rfl (by omega) (by omega) (Or.inl (by omega))) | (exact fun hp => cov_one (r_COVR hp) rfl (by omega) (by omega) (Or.inr (by assumption))) | (exact fun hp => cov_cut (r_COVR hp) (by omega)) | (exfalso; omega; done) | (exfalso; contradiction; done))
theorem sp_188 {X : Nat × (Nat → Int32)} {P : Option ma_V → (Nat → Nat → Int32) → Prop} {m : Nat → Nat → Int32}  (hV : zV m) (r_W : zW (m 94 7) (m 98) (m 101) (m 102) (m 108)) (r_DX : zDX (m 94 10) (m 99) (m 112) (m 113) (m 114) (m 94 55) (m 98) (m 101) (m 102) (m 108)) (KZ : ∀ m₉, zV (zov wr_188 m m₉) → ((m₉ 94 73).toInt = 0) → (((m 94 10).toInt = 2 ∨ (m 94 10).toInt = 3) → zCL (m₉ 110) (m 98) (m 101) (m 102) (m 108) (m₉ 118) (m₉ 94 73) 3100 0) → (zKU (m 94 10) (m 99) (m₉ 110)) → (((m 94 10).toInt = 2 ∨ (m 94 10).toInt = 3) → zcov (m₉ 110) (m 112) 16) → (((m 94 10).toInt = 2 ∨ (m 94 10).toInt = 3) → zcov (m₉ 110) (m 114) (m 94 55).toInt) → P none (zov wr_188 m m₉)) : zm X 3 66 188 0 [(0, .inr (.inr (some 94)))] m P := by
  have K : ∀ m₉, zF wr_188 m m₉ → zV m₉ → ((m₉ 94 73).toInt = 0) → (((m₉ 94 10).toInt = 2 ∨ (m₉ 94 10).toInt = 3) → zCL (m₉ 110) (m₉ 98) (m₉ 101) (m₉ 102) (m₉ 108) (m₉ 118) (m₉ 94 73) 3100 0) → (zKU (m₉ 94 10) (m₉ 99) (m₉ 110)) → (((m₉ 94 10).toInt = 2 ∨ (m₉ 94 10).toInt = 3) → zcov (m₉ 110) (m₉ 112) 16) → (((m₉ 94 10).toInt = 2 ∨ (m₉ 94 10).toInt = 3) → zcov (m₉ 110) (m₉ 114) (m₉ 94 55).toInt) → P none m₉ := by
    intro m₉ hf z q0 q1 q2 q3 q4
    have e := zov_eq hf
    rw [e] at z ⊢
    try rw [e] at q0
    try rw [e] at q1
    try rw [e] at q2
    try rw [e] at q3
    try rw [e] at q4
    exact KZ m₉ z q0 q1 q2 q3 q4
  refine g_188_0  ?_
  refine sp_189  hV  (fun m1 hV_m1 p0_m1 => zmv_n ?_)
  have p0_m1 : ∀ s : Nat, s < 3100 → (m1 110) s = 0 := p0_m1
  have li2 : (0 : Int32).toInt = 0 := rfl
  have hV1 : zV (ma_u (zov wr_189 m m1) 94 73 (0 : Int32)) := us_94_73 hV_m1 (by omega) (by omega)
  exact lp_188_11 hV K _ _ ((0 : Int32)) rfl (zF_u (zF_zov zF_rfl ws_189_188) rfl) hV1 (by omega) (show zKS (m1 110) (0 : Int32) from by first | (exact KS_0 (by omega)) | (exfalso; omega; done) | (exfalso; contradiction; done)) r_W (show ((m 94 10).toInt = 2 ∨ (m 94 10).toInt = 3) → zCL (m1 110) (m 98) (m 101) (m 102) (m 108) (m 118) (0 : Int32) 3100 0 from by first | (exact fun _ => CL_none p0_m1 (by decide)) | (exfalso; omega; done) | (exfalso; contradiction; done)) (show zKU (m 94 10) (m 99) (m1 110) from by first | (exact KU_none p0_m1) | (exfalso; omega; done) | (exfalso; contradiction; done)) r_DX (show ((m 94 10).toInt = 2 ∨ (m 94 10).toInt = 3) → zcov (m1 110) (m 112) (0 : Int32).toInt from by first | (exact fun hp => cov_0 (by decide)) | (exfalso; omega; done) | (exfalso; contradiction; done))

