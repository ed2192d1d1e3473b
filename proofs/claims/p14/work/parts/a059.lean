/-! from 94.483 -/
/-! the reference (written by wip/tools/gen94m.py) -/
set_option maxRecDepth 100000 in
theorem hm_207 : ma_md 207 = some (12, yX12_come, cX12_come, 2, none) := rfl
theorem s_119 : zs 119 = some (20, 3100) := rfl
theorem r_94_74 : zfi 94 74 = some 119 := rfl
theorem f_12_89_12 : ma_fld 12 89 12 = some 74 := by decide +kernel
theorem f_12_356_12 : ma_fld 12 356 12 = some 75 := by decide +kernel
theorem f_12_359_12 : ma_fld 12 359 12 = some 77 := by decide +kernel
theorem p_12_356_12 : ma_pk 12 356 12 75 = true := by decide +kernel
theorem p_12_359_12 : ma_pk 12 359 12 77 = true := by decide +kernel
theorem dX12_come_0 : decode cX12_come 0 = .ok (.iload_n 1, 1) := by decide +kernel
theorem dX12_come_13 : decode cX12_come 13 = .ok (.return_, 1) := by decide +kernel
theorem dX12_come_4 : decode cX12_come 4 = .ok (.aload_n 0, 1) := by decide +kernel
theorem dX12_come_8 : decode cX12_come 8 = .ok (.iload_n 1, 1) := by decide +kernel
theorem dX12_come_14 : decode cX12_come 14 = .ok (.aload_n 0, 1) := by decide +kernel
theorem dX12_come_18 : decode cX12_come 18 = .ok (.iload_n 1, 1) := by decide +kernel
theorem dX12_come_19 : decode cX12_come 19 = .ok (.iconst 1, 1) := by decide +kernel
theorem dX12_come_21 : decode cX12_come 21 = .ok (.aload_n 0, 1) := by decide +kernel
theorem dX12_come_25 : decode cX12_come 25 = .ok (.aload_n 0, 1) := by decide +kernel
theorem dX12_come_29 : decode cX12_come 29 = .ok (.iload_n 1, 1) := by decide +kernel
theorem dX12_come_31 : decode cX12_come 31 = .ok (.aload_n 0, 1) := by decide +kernel
theorem dX12_come_32 : decode cX12_come 32 = .ok (.dup, 1) := by decide +kernel
theorem dX12_come_36 : decode cX12_come 36 = .ok (.iconst 1, 1) := by decide +kernel
theorem dX12_come_37 : decode cX12_come 37 = .ok (.iadd, 1) := by decide +kernel
theorem dX12_come_41 : decode cX12_come 41 = .ok (.aload_n 0, 1) := by decide +kernel
theorem dX12_come_45 : decode cX12_come 45 = .ok (.iconst 3, 1) := by decide +kernel
theorem dX12_come_96 : decode cX12_come 96 = .ok (.aload_n 0, 1) := by decide +kernel
theorem dX12_come_97 : decode cX12_come 97 = .ok (.iload_n 1, 1) := by decide +kernel
theorem dX12_come_98 : decode cX12_come 98 = .ok (.aload_n 0, 1) := by decide +kernel
theorem dX12_come_102 : decode cX12_come 102 = .ok (.invokevirtual 352, 3) := by decide +kernel
theorem dX12_come_105 : decode cX12_come 105 = .ok (.aload_n 0, 1) := by decide +kernel
theorem dX12_come_106 : decode cX12_come 106 = .ok (.dup, 1) := by decide +kernel
theorem dX12_come_110 : decode cX12_come 110 = .ok (.aload_n 0, 1) := by decide +kernel
theorem dX12_come_111 : decode cX12_come 111 = .ok (.iload_n 1, 1) := by decide +kernel
theorem dX12_come_112 : decode cX12_come 112 = .ok (.invokevirtual 327, 3) := by decide +kernel
theorem dX12_come_115 : decode cX12_come 115 = .ok (.iadd, 1) := by decide +kernel
theorem dX12_come_119 : decode cX12_come 119 = .ok (.return_, 1) := by decide +kernel
theorem dX12_come_116 : decode cX12_come 116 = .ok (.putfield 359, 3) := by decide +kernel
theorem dX12_come_107 : decode cX12_come 107 = .ok (.getfield 359, 3) := by decide +kernel
theorem dX12_come_99 : decode cX12_come 99 = .ok (.getfield 359, 3) := by decide +kernel
theorem dX12_come_49 : decode cX12_come 49 = .ok (.aload_n 0, 1) := by decide +kernel
theorem dX12_come_53 : decode cX12_come 53 = .ok (.iload_n 1, 1) := by decide +kernel
theorem dX12_come_54 : decode cX12_come 54 = .ok (.dup2, 1) := by decide +kernel
theorem dX12_come_56 : decode cX12_come 56 = .ok (.iconst 1, 1) := by decide +kernel
theorem dX12_come_57 : decode cX12_come 57 = .ok (.iadd, 1) := by decide +kernel
theorem dX12_come_59 : decode cX12_come 59 = .ok (.aload_n 0, 1) := by decide +kernel
theorem dX12_come_63 : decode cX12_come 63 = .ok (.iload_n 1, 1) := by decide +kernel
theorem dX12_come_65 : decode cX12_come 65 = .ok (.aload_n 0, 1) := by decide +kernel
theorem dX12_come_72 : decode cX12_come 72 = .ok (.aload_n 0, 1) := by decide +kernel
theorem dX12_come_73 : decode cX12_come 73 = .ok (.iload_n 1, 1) := by decide +kernel
theorem dX12_come_74 : decode cX12_come 74 = .ok (.aload_n 0, 1) := by decide +kernel
theorem dX12_come_78 : decode cX12_come 78 = .ok (.invokevirtual 352, 3) := by decide +kernel
theorem dX12_come_81 : decode cX12_come 81 = .ok (.aload_n 0, 1) := by decide +kernel
theorem dX12_come_82 : decode cX12_come 82 = .ok (.dup, 1) := by decide +kernel
theorem dX12_come_86 : decode cX12_come 86 = .ok (.aload_n 0, 1) := by decide +kernel
theorem dX12_come_87 : decode cX12_come 87 = .ok (.iload_n 1, 1) := by decide +kernel
theorem dX12_come_88 : decode cX12_come 88 = .ok (.invokevirtual 327, 3) := by decide +kernel
theorem dX12_come_91 : decode cX12_come 91 = .ok (.iadd, 1) := by decide +kernel
theorem dX12_come_95 : decode cX12_come 95 = .ok (.return_, 1) := by decide +kernel
theorem dX12_come_92 : decode cX12_come 92 = .ok (.putfield 279, 3) := by decide +kernel
theorem dX12_come_83 : decode cX12_come 83 = .ok (.getfield 279, 3) := by decide +kernel
theorem dX12_come_75 : decode cX12_come 75 = .ok (.getfield 279, 3) := by decide +kernel
theorem dX12_come_69 : decode cX12_come 69 = .ok (.if_icmp .ne 27, 3) := by decide +kernel
theorem dX12_come_66 : decode cX12_come 66 = .ok (.getfield 213, 3) := by decide +kernel
theorem dX12_come_64 : decode cX12_come 64 = .ok (.iaload, 1) := by decide +kernel
theorem dX12_come_60 : decode cX12_come 60 = .ok (.getfield 43, 3) := by decide +kernel
theorem dX12_come_58 : decode cX12_come 58 = .ok (.iastore, 1) := by decide +kernel
theorem dX12_come_55 : decode cX12_come 55 = .ok (.iaload, 1) := by decide +kernel
theorem dX12_come_50 : decode cX12_come 50 = .ok (.getfield 43, 3) := by decide +kernel
theorem dX12_come_46 : decode cX12_come 46 = .ok (.if_icmp .ne 50, 3) := by decide +kernel
theorem dX12_come_42 : decode cX12_come 42 = .ok (.getfield 199, 3) := by decide +kernel
theorem dX12_come_38 : decode cX12_come 38 = .ok (.putfield 356, 3) := by decide +kernel
theorem dX12_come_33 : decode cX12_come 33 = .ok (.getfield 356, 3) := by decide +kernel
theorem dX12_come_30 : decode cX12_come 30 = .ok (.iastore, 1) := by decide +kernel
theorem dX12_come_26 : decode cX12_come 26 = .ok (.getfield 356, 3) := by decide +kernel
theorem dX12_come_22 : decode cX12_come 22 = .ok (.getfield 89, 3) := by decide +kernel
theorem dX12_come_20 : decode cX12_come 20 = .ok (.bastore, 1) := by decide +kernel
theorem dX12_come_15 : decode cX12_come 15 = .ok (.getfield 62, 3) := by decide +kernel
theorem dX12_come_10 : decode cX12_come 10 = .ok (.ifCond .eq 4, 3) := by decide +kernel
theorem dX12_come_9 : decode cX12_come 9 = .ok (.baload, 1) := by decide +kernel
theorem dX12_come_5 : decode cX12_come 5 = .ok (.getfield 62, 3) := by decide +kernel
theorem dX12_come_1 : decode cX12_come 1 = .ok (.ifCond .lt 12, 3) := by decide +kernel
def wr_207 (c k : Nat) : Bool := Nat.beq c 103 || Nat.beq c 104 || Nat.beq c 110 || Nat.beq c 111 || Nat.beq c 119 || (Nat.beq c 94 && (Nat.beq k 48 || Nat.beq k 60 || Nat.beq k 75 || Nat.beq k 77))
theorem ws_205_207 : ∀ c k, wr_205 c k = true → wr_207 c k = true := by
  intro c k h
  simp only [wr_205, wr_207, Bool.or_eq_true, Bool.and_eq_true, Nat.beq_eq] at h ⊢
  omega
theorem g_207_0 {X : Nat × (Nat → Int32)} {m : Nat → Nat → Int32} {P : Option ma_V → (Nat → Nat → Int32) → Prop} (s : Int32) (h : if s < 0 then (P none m) else ((0 ≤ s ∧ s.toNatClampNeg < 3100) ∧ (if (m 110 s.toNatClampNeg) = 0 then ((0 ≤ s ∧ s.toNatClampNeg < 3100) ∧ ((0 ≤ (m 94 75) ∧ (m 94 75).toNatClampNeg < 3100) ∧ (if (m 94 10) = (3 : Int32) then ((0 ≤ s ∧ s.toNatClampNeg < 3100) ∧ ((0 ≤ s ∧ s.toNatClampNeg < 3100) ∧ ((0 ≤ s ∧ s.toNatClampNeg < 3100) ∧ (if ((ma_u (ma_u (ma_u (ma_u m 110 s.toNatClampNeg (1 : Int32)) 119 (m 94 75).toNatClampNeg s) 94 75 ((m 94 75) + (1 : Int32))) 104 s.toNatClampNeg ((m 104 s.toNatClampNeg) + (1 : Int32))) 104 s.toNatClampNeg) = (m 94 15) then (zm X 1 21 205 0 [(0, .inr (.inr (some 94))), (1, .inl s), (2, .inl (m 94 60))] (ma_u (ma_u (ma_u (ma_u m 110 s.toNatClampNeg (1 : Int32)) 119 (m 94 75).toNatClampNeg s) 94 75 ((m 94 75) + (1 : Int32))) 104 s.toNatClampNeg ((m 104 s.toNatClampNeg) + (1 : Int32))) (zmv (fun m5 => (0 ≤ s ∧ s.toNatClampNeg < 3100) ∧ (P none (ma_u m5 94 60 ((m5 94 60) + ((m5 102 s.toNatClampNeg) + (1 : Int32)))))))) else (zm X 1 21 205 0 [(0, .inr (.inr (some 94))), (1, .inl s), (2, .inl (m 94 77))] (ma_u (ma_u (ma_u (ma_u m 110 s.toNatClampNeg (1 : Int32)) 119 (m 94 75).toNatClampNeg s) 94 75 ((m 94 75) + (1 : Int32))) 104 s.toNatClampNeg ((m 104 s.toNatClampNeg) + (1 : Int32))) (zmv (fun m3 => (0 ≤ s ∧ s.toNatClampNeg < 3100) ∧ (P none (ma_u m3 94 77 ((m3 94 77) + ((m3 102 s.toNatClampNeg) + (1 : Int32)))))))))))) else (zm X 1 21 205 0 [(0, .inr (.inr (some 94))), (1, .inl s), (2, .inl (m 94 77))] (ma_u (ma_u (ma_u m 110 s.toNatClampNeg (1 : Int32)) 119 (m 94 75).toNatClampNeg s) 94 75 ((m 94 75) + (1 : Int32))) (zmv (fun m1 => (0 ≤ s ∧ s.toNatClampNeg < 3100) ∧ (P none (ma_u m1 94 77 ((m1 94 77) + ((m1 102 s.toNatClampNeg) + (1 : Int32))))))))))) else (P none m)))) : zm X 2 43 207 0 [(0, .inr (.inr (some 94))), (1, .inl s)] m P := by
  intro d w S Q hd hw hS hm HQ
  subst hm
  refine zw_push hm_207 dX12_come_0 (v := .inl s) rfl ?_
  refine zw_if0 hm_207 dX12_come_1 (t := 13) rfl zc0_lt ?_ ?_
  · intro hc
    rw [if_pos hc] at h
    exact zw_vret hm_207 dX12_come_13 (HQ _ _ h)
  · intro hc
    rw [if_neg hc] at h
    refine zw_push hm_207 dX12_come_4 (v := .inr (.inr (some 94))) rfl ?_
    refine zw_gf hm_207 dX12_come_5 (v := .inr (.inr (some 110))) (zT_is hS s_94) (zT_t hS s_94) rfl f_12_62_12 (zT_f hS r_94_42) ?_
    refine zw_push hm_207 dX12_come_8 (v := .inl s) rfl ?_
    obtain ⟨hg, h⟩ := h
    refine zw_ba hm_207 dX12_come_9 (zT_is hS s_110) (zT_h hS s_110) rfl rfl hg ?_
    show ma_wp X d w 207 10 [(0, .inr (.inr (some 94))), (1, .inl s)] [.inl ((mI S) 110 s.toNatClampNeg)] S _
    refine zw_if0 hm_207 dX12_come_10 (t := 14) rfl zc0_eq ?_ ?_
    · intro hc
      rw [if_pos hc] at h
      refine zw_push hm_207 dX12_come_14 (v := .inr (.inr (some 94))) rfl ?_
      refine zw_gf hm_207 dX12_come_15 (v := .inr (.inr (some 110))) (zT_is hS s_94) (zT_t hS s_94) rfl f_12_62_12 (zT_f hS r_94_42) ?_
      refine zw_push hm_207 dX12_come_18 (v := .inl s) rfl ?_
      refine zw_push hm_207 dX12_come_19 (v := .inl (1 : Int32)) rfl ?_
      obtain ⟨hg, h⟩ := h
      refine zw_bas22l hm_207 dX12_come_20 (hx := by decide) (yv := (1 : Int32)) (zT_is hS s_110) (zT_h hS s_110) rfl hg ?_
      refine zw_push hm_207 dX12_come_21 (v := .inr (.inr (some 94))) rfl ?_
      refine zw_gf hm_207 dX12_come_22 (v := .inr (.inr (some 119))) (zT_is (zT_pi hS) s_94) (zT_t (zT_pi hS) s_94) rfl f_12_89_12 (zT_f (zT_pi hS) r_94_74) ?_
      refine zw_push hm_207 dX12_come_25 (v := .inr (.inr (some 94))) rfl ?_
      refine zw_gf hm_207 dX12_come_26 (v := .inl ((mI S) 94 75)) (zT_is (zT_pi hS) s_94) (zT_t (zT_pi hS) s_94) rfl f_12_356_12 rfl ?_
      refine zw_push hm_207 dX12_come_29 (v := .inl s) rfl ?_
      obtain ⟨hg, h⟩ := h
      refine zw_ias hm_207 dX12_come_30 (zT_is (zT_pi hS) s_119) (zT_h (zT_pi hS) s_119) rfl hg ?_
      refine zw_push hm_207 dX12_come_31 (v := .inr (.inr (some 94))) rfl ?_
      refine zw_stk hm_207 dX12_come_32 (st₉ := [.inr (.inr (some 94)), .inr (.inr (some 94))]) rfl rfl ?_
      refine zw_gf hm_207 dX12_come_33 (v := .inl ((mI S) 94 75)) (zT_is (zT_pi (zT_pi hS)) s_94) (zT_t (zT_pi (zT_pi hS)) s_94) rfl f_12_356_12 rfl ?_
      refine zw_push hm_207 dX12_come_36 (v := .inl (1 : Int32)) rfl ?_
      refine zw_stk hm_207 dX12_come_37 (st₉ := [.inl (((mI S) 94 75) + (1 : Int32)), .inr (.inr (some 94))]) rfl rfl ?_
      refine zw_pf hm_207 dX12_come_38 (zT_is (zT_pi (zT_pi hS)) s_94) (zT_t (zT_pi (zT_pi hS)) s_94) p_12_356_12 zk_int ?_
      refine zw_push hm_207 dX12_come_41 (v := .inr (.inr (some 94))) rfl ?_
      refine zw_gf hm_207 dX12_come_42 (v := .inl ((mI S) 94 10)) (zT_is (zT_pi (zT_pi (zT_pi hS))) s_94) (zT_t (zT_pi (zT_pi (zT_pi hS))) s_94) rfl f_12_199_12 rfl ?_
      refine zw_push hm_207 dX12_come_45 (v := .inl (3 : Int32)) rfl ?_
      refine zw_if2 hm_207 dX12_come_46 (t := 96) rfl zc2_ne ?_ ?_
      · intro hc
        rw [if_neg hc] at h
        refine zw_push hm_207 dX12_come_96 (v := .inr (.inr (some 94))) rfl ?_
        refine zw_push hm_207 dX12_come_97 (v := .inl s) rfl ?_
        refine zw_push hm_207 dX12_come_98 (v := .inr (.inr (some 94))) rfl ?_
        refine zw_gf hm_207 dX12_come_99 (v := .inl ((mI S) 94 77)) (zT_is (zT_pi (zT_pi (zT_pi hS))) s_94) (zT_t (zT_pi (zT_pi (zT_pi hS))) s_94) rfl f_12_359_12 rfl ?_
        refine zw_cv hm_207 dX12_come_102 v_12_352_12 hm_205 [.inl ((mI S) 94 77), .inl s] [] rfl (zT_rt (zT_pi (zT_pi (zT_pi hS))) s_94 rfl) ⟨by omega, by omega⟩ rfl (h _ _ (ma_put (ma_put (ma_put S 110 s.toNatClampNeg (.inl (1 : Int32))) 119 ((mI S) 94 75).toNatClampNeg (.inl s)) 94 75 (.inl (((mI S) 94 75) + (1 : Int32)))) _ (by omega) (by omega) (zT_pi (zT_pi (zT_pi hS))) rfl (fun o9 m1 hv => ?_))
        obtain ⟨rfl, h⟩ := zmv_of hv
        show ma_wp X d w 207 105 [(0, .inr (.inr (some 94))), (1, .inl s)] [] (zst S m1) _
        refine zw_push hm_207 dX12_come_105 (v := .inr (.inr (some 94))) rfl ?_
        refine zw_stk hm_207 dX12_come_106 (st₉ := [.inr (.inr (some 94)), .inr (.inr (some 94))]) rfl rfl ?_
        refine zw_gf hm_207 dX12_come_107 (v := .inl (m1 94 77)) (zT_is (zT_zst hS m1) s_94) (zT_t (zT_zst hS m1) s_94) rfl f_12_359_12 rfl ?_
        refine zw_push hm_207 dX12_come_110 (v := .inr (.inr (some 94))) rfl ?_
        refine zw_push hm_207 dX12_come_111 (v := .inl s) rfl ?_
        refine zw_cv hm_207 dX12_come_112 v_12_327_12 hm_201 [.inl s] [.inl (m1 94 77), .inr (.inr (some 94))] rfl (zT_rt (zT_zst hS m1) s_94 rfl) ⟨by omega, by omega⟩ rfl ?_
        show ma_wp X (d - 1) (w - 21) 201 0 [(0, .inr (.inr (some 94))), (1, .inl s)] [] (zst S m1) _
        refine zw_push hm_201 dX12_sizeOf_0 (v := .inr (.inr (some 94))) rfl ?_
        refine zw_gf hm_201 dX12_sizeOf_1 (v := .inr (.inr (some 102))) (zT_is (zT_zst hS m1) s_94) (zT_t (zT_zst hS m1) s_94) rfl f_12_37_12 (zT_f (zT_zst hS m1) r_94_34) ?_
        refine zw_push hm_201 dX12_sizeOf_4 (v := .inl s) rfl ?_
        obtain ⟨hg, h⟩ := h
        refine zw_ia hm_201 dX12_sizeOf_5 (zT_is (zT_zst hS m1) s_102) (zT_h (zT_zst hS m1) s_102) rfl hg ?_
        show ma_wp X (d - 1) (w - 21) 201 6 [(0, .inr (.inr (some 94))), (1, .inl s)] [.inl (m1 102 s.toNatClampNeg)] (zst S m1) _
        refine zw_push hm_201 dX12_sizeOf_6 (v := .inl (1 : Int32)) rfl ?_
        refine zw_stk hm_201 dX12_sizeOf_7 (st₉ := [.inl ((m1 102 s.toNatClampNeg) + (1 : Int32))]) rfl rfl ?_
        refine zw_iret hm_201 dX12_sizeOf_8 ?_
        show ma_wp X d w 207 115 [(0, .inr (.inr (some 94))), (1, .inl s)] [.inl ((m1 102 s.toNatClampNeg) + (1 : Int32)), .inl (m1 94 77), .inr (.inr (some 94))] (zst S m1) _
        refine zw_stk hm_207 dX12_come_115 (st₉ := [.inl ((m1 94 77) + ((m1 102 s.toNatClampNeg) + (1 : Int32))), .inr (.inr (some 94))]) rfl rfl ?_
        refine zw_pf hm_207 dX12_come_116 (zT_is (zT_zst hS m1) s_94) (zT_t (zT_zst hS m1) s_94) p_12_359_12 zk_int ?_
        exact zw_vret hm_207 dX12_come_119 (HQ _ _ h)
      · intro hc
        rw [if_pos (Classical.not_not.mp hc)] at h
        refine zw_push hm_207 dX12_come_49 (v := .inr (.inr (some 94))) rfl ?_
        refine zw_gf hm_207 dX12_come_50 (v := .inr (.inr (some 104))) (zT_is (zT_pi (zT_pi (zT_pi hS))) s_94) (zT_t (zT_pi (zT_pi (zT_pi hS))) s_94) rfl f_12_43_12 (zT_f (zT_pi (zT_pi (zT_pi hS))) r_94_36) ?_
        refine zw_push hm_207 dX12_come_53 (v := .inl s) rfl ?_
        refine zw_stk hm_207 dX12_come_54 (st₉ := [.inl s, .inr (.inr (some 104)), .inl s, .inr (.inr (some 104))]) rfl rfl ?_
        obtain ⟨hg, h⟩ := h
        refine zw_ia hm_207 dX12_come_55 (zT_is (zT_pi (zT_pi (zT_pi hS))) s_104) (zT_h (zT_pi (zT_pi (zT_pi hS))) s_104) rfl hg ?_
        show ma_wp X d w 207 56 [(0, .inr (.inr (some 94))), (1, .inl s)] [.inl ((mI S) 104 s.toNatClampNeg), .inl s, .inr (.inr (some 104))] (ma_put (ma_put (ma_put S 110 s.toNatClampNeg (.inl (1 : Int32))) 119 ((mI S) 94 75).toNatClampNeg (.inl s)) 94 75 (.inl (((mI S) 94 75) + (1 : Int32)))) _
        refine zw_push hm_207 dX12_come_56 (v := .inl (1 : Int32)) rfl ?_
        refine zw_stk hm_207 dX12_come_57 (st₉ := [.inl (((mI S) 104 s.toNatClampNeg) + (1 : Int32)), .inl s, .inr (.inr (some 104))]) rfl rfl ?_
        obtain ⟨hg, h⟩ := h
        refine zw_ias hm_207 dX12_come_58 (zT_is (zT_pi (zT_pi (zT_pi hS))) s_104) (zT_h (zT_pi (zT_pi (zT_pi hS))) s_104) rfl hg ?_
        refine zw_push hm_207 dX12_come_59 (v := .inr (.inr (some 94))) rfl ?_
        refine zw_gf hm_207 dX12_come_60 (v := .inr (.inr (some 104))) (zT_is (zT_pi (zT_pi (zT_pi (zT_pi hS)))) s_94) (zT_t (zT_pi (zT_pi (zT_pi (zT_pi hS)))) s_94) rfl f_12_43_12 (zT_f (zT_pi (zT_pi (zT_pi (zT_pi hS)))) r_94_36) ?_
        refine zw_push hm_207 dX12_come_63 (v := .inl s) rfl ?_
        obtain ⟨hg, h⟩ := h
        refine zw_ia hm_207 dX12_come_64 (zT_is (zT_pi (zT_pi (zT_pi (zT_pi hS)))) s_104) (zT_h (zT_pi (zT_pi (zT_pi (zT_pi hS)))) s_104) rfl hg ?_
        show ma_wp X d w 207 65 [(0, .inr (.inr (some 94))), (1, .inl s)] [.inl ((ma_u (ma_u (ma_u (ma_u (mI S) 110 s.toNatClampNeg (1 : Int32)) 119 ((mI S) 94 75).toNatClampNeg s) 94 75 (((mI S) 94 75) + (1 : Int32))) 104 s.toNatClampNeg (((mI S) 104 s.toNatClampNeg) + (1 : Int32))) 104 s.toNatClampNeg)] (ma_put (ma_put (ma_put (ma_put S 110 s.toNatClampNeg (.inl (1 : Int32))) 119 ((mI S) 94 75).toNatClampNeg (.inl s)) 94 75 (.inl (((mI S) 94 75) + (1 : Int32)))) 104 s.toNatClampNeg (.inl (((mI S) 104 s.toNatClampNeg) + (1 : Int32)))) _
        refine zw_push hm_207 dX12_come_65 (v := .inr (.inr (some 94))) rfl ?_
        refine zw_gf hm_207 dX12_come_66 (v := .inl ((mI S) 94 15)) (zT_is (zT_pi (zT_pi (zT_pi (zT_pi hS)))) s_94) (zT_t (zT_pi (zT_pi (zT_pi (zT_pi hS)))) s_94) rfl f_12_213_12 rfl ?_
        refine zw_if2 hm_207 dX12_come_69 (t := 96) rfl zc2_ne ?_ ?_
        · intro hc
          rw [if_neg hc] at h
          refine zw_push hm_207 dX12_come_96 (v := .inr (.inr (some 94))) rfl ?_
          refine zw_push hm_207 dX12_come_97 (v := .inl s) rfl ?_
          refine zw_push hm_207 dX12_come_98 (v := .inr (.inr (some 94))) rfl ?_
          refine zw_gf hm_207 dX12_come_99 (v := .inl ((mI S) 94 77)) (zT_is (zT_pi (zT_pi (zT_pi (zT_pi hS)))) s_94) (zT_t (zT_pi (zT_pi (zT_pi (zT_pi hS)))) s_94) rfl f_12_359_12 rfl ?_
          refine zw_cv hm_207 dX12_come_102 v_12_352_12 hm_205 [.inl ((mI S) 94 77), .inl s] [] rfl (zT_rt (zT_pi (zT_pi (zT_pi (zT_pi hS)))) s_94 rfl) ⟨by omega, by omega⟩ rfl (h _ _ (ma_put (ma_put (ma_put (ma_put S 110 s.toNatClampNeg (.inl (1 : Int32))) 119 ((mI S) 94 75).toNatClampNeg (.inl s)) 94 75 (.inl (((mI S) 94 75) + (1 : Int32)))) 104 s.toNatClampNeg (.inl (((mI S) 104 s.toNatClampNeg) + (1 : Int32)))) _ (by omega) (by omega) (zT_pi (zT_pi (zT_pi (zT_pi hS)))) rfl (fun o9 m3 hv => ?_))
          obtain ⟨rfl, h⟩ := zmv_of hv
          show ma_wp X d w 207 105 [(0, .inr (.inr (some 94))), (1, .inl s)] [] (zst S m3) _
          refine zw_push hm_207 dX12_come_105 (v := .inr (.inr (some 94))) rfl ?_
          refine zw_stk hm_207 dX12_come_106 (st₉ := [.inr (.inr (some 94)), .inr (.inr (some 94))]) rfl rfl ?_
          refine zw_gf hm_207 dX12_come_107 (v := .inl (m3 94 77)) (zT_is (zT_zst hS m3) s_94) (zT_t (zT_zst hS m3) s_94) rfl f_12_359_12 rfl ?_
          refine zw_push hm_207 dX12_come_110 (v := .inr (.inr (some 94))) rfl ?_
          refine zw_push hm_207 dX12_come_111 (v := .inl s) rfl ?_
          refine zw_cv hm_207 dX12_come_112 v_12_327_12 hm_201 [.inl s] [.inl (m3 94 77), .inr (.inr (some 94))] rfl (zT_rt (zT_zst hS m3) s_94 rfl) ⟨by omega, by omega⟩ rfl ?_
          show ma_wp X (d - 1) (w - 21) 201 0 [(0, .inr (.inr (some 94))), (1, .inl s)] [] (zst S m3) _
          refine zw_push hm_201 dX12_sizeOf_0 (v := .inr (.inr (some 94))) rfl ?_
          refine zw_gf hm_201 dX12_sizeOf_1 (v := .inr (.inr (some 102))) (zT_is (zT_zst hS m3) s_94) (zT_t (zT_zst hS m3) s_94) rfl f_12_37_12 (zT_f (zT_zst hS m3) r_94_34) ?_
          refine zw_push hm_201 dX12_sizeOf_4 (v := .inl s) rfl ?_
          obtain ⟨hg, h⟩ := h
          refine zw_ia hm_201 dX12_sizeOf_5 (zT_is (zT_zst hS m3) s_102) (zT_h (zT_zst hS m3) s_102) rfl hg ?_
          show ma_wp X (d - 1) (w - 21) 201 6 [(0, .inr (.inr (some 94))), (1, .inl s)] [.inl (m3 102 s.toNatClampNeg)] (zst S m3) _
          refine zw_push hm_201 dX12_sizeOf_6 (v := .inl (1 : Int32)) rfl ?_
          refine zw_stk hm_201 dX12_sizeOf_7 (st₉ := [.inl ((m3 102 s.toNatClampNeg) + (1 : Int32))]) rfl rfl ?_
          refine zw_iret hm_201 dX12_sizeOf_8 ?_
          show ma_wp X d w 207 115 [(0, .inr (.inr (some 94))), (1, .inl s)] [.inl ((m3 102 s.toNatClampNeg) + (1 : Int32)), .inl (m3 94 77), .inr (.inr (some 94))] (zst S m3) _
          refine zw_stk hm_207 dX12_come_115 (st₉ := [.inl ((m3 94 77) + ((m3 102 s.toNatClampNeg) + (1 : Int32))), .inr (.inr (some 94))]) rfl rfl ?_
          refine zw_pf hm_207 dX12_come_116 (zT_is (zT_zst hS m3) s_94) (zT_t (zT_zst hS m3) s_94) p_12_359_12 zk_int ?_
          exact zw_vret hm_207 dX12_come_119 (HQ _ _ h)
        · intro hc
          rw [if_pos (Classical.not_not.mp hc)] at h
          refine zw_push hm_207 dX12_come_72 (v := .inr (.inr (some 94))) rfl ?_
          refine zw_push hm_207 dX12_come_73 (v := .inl s) rfl ?_
          refine zw_push hm_207 dX12_come_74 (v := .inr (.inr (some 94))) rfl ?_
          refine zw_gf hm_207 dX12_come_75 (v := .inl ((mI S) 94 60)) (zT_is (zT_pi (zT_pi (zT_pi (zT_pi hS)))) s_94) (zT_t (zT_pi (zT_pi (zT_pi (zT_pi hS)))) s_94) rfl f_12_279_12 rfl ?_
          refine zw_cv hm_207 dX12_come_78 v_12_352_12 hm_205 [.inl ((mI S) 94 60), .inl s] [] rfl (zT_rt (zT_pi (zT_pi (zT_pi (zT_pi hS)))) s_94 rfl) ⟨by omega, by omega⟩ rfl (h _ _ (ma_put (ma_put (ma_put (ma_put S 110 s.toNatClampNeg (.inl (1 : Int32))) 119 ((mI S) 94 75).toNatClampNeg (.inl s)) 94 75 (.inl (((mI S) 94 75) + (1 : Int32)))) 104 s.toNatClampNeg (.inl (((mI S) 104 s.toNatClampNeg) + (1 : Int32)))) _ (by omega) (by omega) (zT_pi (zT_pi (zT_pi (zT_pi hS)))) rfl (fun o9 m5 hv => ?_))
          obtain ⟨rfl, h⟩ := zmv_of hv
          show ma_wp X d w 207 81 [(0, .inr (.inr (some 94))), (1, .inl s)] [] (zst S m5) _
          refine zw_push hm_207 dX12_come_81 (v := .inr (.inr (some 94))) rfl ?_
          refine zw_stk hm_207 dX12_come_82 (st₉ := [.inr (.inr (some 94)), .inr (.inr (some 94))]) rfl rfl ?_
          refine zw_gf hm_207 dX12_come_83 (v := .inl (m5 94 60)) (zT_is (zT_zst hS m5) s_94) (zT_t (zT_zst hS m5) s_94) rfl f_12_279_12 rfl ?_
          refine zw_push hm_207 dX12_come_86 (v := .inr (.inr (some 94))) rfl ?_
          refine zw_push hm_207 dX12_come_87 (v := .inl s) rfl ?_
          refine zw_cv hm_207 dX12_come_88 v_12_327_12 hm_201 [.inl s] [.inl (m5 94 60), .inr (.inr (some 94))] rfl (zT_rt (zT_zst hS m5) s_94 rfl) ⟨by omega, by omega⟩ rfl ?_
          show ma_wp X (d - 1) (w - 21) 201 0 [(0, .inr (.inr (some 94))), (1, .inl s)] [] (zst S m5) _
          refine zw_push hm_201 dX12_sizeOf_0 (v := .inr (.inr (some 94))) rfl ?_
          refine zw_gf hm_201 dX12_sizeOf_1 (v := .inr (.inr (some 102))) (zT_is (zT_zst hS m5) s_94) (zT_t (zT_zst hS m5) s_94) rfl f_12_37_12 (zT_f (zT_zst hS m5) r_94_34) ?_
          refine zw_push hm_201 dX12_sizeOf_4 (v := .inl s) rfl ?_
          obtain ⟨hg, h⟩ := h
          refine zw_ia hm_201 dX12_sizeOf_5 (zT_is (zT_zst hS m5) s_102) (zT_h (zT_zst hS m5) s_102) rfl hg ?_
          show ma_wp X (d - 1) (w - 21) 201 6 [(0, .inr (.inr (some 94))), (1, .inl s)] [.inl (m5 102 s.toNatClampNeg)] (zst S m5) _
          refine zw_push hm_201 dX12_sizeOf_6 (v := .inl (1 : Int32)) rfl ?_
          refine zw_stk hm_201 dX12_sizeOf_7 (st₉ := [.inl ((m5 102 s.toNatClampNeg) + (1 : Int32))]) rfl rfl ?_
          refine zw_iret hm_201 dX12_sizeOf_8 ?_
          show ma_wp X d w 207 91 [(0, .inr (.inr (some 94))), (1, .inl s)] [.inl ((m5 102 s.toNatClampNeg) + (1 : Int32)), .inl (m5 94 60), .inr (.inr (some 94))] (zst S m5) _
          refine zw_stk hm_207 dX12_come_91 (st₉ := [.inl ((m5 94 60) + ((m5 102 s.toNatClampNeg) + (1 : Int32))), .inr (.inr (some 94))]) rfl rfl ?_
          refine zw_pf hm_207 dX12_come_92 (zT_is (zT_zst hS m5) s_94) (zT_t (zT_zst hS m5) s_94) p_12_279_12 zk_int ?_
          exact zw_vret hm_207 dX12_come_95 (HQ _ _ h)
    · intro hc
      rw [if_neg hc] at h
      exact zw_vret hm_207 dX12_come_13 (HQ _ _ h)
theorem sp_207 {X : Nat × (Nat → Int32)} {P : Option ma_V → (Nat → Nat → Int32) → Prop} {XX : Nat→Prop} {CU : Nat} {II : Nat} {m : Nat → Nat → Int32} (s : Int32) (hV : zV m) (hpre0 : -1 ≤ s.toInt) (hpre1 : s.toInt ≤ 3099) (hpre2 : (m 94 10).toInt = 2 ∨ (m 94 10).toInt = 3) (r_SU2 : s.toInt < 0 ∨ (m 99) s.toNatClampNeg ≠ 0) (r_CMK : zKS (m 110) (m 94 75)) (r_OW : zOw (m 99) (m 103) (m 111)) (r_H2 : zH2 (m 94 10) (m 94 11) (m 94 61) (m 94 77) (m 99) (m 110) (m 102)) (r_H3 : zH3 (m 94 10) (m 94 13) (m 94 14) (m 94 15) (m 94 61) (m 94 77) (m 94 60) (m 99) (m 110) (m 104) (m 102) (m 103) (m 111)) (hpre8 : (m 94 76).toInt ≤ (m 94 75).toInt) (r_CQ : zCQ (m 110) (m 98) (m 101) (m 102) (m 108) (m 119) (m 94 76) (m 94 75) XX CU II) (r_KU : zKU (m 94 10) (m 99) (m 110)) (KZ : ∀ m₉, zV (zov wr_207 m m₉) → (zKS (m₉ 110) (m₉ 94 75)) → (zOw (m 99) (m₉ 103) (m₉ 111)) → (zH2 (m 94 10) (m 94 11) (m 94 61) (m₉ 94 77) (m 99) (m₉ 110) (m 102)) → (zH3 (m 94 10) (m 94 13) (m 94 14) (m 94 15) (m 94 61) (m₉ 94 77) (m₉ 94 60) (m 99) (m₉ 110) (m₉ 104) (m 102) (m₉ 103) (m₉ 111)) → (s.toInt < 0 ∨ (m₉ 110) s.toNatClampNeg ≠ 0) → (zle (m 110) (m₉ 110)) → ((m 94 76).toInt ≤ (m₉ 94 75).toInt) → (zCQ (m₉ 110) (m 98) (m 101) (m 102) (m 108) (m₉ 119) (m 94 76) (m₉ 94 75) XX CU II) → (zKU (m 94 10) (m 99) (m₉ 110)) → ((m 94 10).toInt = 3 → zax (m 103) (m₉ 103) (m 94 60).toInt) → ((m 94 60).toInt ≤ (m₉ 94 60).toInt) → P none (zov wr_207 m m₉)) : zm X 2 43 207 0 [(0, .inr (.inr (some 94))), (1, .inl s)] m P := by
  have K : ∀ m₉, zF wr_207 m m₉ → zV m₉ → (zKS (m₉ 110) (m₉ 94 75)) → (zOw (m₉ 99) (m₉ 103) (m₉ 111)) → (zH2 (m₉ 94 10) (m₉ 94 11) (m₉ 94 61) (m₉ 94 77) (m₉ 99) (m₉ 110) (m₉ 102)) → (zH3 (m₉ 94 10) (m₉ 94 13) (m₉ 94 14) (m₉ 94 15) (m₉ 94 61) (m₉ 94 77) (m₉ 94 60) (m₉ 99) (m₉ 110) (m₉ 104) (m₉ 102) (m₉ 103) (m₉ 111)) → (s.toInt < 0 ∨ (m₉ 110) s.toNatClampNeg ≠ 0) → (zle (m 110) (m₉ 110)) → ((m₉ 94 76).toInt ≤ (m₉ 94 75).toInt) → (zCQ (m₉ 110) (m₉ 98) (m₉ 101) (m₉ 102) (m₉ 108) (m₉ 119) (m₉ 94 76) (m₉ 94 75) XX CU II) → (zKU (m₉ 94 10) (m₉ 99) (m₉ 110)) → ((m₉ 94 10).toInt = 3 → zax (m 103) (m₉ 103) (m 94 60).toInt) → ((m 94 60).toInt ≤ (m₉ 94 60).toInt) → P none m₉ := by
    intro m₉ hf z q0 q1 q2 q3 q4 q5 q6 q7 q8 q9 q10
    have e := zov_eq hf
    rw [e] at z ⊢
    try rw [e] at q0
    try rw [e] at q1
    try rw [e] at q2
    try rw [e] at q3
    try rw [e] at q4
    try rw [e] at q5
    try rw [e] at q6
    try rw [e] at q7
    try rw [e] at q8
    try rw [e] at q9
    try rw [e] at q10
    exact KZ m₉ z q0 q1 q2 q3 q4 q5 q6 q7 q8 q9 q10
  refine g_207_0 s ?_
  have f1 : 0 ≤ (m 94 10).toInt ∧ (m 94 10).toInt ≤ 6 := rs_94_10 (m := m) hV
  have f2 : 0 ≤ (m 94 76).toInt ∧ (m 94 76).toInt ≤ 3100 := rs_94_76 (m := m) hV
  have f3 : 0 ≤ (m 94 75).toInt ∧ (m 94 75).toInt ≤ 3100 := rs_94_75 (m := m) hV
  have b4 := i_bd s
  have li5 : (0 : Int32).toInt = 0 := rfl
  refine zd (fun (h6 : s < (0 : Int32)) => ?_) (fun (h6 : ¬ s < (0 : Int32)) => ?_)
  · skip
    have g7 := i_lt h6
    have f8 : 0 ≤ (m 94 60).toInt ∧ (m 94 60).toInt ≤ 1600 := rs_94_60 (m := m) hV
    exact K _ zF_rfl hV r_CMK r_OW r_H2 r_H3 (show s.toInt < 0 ∨ (m 110) s.toNatClampNeg ≠ 0 from by first | (exact Or.inl (by omega)) | (exact Or.inr (by assumption)) | (exfalso; omega; done) | (exfalso; contradiction; done)) (show zle (m 110) (m 110) from by first | (exact zle_rfl) | (exfalso; omega; done) | (exfalso; contradiction; done)) (show (m 94 76).toInt ≤ (m 94 75).toInt from by omega) r_CQ r_KU (show (m 94 10).toInt = 3 → zax (m 103) (m 103) (m 94 60).toInt from by first | (exact fun _ => zax_rfl) | (exfalso; omega; done) | (exfalso; contradiction; done)) (show (m 94 60).toInt ≤ (m 94 60).toInt from by omega)
  · skip
    have g9 := i_nlt h6
    have hg10 : (0 ≤ s ∧ s.toNatClampNeg < 3100) := i_ix (by omega) (by omega)
    refine ⟨hg10, ?_⟩
    first | have f11 : 0 ≤ (m 110 s.toNatClampNeg).toInt ∧ (m 110 s.toNatClampNeg).toInt ≤ 1 := ra_110 (m := m) hV (k := s.toNatClampNeg) (i_ix (n := 3100) (by omega) (by omega)).2 | have b12 := i_bd (m 110 s.toNatClampNeg)
    refine zd (fun (h13 : (m 110 s.toNatClampNeg) = (0 : Int32)) => ?_) (fun (h13 : ¬ (m 110 s.toNatClampNeg) = (0 : Int32)) => ?_)
    · skip
      have g14 := i_eq h13
      have hg15 : (0 ≤ s ∧ s.toNatClampNeg < 3100) := i_ix (by omega) (by omega)
      refine ⟨hg15, ?_⟩
      try have gk := KS_room r_CMK (by assumption) (by omega)
      have hg16 : (0 ≤ (m 94 75) ∧ (m 94 75).toNatClampNeg < 3100) := i_ix (by omega) (by omega)
      refine ⟨hg16, ?_⟩
      have li17 : (3 : Int32).toInt = 3 := rfl
      refine zd (fun (h18 : (m 94 10) = (3 : Int32)) => ?_) (fun (h18 : ¬ (m 94 10) = (3 : Int32)) => ?_)
      · skip
        have g19 := i_eq h18
        have hg20 : (0 ≤ s ∧ s.toNatClampNeg < 3100) := i_ix (by omega) (by omega)
        refine ⟨hg20, ?_⟩
        have hg21 : (0 ≤ s ∧ s.toNatClampNeg < 3100) := i_ix (by omega) (by omega)
        refine ⟨hg21, ?_⟩
        have hg22 : (0 ≤ s ∧ s.toNatClampNeg < 3100) := i_ix (by omega) (by omega)
        refine ⟨hg22, ?_⟩
        have b23 := i_bd (m 104 s.toNatClampNeg)
        first | have e24 : ((m 104 s.toNatClampNeg) + (1 : Int32)).toInt = (m 104 s.toNatClampNeg).toInt + (1) := i_addk rfl (by omega) (by omega) | have b25 := i_bd ((m 104 s.toNatClampNeg) + (1 : Int32))
        have q26 : ((ma_u m 104 s.toNatClampNeg ((m 104 s.toNatClampNeg) + (1 : Int32))) 104 s.toNatClampNeg).toInt = ((m 104 s.toNatClampNeg) + (1 : Int32)).toInt := congrArg Int32.toInt mu_self
        have b27 := i_bd ((ma_u m 104 s.toNatClampNeg ((m 104 s.toNatClampNeg) + (1 : Int32))) 104 s.toNatClampNeg)
        have b28 := i_bd (m 94 15)
        refine zd (fun (h29 : ((ma_u m 104 s.toNatClampNeg ((m 104 s.toNatClampNeg) + (1 : Int32))) 104 s.toNatClampNeg) = (m 94 15)) => ?_) (fun (h29 : ¬ ((ma_u m 104 s.toNatClampNeg ((m 104 s.toNatClampNeg) + (1 : Int32))) 104 s.toNatClampNeg) = (m 94 15)) => ?_)
        · skip
          have g30 := i_eq h29
          have f31 : 0 ≤ (m 94 60).toInt ∧ (m 94 60).toInt ≤ 1600 := rs_94_60 (m := m) hV
          have li33 : (1 : Int32).toInt = 1 := rfl
          have hV32 : zV (ma_u m 110 s.toNatClampNeg (1 : Int32)) := ua_110 hV (by omega) (by omega)
          have hV34 : zV (ma_u (ma_u m 110 s.toNatClampNeg (1 : Int32)) 119 (m 94 75).toNatClampNeg s) := ua_119 hV32 (by omega) (by omega)
          first | have e36 : ((m 94 75) + (1 : Int32)).toInt = (m 94 75).toInt + (1) := i_addk rfl (by omega) (by omega) | have b37 := i_bd ((m 94 75) + (1 : Int32))
          have hV35 : zV (ma_u (ma_u (ma_u m 110 s.toNatClampNeg (1 : Int32)) 119 (m 94 75).toNatClampNeg s) 94 75 ((m 94 75) + (1 : Int32))) := us_94_75 hV34 (by omega) (by omega)
          have hV38 : zV (ma_u (ma_u (ma_u (ma_u m 110 s.toNatClampNeg (1 : Int32)) 119 (m 94 75).toNatClampNeg s) 94 75 ((m 94 75) + (1 : Int32))) 104 s.toNatClampNeg ((m 104 s.toNatClampNeg) + (1 : Int32))) := ua_104 hV35
          try have hus : m 99 s.toNatClampNeg ≠ 0 := r_SU2.elim (fun z => absurd z (by omega)) id
          try have hws := ra_102 (m := m) hV (k := s.toNatClampNeg) (by omega)
          try have h0k : m 110 s.toNatClampNeg = 0 := by assumption
          try have hg : (m 104 s.toNatClampNeg) + (1 : Int32) = (m 94 15) := (mu_self (m := m) (c := 104) (k := s.toNatClampNeg) (x := (m 104 s.toNatClampNeg) + (1 : Int32))).symm.trans (by assumption)
          try have hng : ¬ (m 104 s.toNatClampNeg) + (1 : Int32) = (m 94 15) := fun z => absurd ((mu_self (m := m) (c := 104) (k := s.toNatClampNeg) (x := (m 104 s.toNatClampNeg) + (1 : Int32))).trans z) (by assumption)
          try have b2 := zB2_le (hf := m 94 61) (ro := m 94 11) (rs_94_11 hV).1
          try have b2b := (rs_94_11 hV).2
          try have b3 := zB3_le (hf := m 94 61) (ol := m 94 14) (yo := m 94 13) (rs_94_13 hV).1
          try have b3b := (rs_94_13 hV).2
          try have b3c := (rs_94_14 hV).2
          try have h2a := r_H2 (by omega)
          try have h3a := r_H3 (by omega)
          try have g2 := sm_ge (b := zbN (m 99) (m 110)) (ws := m 102) (n := 3100) (s := s.toNatClampNeg) (by omega) (decide_eq_true ⟨hus, h0k⟩) (fun t ht => (ra_102 hV ht).1)
          try have g3 := sm_ge (b := zbN0 (m 99) (m 110) (m 104) (m 94 15)) (ws := m 102) (n := 3100) (s := s.toNatClampNeg) (by omega) (decide_eq_true ⟨hus, h0k, hng⟩) (fun t ht => (ra_102 hV ht).1)
          try have g4 := sm_ge (b := zbN1 (m 99) (m 110) (m 104) (m 94 15)) (ws := m 102) (n := 3100) (s := s.toNatClampNeg) (by omega) (decide_eq_true ⟨hus, h0k, hg⟩) (fun t ht => (ra_102 hV ht).1)
          try have n0 := sm_nn (b := zbK (m 99) (m 110)) (ws := m 102) (n := 3100) (fun t ht => (ra_102 hV ht).1)
          try have n1 := sm_nn (b := zbKY (m 99) (m 110) (m 103) (m 94 14).toInt) (ws := m 102) (n := 3100) (fun t ht => (ra_102 hV ht).1)
          try have n2 := sm_nn (b := zbN1 (m 99) (m 110) (m 104) (m 94 15)) (ws := m 102) (n := 3100) (fun t ht => (ra_102 hV ht).1)
          try have hol := h3a.2.2.2.2 _ (by omega) hus h0k
          refine sp_205 (s) ((m 94 60)) hV38 (by omega) (by omega) (by omega) (by omega) (show (m 99) s.toNatClampNeg ≠ 0 from by first | (exact hus) | (assumption; done) | (exact ow5.1) | (exact ow3.1) | (exfalso; omega; done) | (exfalso; contradiction; done)) r_OW (fun m5 hV_m5 p0_m5 p1_m5 => zmv_n ?_)
          have p0_m5 : zOw (m 99) (m5 103) (m5 111) := p0_m5
          have p1_m5 : zmov s (m 94 60) (m 103) (m 111) (m5 103) (m5 111) := p1_m5
          try have mvs := mv_s p1_m5
          have hg39 : (0 ≤ s ∧ s.toNatClampNeg < 3100) := i_ix (by omega) (by omega)
          refine ⟨hg39, ?_⟩
          first | have f41 : 0 ≤ (m 102 s.toNatClampNeg).toInt ∧ (m 102 s.toNatClampNeg).toInt ≤ 60 := ra_102 (m := m) hV (k := s.toNatClampNeg) (i_ix (n := 3100) (by omega) (by omega)).2 | have b42 := i_bd (m 102 s.toNatClampNeg)
          first | have e43 : ((m 102 s.toNatClampNeg) + (1 : Int32)).toInt = (m 102 s.toNatClampNeg).toInt + (1) := i_addk rfl (by omega) (by omega) | have b44 := i_bd ((m 102 s.toNatClampNeg) + (1 : Int32))
          first | have e45 : ((m 94 60) + ((m 102 s.toNatClampNeg) + (1 : Int32))).toInt = (m 94 60).toInt + ((m 102 s.toNatClampNeg) + (1 : Int32)).toInt := i_add (by omega) (by omega) | have b46 := i_bd ((m 94 60) + ((m 102 s.toNatClampNeg) + (1 : Int32)))
          have hV40 : zV (ma_u (zov wr_205 (ma_u (ma_u (ma_u (ma_u m 110 s.toNatClampNeg (1 : Int32)) 119 (m 94 75).toNatClampNeg s) 94 75 ((m 94 75) + (1 : Int32))) 104 s.toNatClampNeg ((m 104 s.toNatClampNeg) + (1 : Int32))) m5) 94 60 ((m 94 60) + ((m 102 s.toNatClampNeg) + (1 : Int32)))) := us_94_60 hV_m5 (by omega) (by omega)
          exact K _ (zF_u (zF_zov (zF_u (zF_u (zF_u (zF_u zF_rfl rfl) rfl) rfl) rfl) ws_205_207) rfl) hV40 (show zKS ((ma_u m 110 s.toNatClampNeg (1 : Int32)) 110) ((m 94 75) + (1 : Int32)) from by first | (exact KS_push r_CMK (by assumption) (by omega) (by decide) (by assumption)) | (exfalso; omega; done) | (exfalso; contradiction; done)) p0_m5 (show zH2 (m 94 10) (m 94 11) (m 94 61) (m 94 77) (m 99) ((ma_u m 110 s.toNatClampNeg (1 : Int32)) 110) (m 102) from by first | (exact fun hp => absurd hp (by omega)) | (exact fun _ => by have e1 := smN_keep (m := m) (c := 110) (us := m 99) (ws := m 102) (k := s.toNatClampNeg) (x := (1 : Int32)) (by omega) hus h0k (by decide); have e2 := smK_keep (m := m) (c := 110) (us := m 99) (ws := m 102) (k := s.toNatClampNeg) (x := (1 : Int32)) (by omega) hus h0k (by decide); omega) | (exfalso; omega; done) | (exfalso; contradiction; done)) (show zH3 (m 94 10) (m 94 13) (m 94 14) (m 94 15) (m 94 61) (m 94 77) ((m 94 60) + ((m 102 s.toNatClampNeg) + (1 : Int32))) (m 99) ((ma_u m 110 s.toNatClampNeg (1 : Int32)) 110) ((ma_u m 104 s.toNatClampNeg ((m 104 s.toNatClampNeg) + (1 : Int32))) 104) (m 102) (m5 103) (m5 111) from by first | (exact fun hp => absurd hp (by omega)) | (exact fun _ => ⟨by have e1 := smN0_same (m := m) (c := 110) (ma := m) (ca := 104) (us := m 99) (ws := m 102) (a := m 94 15) (y := (m 104 s.toNatClampNeg) + (1 : Int32)) (k := s.toNatClampNeg) (x := (1 : Int32)) (by decide) hg; omega, by have e1 := smN1_keep (m := m) (c := 110) (ma := m) (ca := 104) (us := m 99) (ws := m 102) (a := m 94 15) (y := (m 104 s.toNatClampNeg) + (1 : Int32)) (k := s.toNatClampNeg) (x := (1 : Int32)) (by omega) hus h0k (by decide) hg; omega, by have e1 := smKY_old (m := m) (c := 110) (us := m 99) (ws := m 102) (ol := (m 94 14).toInt) (x := (1 : Int32)) h0k p1_m5 (by omega); omega, PK_add h3a.2.2.2.1 p1_m5 rfl (by omega) (by omega) (h3a.2.2.2.2 _ (by omega) hus h0k) (fun t ht => (ra_103 hV ht).1) (fun t ht => (ra_102 hV ht).1) (by omega) (by omega) (by omega), H3_rest h3a.2.2.2.2 p1_m5 (by decide)⟩) | (exact fun _ => ⟨by have e1 := smN0_keep (m := m) (c := 110) (ma := m) (ca := 104) (us := m 99) (ws := m 102) (a := m 94 15) (y := (m 104 s.toNatClampNeg) + (1 : Int32)) (k := s.toNatClampNeg) (x := (1 : Int32)) (by omega) hus h0k (by decide) hng; omega, by have e1 := smN1_same (m := m) (c := 110) (ma := m) (ca := 104) (us := m 99) (ws := m 102) (a := m 94 15) (y := (m 104 s.toNatClampNeg) + (1 : Int32)) (k := s.toNatClampNeg) (x := (1 : Int32)) (by decide) hng; omega, by have e1 := smKY_young (m := m) (c := 110) (us := m 99) (ws := m 102) (ol := (m 94 14).toInt) (x := (1 : Int32)) (by omega) hus h0k (by decide) p1_m5 (by omega); omega, PK_hi h3a.2.2.2.1 p1_m5 (by omega) (h3a.2.2.2.2 _ (by omega) hus h0k) (fun t ht => (ra_103 hV ht).1), H3_rest h3a.2.2.2.2 p1_m5 (by decide)⟩) | (exfalso; omega; done) | (exfalso; contradiction; done)) (show s.toInt < 0 ∨ ((ma_u m 110 s.toNatClampNeg (1 : Int32)) 110) s.toNatClampNeg ≠ 0 from by first | (exact Or.inr (by rw [mu_self]; decide)) | (exfalso; omega; done) | (exfalso; contradiction; done)) (show zle (m 110) ((ma_u m 110 s.toNatClampNeg (1 : Int32)) 110) from by first | (exact zle_push zle_rfl (by decide)) | (exfalso; omega; done) | (exfalso; contradiction; done)) (show (m 94 76).toInt ≤ ((m 94 75) + (1 : Int32)).toInt from by omega) (show zCQ ((ma_u m 110 s.toNatClampNeg (1 : Int32)) 110) (m 98) (m 101) (m 102) (m 108) ((ma_u m 119 (m 94 75).toNatClampNeg s) 119) (m 94 76) ((m 94 75) + (1 : Int32)) XX CU II from by first | (exact CQ_push r_CQ (by decide) (by omega) (by omega) rfl (by assumption)) | (exfalso; omega; done) | (exfalso; contradiction; done)) (show zKU (m 94 10) (m 99) ((ma_u m 110 s.toNatClampNeg (1 : Int32)) 110) from by first | (exact KU_push r_KU (fun _ => hus)) | (exfalso; omega; done) | (exfalso; contradiction; done)) (show (m 94 10).toInt = 3 → zax (m 103) (m5 103) (m 94 60).toInt from by first | (exact fun hp => absurd hp (by omega)) | (exact fun _ => zax_mv p1_m5 (by omega) (by omega)) | (exfalso; omega; done) | (exfalso; contradiction; done)) (show (m 94 60).toInt ≤ ((m 94 60) + ((m 102 s.toNatClampNeg) + (1 : Int32))).toInt from by omega)
        · skip
          have g47 := i_ne h29
          have f48 : 0 ≤ (m 94 77).toInt ∧ (m 94 77).toInt ≤ 4600 := rs_94_77 (m := m) hV
          have li50 : (1 : Int32).toInt = 1 := rfl
          have hV49 : zV (ma_u m 110 s.toNatClampNeg (1 : Int32)) := ua_110 hV (by omega) (by omega)
          have hV51 : zV (ma_u (ma_u m 110 s.toNatClampNeg (1 : Int32)) 119 (m 94 75).toNatClampNeg s) := ua_119 hV49 (by omega) (by omega)
          first | have e53 : ((m 94 75) + (1 : Int32)).toInt = (m 94 75).toInt + (1) := i_addk rfl (by omega) (by omega) | have b54 := i_bd ((m 94 75) + (1 : Int32))
          have hV52 : zV (ma_u (ma_u (ma_u m 110 s.toNatClampNeg (1 : Int32)) 119 (m 94 75).toNatClampNeg s) 94 75 ((m 94 75) + (1 : Int32))) := us_94_75 hV51 (by omega) (by omega)
          have hV55 : zV (ma_u (ma_u (ma_u (ma_u m 110 s.toNatClampNeg (1 : Int32)) 119 (m 94 75).toNatClampNeg s) 94 75 ((m 94 75) + (1 : Int32))) 104 s.toNatClampNeg ((m 104 s.toNatClampNeg) + (1 : Int32))) := ua_104 hV52
          try have hus : m 99 s.toNatClampNeg ≠ 0 := r_SU2.elim (fun z => absurd z (by omega)) id
          try have hws := ra_102 (m := m) hV (k := s.toNatClampNeg) (by omega)
          try have h0k : m 110 s.toNatClampNeg = 0 := by assumption
          try have hg : (m 104 s.toNatClampNeg) + (1 : Int32) = (m 94 15) := (mu_self (m := m) (c := 104) (k := s.toNatClampNeg) (x := (m 104 s.toNatClampNeg) + (1 : Int32))).symm.trans (by assumption)
          try have hng : ¬ (m 104 s.toNatClampNeg) + (1 : Int32) = (m 94 15) := fun z => absurd ((mu_self (m := m) (c := 104) (k := s.toNatClampNeg) (x := (m 104 s.toNatClampNeg) + (1 : Int32))).trans z) (by assumption)
          try have b2 := zB2_le (hf := m 94 61) (ro := m 94 11) (rs_94_11 hV).1
          try have b2b := (rs_94_11 hV).2
          try have b3 := zB3_le (hf := m 94 61) (ol := m 94 14) (yo := m 94 13) (rs_94_13 hV).1
          try have b3b := (rs_94_13 hV).2
          try have b3c := (rs_94_14 hV).2
          try have h2a := r_H2 (by omega)
          try have h3a := r_H3 (by omega)
          try have g2 := sm_ge (b := zbN (m 99) (m 110)) (ws := m 102) (n := 3100) (s := s.toNatClampNeg) (by omega) (decide_eq_true ⟨hus, h0k⟩) (fun t ht => (ra_102 hV ht).1)
          try have g3 := sm_ge (b := zbN0 (m 99) (m 110) (m 104) (m 94 15)) (ws := m 102) (n := 3100) (s := s.toNatClampNeg) (by omega) (decide_eq_true ⟨hus, h0k, hng⟩) (fun t ht => (ra_102 hV ht).1)
          try have g4 := sm_ge (b := zbN1 (m 99) (m 110) (m 104) (m 94 15)) (ws := m 102) (n := 3100) (s := s.toNatClampNeg) (by omega) (decide_eq_true ⟨hus, h0k, hg⟩) (fun t ht => (ra_102 hV ht).1)
          try have n0 := sm_nn (b := zbK (m 99) (m 110)) (ws := m 102) (n := 3100) (fun t ht => (ra_102 hV ht).1)
          try have n1 := sm_nn (b := zbKY (m 99) (m 110) (m 103) (m 94 14).toInt) (ws := m 102) (n := 3100) (fun t ht => (ra_102 hV ht).1)
          try have n2 := sm_nn (b := zbN1 (m 99) (m 110) (m 104) (m 94 15)) (ws := m 102) (n := 3100) (fun t ht => (ra_102 hV ht).1)
          try have hol := h3a.2.2.2.2 _ (by omega) hus h0k
          refine sp_205 (s) ((m 94 77)) hV55 (by omega) (by omega) (by omega) (by omega) (show (m 99) s.toNatClampNeg ≠ 0 from by first | (exact hus) | (assumption; done) | (exact ow5.1) | (exact ow3.1) | (exfalso; omega; done) | (exfalso; contradiction; done)) r_OW (fun m3 hV_m3 p0_m3 p1_m3 => zmv_n ?_)
          have p0_m3 : zOw (m 99) (m3 103) (m3 111) := p0_m3
          have p1_m3 : zmov s (m 94 77) (m 103) (m 111) (m3 103) (m3 111) := p1_m3
          try have mvs := mv_s p1_m3
          have hg56 : (0 ≤ s ∧ s.toNatClampNeg < 3100) := i_ix (by omega) (by omega)
          refine ⟨hg56, ?_⟩
          first | have f58 : 0 ≤ (m 102 s.toNatClampNeg).toInt ∧ (m 102 s.toNatClampNeg).toInt ≤ 60 := ra_102 (m := m) hV (k := s.toNatClampNeg) (i_ix (n := 3100) (by omega) (by omega)).2 | have b59 := i_bd (m 102 s.toNatClampNeg)
          first | have e60 : ((m 102 s.toNatClampNeg) + (1 : Int32)).toInt = (m 102 s.toNatClampNeg).toInt + (1) := i_addk rfl (by omega) (by omega) | have b61 := i_bd ((m 102 s.toNatClampNeg) + (1 : Int32))
          first | have e62 : ((m 94 77) + ((m 102 s.toNatClampNeg) + (1 : Int32))).toInt = (m 94 77).toInt + ((m 102 s.toNatClampNeg) + (1 : Int32)).toInt := i_add (by omega) (by omega) | have b63 := i_bd ((m 94 77) + ((m 102 s.toNatClampNeg) + (1 : Int32)))
          have hV57 : zV (ma_u (zov wr_205 (ma_u (ma_u (ma_u (ma_u m 110 s.toNatClampNeg (1 : Int32)) 119 (m 94 75).toNatClampNeg s) 94 75 ((m 94 75) + (1 : Int32))) 104 s.toNatClampNeg ((m 104 s.toNatClampNeg) + (1 : Int32))) m3) 94 77 ((m 94 77) + ((m 102 s.toNatClampNeg) + (1 : Int32)))) := us_94_77 hV_m3 (by omega) (by omega)
          have f64 : 0 ≤ (m 94 60).toInt ∧ (m 94 60).toInt ≤ 1600 := rs_94_60 (m := m) hV
          exact K _ (zF_u (zF_zov (zF_u (zF_u (zF_u (zF_u zF_rfl rfl) rfl) rfl) rfl) ws_205_207) rfl) hV57 (show zKS ((ma_u m 110 s.toNatClampNeg (1 : Int32)) 110) ((m 94 75) + (1 : Int32)) from by first | (exact KS_push r_CMK (by assumption) (by omega) (by decide) (by assumption)) | (exfalso; omega; done) | (exfalso; contradiction; done)) p0_m3 (show zH2 (m 94 10) (m 94 11) (m 94 61) ((m 94 77) + ((m 102 s.toNatClampNeg) + (1 : Int32))) (m 99) ((ma_u m 110 s.toNatClampNeg (1 : Int32)) 110) (m 102) from by first | (exact fun hp => absurd hp (by omega)) | (exact fun _ => by have e1 := smN_keep (m := m) (c := 110) (us := m 99) (ws := m 102) (k := s.toNatClampNeg) (x := (1 : Int32)) (by omega) hus h0k (by decide); have e2 := smK_keep (m := m) (c := 110) (us := m 99) (ws := m 102) (k := s.toNatClampNeg) (x := (1 : Int32)) (by omega) hus h0k (by decide); omega) | (exfalso; omega; done) | (exfalso; contradiction; done)) (show zH3 (m 94 10) (m 94 13) (m 94 14) (m 94 15) (m 94 61) ((m 94 77) + ((m 102 s.toNatClampNeg) + (1 : Int32))) (m 94 60) (m 99) ((ma_u m 110 s.toNatClampNeg (1 : Int32)) 110) ((ma_u m 104 s.toNatClampNeg ((m 104 s.toNatClampNeg) + (1 : Int32))) 104) (m 102) (m3 103) (m3 111) from by first | (exact fun hp => absurd hp (by omega)) | (exact fun _ => ⟨by have e1 := smN0_same (m := m) (c := 110) (ma := m) (ca := 104) (us := m 99) (ws := m 102) (a := m 94 15) (y := (m 104 s.toNatClampNeg) + (1 : Int32)) (k := s.toNatClampNeg) (x := (1 : Int32)) (by decide) hg; omega, by have e1 := smN1_keep (m := m) (c := 110) (ma := m) (ca := 104) (us := m 99) (ws := m 102) (a := m 94 15) (y := (m 104 s.toNatClampNeg) + (1 : Int32)) (k := s.toNatClampNeg) (x := (1 : Int32)) (by omega) hus h0k (by decide) hg; omega, by have e1 := smKY_old (m := m) (c := 110) (us := m 99) (ws := m 102) (ol := (m 94 14).toInt) (x := (1 : Int32)) h0k p1_m3 (by omega); omega, PK_add h3a.2.2.2.1 p1_m3 rfl (by omega) (by omega) (h3a.2.2.2.2 _ (by omega) hus h0k) (fun t ht => (ra_103 hV ht).1) (fun t ht => (ra_102 hV ht).1) (by omega) (by omega) (by omega), H3_rest h3a.2.2.2.2 p1_m3 (by decide)⟩) | (exact fun _ => ⟨by have e1 := smN0_keep (m := m) (c := 110) (ma := m) (ca := 104) (us := m 99) (ws := m 102) (a := m 94 15) (y := (m 104 s.toNatClampNeg) + (1 : Int32)) (k := s.toNatClampNeg) (x := (1 : Int32)) (by omega) hus h0k (by decide) hng; omega, by have e1 := smN1_same (m := m) (c := 110) (ma := m) (ca := 104) (us := m 99) (ws := m 102) (a := m 94 15) (y := (m 104 s.toNatClampNeg) + (1 : Int32)) (k := s.toNatClampNeg) (x := (1 : Int32)) (by decide) hng; omega, by have e1 := smKY_young (m := m) (c := 110) (us := m 99) (ws := m 102) (ol := (m 94 14).toInt) (x := (1 : Int32)) (by omega) hus h0k (by decide) p1_m3 (by omega); omega, PK_hi h3a.2.2.2.1 p1_m3 (by omega) (h3a.2.2.2.2 _ (by omega) hus h0k) (fun t ht => (ra_103 hV ht).1), H3_rest h3a.2.2.2.2 p1_m3 (by decide)⟩) | (exfalso; omega; done) | (exfalso; contradiction; done)) (show s.toInt < 0 ∨ ((ma_u m 110 s.toNatClampNeg (1 : Int32)) 110) s.toNatClampNeg ≠ 0 from by first | (exact Or.inr (by rw [mu_self]; decide)) | (exfalso; omega; done) | (exfalso; contradiction; done)) (show zle (m 110) ((ma_u m 110 s.toNatClampNeg (1 : Int32)) 110) from by first | (exact zle_push zle_rfl (by decide)) | (exfalso; omega; done) | (exfalso; contradiction; done)) (show (m 94 76).toInt ≤ ((m 94 75) + (1 : Int32)).toInt from by omega) (show zCQ ((ma_u m 110 s.toNatClampNeg (1 : Int32)) 110) (m 98) (m 101) (m 102) (m 108) ((ma_u m 119 (m 94 75).toNatClampNeg s) 119) (m 94 76) ((m 94 75) + (1 : Int32)) XX CU II from by first | (exact CQ_push r_CQ (by decide) (by omega) (by omega) rfl (by assumption)) | (exfalso; omega; done) | (exfalso; contradiction; done)) (show zKU (m 94 10) (m 99) ((ma_u m 110 s.toNatClampNeg (1 : Int32)) 110) from by first | (exact KU_push r_KU (fun _ => hus)) | (exfalso; omega; done) | (exfalso; contradiction; done)) (show (m 94 10).toInt = 3 → zax (m 103) (m3 103) (m 94 60).toInt from by first | (exact fun hp => absurd hp (by omega)) | (exact fun _ => zax_mv p1_m3 (by omega) (by omega)) | (exfalso; omega; done) | (exfalso; contradiction; done)) (show (m 94 60).toInt ≤ (m 94 60).toInt from by omega)
      · skip
        have g65 := i_ne h18
        have f66 : 0 ≤ (m 94 77).toInt ∧ (m 94 77).toInt ≤ 4600 := rs_94_77 (m := m) hV
        have li68 : (1 : Int32).toInt = 1 := rfl
        have hV67 : zV (ma_u m 110 s.toNatClampNeg (1 : Int32)) := ua_110 hV (by omega) (by omega)
        have hV69 : zV (ma_u (ma_u m 110 s.toNatClampNeg (1 : Int32)) 119 (m 94 75).toNatClampNeg s) := ua_119 hV67 (by omega) (by omega)
        first | have e71 : ((m 94 75) + (1 : Int32)).toInt = (m 94 75).toInt + (1) := i_addk rfl (by omega) (by omega) | have b72 := i_bd ((m 94 75) + (1 : Int32))
        have hV70 : zV (ma_u (ma_u (ma_u m 110 s.toNatClampNeg (1 : Int32)) 119 (m 94 75).toNatClampNeg s) 94 75 ((m 94 75) + (1 : Int32))) := us_94_75 hV69 (by omega) (by omega)
        try have hus : m 99 s.toNatClampNeg ≠ 0 := r_SU2.elim (fun z => absurd z (by omega)) id
        try have hws := ra_102 (m := m) hV (k := s.toNatClampNeg) (by omega)
        try have h0k : m 110 s.toNatClampNeg = 0 := by assumption
        try have hg : (m 104 s.toNatClampNeg) + (1 : Int32) = (m 94 15) := (mu_self (m := m) (c := 104) (k := s.toNatClampNeg) (x := (m 104 s.toNatClampNeg) + (1 : Int32))).symm.trans (by assumption)
        try have hng : ¬ (m 104 s.toNatClampNeg) + (1 : Int32) = (m 94 15) := fun z => absurd ((mu_self (m := m) (c := 104) (k := s.toNatClampNeg) (x := (m 104 s.toNatClampNeg) + (1 : Int32))).trans z) (by assumption)
        try have b2 := zB2_le (hf := m 94 61) (ro := m 94 11) (rs_94_11 hV).1
        try have b2b := (rs_94_11 hV).2
        try have b3 := zB3_le (hf := m 94 61) (ol := m 94 14) (yo := m 94 13) (rs_94_13 hV).1
        try have b3b := (rs_94_13 hV).2
        try have b3c := (rs_94_14 hV).2
        try have h2a := r_H2 (by omega)
        try have h3a := r_H3 (by omega)
        try have g2 := sm_ge (b := zbN (m 99) (m 110)) (ws := m 102) (n := 3100) (s := s.toNatClampNeg) (by omega) (decide_eq_true ⟨hus, h0k⟩) (fun t ht => (ra_102 hV ht).1)
        try have g3 := sm_ge (b := zbN0 (m 99) (m 110) (m 104) (m 94 15)) (ws := m 102) (n := 3100) (s := s.toNatClampNeg) (by omega) (decide_eq_true ⟨hus, h0k, hng⟩) (fun t ht => (ra_102 hV ht).1)
        try have g4 := sm_ge (b := zbN1 (m 99) (m 110) (m 104) (m 94 15)) (ws := m 102) (n := 3100) (s := s.toNatClampNeg) (by omega) (decide_eq_true ⟨hus, h0k, hg⟩) (fun t ht => (ra_102 hV ht).1)
        try have n0 := sm_nn (b := zbK (m 99) (m 110)) (ws := m 102) (n := 3100) (fun t ht => (ra_102 hV ht).1)
        try have n1 := sm_nn (b := zbKY (m 99) (m 110) (m 103) (m 94 14).toInt) (ws := m 102) (n := 3100) (fun t ht => (ra_102 hV ht).1)
        try have n2 := sm_nn (b := zbN1 (m 99) (m 110) (m 104) (m 94 15)) (ws := m 102) (n := 3100) (fun t ht => (ra_102 hV ht).1)
        try have hol := h3a.2.2.2.2 _ (by omega) hus h0k
        refine sp_205 (s) ((m 94 77)) hV70 (by omega) (by omega) (by omega) (by omega) (show (m 99) s.toNatClampNeg ≠ 0 from by first | (exact hus) | (assumption; done) | (exact ow5.1) | (exact ow3.1) | (exfalso; omega; done) | (exfalso; contradiction; done)) r_OW (fun m1 hV_m1 p0_m1 p1_m1 => zmv_n ?_)
        have p0_m1 : zOw (m 99) (m1 103) (m1 111) := p0_m1
        have p1_m1 : zmov s (m 94 77) (m 103) (m 111) (m1 103) (m1 111) := p1_m1
        try have mvs := mv_s p1_m1
        have hg73 : (0 ≤ s ∧ s.toNatClampNeg < 3100) := i_ix (by omega) (by omega)
        refine ⟨hg73, ?_⟩
        first | have f75 : 0 ≤ (m 102 s.toNatClampNeg).toInt ∧ (m 102 s.toNatClampNeg).toInt ≤ 60 := ra_102 (m := m) hV (k := s.toNatClampNeg) (i_ix (n := 3100) (by omega) (by omega)).2 | have b76 := i_bd (m 102 s.toNatClampNeg)
        first | have e77 : ((m 102 s.toNatClampNeg) + (1 : Int32)).toInt = (m 102 s.toNatClampNeg).toInt + (1) := i_addk rfl (by omega) (by omega) | have b78 := i_bd ((m 102 s.toNatClampNeg) + (1 : Int32))
        first | have e79 : ((m 94 77) + ((m 102 s.toNatClampNeg) + (1 : Int32))).toInt = (m 94 77).toInt + ((m 102 s.toNatClampNeg) + (1 : Int32)).toInt := i_add (by omega) (by omega) | have b80 := i_bd ((m 94 77) + ((m 102 s.toNatClampNeg) + (1 : Int32)))
        have hV74 : zV (ma_u (zov wr_205 (ma_u (ma_u (ma_u m 110 s.toNatClampNeg (1 : Int32)) 119 (m 94 75).toNatClampNeg s) 94 75 ((m 94 75) + (1 : Int32))) m1) 94 77 ((m 94 77) + ((m 102 s.toNatClampNeg) + (1 : Int32)))) := us_94_77 hV_m1 (by omega) (by omega)
        have f81 : 0 ≤ (m 94 60).toInt ∧ (m 94 60).toInt ≤ 1600 := rs_94_60 (m := m) hV
        exact K _ (zF_u (zF_zov (zF_u (zF_u (zF_u zF_rfl rfl) rfl) rfl) ws_205_207) rfl) hV74 (show zKS ((ma_u m 110 s.toNatClampNeg (1 : Int32)) 110) ((m 94 75) + (1 : Int32)) from by first | (exact KS_push r_CMK (by assumption) (by omega) (by decide) (by assumption)) | (exfalso; omega; done) | (exfalso; contradiction; done)) p0_m1 (show zH2 (m 94 10) (m 94 11) (m 94 61) ((m 94 77) + ((m 102 s.toNatClampNeg) + (1 : Int32))) (m 99) ((ma_u m 110 s.toNatClampNeg (1 : Int32)) 110) (m 102) from by first | (exact fun hp => absurd hp (by omega)) | (exact fun _ => by have e1 := smN_keep (m := m) (c := 110) (us := m 99) (ws := m 102) (k := s.toNatClampNeg) (x := (1 : Int32)) (by omega) hus h0k (by decide); have e2 := smK_keep (m := m) (c := 110) (us := m 99) (ws := m 102) (k := s.toNatClampNeg) (x := (1 : Int32)) (by omega) hus h0k (by decide); omega) | (exfalso; omega; done) | (exfalso; contradiction; done)) (show zH3 (m 94 10) (m 94 13) (m 94 14) (m 94 15) (m 94 61) ((m 94 77) + ((m 102 s.toNatClampNeg) + (1 : Int32))) (m 94 60) (m 99) ((ma_u m 110 s.toNatClampNeg (1 : Int32)) 110) (m 104) (m 102) (m1 103) (m1 111) from by first | (exact fun hp => absurd hp (by omega)) | (exact fun _ => ⟨by have e1 := smN0_same (m := m) (c := 110) (ma := m) (ca := 104) (us := m 99) (ws := m 102) (a := m 94 15) (y := (m 104 s.toNatClampNeg) + (1 : Int32)) (k := s.toNatClampNeg) (x := (1 : Int32)) (by decide) hg; omega, by have e1 := smN1_keep (m := m) (c := 110) (ma := m) (ca := 104) (us := m 99) (ws := m 102) (a := m 94 15) (y := (m 104 s.toNatClampNeg) + (1 : Int32)) (k := s.toNatClampNeg) (x := (1 : Int32)) (by omega) hus h0k (by decide) hg; omega, by have e1 := smKY_old (m := m) (c := 110) (us := m 99) (ws := m 102) (ol := (m 94 14).toInt) (x := (1 : Int32)) h0k p1_m1 (by omega); omega, PK_add h3a.2.2.2.1 p1_m1 rfl (by omega) (by omega) (h3a.2.2.2.2 _ (by omega) hus h0k) (fun t ht => (ra_103 hV ht).1) (fun t ht => (ra_102 hV ht).1) (by omega) (by omega) (by omega), H3_rest h3a.2.2.2.2 p1_m1 (by decide)⟩) | (exact fun _ => ⟨by have e1 := smN0_keep (m := m) (c := 110) (ma := m) (ca := 104) (us := m 99) (ws := m 102) (a := m 94 15) (y := (m 104 s.toNatClampNeg) + (1 : Int32)) (k := s.toNatClampNeg) (x := (1 : Int32)) (by omega) hus h0k (by decide) hng; omega, by have e1 := smN1_same (m := m) (c := 110) (ma := m) (ca := 104) (us := m 99) (ws := m 102) (a := m 94 15) (y := (m 104 s.toNatClampNeg) + (1 : Int32)) (k := s.toNatClampNeg) (x := (1 : Int32)) (by decide) hng; omega, by have e1 := smKY_young (m := m) (c := 110) (us := m 99) (ws := m 102) (ol := (m 94 14).toInt) (x := (1 : Int32)) (by omega) hus h0k (by decide) p1_m1 (by omega); omega, PK_hi h3a.2.2.2.1 p1_m1 (by omega) (h3a.2.2.2.2 _ (by omega) hus h0k) (fun t ht => (ra_103 hV ht).1), H3_rest h3a.2.2.2.2 p1_m1 (by decide)⟩) | (exfalso; omega; done) | (exfalso; contradiction; done)) (show s.toInt < 0 ∨ ((ma_u m 110 s.toNatClampNeg (1 : Int32)) 110) s.toNatClampNeg ≠ 0 from by first | (exact Or.inr (by rw [mu_self]; decide)) | (exfalso; omega; done) | (exfalso; contradiction; done)) (show zle (m 110) ((ma_u m 110 s.toNatClampNeg (1 : Int32)) 110) from by first | (exact zle_push zle_rfl (by decide)) | (exfalso; omega; done) | (exfalso; contradiction; done)) (show (m 94 76).toInt ≤ ((m 94 75) + (1 : Int32)).toInt from by omega) (show zCQ ((ma_u m 110 s.toNatClampNeg (1 : Int32)) 110) (m 98) (m 101) (m 102) (m 108) ((ma_u m 119 (m 94 75).toNatClampNeg s) 119) (m 94 76) ((m 94 75) + (1 : Int32)) XX CU II from by first | (exact CQ_push r_CQ (by decide) (by omega) (by omega) rfl (by assumption)) | (exfalso; omega; done) | (exfalso; contradiction; done)) (show zKU (m 94 10) (m 99) ((ma_u m 110 s.toNatClampNeg (1 : Int32)) 110) from by first | (exact KU_push r_KU (fun _ => hus)) | (exfalso; omega; done) | (exfalso; contradiction; done)) (show (m 94 10).toInt = 3 → zax (m 103) (m1 103) (m 94 60).toInt from by first | (exact fun hp => absurd hp (by omega)) | (exact fun _ => zax_mv p1_m1 (by omega) (by omega)) | (exfalso; omega; done) | (exfalso; contradiction; done)) (show (m 94 60).toInt ≤ (m 94 60).toInt from by omega)
    · skip
      have g82 := i_ne h13
      have f83 : 0 ≤ (m 94 60).toInt ∧ (m 94 60).toInt ≤ 1600 := rs_94_60 (m := m) hV
      exact K _ zF_rfl hV r_CMK r_OW r_H2 r_H3 (show s.toInt < 0 ∨ (m 110) s.toNatClampNeg ≠ 0 from by first | (exact Or.inl (by omega)) | (exact Or.inr (by assumption)) | (exfalso; omega; done) | (exfalso; contradiction; done)) (show zle (m 110) (m 110) from by first | (exact zle_rfl) | (exfalso; omega; done) | (exfalso; contradiction; done)) (show (m 94 76).toInt ≤ (m 94 75).toInt from by omega) r_CQ r_KU (show (m 94 10).toInt = 3 → zax (m 103) (m 103) (m 94 60).toInt from by first | (exact fun _ => zax_rfl) | (exfalso; omega; done) | (exfalso; contradiction; done)) (show (m 94 60).toInt ≤ (m 94 60).toInt from by omega)

