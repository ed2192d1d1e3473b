/-! from 94.486 -/
/-! the reference (written by wip/tools/gen94m.py) -/
set_option maxRecDepth 100000 in
theorem hm_206 : ma_md 206 = some (12, yX12_cleanHalves, cX12_cleanHalves, 2, (some (FieldType.int))) := rfl
theorem f_12_273_12 : ma_fld 12 273 12 = some 61 := by decide +kernel
theorem v_12_371_12 : ma_vl 12 371 12 = some (1, 209, 1) := by decide +kernel
theorem dX12_cleanHalves_0 : decode cX12_cleanHalves 0 = .ok (.aload_n 0, 1) := by decide +kernel
theorem dX12_cleanHalves_1 : decode cX12_cleanHalves 1 = .ok (.dup, 1) := by decide +kernel
theorem dX12_cleanHalves_5 : decode cX12_cleanHalves 5 = .ok (.iconst 1, 1) := by decide +kernel
theorem dX12_cleanHalves_6 : decode cX12_cleanHalves 6 = .ok (.iadd, 1) := by decide +kernel
theorem dX12_cleanHalves_10 : decode cX12_cleanHalves 10 = .ok (.aload_n 0, 1) := by decide +kernel
theorem dX12_cleanHalves_11 : decode cX12_cleanHalves 11 = .ok (.invokevirtual 301, 3) := by decide +kernel
theorem dX12_cleanHalves_14 : decode cX12_cleanHalves 14 = .ok (.aload_n 0, 1) := by decide +kernel
theorem dX12_cleanHalves_15 : decode cX12_cleanHalves 15 = .ok (.iconst 0, 1) := by decide +kernel
theorem dX12_cleanHalves_19 : decode cX12_cleanHalves 19 = .ok (.aload_n 0, 1) := by decide +kernel
theorem dX12_cleanHalves_20 : decode cX12_cleanHalves 20 = .ok (.iconst 0, 1) := by decide +kernel
theorem dX12_cleanHalves_24 : decode cX12_cleanHalves 24 = .ok (.aload_n 0, 1) := by decide +kernel
theorem dX12_cleanHalves_25 : decode cX12_cleanHalves 25 = .ok (.iconst 1, 1) := by decide +kernel
theorem dX12_cleanHalves_26 : decode cX12_cleanHalves 26 = .ok (.aload_n 0, 1) := by decide +kernel
theorem dX12_cleanHalves_30 : decode cX12_cleanHalves 30 = .ok (.isub, 1) := by decide +kernel
theorem dX12_cleanHalves_34 : decode cX12_cleanHalves 34 = .ok (.aload_n 0, 1) := by decide +kernel
theorem dX12_cleanHalves_35 : decode cX12_cleanHalves 35 = .ok (.aload_n 0, 1) := by decide +kernel
theorem dX12_cleanHalves_39 : decode cX12_cleanHalves 39 = .ok (.aload_n 0, 1) := by decide +kernel
theorem dX12_cleanHalves_43 : decode cX12_cleanHalves 43 = .ok (.imul, 1) := by decide +kernel
theorem dX12_cleanHalves_47 : decode cX12_cleanHalves 47 = .ok (.iconst 0, 1) := by decide +kernel
theorem dX12_cleanHalves_48 : decode cX12_cleanHalves 48 = .ok (.istore_n 1, 1) := by decide +kernel
theorem dX12_cleanHalves_44 : decode cX12_cleanHalves 44 = .ok (.putfield 359, 3) := by decide +kernel
theorem dX12_cleanHalves_40 : decode cX12_cleanHalves 40 = .ok (.getfield 202, 3) := by decide +kernel
theorem dX12_cleanHalves_36 : decode cX12_cleanHalves 36 = .ok (.getfield 273, 3) := by decide +kernel
theorem dX12_cleanHalves_31 : decode cX12_cleanHalves 31 = .ok (.putfield 273, 3) := by decide +kernel
theorem dX12_cleanHalves_27 : decode cX12_cleanHalves 27 = .ok (.getfield 273, 3) := by decide +kernel
theorem dX12_cleanHalves_21 : decode cX12_cleanHalves 21 = .ok (.putfield 362, 3) := by decide +kernel
theorem dX12_cleanHalves_16 : decode cX12_cleanHalves 16 = .ok (.putfield 356, 3) := by decide +kernel
theorem dX12_cleanHalves_7 : decode cX12_cleanHalves 7 = .ok (.putfield 249, 3) := by decide +kernel
theorem dX12_cleanHalves_2 : decode cX12_cleanHalves 2 = .ok (.getfield 249, 3) := by decide +kernel
theorem dX12_cleanHalves_49 : decode cX12_cleanHalves 49 = .ok (.iload_n 1, 1) := by decide +kernel
theorem dX12_cleanHalves_50 : decode cX12_cleanHalves 50 = .ok (.bipush 16, 2) := by decide +kernel
theorem dX12_cleanHalves_71 : decode cX12_cleanHalves 71 = .ok (.iconst 0, 1) := by decide +kernel
theorem dX12_cleanHalves_72 : decode cX12_cleanHalves 72 = .ok (.istore_n 1, 1) := by decide +kernel
theorem dX12_cleanHalves_55 : decode cX12_cleanHalves 55 = .ok (.aload_n 0, 1) := by decide +kernel
theorem dX12_cleanHalves_56 : decode cX12_cleanHalves 56 = .ok (.aload_n 0, 1) := by decide +kernel
theorem dX12_cleanHalves_60 : decode cX12_cleanHalves 60 = .ok (.iload_n 1, 1) := by decide +kernel
theorem dX12_cleanHalves_62 : decode cX12_cleanHalves 62 = .ok (.invokevirtual 365, 3) := by decide +kernel
theorem dX12_cleanHalves_65 : decode cX12_cleanHalves 65 = .ok (.iinc 1 1, 3) := by decide +kernel
theorem dX12_cleanHalves_68 : decode cX12_cleanHalves 68 = .ok (.goto (-19), 3) := by decide +kernel
theorem dX12_cleanHalves_61 : decode cX12_cleanHalves 61 = .ok (.iaload, 1) := by decide +kernel
theorem dX12_cleanHalves_57 : decode cX12_cleanHalves 57 = .ok (.getfield 68, 3) := by decide +kernel
theorem dX12_cleanHalves_52 : decode cX12_cleanHalves 52 = .ok (.if_icmp .ge 19, 3) := by decide +kernel
theorem dX12_cleanHalves_73 : decode cX12_cleanHalves 73 = .ok (.iload_n 1, 1) := by decide +kernel
theorem dX12_cleanHalves_74 : decode cX12_cleanHalves 74 = .ok (.aload_n 0, 1) := by decide +kernel
theorem dX12_cleanHalves_97 : decode cX12_cleanHalves 97 = .ok (.aload_n 0, 1) := by decide +kernel
theorem dX12_cleanHalves_98 : decode cX12_cleanHalves 98 = .ok (.invokevirtual 368, 3) := by decide +kernel
theorem dX12_cleanHalves_101 : decode cX12_cleanHalves 101 = .ok (.aload_n 0, 1) := by decide +kernel
theorem dX12_cleanHalves_102 : decode cX12_cleanHalves 102 = .ok (.iconst 0, 1) := by decide +kernel
theorem dX12_cleanHalves_103 : decode cX12_cleanHalves 103 = .ok (.invokevirtual 371, 3) := by decide +kernel
theorem dX12_cleanHalves_106 : decode cX12_cleanHalves 106 = .ok (.aload_n 0, 1) := by decide +kernel
theorem dX12_cleanHalves_107 : decode cX12_cleanHalves 107 = .ok (.invokevirtual 339, 3) := by decide +kernel
theorem dX12_cleanHalves_110 : decode cX12_cleanHalves 110 = .ok (.aload_n 0, 1) := by decide +kernel
theorem dX12_cleanHalves_111 : decode cX12_cleanHalves 111 = .ok (.aload_n 0, 1) := by decide +kernel
theorem dX12_cleanHalves_118 : decode cX12_cleanHalves 118 = .ok (.aload_n 0, 1) := by decide +kernel
theorem dX12_cleanHalves_119 : decode cX12_cleanHalves 119 = .ok (.invokevirtual 342, 3) := by decide +kernel
theorem dX12_cleanHalves_122 : decode cX12_cleanHalves 122 = .ok (.ireturn, 1) := by decide +kernel
theorem dX12_cleanHalves_115 : decode cX12_cleanHalves 115 = .ok (.putfield 276, 3) := by decide +kernel
theorem dX12_cleanHalves_112 : decode cX12_cleanHalves 112 = .ok (.getfield 359, 3) := by decide +kernel
theorem dX12_cleanHalves_81 : decode cX12_cleanHalves 81 = .ok (.aload_n 0, 1) := by decide +kernel
theorem dX12_cleanHalves_82 : decode cX12_cleanHalves 82 = .ok (.aload_n 0, 1) := by decide +kernel
theorem dX12_cleanHalves_86 : decode cX12_cleanHalves 86 = .ok (.iload_n 1, 1) := by decide +kernel
theorem dX12_cleanHalves_88 : decode cX12_cleanHalves 88 = .ok (.invokevirtual 365, 3) := by decide +kernel
theorem dX12_cleanHalves_91 : decode cX12_cleanHalves 91 = .ok (.iinc 1 1, 3) := by decide +kernel
theorem dX12_cleanHalves_94 : decode cX12_cleanHalves 94 = .ok (.goto (-21), 3) := by decide +kernel
theorem dX12_cleanHalves_87 : decode cX12_cleanHalves 87 = .ok (.iaload, 1) := by decide +kernel
theorem dX12_cleanHalves_83 : decode cX12_cleanHalves 83 = .ok (.getfield 74, 3) := by decide +kernel
theorem dX12_cleanHalves_78 : decode cX12_cleanHalves 78 = .ok (.if_icmp .ge 19, 3) := by decide +kernel
theorem dX12_cleanHalves_75 : decode cX12_cleanHalves 75 = .ok (.getfield 261, 3) := by decide +kernel
def wr_206 (c k : Nat) : Bool := Nat.beq c 99 || Nat.beq c 103 || Nat.beq c 104 || Nat.beq c 105 || Nat.beq c 109 || Nat.beq c 110 || Nat.beq c 111 || Nat.beq c 113 || Nat.beq c 114 || Nat.beq c 119 || (Nat.beq c 94 && (Nat.beq k 44 || Nat.beq k 45 || Nat.beq k 47 || Nat.beq k 48 || Nat.beq k 49 || Nat.beq k 55 || Nat.beq k 59 || Nat.beq k 60 || Nat.beq k 61 || Nat.beq k 75 || Nat.beq k 76 || Nat.beq k 77))
theorem ws_189_206 : ∀ c k, wr_189 c k = true → wr_206 c k = true := by
  intro c k h
  simp only [wr_189, wr_206, Bool.or_eq_true, Bool.and_eq_true, Nat.beq_eq] at h ⊢
  omega
theorem ws_199_206 : ∀ c k, wr_199 c k = true → wr_206 c k = true := by
  intro c k h
  simp only [wr_199, wr_206, Bool.or_eq_true, Bool.and_eq_true, Nat.beq_eq] at h ⊢
  omega
theorem ws_200_206 : ∀ c k, wr_200 c k = true → wr_206 c k = true := by
  intro c k h
  simp only [wr_200, wr_206, Bool.or_eq_true, Bool.and_eq_true, Nat.beq_eq] at h ⊢
  omega
theorem ws_207_206 : ∀ c k, wr_207 c k = true → wr_206 c k = true := by
  intro c k h
  simp only [wr_207, wr_206, Bool.or_eq_true, Bool.and_eq_true, Nat.beq_eq] at h ⊢
  omega
theorem ws_208_206 : ∀ c k, wr_208 c k = true → wr_206 c k = true := by
  intro c k h
  simp only [wr_208, wr_206, Bool.or_eq_true, Bool.and_eq_true, Nat.beq_eq] at h ⊢
  omega
theorem ws_209_206 : ∀ c k, wr_209 c k = true → wr_206 c k = true := by
  intro c k h
  simp only [wr_209, wr_206, Bool.or_eq_true, Bool.and_eq_true, Nat.beq_eq] at h ⊢
  omega
theorem g_206_0 {X : Nat × (Nat → Int32)} {m : Nat → Nat → Int32} {P : Option ma_V → (Nat → Nat → Int32) → Prop}  (h : zm X 0 0 189 0 [(0, .inr (.inr (some 94)))] (ma_u m 94 47 ((m 94 47) + (1 : Int32))) (zmv (fun m1 => zm X 5 109 206 49 [(0, .inr (.inr (some 94))), (1, .inl (0 : Int32))] (ma_u (ma_u (ma_u (ma_u m1 94 75 (0 : Int32)) 94 76 (0 : Int32)) 94 61 ((1 : Int32) - (m1 94 61))) 94 77 (((1 : Int32) - (m1 94 61)) * (m1 94 11))) P))) : zm X 5 109 206 0 [(0, .inr (.inr (some 94)))] m P := by
  intro d w S Q hd hw hS hm HQ
  subst hm
  refine zw_push hm_206 dX12_cleanHalves_0 (v := .inr (.inr (some 94))) rfl ?_
  refine zw_stk hm_206 dX12_cleanHalves_1 (st₉ := [.inr (.inr (some 94)), .inr (.inr (some 94))]) rfl rfl ?_
  refine zw_gf hm_206 dX12_cleanHalves_2 (v := .inl ((mI S) 94 47)) (zT_is hS s_94) (zT_t hS s_94) rfl f_12_249_12 rfl ?_
  refine zw_push hm_206 dX12_cleanHalves_5 (v := .inl (1 : Int32)) rfl ?_
  refine zw_stk hm_206 dX12_cleanHalves_6 (st₉ := [.inl (((mI S) 94 47) + (1 : Int32)), .inr (.inr (some 94))]) rfl rfl ?_
  refine zw_pf hm_206 dX12_cleanHalves_7 (zT_is hS s_94) (zT_t hS s_94) p_12_249_12 zk_int ?_
  refine zw_push hm_206 dX12_cleanHalves_10 (v := .inr (.inr (some 94))) rfl ?_
  refine zw_cv hm_206 dX12_cleanHalves_11 v_12_301_12 hm_189 [] [] rfl (zT_rt (zT_pi hS) s_94 rfl) ⟨by omega, by omega⟩ rfl (h _ _ (ma_put S 94 47 (.inl (((mI S) 94 47) + (1 : Int32)))) _ (by omega) (by omega) (zT_pi hS) rfl (fun o9 m1 hv => ?_))
  obtain ⟨rfl, h⟩ := zmv_of hv
  show ma_wp X d w 206 14 [(0, .inr (.inr (some 94)))] [] (zst S m1) _
  refine zw_push hm_206 dX12_cleanHalves_14 (v := .inr (.inr (some 94))) rfl ?_
  refine zw_push hm_206 dX12_cleanHalves_15 (v := .inl (0 : Int32)) rfl ?_
  refine zw_pf hm_206 dX12_cleanHalves_16 (zT_is (zT_zst hS m1) s_94) (zT_t (zT_zst hS m1) s_94) p_12_356_12 zk_int ?_
  refine zw_push hm_206 dX12_cleanHalves_19 (v := .inr (.inr (some 94))) rfl ?_
  refine zw_push hm_206 dX12_cleanHalves_20 (v := .inl (0 : Int32)) rfl ?_
  refine zw_pf hm_206 dX12_cleanHalves_21 (zT_is (zT_pi (zT_zst hS m1)) s_94) (zT_t (zT_pi (zT_zst hS m1)) s_94) p_12_362_12 zk_int ?_
  refine zw_push hm_206 dX12_cleanHalves_24 (v := .inr (.inr (some 94))) rfl ?_
  refine zw_push hm_206 dX12_cleanHalves_25 (v := .inl (1 : Int32)) rfl ?_
  refine zw_push hm_206 dX12_cleanHalves_26 (v := .inr (.inr (some 94))) rfl ?_
  refine zw_gf hm_206 dX12_cleanHalves_27 (v := .inl (m1 94 61)) (zT_is (zT_pi (zT_pi (zT_zst hS m1))) s_94) (zT_t (zT_pi (zT_pi (zT_zst hS m1))) s_94) rfl f_12_273_12 rfl ?_
  refine zw_stk hm_206 dX12_cleanHalves_30 (st₉ := [.inl ((1 : Int32) - (m1 94 61)), .inr (.inr (some 94))]) rfl rfl ?_
  refine zw_pf hm_206 dX12_cleanHalves_31 (zT_is (zT_pi (zT_pi (zT_zst hS m1))) s_94) (zT_t (zT_pi (zT_pi (zT_zst hS m1))) s_94) p_12_273_12 zk_int ?_
  refine zw_push hm_206 dX12_cleanHalves_34 (v := .inr (.inr (some 94))) rfl ?_
  refine zw_push hm_206 dX12_cleanHalves_35 (v := .inr (.inr (some 94))) rfl ?_
  refine zw_gf hm_206 dX12_cleanHalves_36 (v := .inl ((1 : Int32) - (m1 94 61))) (zT_is (zT_pi (zT_pi (zT_pi (zT_zst hS m1)))) s_94) (zT_t (zT_pi (zT_pi (zT_pi (zT_zst hS m1)))) s_94) rfl f_12_273_12 rfl ?_
  refine zw_push hm_206 dX12_cleanHalves_39 (v := .inr (.inr (some 94))) rfl ?_
  refine zw_gf hm_206 dX12_cleanHalves_40 (v := .inl (m1 94 11)) (zT_is (zT_pi (zT_pi (zT_pi (zT_zst hS m1)))) s_94) (zT_t (zT_pi (zT_pi (zT_pi (zT_zst hS m1)))) s_94) rfl f_12_202_12 rfl ?_
  refine zw_stk hm_206 dX12_cleanHalves_43 (st₉ := [.inl (((1 : Int32) - (m1 94 61)) * (m1 94 11)), .inr (.inr (some 94))]) rfl rfl ?_
  refine zw_pf hm_206 dX12_cleanHalves_44 (zT_is (zT_pi (zT_pi (zT_pi (zT_zst hS m1)))) s_94) (zT_t (zT_pi (zT_pi (zT_pi (zT_zst hS m1)))) s_94) p_12_359_12 zk_int ?_
  refine zw_push hm_206 dX12_cleanHalves_47 (v := .inl (0 : Int32)) rfl ?_
  refine zw_sto hm_206 dX12_cleanHalves_48 [(1, .inl (0 : Int32)), (0, .inr (.inr (some 94)))] rfl rfl rfl ?_
  exact zw_sub (ma_nd_of (ks := [0, 1]) rfl (by decide)) (ma_nd_of (ks := [1, 0]) rfl (by decide)) (ma_le_cons rfl (ma_le_cons rfl (ma_le_nil _))) (h d w _ Q (by omega) (by omega) (zT_pi (zT_pi (zT_pi (zT_pi (zT_zst hS m1))))) rfl HQ)
theorem g_206_49 {X : Nat × (Nat → Int32)} {m : Nat → Nat → Int32} {P : Option ma_V → (Nat → Nat → Int32) → Prop} (l1 : Int32) (h : if (16 : Int32) ≤ l1 then (zm X 5 109 206 73 [(0, .inr (.inr (some 94))), (1, .inl (0 : Int32))] m P) else ((0 ≤ l1 ∧ l1.toNatClampNeg < 16) ∧ (zm X 2 43 207 0 [(0, .inr (.inr (some 94))), (1, .inl (m 112 l1.toNatClampNeg))] m (zmv (fun m1 => zm X 5 109 206 49 [(0, .inr (.inr (some 94))), (1, .inl (l1 + (1 : Int32)))] m1 P))))) : zm X 5 109 206 49 [(0, .inr (.inr (some 94))), (1, .inl l1)] m P := by
  intro d w S Q hd hw hS hm HQ
  subst hm
  refine zw_push hm_206 dX12_cleanHalves_49 (v := .inl l1) rfl ?_
  refine zw_push hm_206 dX12_cleanHalves_50 (v := .inl (16 : Int32)) rfl ?_
  refine zw_if2 hm_206 dX12_cleanHalves_52 (t := 71) rfl zc2_ge ?_ ?_
  · intro hc
    rw [if_pos hc] at h
    refine zw_push hm_206 dX12_cleanHalves_71 (v := .inl (0 : Int32)) rfl ?_
    refine zw_sto hm_206 dX12_cleanHalves_72 [(1, .inl (0 : Int32)), (0, .inr (.inr (some 94)))] rfl rfl rfl ?_
    exact zw_sub (ma_nd_of (ks := [0, 1]) rfl (by decide)) (ma_nd_of (ks := [1, 0]) rfl (by decide)) (ma_le_cons rfl (ma_le_cons rfl (ma_le_nil _))) (h d w _ Q (by omega) (by omega) hS rfl HQ)
  · intro hc
    rw [if_neg hc] at h
    refine zw_push hm_206 dX12_cleanHalves_55 (v := .inr (.inr (some 94))) rfl ?_
    refine zw_push hm_206 dX12_cleanHalves_56 (v := .inr (.inr (some 94))) rfl ?_
    refine zw_gf hm_206 dX12_cleanHalves_57 (v := .inr (.inr (some 112))) (zT_is hS s_94) (zT_t hS s_94) rfl f_12_68_12 (zT_f hS r_94_51) ?_
    refine zw_push hm_206 dX12_cleanHalves_60 (v := .inl l1) rfl ?_
    obtain ⟨hg, h⟩ := h
    refine zw_ia hm_206 dX12_cleanHalves_61 (zT_is hS s_112) (zT_h hS s_112) rfl hg ?_
    show ma_wp X d w 206 62 [(0, .inr (.inr (some 94))), (1, .inl l1)] [.inl ((mI S) 112 l1.toNatClampNeg), .inr (.inr (some 94))] S _
    refine zw_cv hm_206 dX12_cleanHalves_62 v_12_365_12 hm_207 [.inl ((mI S) 112 l1.toNatClampNeg)] [] rfl (zT_rt hS s_94 rfl) ⟨by omega, by omega⟩ rfl (h _ _ S _ (by omega) (by omega) hS rfl (fun o9 m1 hv => ?_))
    obtain ⟨rfl, h⟩ := zmv_of hv
    show ma_wp X d w 206 65 [(0, .inr (.inr (some 94))), (1, .inl l1)] [] (zst S m1) _
    refine zw_sto hm_206 dX12_cleanHalves_65 [(1, .inl (l1 + (1 : Int32))), (0, .inr (.inr (some 94)))] rfl rfl rfl ?_
    refine zw_goto hm_206 dX12_cleanHalves_68 (t := 49) rfl ?_
    exact zw_sub (ma_nd_of (ks := [0, 1]) rfl (by decide)) (ma_nd_of (ks := [1, 0]) rfl (by decide)) (ma_le_cons rfl (ma_le_cons rfl (ma_le_nil _))) (h d w _ Q (by omega) (by omega) (zT_zst hS m1) rfl HQ)
theorem g_206_73 {X : Nat × (Nat → Int32)} {m : Nat → Nat → Int32} {P : Option ma_V → (Nat → Nat → Int32) → Prop} (l1 : Int32) (h : if (m 94 55) ≤ l1 then (zm X 3 64 208 0 [(0, .inr (.inr (some 94)))] m (zmv (fun m1 => zm X 4 86 209 0 [(0, .inr (.inr (some 94))), (1, .inl (0 : Int32))] m1 (zmv (fun m3 => zm X 0 0 199 0 [(0, .inr (.inr (some 94)))] m3 (zmv (fun m5 => zm X 2 44 200 0 [(0, .inr (.inr (some 94)))] (ma_u m5 94 59 (m5 94 77)) (zmi (fun v8 m7 => P (some (.inl v8)) m7))))))))) else ((0 ≤ l1 ∧ l1.toNatClampNeg < 3100) ∧ (zm X 2 43 207 0 [(0, .inr (.inr (some 94))), (1, .inl (m 114 l1.toNatClampNeg))] m (zmv (fun m9 => zm X 5 109 206 73 [(0, .inr (.inr (some 94))), (1, .inl (l1 + (1 : Int32)))] m9 P))))) : zm X 5 109 206 73 [(0, .inr (.inr (some 94))), (1, .inl l1)] m P := by
  intro d w S Q hd hw hS hm HQ
  subst hm
  refine zw_push hm_206 dX12_cleanHalves_73 (v := .inl l1) rfl ?_
  refine zw_push hm_206 dX12_cleanHalves_74 (v := .inr (.inr (some 94))) rfl ?_
  refine zw_gf hm_206 dX12_cleanHalves_75 (v := .inl ((mI S) 94 55)) (zT_is hS s_94) (zT_t hS s_94) rfl f_12_261_12 rfl ?_
  refine zw_if2 hm_206 dX12_cleanHalves_78 (t := 97) rfl zc2_ge ?_ ?_
  · intro hc
    rw [if_pos hc] at h
    refine zw_push hm_206 dX12_cleanHalves_97 (v := .inr (.inr (some 94))) rfl ?_
    refine zw_cv hm_206 dX12_cleanHalves_98 v_12_368_12 hm_208 [] [] rfl (zT_rt hS s_94 rfl) ⟨by omega, by omega⟩ rfl (h _ _ S _ (by omega) (by omega) hS rfl (fun o9 m1 hv => ?_))
    obtain ⟨rfl, h⟩ := zmv_of hv
    show ma_wp X d w 206 101 [(0, .inr (.inr (some 94))), (1, .inl l1)] [] (zst S m1) _
    refine zw_push hm_206 dX12_cleanHalves_101 (v := .inr (.inr (some 94))) rfl ?_
    refine zw_push hm_206 dX12_cleanHalves_102 (v := .inl (0 : Int32)) rfl ?_
    refine zw_cv hm_206 dX12_cleanHalves_103 v_12_371_12 hm_209 [.inl (0 : Int32)] [] rfl (zT_rt (zT_zst hS m1) s_94 rfl) ⟨by omega, by omega⟩ rfl (h _ _ (zst S m1) _ (by omega) (by omega) (zT_zst hS m1) rfl (fun o9 m3 hv => ?_))
    obtain ⟨rfl, h⟩ := zmv_of hv
    show ma_wp X d w 206 106 [(0, .inr (.inr (some 94))), (1, .inl l1)] [] (zst S m3) _
    refine zw_push hm_206 dX12_cleanHalves_106 (v := .inr (.inr (some 94))) rfl ?_
    refine zw_cv hm_206 dX12_cleanHalves_107 v_12_339_12 hm_199 [] [] rfl (zT_rt (zT_zst hS m3) s_94 rfl) ⟨by omega, by omega⟩ rfl (h _ _ (zst S m3) _ (by omega) (by omega) (zT_zst hS m3) rfl (fun o9 m5 hv => ?_))
    obtain ⟨rfl, h⟩ := zmv_of hv
    show ma_wp X d w 206 110 [(0, .inr (.inr (some 94))), (1, .inl l1)] [] (zst S m5) _
    refine zw_push hm_206 dX12_cleanHalves_110 (v := .inr (.inr (some 94))) rfl ?_
    refine zw_push hm_206 dX12_cleanHalves_111 (v := .inr (.inr (some 94))) rfl ?_
    refine zw_gf hm_206 dX12_cleanHalves_112 (v := .inl (m5 94 77)) (zT_is (zT_zst hS m5) s_94) (zT_t (zT_zst hS m5) s_94) rfl f_12_359_12 rfl ?_
    refine zw_pf hm_206 dX12_cleanHalves_115 (zT_is (zT_zst hS m5) s_94) (zT_t (zT_zst hS m5) s_94) p_12_276_12 zk_int ?_
    refine zw_push hm_206 dX12_cleanHalves_118 (v := .inr (.inr (some 94))) rfl ?_
    refine zw_cv hm_206 dX12_cleanHalves_119 v_12_342_12 hm_200 [] [] rfl (zT_rt (zT_pi (zT_zst hS m5)) s_94 rfl) ⟨by omega, by omega⟩ rfl (h _ _ (ma_put (zst S m5) 94 59 (.inl (m5 94 77))) _ (by omega) (by omega) (zT_pi (zT_zst hS m5)) rfl (fun o9 m7 hv => ?_))
    obtain ⟨v8, rfl, h⟩ := zmi_of hv
    show ma_wp X d w 206 122 [(0, .inr (.inr (some 94))), (1, .inl l1)] [.inl v8] (zst S m7) _
    exact zw_iret hm_206 dX12_cleanHalves_122 (HQ _ _ h)
  · intro hc
    rw [if_neg hc] at h
    refine zw_push hm_206 dX12_cleanHalves_81 (v := .inr (.inr (some 94))) rfl ?_
    refine zw_push hm_206 dX12_cleanHalves_82 (v := .inr (.inr (some 94))) rfl ?_
    refine zw_gf hm_206 dX12_cleanHalves_83 (v := .inr (.inr (some 114))) (zT_is hS s_94) (zT_t hS s_94) rfl f_12_74_12 (zT_f hS r_94_53) ?_
    refine zw_push hm_206 dX12_cleanHalves_86 (v := .inl l1) rfl ?_
    obtain ⟨hg, h⟩ := h
    refine zw_ia hm_206 dX12_cleanHalves_87 (zT_is hS s_114) (zT_h hS s_114) rfl hg ?_
    show ma_wp X d w 206 88 [(0, .inr (.inr (some 94))), (1, .inl l1)] [.inl ((mI S) 114 l1.toNatClampNeg), .inr (.inr (some 94))] S _
    refine zw_cv hm_206 dX12_cleanHalves_88 v_12_365_12 hm_207 [.inl ((mI S) 114 l1.toNatClampNeg)] [] rfl (zT_rt hS s_94 rfl) ⟨by omega, by omega⟩ rfl (h _ _ S _ (by omega) (by omega) hS rfl (fun o9 m9 hv => ?_))
    obtain ⟨rfl, h⟩ := zmv_of hv
    show ma_wp X d w 206 91 [(0, .inr (.inr (some 94))), (1, .inl l1)] [] (zst S m9) _
    refine zw_sto hm_206 dX12_cleanHalves_91 [(1, .inl (l1 + (1 : Int32))), (0, .inr (.inr (some 94)))] rfl rfl rfl ?_
    refine zw_goto hm_206 dX12_cleanHalves_94 (t := 73) rfl ?_
    exact zw_sub (ma_nd_of (ks := [0, 1]) rfl (by decide)) (ma_nd_of (ks := [1, 0]) rfl (by decide)) (ma_le_cons rfl (ma_le_cons rfl (ma_le_nil _))) (h d w _ Q (by omega) (by omega) (zT_zst hS m9) rfl HQ)
set_option maxHeartbeats 8000000 in
theorem lp_206_73 {X : Nat × (Nat → Int32)} {P : Option ma_V → (Nat → Nat → Int32) → Prop} {T : Nat} {m0 : Nat → Nat → Int32} (h0 : zV m0) (K : ∀ v m₉, zF wr_206 m0 m₉ → zV m₉ → (zGW T (m₉ 94 55) (m₉ 109)) → (zGU T (m₉ 94 46) (m₉ 99)) → (zOw (m₉ 99) (m₉ 103) (m₉ 111)) → (zDX (m₉ 94 10) (m₉ 99) (m₉ 112) (m₉ 113) (m₉ 114) (m₉ 94 55) (m₉ 98) (m₉ 101) (m₉ 102) (m₉ 108)) → (zHA (m₉ 94 10) (m₉ 94 11) (m₉ 94 13) (m₉ 94 14) (m₉ 94 16) (m₉ 94 61) (m₉ 94 59) (m₉ 94 60) (m₉ 99) (m₉ 102) (m₉ 103) (m₉ 111) (m₉ 117) (m₉ 98) (m₉ 101) (m₉ 108)) → P (some (.inl v)) m₉) : ∀ (n : Nat) (m : Nat → Nat → Int32) (l1 : Int32), (3100 - l1.toInt).toNat = n → zF wr_206 m0 m → zV m → (0 ≤ l1.toInt) → ((m 94 10).toInt = 2) → (zKS (m 110) (m 94 75)) → (zOw (m 99) (m 103) (m 111)) → (zH2 (m 94 10) (m 94 11) (m 94 61) (m 94 77) (m 99) (m 110) (m 102)) → (zH3 (m 94 10) (m 94 13) (m 94 14) (m 94 15) (m 94 61) (m 94 77) (m 94 60) (m 99) (m 110) (m 104) (m 102) (m 103) (m 111)) → ((m 94 76).toInt ≤ (m 94 75).toInt) → (zKU (m 94 10) (m 99) (m 110)) → (zW (m 94 7) (m 98) (m 101) (m 102) (m 108)) → (zDX (m 94 10) (m 99) (m 112) (m 113) (m 114) (m 94 55) (m 98) (m 101) (m 102) (m 108)) → (zCQ (m 110) (m 98) (m 101) (m 102) (m 108) (m 119) (m 94 76) (m 94 75) (fun _ => False) 3100 0) → (zGW T (m 94 55) (m 109)) → (zGU T (m 94 46) (m 99)) → (((m 94 10).toInt = 2 ∨ (m 94 10).toInt = 3) → zcov (m 110) (m 112) 16) → (((m 94 10).toInt = 2 ∨ (m 94 10).toInt = 3) → zcov (m 110) (m 114) l1.toInt) → zm X 5 109 206 73 [(0, .inr (.inr (some 94))), (1, .inl l1)] m P := by
  intro n
  induction n using Nat.strongRecOn with
  | _ n IH =>
    intro m l1 hmu hF hV hi0 hi1 r_CMK r_OW r_H2 r_H3 hi6 r_KU r_W r_DX r_CQ r_GW r_GU r_COVR r_COVW
    refine g_206_73 l1 ?_
    have f1 : 0 ≤ (m 94 10).toInt ∧ (m 94 10).toInt ≤ 6 := rs_94_10 (m := m) hV
    have f2 : 0 ≤ (m 94 76).toInt ∧ (m 94 76).toInt ≤ 3100 := rs_94_76 (m := m) hV
    have f3 : 0 ≤ (m 94 75).toInt ∧ (m 94 75).toInt ≤ 3100 := rs_94_75 (m := m) hV
    have f4 : 0 ≤ (m 94 55).toInt ∧ (m 94 55).toInt ≤ 3100 := rs_94_55 (m := m) hV
    have b5 := i_bd l1
    refine zd (fun (h6 : (m 94 55) ≤ l1) => ?_) (fun (h6 : ¬ (m 94 55) ≤ l1) => ?_)
    · skip
      have g7 := i_le h6
      refine sp_208 (XX := (fun _ => False))  hV (show (m 94 10).toInt = 2 ∨ (m 94 10).toInt = 3 from by omega) r_CMK r_OW r_H2 r_H3 (show (m 94 76).toInt ≤ (m 94 75).toInt from by omega) r_KU r_W r_DX r_CQ (fun m1 hV_m1 p0_m1 p1_m1 p2_m1 p3_m1 p4_m1 p5_m1 p6_m1 p7_m1 p8_m1 => zmv_n ?_)
      have p0_m1 : zKS (m1 110) (m1 94 75) := p0_m1
      have p1_m1 : zOw (m 99) (m1 103) (m1 111) := p1_m1
      have p2_m1 : zH2 (m 94 10) (m 94 11) (m 94 61) (m1 94 77) (m 99) (m1 110) (m 102) := p2_m1
      have p3_m1 : zH3 (m 94 10) (m 94 13) (m 94 14) (m 94 15) (m 94 61) (m1 94 77) (m1 94 60) (m 99) (m1 110) (m1 104) (m 102) (m1 103) (m1 111) := p3_m1
      have p4_m1 : (m1 94 76).toInt ≤ (m1 94 75).toInt := p4_m1
      have p5_m1 : zKU (m 94 10) (m 99) (m1 110) := p5_m1
      have p6_m1 : zle (m 110) (m1 110) := p6_m1
      have p7_m1 : zCQ (m1 110) (m 98) (m 101) (m 102) (m 108) (m1 119) (m1 94 76) (m1 94 75) (fun _ => False) 3100 0 := p7_m1
      have p8_m1 : (m1 94 75).toInt ≤ (m1 94 76).toInt := p8_m1
      have f8 : 0 ≤ (m1 94 76).toInt ∧ (m1 94 76).toInt ≤ 3100 := rs_94_76 (m := (zov wr_208 m m1)) hV_m1
      have f9 : 0 ≤ (m1 94 75).toInt ∧ (m1 94 75).toInt ≤ 3100 := rs_94_75 (m := (zov wr_208 m m1)) hV_m1
      have li10 : (0 : Int32).toInt = 0 := rfl
      refine sp_209 (XX := (fun _ => False)) ((0 : Int32)) hV_m1 (show (m 94 10).toInt = 2 ∨ (m 94 10).toInt = 3 from by omega) p0_m1 p1_m1 p2_m1 p3_m1 (show (m1 94 76).toInt ≤ (m1 94 75).toInt from by omega) p5_m1 r_W r_DX (show (m1 94 75).toInt ≤ (m1 94 76).toInt from by omega) p7_m1 r_GW (show ((m 94 10).toInt = 2 ∨ (m 94 10).toInt = 3) → zcov (m1 110) (m 112) 16 from by first | (exact fun hp => cov_cut (r_COVR hp) (by omega)) | (exact fun hp => cov_le (r_COVR hp) p6_m1 (fun k hk => (ra_112 hV (by omega)).2)) | (exact fun hp => cov_le (cov_cut (r_COVR hp) (by omega)) p6_m1 (fun k hk => (ra_112 hV (by omega)).2)) | (exact fun hp => cov_0 (by decide)) | (exact fun hp => cov_one (r_COVR hp) rfl (by omega) (by omega) (Or.inl (by omega))) | (exact fun hp => cov_one (r_COVR hp) rfl (by omega) (by omega) (Or.inr (by assumption))) | (exact fun hp => cov_cut (r_COVR hp) (by omega)) | (exact fun hp => cov_le (r_COVR hp) p6_m1 (fun k hk => (ra_112 hV_m1 (by omega)).2)) | (exact fun hp => cov_le (r_COVR hp) p6_m1 (fun k hk => (ra_114 hV_m1 (by have := rs_94_55 hV; omega)).2)) | (exfalso; omega; done) | (exfalso; contradiction; done)) (show ((m 94 10).toInt = 2 ∨ (m 94 10).toInt = 3) → zcov (m1 110) (m 114) (m 94 55).toInt from by first | (exact fun hp => cov_cut (r_COVW hp) (by omega)) | (exact fun hp => cov_le (r_COVW hp) p6_m1 (fun k hk => (ra_114 hV (by have := GW_room r_GW; omega)).2)) | (exact fun hp => cov_le (cov_cut (r_COVW hp) (by omega)) p6_m1 (fun k hk => (ra_114 hV (by have := GW_room r_GW; omega)).2)) | (exact fun hp => cov_0 (by decide)) | (exact fun hp => cov_one (r_COVW hp) rfl (by omega) (by omega) (Or.inl (by omega))) | (exact fun hp => cov_one (r_COVW hp) rfl (by omega) (by omega) (Or.inr (by assumption))) | (exact fun hp => cov_cut (r_COVW hp) (by omega)) | (exact fun hp => cov_le (r_COVW hp) p6_m1 (fun k hk => (ra_112 hV_m1 (by omega)).2)) | (exact fun hp => cov_le (r_COVW hp) p6_m1 (fun k hk => (ra_114 hV_m1 (by have := rs_94_55 hV; omega)).2)) | (exfalso; omega; done) | (exfalso; contradiction; done)) (fun m3 hV_m3 p0_m3 p1_m3 p2_m3 p3_m3 p4_m3 p5_m3 p6_m3 p7_m3 p8_m3 p9_m3 p10_m3 p11_m3 p12_m3 => zmv_n ?_)
      have p0_m3 : zKS (m3 110) (m3 94 75) := p0_m3
      have p1_m3 : zOw (m 99) (m3 103) (m3 111) := p1_m3
      have p2_m3 : zH2 (m 94 10) (m 94 11) (m 94 61) (m3 94 77) (m 99) (m3 110) (m 102) := p2_m3
      have p3_m3 : zH3 (m 94 10) (m 94 13) (m 94 14) (m 94 15) (m 94 61) (m3 94 77) (m3 94 60) (m 99) (m3 110) (m3 104) (m 102) (m3 103) (m3 111) := p3_m3
      have p4_m3 : (m3 94 76).toInt ≤ (m3 94 75).toInt := p4_m3
      have p5_m3 : zKU (m 94 10) (m 99) (m3 110) := p5_m3
      have p6_m3 : zDX (m 94 10) (m 99) (m 112) (m3 113) (m3 114) (m3 94 55) (m 98) (m 101) (m 102) (m 108) := p6_m3
      have p7_m3 : (m3 94 75).toInt ≤ (m3 94 76).toInt := p7_m3
      have p8_m3 : zCQ (m3 110) (m 98) (m 101) (m 102) (m 108) (m3 119) (m3 94 76) (m3 94 75) (fun _ => False) 3100 0 := p8_m3
      have p9_m3 : zGW T (m3 94 55) (m3 109) := p9_m3
      have p10_m3 : ((m 94 10).toInt = 2 ∨ (m 94 10).toInt = 3) → zcov (m3 110) (m 112) 16 := p10_m3
      have p11_m3 : ((m 94 10).toInt = 2 ∨ (m 94 10).toInt = 3) → zcov (m3 110) (m3 114) (m3 94 55).toInt := p11_m3
      have p12_m3 : zuw (m 113) (m3 113) := p12_m3
      have f11 : 0 ≤ (m3 94 76).toInt ∧ (m3 94 76).toInt ≤ 3100 := rs_94_76 (m := (zov wr_209 (zov wr_208 m m1) m3)) hV_m3
      have f12 : 0 ≤ (m3 94 75).toInt ∧ (m3 94 75).toInt ≤ 3100 := rs_94_75 (m := (zov wr_209 (zov wr_208 m m1) m3)) hV_m3
      refine sp_199  hV_m3  (fun m5 hV_m5 p0_m5 p1_m5 => zmv_n ?_)
      have p0_m5 : zuw (m3 113) (m5 113) := p0_m5
      have p1_m5 : zcov (m3 110) (m5 113) 16 := p1_m5
      have f14 : 0 ≤ (m3 94 77).toInt ∧ (m3 94 77).toInt ≤ 4600 := rs_94_77 (m := (zov wr_209 (zov wr_208 m m1) m3)) hV_m3
      have hV13 : zV (ma_u (zov wr_199 (zov wr_209 (zov wr_208 m m1) m3) m5) 94 59 (m3 94 77)) := us_94_59 hV_m5 (by omega) (by omega)
      refine sp_200  hV13 r_W r_GU p1_m3 (fun v8 m7 hV_m7 p0_m7 p1_m7 p2_m7 p3_m7 => zmi_n ?_)
      have p0_m7 : zrm (m 99) (m7 99) (m3 110) 3100 := p0_m7
      have p1_m7 : zowr (m3 111) (m7 111) (m 99) (m3 110) (m3 103) := p1_m7
      have p2_m7 : zGU T (m 94 46) (m7 99) := p2_m7
      have p3_m7 : zOw (m7 99) (m3 103) (m7 111) := p3_m7
      try have gw := GW_room p9_m3
      have b15 := i_bd v8
      exact K (v8) _ (zF_zov (zF_u (zF_zov (zF_zov (zF_zov hF ws_208_206) ws_209_206) ws_199_206) rfl) ws_200_206) hV_m7 p9_m3 p2_m7 p3_m7 (show zDX (m 94 10) (m7 99) (m 112) (m5 113) (m3 114) (m3 94 55) (m 98) (m 101) (m 102) (m 108) from by first | (exact DX_come p8_m3 (by omega) (p10_m3 (by omega)) (p11_m3 (by omega)) p1_m5 p5_m3 p0_m7 (fun k hk => (ra_112 hV_m7 (by omega)).2) (fun k hk => (ra_114 hV_m7 (by have := GW_room p9_m3; omega)).2) (fun k hk => (ra_113 hV_m7 (by omega)).2) (W_hi r_W)) | (exfalso; omega; done) | (exfalso; contradiction; done)) (show zHA (m 94 10) (m 94 11) (m 94 13) (m 94 14) (m 94 16) (m 94 61) (m3 94 77) (m3 94 60) (m7 99) (m 102) (m3 103) (m7 111) (m 117) (m 98) (m 101) (m 108) from by first | (exact HA_halves (by omega) (p2_m3 (by omega)) p0_m7 (fun t ht => (ra_102 hV_m7 ht).1)) | (exfalso; omega; done) | (exfalso; contradiction; done))
    · skip
      have g16 := i_nle h6
      have hg17 : (0 ≤ l1 ∧ l1.toNatClampNeg < 3100) := i_ix (by omega) (by omega)
      refine ⟨hg17, ?_⟩
      first | have f18 : 0 ≤ (m 114 l1.toNatClampNeg).toInt ∧ (m 114 l1.toNatClampNeg).toInt ≤ 3099 := ra_114 (m := m) hV (k := l1.toNatClampNeg) (i_ix (n := 3100) (by omega) (by omega)).2 | have b19 := i_bd (m 114 l1.toNatClampNeg)
      refine sp_207 (XX := (fun _ => False)) (CU := 3100) (II := 0) ((m 114 l1.toNatClampNeg)) hV (by omega) (by omega) (show (m 94 10).toInt = 2 ∨ (m 94 10).toInt = 3 from by omega) (show (m 114 l1.toNatClampNeg).toInt < 0 ∨ (m 99) (m 114 l1.toNatClampNeg).toNatClampNeg ≠ 0 from by first | (exact ((r_DX (by omega)).2.2.1 l1.toNatClampNeg (by rw [tn_cast (by omega)]; omega))) | (exfalso; omega; done) | (exfalso; contradiction; done)) r_CMK r_OW r_H2 r_H3 (show (m 94 76).toInt ≤ (m 94 75).toInt from by omega) r_CQ r_KU (fun m9 hV_m9 p0_m9 p1_m9 p2_m9 p3_m9 p4_m9 p5_m9 p6_m9 p7_m9 p8_m9 p9_m9 p10_m9 => zmv_n ?_)
      have p0_m9 : zKS (m9 110) (m9 94 75) := p0_m9
      have p1_m9 : zOw (m 99) (m9 103) (m9 111) := p1_m9
      have p2_m9 : zH2 (m 94 10) (m 94 11) (m 94 61) (m9 94 77) (m 99) (m9 110) (m 102) := p2_m9
      have p3_m9 : zH3 (m 94 10) (m 94 13) (m 94 14) (m 94 15) (m 94 61) (m9 94 77) (m9 94 60) (m 99) (m9 110) (m9 104) (m 102) (m9 103) (m9 111) := p3_m9
      have p4_m9 : (m 114 l1.toNatClampNeg).toInt < 0 ∨ (m9 110) (m 114 l1.toNatClampNeg).toNatClampNeg ≠ 0 := p4_m9
      have p5_m9 : zle (m 110) (m9 110) := p5_m9
      have p6_m9 : (m 94 76).toInt ≤ (m9 94 75).toInt := p6_m9
      have p7_m9 : zCQ (m9 110) (m 98) (m 101) (m 102) (m 108) (m9 119) (m 94 76) (m9 94 75) (fun _ => False) 3100 0 := p7_m9
      have p8_m9 : zKU (m 94 10) (m 99) (m9 110) := p8_m9
      have p9_m9 : (m 94 10).toInt = 3 → zax (m 103) (m9 103) (m 94 60).toInt := p9_m9
      have p10_m9 : (m 94 60).toInt ≤ (m9 94 60).toInt := p10_m9
      have f20 : 0 ≤ (m9 94 75).toInt ∧ (m9 94 75).toInt ≤ 3100 := rs_94_75 (m := (zov wr_207 m m9)) hV_m9
      have f21 : 0 ≤ (m 94 60).toInt ∧ (m 94 60).toInt ≤ 1600 := rs_94_60 (m := m) hV
      have f22 : 0 ≤ (m9 94 60).toInt ∧ (m9 94 60).toInt ≤ 1600 := rs_94_60 (m := (zov wr_207 m m9)) hV_m9
      try have gw := GW_room r_GW
      first | have e23 : (l1 + (1 : Int32)).toInt = l1.toInt + (1) := i_addk rfl (by omega) (by omega) | have b24 := i_bd (l1 + (1 : Int32))
      exact IH (3100 - (l1 + (1 : Int32)).toInt).toNat (by omega) _ ((l1 + (1 : Int32))) rfl (zF_zov hF ws_207_206) hV_m9 (by omega) (show (m 94 10).toInt = 2 from by omega) p0_m9 p1_m9 p2_m9 p3_m9 (show (m 94 76).toInt ≤ (m9 94 75).toInt from by omega) p8_m9 r_W r_DX p7_m9 r_GW r_GU (show ((m 94 10).toInt = 2 ∨ (m 94 10).toInt = 3) → zcov (m9 110) (m 112) 16 from by first | (exact fun hp => cov_one (cov_le (r_COVR hp) p5_m9 (fun k hk => (ra_112 hV (by omega)).2)) rfl (by omega) (by omega) p4_m9) | (exact fun hp => cov_le (r_COVR hp) p5_m9 (fun k hk => (ra_112 hV (by omega)).2)) | (exact fun hp => cov_cut (r_COVR hp) (by omega)) | (exact fun hp => cov_0 (by decide)) | (exact fun hp => cov_one (r_COVR hp) rfl (by omega) (by omega) (Or.inl (by omega))) | (exact fun hp => cov_one (r_COVR hp) rfl (by omega) (by omega) (Or.inr (by assumption))) | (exact fun hp => cov_cut (r_COVR hp) (by omega)) | (exfalso; omega; done) | (exfalso; contradiction; done)) (show ((m 94 10).toInt = 2 ∨ (m 94 10).toInt = 3) → zcov (m9 110) (m 114) (l1 + (1 : Int32)).toInt from by first | (exact fun hp => cov_one (cov_le (r_COVW hp) p5_m9 (fun k hk => (ra_114 hV (by have := GW_room r_GW; omega)).2)) rfl (by omega) (by omega) p4_m9) | (exact fun hp => cov_le (r_COVW hp) p5_m9 (fun k hk => (ra_114 hV (by have := GW_room r_GW; omega)).2)) | (exact fun hp => cov_cut (r_COVW hp) (by omega)) | (exact fun hp => cov_0 (by decide)) | (exact fun hp => cov_one (r_COVW hp) rfl (by omega) (by omega) (Or.inl (by omega))) | (exact fun hp => cov_one (r_COVW hp) rfl (by omega) (by omega) (Or.inr (by assumption))) | (exact fun hp => cov_cut (r_COVW hp) (by omega)) | (exfalso; omega; done) | (exfalso; contradiction; done))
set_option maxHeartbeats 8000000 in
theorem lp_206_49 {X : Nat × (Nat → Int32)} {P : Option ma_V → (Nat → Nat → Int32) → Prop} {T : Nat} {m0 : Nat → Nat → Int32} (h0 : zV m0) (K : ∀ v m₉, zF wr_206 m0 m₉ → zV m₉ → (zGW T (m₉ 94 55) (m₉ 109)) → (zGU T (m₉ 94 46) (m₉ 99)) → (zOw (m₉ 99) (m₉ 103) (m₉ 111)) → (zDX (m₉ 94 10) (m₉ 99) (m₉ 112) (m₉ 113) (m₉ 114) (m₉ 94 55) (m₉ 98) (m₉ 101) (m₉ 102) (m₉ 108)) → (zHA (m₉ 94 10) (m₉ 94 11) (m₉ 94 13) (m₉ 94 14) (m₉ 94 16) (m₉ 94 61) (m₉ 94 59) (m₉ 94 60) (m₉ 99) (m₉ 102) (m₉ 103) (m₉ 111) (m₉ 117) (m₉ 98) (m₉ 101) (m₉ 108)) → P (some (.inl v)) m₉) : ∀ (n : Nat) (m : Nat → Nat → Int32) (l1 : Int32), (16 - l1.toInt).toNat = n → zF wr_206 m0 m → zV m → (0 ≤ l1.toInt) → ((m 94 10).toInt = 2) → (zKS (m 110) (m 94 75)) → (zOw (m 99) (m 103) (m 111)) → (zH2 (m 94 10) (m 94 11) (m 94 61) (m 94 77) (m 99) (m 110) (m 102)) → (zH3 (m 94 10) (m 94 13) (m 94 14) (m 94 15) (m 94 61) (m 94 77) (m 94 60) (m 99) (m 110) (m 104) (m 102) (m 103) (m 111)) → ((m 94 76).toInt ≤ (m 94 75).toInt) → (zKU (m 94 10) (m 99) (m 110)) → (zW (m 94 7) (m 98) (m 101) (m 102) (m 108)) → (zDX (m 94 10) (m 99) (m 112) (m 113) (m 114) (m 94 55) (m 98) (m 101) (m 102) (m 108)) → (zCQ (m 110) (m 98) (m 101) (m 102) (m 108) (m 119) (m 94 76) (m 94 75) (fun _ => False) 3100 0) → (zGW T (m 94 55) (m 109)) → (zGU T (m 94 46) (m 99)) → (((m 94 10).toInt = 2 ∨ (m 94 10).toInt = 3) → zcov (m 110) (m 112) l1.toInt) → zm X 5 109 206 49 [(0, .inr (.inr (some 94))), (1, .inl l1)] m P := by
  intro n
  induction n using Nat.strongRecOn with
  | _ n IH =>
    intro m l1 hmu hF hV hi0 hi1 r_CMK r_OW r_H2 r_H3 hi6 r_KU r_W r_DX r_CQ r_GW r_GU r_COVR
    refine g_206_49 l1 ?_
    have f1 : 0 ≤ (m 94 10).toInt ∧ (m 94 10).toInt ≤ 6 := rs_94_10 (m := m) hV
    have f2 : 0 ≤ (m 94 76).toInt ∧ (m 94 76).toInt ≤ 3100 := rs_94_76 (m := m) hV
    have f3 : 0 ≤ (m 94 75).toInt ∧ (m 94 75).toInt ≤ 3100 := rs_94_75 (m := m) hV
    have li4 : (16 : Int32).toInt = 16 := rfl
    have b5 := i_bd l1
    refine zd (fun (h6 : (16 : Int32) ≤ l1) => ?_) (fun (h6 : ¬ (16 : Int32) ≤ l1) => ?_)
    · skip
      have g7 := i_le h6
      try have gw := GW_room r_GW
      have li8 : (0 : Int32).toInt = 0 := rfl
      exact lp_206_73 h0 K _ _ ((0 : Int32)) rfl hF hV (by omega) (show (m 94 10).toInt = 2 from by omega) r_CMK r_OW r_H2 r_H3 (show (m 94 76).toInt ≤ (m 94 75).toInt from by omega) r_KU r_W r_DX r_CQ r_GW r_GU (show ((m 94 10).toInt = 2 ∨ (m 94 10).toInt = 3) → zcov (m 110) (m 112) 16 from by first | (exact fun hp => cov_cut (r_COVR hp) (by omega)) | (exact fun hp => cov_0 (by decide)) | (exact fun hp => cov_one (r_COVR hp) rfl (by omega) (by omega) (Or.inl (by omega))) | (exact fun hp => cov_one (r_COVR hp) rfl (by omega) (by omega) (Or.inr (by assumption))) | (exact fun hp => cov_cut (r_COVR hp) (by omega)) | (exfalso; omega; done) | (exfalso; contradiction; done)) (show ((m 94 10).toInt = 2 ∨ (m 94 10).toInt = 3) → zcov (m 110) (m 114) (0 : Int32).toInt from by first | (exact fun hp => cov_0 (by decide)) | (exact fun hp => cov_0 (by decide)) | (exfalso; omega; done) | (exfalso; contradiction; done))
    · skip
      have g9 := i_nle h6
      have hg10 : (0 ≤ l1 ∧ l1.toNatClampNeg < 16) := i_ix (by omega) (by omega)
      refine ⟨hg10, ?_⟩
      first | have f11 : -1 ≤ (m 112 l1.toNatClampNeg).toInt ∧ (m 112 l1.toNatClampNeg).toInt ≤ 3099 := ra_112 (m := m) hV (k := l1.toNatClampNeg) (i_ix (n := 16) (by omega) (by omega)).2 | have b12 := i_bd (m 112 l1.toNatClampNeg)
      refine sp_207 (XX := (fun _ => False)) (CU := 3100) (II := 0) ((m 112 l1.toNatClampNeg)) hV (by omega) (by omega) (show (m 94 10).toInt = 2 ∨ (m 94 10).toInt = 3 from by omega) (show (m 112 l1.toNatClampNeg).toInt < 0 ∨ (m 99) (m 112 l1.toNatClampNeg).toNatClampNeg ≠ 0 from by first | (exact ((r_DX (by omega)).1 l1.toNatClampNeg (by rw [tn_cast (by omega)]; omega))) | (exfalso; omega; done) | (exfalso; contradiction; done)) r_CMK r_OW r_H2 r_H3 (show (m 94 76).toInt ≤ (m 94 75).toInt from by omega) r_CQ r_KU (fun m1 hV_m1 p0_m1 p1_m1 p2_m1 p3_m1 p4_m1 p5_m1 p6_m1 p7_m1 p8_m1 p9_m1 p10_m1 => zmv_n ?_)
      have p0_m1 : zKS (m1 110) (m1 94 75) := p0_m1
      have p1_m1 : zOw (m 99) (m1 103) (m1 111) := p1_m1
      have p2_m1 : zH2 (m 94 10) (m 94 11) (m 94 61) (m1 94 77) (m 99) (m1 110) (m 102) := p2_m1
      have p3_m1 : zH3 (m 94 10) (m 94 13) (m 94 14) (m 94 15) (m 94 61) (m1 94 77) (m1 94 60) (m 99) (m1 110) (m1 104) (m 102) (m1 103) (m1 111) := p3_m1
      have p4_m1 : (m 112 l1.toNatClampNeg).toInt < 0 ∨ (m1 110) (m 112 l1.toNatClampNeg).toNatClampNeg ≠ 0 := p4_m1
      have p5_m1 : zle (m 110) (m1 110) := p5_m1
      have p6_m1 : (m 94 76).toInt ≤ (m1 94 75).toInt := p6_m1
      have p7_m1 : zCQ (m1 110) (m 98) (m 101) (m 102) (m 108) (m1 119) (m 94 76) (m1 94 75) (fun _ => False) 3100 0 := p7_m1
      have p8_m1 : zKU (m 94 10) (m 99) (m1 110) := p8_m1
      have p9_m1 : (m 94 10).toInt = 3 → zax (m 103) (m1 103) (m 94 60).toInt := p9_m1
      have p10_m1 : (m 94 60).toInt ≤ (m1 94 60).toInt := p10_m1
      have f13 : 0 ≤ (m1 94 75).toInt ∧ (m1 94 75).toInt ≤ 3100 := rs_94_75 (m := (zov wr_207 m m1)) hV_m1
      have f14 : 0 ≤ (m 94 60).toInt ∧ (m 94 60).toInt ≤ 1600 := rs_94_60 (m := m) hV
      have f15 : 0 ≤ (m1 94 60).toInt ∧ (m1 94 60).toInt ≤ 1600 := rs_94_60 (m := (zov wr_207 m m1)) hV_m1
      try have gw := GW_room r_GW
      first | have e16 : (l1 + (1 : Int32)).toInt = l1.toInt + (1) := i_addk rfl (by omega) (by omega) | have b17 := i_bd (l1 + (1 : Int32))
      exact IH (16 - (l1 + (1 : Int32)).toInt).toNat (by omega) _ ((l1 + (1 : Int32))) rfl (zF_zov hF ws_207_206) hV_m1 (by omega) (show (m 94 10).toInt = 2 from by omega) p0_m1 p1_m1 p2_m1 p3_m1 (show (m 94 76).toInt ≤ (m1 94 75).toInt from by omega) p8_m1 r_W r_DX p7_m1 r_GW r_GU (show ((m 94 10).toInt = 2 ∨ (m 94 10).toInt = 3) → zcov (m1 110) (m 112) (l1 + (1 : Int32)).toInt from by first | (exact fun hp => cov_one (cov_le (r_COVR hp) p5_m1 (fun k hk => (ra_112 hV (by omega)).2)) rfl (by omega) (by omega) p4_m1) | (exact fun hp => cov_le (r_COVR hp) p5_m1 (fun k hk => (ra_112 hV (by omega)).2)) | (exact fun hp => cov_cut (r_COVR hp) (by omega)) | (exact fun hp => cov_0 (by decide)) | (exact fun hp => cov_one (r_COVR hp) rfl (by omega) (by omega) (Or.inl (by omega))) | (exact fun hp => cov_one (r_COVR hp) rfl (by omega) (by omega) (Or.inr (by assumption))) | (exact fun hp => cov_cut (r_COVR hp) (by omega)) | (exfalso; omega; done) | (exfalso; contradiction; done))
set_option maxHeartbeats 8000000 in
theorem sp_206 {X : Nat × (Nat → Int32)} {P : Option ma_V → (Nat → Nat → Int32) → Prop} {T : Nat} {m : Nat → Nat → Int32}  (hV : zV m) (r_W : zW (m 94 7) (m 98) (m 101) (m 102) (m 108)) (r_GW : zGW T (m 94 55) (m 109)) (r_GU : zGU T (m 94 46) (m 99)) (r_OW : zOw (m 99) (m 103) (m 111)) (r_DX : zDX (m 94 10) (m 99) (m 112) (m 113) (m 114) (m 94 55) (m 98) (m 101) (m 102) (m 108)) (r_HA : zHA (m 94 10) (m 94 11) (m 94 13) (m 94 14) (m 94 16) (m 94 61) (m 94 59) (m 94 60) (m 99) (m 102) (m 103) (m 111) (m 117) (m 98) (m 101) (m 108)) (hpre6 : (m 94 10).toInt = 2) (KZ : ∀ v m₉, zV (zov wr_206 m m₉) → (zGW T (m₉ 94 55) (m₉ 109)) → (zGU T (m 94 46) (m₉ 99)) → (zOw (m₉ 99) (m₉ 103) (m₉ 111)) → (zDX (m 94 10) (m₉ 99) (m 112) (m₉ 113) (m₉ 114) (m₉ 94 55) (m 98) (m 101) (m 102) (m 108)) → (zHA (m 94 10) (m 94 11) (m 94 13) (m 94 14) (m 94 16) (m₉ 94 61) (m₉ 94 59) (m₉ 94 60) (m₉ 99) (m 102) (m₉ 103) (m₉ 111) (m 117) (m 98) (m 101) (m 108)) → P (some (.inl v)) (zov wr_206 m m₉)) : zm X 5 109 206 0 [(0, .inr (.inr (some 94)))] m P := by
  have K : ∀ v m₉, zF wr_206 m m₉ → zV m₉ → (zGW T (m₉ 94 55) (m₉ 109)) → (zGU T (m₉ 94 46) (m₉ 99)) → (zOw (m₉ 99) (m₉ 103) (m₉ 111)) → (zDX (m₉ 94 10) (m₉ 99) (m₉ 112) (m₉ 113) (m₉ 114) (m₉ 94 55) (m₉ 98) (m₉ 101) (m₉ 102) (m₉ 108)) → (zHA (m₉ 94 10) (m₉ 94 11) (m₉ 94 13) (m₉ 94 14) (m₉ 94 16) (m₉ 94 61) (m₉ 94 59) (m₉ 94 60) (m₉ 99) (m₉ 102) (m₉ 103) (m₉ 111) (m₉ 117) (m₉ 98) (m₉ 101) (m₉ 108)) → P (some (.inl v)) m₉ := by
    intro v m₉ hf z q0 q1 q2 q3 q4
    have e := zov_eq hf
    rw [e] at z ⊢
    try rw [e] at q0
    try rw [e] at q1
    try rw [e] at q2
    try rw [e] at q3
    try rw [e] at q4
    exact KZ v m₉ z q0 q1 q2 q3 q4
  refine g_206_0  ?_
  have f1 : 0 ≤ (m 94 10).toInt ∧ (m 94 10).toInt ≤ 6 := rs_94_10 (m := m) hV
  have hV2 : zV (ma_u m 94 47 ((m 94 47) + (1 : Int32))) := uf_94_47 hV
  refine sp_189  hV2  (fun m1 hV_m1 p0_m1 => zmv_n ?_)
  have p0_m1 : ∀ s : Nat, s < 3100 → (m1 110) s = 0 := p0_m1
  try have gw := GW_room r_GW
  have li4 : (0 : Int32).toInt = 0 := rfl
  have hV3 : zV (ma_u (zov wr_189 (ma_u m 94 47 ((m 94 47) + (1 : Int32))) m1) 94 75 (0 : Int32)) := us_94_75 hV_m1 (by omega) (by omega)
  have hV5 : zV (ma_u (ma_u (zov wr_189 (ma_u m 94 47 ((m 94 47) + (1 : Int32))) m1) 94 75 (0 : Int32)) 94 76 (0 : Int32)) := us_94_76 hV3 (by omega) (by omega)
  have li7 : (1 : Int32).toInt = 1 := rfl
  have f8 : 0 ≤ (m 94 61).toInt ∧ (m 94 61).toInt ≤ 1 := rs_94_61 (m := m) hV
  first | have e9 : ((1 : Int32) - (m 94 61)).toInt = (1 : Int32).toInt - (m 94 61).toInt := i_sub (by omega) (by omega) | have b10 := i_bd ((1 : Int32) - (m 94 61))
  have hV6 : zV (ma_u (ma_u (ma_u (zov wr_189 (ma_u m 94 47 ((m 94 47) + (1 : Int32))) m1) 94 75 (0 : Int32)) 94 76 (0 : Int32)) 94 61 ((1 : Int32) - (m 94 61))) := us_94_61 hV5 (by omega) (by omega)
  have f12 : 0 ≤ (m 94 11).toInt ∧ (m 94 11).toInt ≤ 1500 := rs_94_11 (m := m) hV
  first | have f13 := i_mul01 (x := ((1 : Int32) - (m 94 61))) (y := (m 94 11)) (by omega) (by omega) (by omega) (by omega) | have b14 := i_bd (((1 : Int32) - (m 94 61)) * (m 94 11))
  have hV11 : zV (ma_u (ma_u (ma_u (ma_u (zov wr_189 (ma_u m 94 47 ((m 94 47) + (1 : Int32))) m1) 94 75 (0 : Int32)) 94 76 (0 : Int32)) 94 61 ((1 : Int32) - (m 94 61))) 94 77 (((1 : Int32) - (m 94 61)) * (m 94 11))) := us_94_77 hV6 (by omega) (by omega)
  exact lp_206_49 hV K _ _ ((0 : Int32)) rfl (zF_u (zF_u (zF_u (zF_u (zF_zov (zF_u zF_rfl rfl) ws_189_206) rfl) rfl) rfl) rfl) hV11 (by omega) (show (m 94 10).toInt = 2 from by omega) (show zKS (m1 110) (0 : Int32) from by first | (exact KS_0 (by omega)) | (exfalso; omega; done) | (exfalso; contradiction; done)) r_OW (show zH2 (m 94 10) (m 94 11) ((1 : Int32) - (m 94 61)) (((1 : Int32) - (m 94 61)) * (m 94 11)) (m 99) (m1 110) (m 102) from by first | (exact fun _ => H2_0 r_HA (by omega) p0_m1 (mul_B2 (by omega) (by omega) (by omega) (by omega)) (fun t ht => (ra_102 hV ht).1)) | (exfalso; omega; done) | (exfalso; contradiction; done)) (show zH3 (m 94 10) (m 94 13) (m 94 14) (m 94 15) ((1 : Int32) - (m 94 61)) (((1 : Int32) - (m 94 61)) * (m 94 11)) (m 94 60) (m 99) (m1 110) (m 104) (m 102) (m 103) (m 111) from by first | (exact fun hp => absurd hp (by omega)) | (exfalso; omega; done) | (exfalso; contradiction; done)) (show (0 : Int32).toInt ≤ (0 : Int32).toInt from by omega) (show zKU (m 94 10) (m 99) (m1 110) from by first | (exact KU_none p0_m1) | (exfalso; omega; done) | (exfalso; contradiction; done)) r_W r_DX (show zCQ (m1 110) (m 98) (m 101) (m 102) (m 108) (m 119) (0 : Int32) (0 : Int32) (fun _ => False) 3100 0 from by first | (exact CQ_none p0_m1 (by omega)) | (exfalso; omega; done) | (exfalso; contradiction; done)) r_GW r_GU (show ((m 94 10).toInt = 2 ∨ (m 94 10).toInt = 3) → zcov (m1 110) (m 112) (0 : Int32).toInt from by first | (exact fun hp => cov_0 (by decide)) | (exact fun hp => cov_0 (by decide)) | (exfalso; omega; done) | (exfalso; contradiction; done))

