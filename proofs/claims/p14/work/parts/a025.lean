/-! from 94.416 -/
/-! the reference (written by wip/tools/gen94m.py) -/
set_option maxRecDepth 100000 in
theorem hm_194 : ma_md 194 = some (12, yX12_grantAll, cX12_grantAll, 3, none) := rfl
theorem v_12_320_12 : ma_vl 12 320 12 = some (1, 195, 2) := by decide +kernel
theorem v_12_324_12 : ma_vl 12 324 12 = some (1, 197, 1) := by decide +kernel
theorem dX12_grantAll_0 : decode cX12_grantAll 0 = .ok (.iconst (-1), 1) := by decide +kernel
theorem dX12_grantAll_1 : decode cX12_grantAll 1 = .ok (.istore_n 1, 1) := by decide +kernel
theorem dX12_grantAll_2 : decode cX12_grantAll 2 = .ok (.aload_n 0, 1) := by decide +kernel
theorem dX12_grantAll_3 : decode cX12_grantAll 3 = .ok (.iload_n 1, 1) := by decide +kernel
theorem dX12_grantAll_4 : decode cX12_grantAll 4 = .ok (.iconst 0, 1) := by decide +kernel
theorem dX12_grantAll_5 : decode cX12_grantAll 5 = .ok (.invokevirtual 320, 3) := by decide +kernel
theorem dX12_grantAll_8 : decode cX12_grantAll 8 = .ok (.istore_n 2, 1) := by decide +kernel
theorem dX12_grantAll_9 : decode cX12_grantAll 9 = .ok (.iload_n 2, 1) := by decide +kernel
theorem dX12_grantAll_44 : decode cX12_grantAll 44 = .ok (.return_, 1) := by decide +kernel
theorem dX12_grantAll_13 : decode cX12_grantAll 13 = .ok (.aload_n 0, 1) := by decide +kernel
theorem dX12_grantAll_17 : decode cX12_grantAll 17 = .ok (.iload_n 2, 1) := by decide +kernel
theorem dX12_grantAll_19 : decode cX12_grantAll 19 = .ok (.istore_n 1, 1) := by decide +kernel
theorem dX12_grantAll_20 : decode cX12_grantAll 20 = .ok (.aload_n 0, 1) := by decide +kernel
theorem dX12_grantAll_21 : decode cX12_grantAll 21 = .ok (.iload_n 2, 1) := by decide +kernel
theorem dX12_grantAll_22 : decode cX12_grantAll 22 = .ok (.invokevirtual 324, 3) := by decide +kernel
theorem dX12_grantAll_25 : decode cX12_grantAll 25 = .ok (.aload_n 0, 1) := by decide +kernel
theorem dX12_grantAll_26 : decode cX12_grantAll 26 = .ok (.iload_n 2, 1) := by decide +kernel
theorem dX12_grantAll_27 : decode cX12_grantAll 27 = .ok (.invokevirtual 298, 3) := by decide +kernel
theorem dX12_grantAll_30 : decode cX12_grantAll 30 = .ok (.aload_n 0, 1) := by decide +kernel
theorem dX12_grantAll_31 : decode cX12_grantAll 31 = .ok (.invokevirtual 304, 3) := by decide +kernel
theorem dX12_grantAll_34 : decode cX12_grantAll 34 = .ok (.aload_n 0, 1) := by decide +kernel
theorem dX12_grantAll_35 : decode cX12_grantAll 35 = .ok (.iload_n 1, 1) := by decide +kernel
theorem dX12_grantAll_36 : decode cX12_grantAll 36 = .ok (.iconst 0, 1) := by decide +kernel
theorem dX12_grantAll_37 : decode cX12_grantAll 37 = .ok (.invokevirtual 320, 3) := by decide +kernel
theorem dX12_grantAll_40 : decode cX12_grantAll 40 = .ok (.istore_n 2, 1) := by decide +kernel
theorem dX12_grantAll_41 : decode cX12_grantAll 41 = .ok (.goto (-32), 3) := by decide +kernel
theorem dX12_grantAll_18 : decode cX12_grantAll 18 = .ok (.iaload, 1) := by decide +kernel
theorem dX12_grantAll_14 : decode cX12_grantAll 14 = .ok (.getfield 31, 3) := by decide +kernel
theorem dX12_grantAll_10 : decode cX12_grantAll 10 = .ok (.ifCond .lt 34, 3) := by decide +kernel
def wr_194 (c k : Nat) : Bool := Nat.beq c 105 || Nat.beq c 109 || Nat.beq c 110 || Nat.beq c 113 || Nat.beq c 114 || Nat.beq c 118 || (Nat.beq c 94 && (Nat.beq k 55 || Nat.beq k 73))
theorem ws_191_194 : ∀ c k, wr_191 c k = true → wr_194 c k = true := by
  intro c k h
  simp only [wr_191, wr_194, Bool.or_eq_true, Bool.and_eq_true, Nat.beq_eq] at h ⊢
  omega
theorem ws_195_194 : ∀ c k, wr_195 c k = true → wr_194 c k = true := fun _ _ h => by cases h
theorem ws_197_194 : ∀ c k, wr_197 c k = true → wr_194 c k = true := by
  intro c k h
  simp only [wr_197, wr_194, Bool.or_eq_true, Bool.and_eq_true, Nat.beq_eq] at h ⊢
  omega
theorem g_194_0 {X : Nat × (Nat → Int32)} {m : Nat → Nat → Int32} {P : Option ma_V → (Nat → Nat → Int32) → Prop}  (h : zm X 1 21 195 0 [(0, .inr (.inr (some 94))), (1, .inl (-1 : Int32)), (2, .inl (0 : Int32))] m (zmi (fun v2 m1 => zm X 3 66 194 9 [(0, .inr (.inr (some 94))), (2, .inl v2)] m1 P))) : zm X 3 66 194 0 [(0, .inr (.inr (some 94)))] m P := by
  intro d w S Q hd hw hS hm HQ
  subst hm
  refine zw_push hm_194 dX12_grantAll_0 (v := .inl (-1 : Int32)) rfl ?_
  refine zw_sto hm_194 dX12_grantAll_1 [(1, .inl (-1 : Int32)), (0, .inr (.inr (some 94)))] rfl rfl rfl ?_
  refine zw_push hm_194 dX12_grantAll_2 (v := .inr (.inr (some 94))) rfl ?_
  refine zw_push hm_194 dX12_grantAll_3 (v := .inl (-1 : Int32)) rfl ?_
  refine zw_push hm_194 dX12_grantAll_4 (v := .inl (0 : Int32)) rfl ?_
  refine zw_cv hm_194 dX12_grantAll_5 v_12_320_12 hm_195 [.inl (0 : Int32), .inl (-1 : Int32)] [] rfl (zT_rt hS s_94 rfl) ⟨by omega, by omega⟩ rfl (h _ _ S _ (by omega) (by omega) hS rfl (fun o9 m1 hv => ?_))
  obtain ⟨v2, rfl, h⟩ := zmi_of hv
  show ma_wp X d w 194 8 [(1, .inl (-1 : Int32)), (0, .inr (.inr (some 94)))] [.inl v2] (zst S m1) _
  refine zw_sto hm_194 dX12_grantAll_8 [(2, .inl v2), (1, .inl (-1 : Int32)), (0, .inr (.inr (some 94)))] rfl rfl rfl ?_
  exact zw_sub (ma_nd_of (ks := [0, 2]) rfl (by decide)) (ma_nd_of (ks := [2, 1, 0]) rfl (by decide)) (ma_le_cons rfl (ma_le_cons rfl (ma_le_nil _))) (h d w _ Q (by omega) (by omega) (zT_zst hS m1) rfl HQ)
theorem g_194_9 {X : Nat × (Nat → Int32)} {m : Nat → Nat → Int32} {P : Option ma_V → (Nat → Nat → Int32) → Prop} (l2 : Int32) (h : if l2 < 0 then (P none m) else ((0 ≤ l2 ∧ l2.toNatClampNeg < 3100) ∧ (zm X 1 22 197 0 [(0, .inr (.inr (some 94))), (1, .inl l2)] m (zmv (fun m1 => if l2 < 0 then (zm X 2 44 191 0 [(0, .inr (.inr (some 94)))] m1 (zmv (fun m3 => zm X 1 21 195 0 [(0, .inr (.inr (some 94))), (1, .inl (m 100 l2.toNatClampNeg)), (2, .inl (0 : Int32))] m3 (zmi (fun v6 m5 => zm X 3 66 194 9 [(0, .inr (.inr (some 94))), (2, .inl v6)] m5 P))))) else ((0 ≤ l2 ∧ l2.toNatClampNeg < 3100) ∧ (if (m1 110 l2.toNatClampNeg) = 0 then ((0 ≤ l2 ∧ l2.toNatClampNeg < 3100) ∧ ((0 ≤ (m1 94 73) ∧ (m1 94 73).toNatClampNeg < 3100) ∧ (zm X 2 44 191 0 [(0, .inr (.inr (some 94)))] (ma_u (ma_u (ma_u m1 110 l2.toNatClampNeg (1 : Int32)) 118 (m1 94 73).toNatClampNeg l2) 94 73 ((m1 94 73) + (1 : Int32))) (zmv (fun m7 => zm X 1 21 195 0 [(0, .inr (.inr (some 94))), (1, .inl (m 100 l2.toNatClampNeg)), (2, .inl (0 : Int32))] m7 (zmi (fun v10 m9 => zm X 3 66 194 9 [(0, .inr (.inr (some 94))), (2, .inl v10)] m9 P))))))) else (zm X 2 44 191 0 [(0, .inr (.inr (some 94)))] m1 (zmv (fun m11 => zm X 1 21 195 0 [(0, .inr (.inr (some 94))), (1, .inl (m 100 l2.toNatClampNeg)), (2, .inl (0 : Int32))] m11 (zmi (fun v14 m13 => zm X 3 66 194 9 [(0, .inr (.inr (some 94))), (2, .inl v14)] m13 P)))))))))))) : zm X 3 66 194 9 [(0, .inr (.inr (some 94))), (2, .inl l2)] m P := by
  intro d w S Q hd hw hS hm HQ
  subst hm
  refine zw_push hm_194 dX12_grantAll_9 (v := .inl l2) rfl ?_
  refine zw_if0 hm_194 dX12_grantAll_10 (t := 44) rfl zc0_lt ?_ ?_
  · intro hc
    rw [if_pos hc] at h
    exact zw_vret hm_194 dX12_grantAll_44 (HQ _ _ h)
  · intro hc
    rw [if_neg hc] at h
    refine zw_push hm_194 dX12_grantAll_13 (v := .inr (.inr (some 94))) rfl ?_
    refine zw_gf hm_194 dX12_grantAll_14 (v := .inr (.inr (some 100))) (zT_is hS s_94) (zT_t hS s_94) rfl f_12_31_12 (zT_f hS r_94_32) ?_
    refine zw_push hm_194 dX12_grantAll_17 (v := .inl l2) rfl ?_
    obtain ⟨hg, h⟩ := h
    refine zw_ia hm_194 dX12_grantAll_18 (zT_is hS s_100) (zT_h hS s_100) rfl hg ?_
    show ma_wp X d w 194 19 [(0, .inr (.inr (some 94))), (2, .inl l2)] [.inl ((mI S) 100 l2.toNatClampNeg)] S _
    refine zw_sto hm_194 dX12_grantAll_19 [(1, .inl ((mI S) 100 l2.toNatClampNeg)), (0, .inr (.inr (some 94))), (2, .inl l2)] rfl rfl rfl ?_
    refine zw_push hm_194 dX12_grantAll_20 (v := .inr (.inr (some 94))) rfl ?_
    refine zw_push hm_194 dX12_grantAll_21 (v := .inl l2) rfl ?_
    refine zw_cv hm_194 dX12_grantAll_22 v_12_324_12 hm_197 [.inl l2] [] rfl (zT_rt hS s_94 rfl) ⟨by omega, by omega⟩ rfl (h _ _ S _ (by omega) (by omega) hS rfl (fun o9 m1 hv => ?_))
    obtain ⟨rfl, h⟩ := zmv_of hv
    show ma_wp X d w 194 25 [(1, .inl ((mI S) 100 l2.toNatClampNeg)), (0, .inr (.inr (some 94))), (2, .inl l2)] [] (zst S m1) _
    refine zw_push hm_194 dX12_grantAll_25 (v := .inr (.inr (some 94))) rfl ?_
    refine zw_push hm_194 dX12_grantAll_26 (v := .inl l2) rfl ?_
    refine zw_cv hm_194 dX12_grantAll_27 v_12_298_12 hm_190 [.inl l2] [] rfl (zT_rt (zT_zst hS m1) s_94 rfl) ⟨by omega, by omega⟩ rfl ?_
    show ma_wp X (d - 1) (w - 21) 190 0 [(0, .inr (.inr (some 94))), (1, .inl l2)] [] (zst S m1) _
    refine zw_push hm_190 dX12_keep_0 (v := .inl l2) rfl ?_
    refine zw_if0 hm_190 dX12_keep_1 (t := 13) rfl zc0_lt ?_ ?_
    · intro hc
      rw [if_pos hc] at h
      refine zw_vret hm_190 dX12_keep_13 ?_
      show ma_wp X d w 194 30 [(1, .inl ((mI S) 100 l2.toNatClampNeg)), (0, .inr (.inr (some 94))), (2, .inl l2)] [] (zst S m1) _
      refine zw_push hm_194 dX12_grantAll_30 (v := .inr (.inr (some 94))) rfl ?_
      refine zw_cv hm_194 dX12_grantAll_31 v_12_304_12 hm_191 [] [] rfl (zT_rt (zT_zst hS m1) s_94 rfl) ⟨by omega, by omega⟩ rfl (h _ _ (zst S m1) _ (by omega) (by omega) (zT_zst hS m1) rfl (fun o9 m3 hv => ?_))
      obtain ⟨rfl, h⟩ := zmv_of hv
      show ma_wp X d w 194 34 [(1, .inl ((mI S) 100 l2.toNatClampNeg)), (0, .inr (.inr (some 94))), (2, .inl l2)] [] (zst S m3) _
      refine zw_push hm_194 dX12_grantAll_34 (v := .inr (.inr (some 94))) rfl ?_
      refine zw_push hm_194 dX12_grantAll_35 (v := .inl ((mI S) 100 l2.toNatClampNeg)) rfl ?_
      refine zw_push hm_194 dX12_grantAll_36 (v := .inl (0 : Int32)) rfl ?_
      refine zw_cv hm_194 dX12_grantAll_37 v_12_320_12 hm_195 [.inl (0 : Int32), .inl ((mI S) 100 l2.toNatClampNeg)] [] rfl (zT_rt (zT_zst hS m3) s_94 rfl) ⟨by omega, by omega⟩ rfl (h _ _ (zst S m3) _ (by omega) (by omega) (zT_zst hS m3) rfl (fun o9 m5 hv => ?_))
      obtain ⟨v6, rfl, h⟩ := zmi_of hv
      show ma_wp X d w 194 40 [(1, .inl ((mI S) 100 l2.toNatClampNeg)), (0, .inr (.inr (some 94))), (2, .inl l2)] [.inl v6] (zst S m5) _
      refine zw_sto hm_194 dX12_grantAll_40 [(2, .inl v6), (1, .inl ((mI S) 100 l2.toNatClampNeg)), (0, .inr (.inr (some 94)))] rfl rfl rfl ?_
      refine zw_goto hm_194 dX12_grantAll_41 (t := 9) rfl ?_
      exact zw_sub (ma_nd_of (ks := [0, 2]) rfl (by decide)) (ma_nd_of (ks := [2, 1, 0]) rfl (by decide)) (ma_le_cons rfl (ma_le_cons rfl (ma_le_nil _))) (h d w _ Q (by omega) (by omega) (zT_zst hS m5) rfl HQ)
    · intro hc
      rw [if_neg hc] at h
      refine zw_push hm_190 dX12_keep_4 (v := .inr (.inr (some 94))) rfl ?_
      refine zw_gf hm_190 dX12_keep_5 (v := .inr (.inr (some 110))) (zT_is (zT_zst hS m1) s_94) (zT_t (zT_zst hS m1) s_94) rfl f_12_62_12 (zT_f (zT_zst hS m1) r_94_42) ?_
      refine zw_push hm_190 dX12_keep_8 (v := .inl l2) rfl ?_
      obtain ⟨hg, h⟩ := h
      refine zw_ba hm_190 dX12_keep_9 (zT_is (zT_zst hS m1) s_110) (zT_h (zT_zst hS m1) s_110) rfl rfl hg ?_
      show ma_wp X (d - 1) (w - 21) 190 10 [(0, .inr (.inr (some 94))), (1, .inl l2)] [.inl (m1 110 l2.toNatClampNeg)] (zst S m1) _
      refine zw_if0 hm_190 dX12_keep_10 (t := 14) rfl zc0_eq ?_ ?_
      · intro hc
        rw [if_pos hc] at h
        refine zw_push hm_190 dX12_keep_14 (v := .inr (.inr (some 94))) rfl ?_
        refine zw_gf hm_190 dX12_keep_15 (v := .inr (.inr (some 110))) (zT_is (zT_zst hS m1) s_94) (zT_t (zT_zst hS m1) s_94) rfl f_12_62_12 (zT_f (zT_zst hS m1) r_94_42) ?_
        refine zw_push hm_190 dX12_keep_18 (v := .inl l2) rfl ?_
        refine zw_push hm_190 dX12_keep_19 (v := .inl (1 : Int32)) rfl ?_
        obtain ⟨hg, h⟩ := h
        refine zw_bas22l hm_190 dX12_keep_20 (hx := by decide) (yv := (1 : Int32)) (zT_is (zT_zst hS m1) s_110) (zT_h (zT_zst hS m1) s_110) rfl hg ?_
        refine zw_push hm_190 dX12_keep_21 (v := .inr (.inr (some 94))) rfl ?_
        refine zw_gf hm_190 dX12_keep_22 (v := .inr (.inr (some 118))) (zT_is (zT_pi (zT_zst hS m1)) s_94) (zT_t (zT_pi (zT_zst hS m1)) s_94) rfl f_12_86_12 (zT_f (zT_pi (zT_zst hS m1)) r_94_72) ?_
        refine zw_push hm_190 dX12_keep_25 (v := .inr (.inr (some 94))) rfl ?_
        refine zw_gf hm_190 dX12_keep_26 (v := .inl (m1 94 73)) (zT_is (zT_pi (zT_zst hS m1)) s_94) (zT_t (zT_pi (zT_zst hS m1)) s_94) rfl f_12_291_12 rfl ?_
        refine zw_push hm_190 dX12_keep_29 (v := .inl l2) rfl ?_
        obtain ⟨hg, h⟩ := h
        refine zw_ias hm_190 dX12_keep_30 (zT_is (zT_pi (zT_zst hS m1)) s_118) (zT_h (zT_pi (zT_zst hS m1)) s_118) rfl hg ?_
        refine zw_push hm_190 dX12_keep_31 (v := .inr (.inr (some 94))) rfl ?_
        refine zw_stk hm_190 dX12_keep_32 (st₉ := [.inr (.inr (some 94)), .inr (.inr (some 94))]) rfl rfl ?_
        refine zw_gf hm_190 dX12_keep_33 (v := .inl (m1 94 73)) (zT_is (zT_pi (zT_pi (zT_zst hS m1))) s_94) (zT_t (zT_pi (zT_pi (zT_zst hS m1))) s_94) rfl f_12_291_12 rfl ?_
        refine zw_push hm_190 dX12_keep_36 (v := .inl (1 : Int32)) rfl ?_
        refine zw_stk hm_190 dX12_keep_37 (st₉ := [.inl ((m1 94 73) + (1 : Int32)), .inr (.inr (some 94))]) rfl rfl ?_
        refine zw_pf hm_190 dX12_keep_38 (zT_is (zT_pi (zT_pi (zT_zst hS m1))) s_94) (zT_t (zT_pi (zT_pi (zT_zst hS m1))) s_94) p_12_291_12 zk_int ?_
        refine zw_vret hm_190 dX12_keep_41 ?_
        show ma_wp X d w 194 30 [(1, .inl ((mI S) 100 l2.toNatClampNeg)), (0, .inr (.inr (some 94))), (2, .inl l2)] [] (ma_put (ma_put (ma_put (zst S m1) 110 l2.toNatClampNeg (.inl (1 : Int32))) 118 (m1 94 73).toNatClampNeg (.inl l2)) 94 73 (.inl ((m1 94 73) + (1 : Int32)))) _
        refine zw_push hm_194 dX12_grantAll_30 (v := .inr (.inr (some 94))) rfl ?_
        refine zw_cv hm_194 dX12_grantAll_31 v_12_304_12 hm_191 [] [] rfl (zT_rt (zT_pi (zT_pi (zT_pi (zT_zst hS m1)))) s_94 rfl) ⟨by omega, by omega⟩ rfl (h _ _ (ma_put (ma_put (ma_put (zst S m1) 110 l2.toNatClampNeg (.inl (1 : Int32))) 118 (m1 94 73).toNatClampNeg (.inl l2)) 94 73 (.inl ((m1 94 73) + (1 : Int32)))) _ (by omega) (by omega) (zT_pi (zT_pi (zT_pi (zT_zst hS m1)))) rfl (fun o9 m7 hv => ?_))
        obtain ⟨rfl, h⟩ := zmv_of hv
        show ma_wp X d w 194 34 [(1, .inl ((mI S) 100 l2.toNatClampNeg)), (0, .inr (.inr (some 94))), (2, .inl l2)] [] (zst S m7) _
        refine zw_push hm_194 dX12_grantAll_34 (v := .inr (.inr (some 94))) rfl ?_
        refine zw_push hm_194 dX12_grantAll_35 (v := .inl ((mI S) 100 l2.toNatClampNeg)) rfl ?_
        refine zw_push hm_194 dX12_grantAll_36 (v := .inl (0 : Int32)) rfl ?_
        refine zw_cv hm_194 dX12_grantAll_37 v_12_320_12 hm_195 [.inl (0 : Int32), .inl ((mI S) 100 l2.toNatClampNeg)] [] rfl (zT_rt (zT_zst hS m7) s_94 rfl) ⟨by omega, by omega⟩ rfl (h _ _ (zst S m7) _ (by omega) (by omega) (zT_zst hS m7) rfl (fun o9 m9 hv => ?_))
        obtain ⟨v10, rfl, h⟩ := zmi_of hv
        show ma_wp X d w 194 40 [(1, .inl ((mI S) 100 l2.toNatClampNeg)), (0, .inr (.inr (some 94))), (2, .inl l2)] [.inl v10] (zst S m9) _
        refine zw_sto hm_194 dX12_grantAll_40 [(2, .inl v10), (1, .inl ((mI S) 100 l2.toNatClampNeg)), (0, .inr (.inr (some 94)))] rfl rfl rfl ?_
        refine zw_goto hm_194 dX12_grantAll_41 (t := 9) rfl ?_
        exact zw_sub (ma_nd_of (ks := [0, 2]) rfl (by decide)) (ma_nd_of (ks := [2, 1, 0]) rfl (by decide)) (ma_le_cons rfl (ma_le_cons rfl (ma_le_nil _))) (h d w _ Q (by omega) (by omega) (zT_zst hS m9) rfl HQ)
      · intro hc
        rw [if_neg hc] at h
        refine zw_vret hm_190 dX12_keep_13 ?_
        show ma_wp X d w 194 30 [(1, .inl ((mI S) 100 l2.toNatClampNeg)), (0, .inr (.inr (some 94))), (2, .inl l2)] [] (zst S m1) _
        refine zw_push hm_194 dX12_grantAll_30 (v := .inr (.inr (some 94))) rfl ?_
        refine zw_cv hm_194 dX12_grantAll_31 v_12_304_12 hm_191 [] [] rfl (zT_rt (zT_zst hS m1) s_94 rfl) ⟨by omega, by omega⟩ rfl (h _ _ (zst S m1) _ (by omega) (by omega) (zT_zst hS m1) rfl (fun o9 m11 hv => ?_))
        obtain ⟨rfl, h⟩ := zmv_of hv
        show ma_wp X d w 194 34 [(1, .inl ((mI S) 100 l2.toNatClampNeg)), (0, .inr (.inr (some 94))), (2, .inl l2)] [] (zst S m11) _
        refine zw_push hm_194 dX12_grantAll_34 (v := .inr (.inr (some 94))) rfl ?_
        refine zw_push hm_194 dX12_grantAll_35 (v := .inl ((mI S) 100 l2.toNatClampNeg)) rfl ?_
        refine zw_push hm_194 dX12_grantAll_36 (v := .inl (0 : Int32)) rfl ?_
        refine zw_cv hm_194 dX12_grantAll_37 v_12_320_12 hm_195 [.inl (0 : Int32), .inl ((mI S) 100 l2.toNatClampNeg)] [] rfl (zT_rt (zT_zst hS m11) s_94 rfl) ⟨by omega, by omega⟩ rfl (h _ _ (zst S m11) _ (by omega) (by omega) (zT_zst hS m11) rfl (fun o9 m13 hv => ?_))
        obtain ⟨v14, rfl, h⟩ := zmi_of hv
        show ma_wp X d w 194 40 [(1, .inl ((mI S) 100 l2.toNatClampNeg)), (0, .inr (.inr (some 94))), (2, .inl l2)] [.inl v14] (zst S m13) _
        refine zw_sto hm_194 dX12_grantAll_40 [(2, .inl v14), (1, .inl ((mI S) 100 l2.toNatClampNeg)), (0, .inr (.inr (some 94)))] rfl rfl rfl ?_
        refine zw_goto hm_194 dX12_grantAll_41 (t := 9) rfl ?_
        exact zw_sub (ma_nd_of (ks := [0, 2]) rfl (by decide)) (ma_nd_of (ks := [2, 1, 0]) rfl (by decide)) (ma_le_cons rfl (ma_le_cons rfl (ma_le_nil _))) (h d w _ Q (by omega) (by omega) (zT_zst hS m13) rfl HQ)
theorem lp_194_9 {X : Nat × (Nat → Int32)} {P : Option ma_V → (Nat → Nat → Int32) → Prop} {T : Nat} {m0 : Nat → Nat → Int32} (h0 : zV m0) (K : ∀ m₉, zF wr_194 m0 m₉ → zV m₉ → ((m₉ 94 73).toInt = 0) → (zGW T (m₉ 94 55) (m₉ 109)) → (((m₉ 94 10).toInt = 2 ∨ (m₉ 94 10).toInt = 3) → zCL (m₉ 110) (m₉ 98) (m₉ 101) (m₉ 102) (m₉ 108) (m₉ 118) (m₉ 94 73) 3100 0) → (zKU (m₉ 94 10) (m₉ 99) (m₉ 110)) → (zDX (m₉ 94 10) (m₉ 99) (m₉ 112) (m₉ 113) (m₉ 114) (m₉ 94 55) (m₉ 98) (m₉ 101) (m₉ 102) (m₉ 108)) → (((m₉ 94 10).toInt = 2 ∨ (m₉ 94 10).toInt = 3) → zcov (m₉ 110) (m₉ 112) 16) → (((m₉ 94 10).toInt = 2 ∨ (m₉ 94 10).toInt = 3) → zcov (m₉ 110) (m₉ 114) (m₉ 94 55).toInt) → (zuw (m0 113) (m₉ 113)) → P none m₉) : ∀ (n : Nat) (m : Nat → Nat → Int32) (l2 : Int32), ((zmg (m 100) l2 : Int)).toNat = n → zF wr_194 m0 m → zV m → ((m 94 73).toInt = 0) → (zWS (m 100) (m 99) (m 110) (m 109) (-1 : Int32) l2) → (zW (m 94 7) (m 98) (m 101) (m 102) (m 108)) → (zGW T (m 94 55) (m 109)) → (((m 94 10).toInt = 2 ∨ (m 94 10).toInt = 3) → zCL (m 110) (m 98) (m 101) (m 102) (m 108) (m 118) (m 94 73) 3100 0) → (zKU (m 94 10) (m 99) (m 110)) → (zDX (m 94 10) (m 99) (m 112) (m 113) (m 114) (m 94 55) (m 98) (m 101) (m 102) (m 108)) → (((m 94 10).toInt = 2 ∨ (m 94 10).toInt = 3) → zcov (m 110) (m 112) 16) → (((m 94 10).toInt = 2 ∨ (m 94 10).toInt = 3) → zcov (m 110) (m 114) (m 94 55).toInt) → (zuw (m0 113) (m 113)) → zm X 3 66 194 9 [(0, .inr (.inr (some 94))), (2, .inl l2)] m P := by
  intro n
  induction n using Nat.strongRecOn with
  | _ n IH =>
    intro m l2 hmu hF hV hi0 r_WS r_W r_GW r_CL r_KU r_DX r_COVR r_COVW r_UW
    refine g_194_9 l2 ?_
    have f1 : 0 ≤ (m 94 73).toInt ∧ (m 94 73).toInt ≤ 3100 := rs_94_73 (m := m) hV
    have b2 := i_bd l2
    have li3 : (0 : Int32).toInt = 0 := rfl
    refine zd (fun (h4 : l2 < (0 : Int32)) => ?_) (fun (h4 : ¬ l2 < (0 : Int32)) => ?_)
    · skip
      have g5 := i_lt h4
      try have gw := GW_room r_GW
      exact K _ hF hV (show (m 94 73).toInt = 0 from by omega) r_GW r_CL r_KU r_DX r_COVR r_COVW r_UW
    · skip
      have g6 := i_nlt h4
      try obtain ⟨ws1, ws2, ws3, ws4, ws5, ws6⟩ := WS_ge r_WS (by omega)
      have hg7 : (0 ≤ l2 ∧ l2.toNatClampNeg < 3100) := i_ix (by omega) (by omega)
      refine ⟨hg7, ?_⟩
      refine sp_197 (l2) hV (by omega) (by omega) (show (m 109) l2.toNatClampNeg ≠ 0 from by first | (assumption; done) | (exfalso; omega; done) | (exfalso; contradiction; done)) r_GW (fun m1 hV_m1 p0_m1 p1_m1 p2_m1 p3_m1 => zmv_n ?_)
      have p0_m1 : zGW T (m1 94 55) (m1 109) := p0_m1
      have p1_m1 : zuw (m 113) (m1 113) := p1_m1
      have p2_m1 : zwx (m 114) (m1 114) (m 94 55) l2 := p2_m1
      have p3_m1 : (m1 94 55).toInt = (m 94 55).toInt + 1 := p3_m1
      have f8 : 0 ≤ (m1 94 55).toInt ∧ (m1 94 55).toInt ≤ 3100 := rs_94_55 (m := (zov wr_197 m m1)) hV_m1
      have f9 : 0 ≤ (m 94 55).toInt ∧ (m 94 55).toInt ≤ 3100 := rs_94_55 (m := m) hV
      refine zd (fun (h10 : l2 < (0 : Int32)) => ?_) (fun (h10 : ¬ l2 < (0 : Int32)) => ?_)
      · skip
        have g11 := i_lt h10
        refine sp_191  hV_m1 (show zKS (m 110) (m 94 73) from by first | (exact KS_0 (by omega)) | (exfalso; omega; done) | (exfalso; contradiction; done)) r_W r_CL r_KU (show zDX (m 94 10) (m 99) (m 112) (m1 113) (m1 114) (m1 94 55) (m 98) (m 101) (m 102) (m 108) from by first | (exact DX_wish r_DX p1_m1 p2_m1 (by assumption) (by omega) (by omega)) | (exfalso; omega; done) | (exfalso; contradiction; done)) (fun m3 hV_m3 p0_m3 p1_m3 p2_m3 p3_m3 => zmv_n ?_)
        have p0_m3 : (m3 94 73).toInt = 0 := p0_m3
        have p1_m3 : ((m 94 10).toInt = 2 ∨ (m 94 10).toInt = 3) → zCL (m3 110) (m 98) (m 101) (m 102) (m 108) (m3 118) (m3 94 73) 3100 0 := p1_m3
        have p2_m3 : zle (m 110) (m3 110) := p2_m3
        have p3_m3 : zKU (m 94 10) (m 99) (m3 110) := p3_m3
        have f12 : 0 ≤ (m3 94 73).toInt ∧ (m3 94 73).toInt ≤ 3100 := rs_94_73 (m := (zov wr_191 (zov wr_197 m m1) m3)) hV_m3
        first | have f13 : 0 ≤ (m 100 l2.toNatClampNeg).toInt ∧ (m 100 l2.toNatClampNeg).toInt ≤ 100000 := ra_100 (m := m) hV (k := l2.toNatClampNeg) (i_ix (n := 3100) (by omega) (by omega)).2 | have b14 := i_bd (m 100 l2.toNatClampNeg)
        refine sp_195 ((m 100 l2.toNatClampNeg)) ((0 : Int32)) hV_m3  (fun v6 m5 hV_m5 p0_m5 => zmi_n ?_)
        have p0_m5 : zWS (m 100) (m 99) (m3 110) (m1 109) (m 100 l2.toNatClampNeg) v6 := p0_m5
        try have gw := GW_room p0_m1
        have b15 := i_bd v6
        exact IH ((zmg (m 100) v6 : Int)).toNat (by have zq := zmg_lt (s := l2) (by omega) p0_m5 rfl (by omega) (by omega); omega) _ (v6) rfl (zF_zov (zF_zov (zF_zov hF ws_197_194) ws_191_194) ws_195_194) hV_m5 (show (m3 94 73).toInt = 0 from by omega) (show zWS (m 100) (m 99) (m3 110) (m1 109) (-1 : Int32) v6 from by first | (exact WS_weak p0_m5 (by omega)) | (exact p0_m5) | (exact Or.inl (by decide)) | (exact Or.inr ⟨by omega, by omega, by assumption, by assumption, by assumption, by omega⟩) | (exfalso; omega; done) | (exfalso; contradiction; done)) r_W p0_m1 p1_m3 p3_m3 (show zDX (m 94 10) (m 99) (m 112) (m1 113) (m1 114) (m1 94 55) (m 98) (m 101) (m 102) (m 108) from by first | (exact DX_wish r_DX p1_m1 p2_m1 (by assumption) (by omega) (by omega)) | (exfalso; omega; done) | (exfalso; contradiction; done)) (show ((m 94 10).toInt = 2 ∨ (m 94 10).toInt = 3) → zcov (m3 110) (m 112) 16 from by first | (exact fun hp => cov_le (cov_push (r_COVR hp) (by decide)) p2_m3 (fun k hk => (ra_112 hV_m5 (by omega)).2)) | (exact fun hp => cov_le (r_COVR hp) p2_m3 (fun k hk => (ra_112 hV_m5 (by omega)).2)) | (exact fun hp => cov_0 (by decide)) | (exact fun hp => cov_one (r_COVR hp) rfl (by omega) (by omega) (Or.inl (by omega))) | (exact fun hp => cov_one (r_COVR hp) rfl (by omega) (by omega) (Or.inr (by assumption))) | (exact fun hp => cov_cut (r_COVR hp) (by omega)) | (exact fun hp => cov_le (r_COVR hp) p2_m3 (fun k hk => (ra_112 hV_m5 (by omega)).2)) | (exact fun hp => cov_le (r_COVR hp) p2_m3 (fun k hk => (ra_114 hV_m5 (by have := rs_94_55 hV; omega)).2)) | (exfalso; omega; done) | (exfalso; contradiction; done)) (show ((m 94 10).toInt = 2 ∨ (m 94 10).toInt = 3) → zcov (m3 110) (m1 114) (m1 94 55).toInt from by first | (exact fun hp => cov_le (cov_wx (cov_push (r_COVW hp) (by decide)) p2_m1 (by rw [mu_self]; decide) (by omega) (by omega)) p2_m3 (fun k hk => (ra_114 hV_m5 (by have := GW_room p0_m1; omega)).2)) | (exact fun hp => cov_0 (by decide)) | (exact fun hp => cov_one (r_COVW hp) rfl (by omega) (by omega) (Or.inl (by omega))) | (exact fun hp => cov_one (r_COVW hp) rfl (by omega) (by omega) (Or.inr (by assumption))) | (exact fun hp => cov_cut (r_COVW hp) (by omega)) | (exact fun hp => cov_le (r_COVW hp) p2_m3 (fun k hk => (ra_112 hV_m5 (by omega)).2)) | (exact fun hp => cov_le (r_COVW hp) p2_m3 (fun k hk => (ra_114 hV_m5 (by have := rs_94_55 hV; omega)).2)) | (exfalso; omega; done) | (exfalso; contradiction; done)) (show zuw (m0 113) (m1 113) from by first | (exact zuw_tr r_UW p1_m1) | (exact zuw_rfl) | (exfalso; omega; done) | (exfalso; contradiction; done))
      · skip
        have g16 := i_nlt h10
        have hg17 : (0 ≤ l2 ∧ l2.toNatClampNeg < 3100) := i_ix (by omega) (by omega)
        refine ⟨hg17, ?_⟩
        first | have f18 : 0 ≤ (m 110 l2.toNatClampNeg).toInt ∧ (m 110 l2.toNatClampNeg).toInt ≤ 1 := ra_110 (m := m) hV (k := l2.toNatClampNeg) (i_ix (n := 3100) (by omega) (by omega)).2 | have b19 := i_bd (m 110 l2.toNatClampNeg)
        refine zd (fun (h20 : (m 110 l2.toNatClampNeg) = (0 : Int32)) => ?_) (fun (h20 : ¬ (m 110 l2.toNatClampNeg) = (0 : Int32)) => ?_)
        · skip
          have g21 := i_eq h20
          have hg22 : (0 ≤ l2 ∧ l2.toNatClampNeg < 3100) := i_ix (by omega) (by omega)
          refine ⟨hg22, ?_⟩
          have hg23 : (0 ≤ (m 94 73) ∧ (m 94 73).toNatClampNeg < 3100) := i_ix (by omega) (by omega)
          refine ⟨hg23, ?_⟩
          have li25 : (1 : Int32).toInt = 1 := rfl
          have hV24 : zV (ma_u (zov wr_197 m m1) 110 l2.toNatClampNeg (1 : Int32)) := ua_110 hV_m1 (by omega) (by omega)
          have hV26 : zV (ma_u (ma_u (zov wr_197 m m1) 110 l2.toNatClampNeg (1 : Int32)) 118 (m 94 73).toNatClampNeg l2) := ua_118 hV24 (by omega) (by omega)
          first | have e28 : ((m 94 73) + (1 : Int32)).toInt = (m 94 73).toInt + (1) := i_addk rfl (by omega) (by omega) | have b29 := i_bd ((m 94 73) + (1 : Int32))
          have hV27 : zV (ma_u (ma_u (ma_u (zov wr_197 m m1) 110 l2.toNatClampNeg (1 : Int32)) 118 (m 94 73).toNatClampNeg l2) 94 73 ((m 94 73) + (1 : Int32))) := us_94_73 hV26 (by omega) (by omega)
          refine sp_191  hV27 (show zKS ((ma_u m 110 l2.toNatClampNeg (1 : Int32)) 110) ((m 94 73) + (1 : Int32)) from by first | (exact KS_push (KS_0 (r := m 110) (y := m 94 73) (by omega)) (by assumption) (by omega) (by decide) (by assumption)) | (exfalso; omega; done) | (exfalso; contradiction; done)) r_W (show ((m 94 10).toInt = 2 ∨ (m 94 10).toInt = 3) → zCL ((ma_u m 110 l2.toNatClampNeg (1 : Int32)) 110) (m 98) (m 101) (m 102) (m 108) ((ma_u m 118 (m 94 73).toNatClampNeg l2) 118) ((m 94 73) + (1 : Int32)) 3100 0 from by first | (exact fun hp => CL_push (r_CL hp) (by decide) (by omega) rfl (by assumption)) | (exfalso; omega; done) | (exfalso; contradiction; done)) (show zKU (m 94 10) (m 99) ((ma_u m 110 l2.toNatClampNeg (1 : Int32)) 110) from by first | (exact KU_push r_KU (fun _ => by assumption)) | (exfalso; omega; done) | (exfalso; contradiction; done)) (show zDX (m 94 10) (m 99) (m 112) (m1 113) (m1 114) (m1 94 55) (m 98) (m 101) (m 102) (m 108) from by first | (exact DX_wish r_DX p1_m1 p2_m1 (by assumption) (by omega) (by omega)) | (exfalso; omega; done) | (exfalso; contradiction; done)) (fun m7 hV_m7 p0_m7 p1_m7 p2_m7 p3_m7 => zmv_n ?_)
          have p0_m7 : (m7 94 73).toInt = 0 := p0_m7
          have p1_m7 : ((m 94 10).toInt = 2 ∨ (m 94 10).toInt = 3) → zCL (m7 110) (m 98) (m 101) (m 102) (m 108) (m7 118) (m7 94 73) 3100 0 := p1_m7
          have p2_m7 : zle ((ma_u m 110 l2.toNatClampNeg (1 : Int32)) 110) (m7 110) := p2_m7
          have p3_m7 : zKU (m 94 10) (m 99) (m7 110) := p3_m7
          have f30 : 0 ≤ (m7 94 73).toInt ∧ (m7 94 73).toInt ≤ 3100 := rs_94_73 (m := (zov wr_191 (ma_u (ma_u (ma_u (zov wr_197 m m1) 110 l2.toNatClampNeg (1 : Int32)) 118 (m 94 73).toNatClampNeg l2) 94 73 ((m 94 73) + (1 : Int32))) m7)) hV_m7
          first | have f31 : 0 ≤ (m 100 l2.toNatClampNeg).toInt ∧ (m 100 l2.toNatClampNeg).toInt ≤ 100000 := ra_100 (m := m) hV (k := l2.toNatClampNeg) (i_ix (n := 3100) (by omega) (by omega)).2 | have b32 := i_bd (m 100 l2.toNatClampNeg)
          refine sp_195 ((m 100 l2.toNatClampNeg)) ((0 : Int32)) hV_m7  (fun v10 m9 hV_m9 p0_m9 => zmi_n ?_)
          have p0_m9 : zWS (m 100) (m 99) (m7 110) (m1 109) (m 100 l2.toNatClampNeg) v10 := p0_m9
          try have gw := GW_room p0_m1
          have b33 := i_bd v10
          exact IH ((zmg (m 100) v10 : Int)).toNat (by have zq := zmg_lt (s := l2) (by omega) p0_m9 rfl (by omega) (by omega); omega) _ (v10) rfl (zF_zov (zF_zov (zF_u (zF_u (zF_u (zF_zov hF ws_197_194) rfl) rfl) rfl) ws_191_194) ws_195_194) hV_m9 (show (m7 94 73).toInt = 0 from by omega) (show zWS (m 100) (m 99) (m7 110) (m1 109) (-1 : Int32) v10 from by first | (exact WS_weak p0_m9 (by omega)) | (exact p0_m9) | (exact Or.inl (by decide)) | (exact Or.inr ⟨by omega, by omega, by assumption, by assumption, by assumption, by omega⟩) | (exfalso; omega; done) | (exfalso; contradiction; done)) r_W p0_m1 p1_m7 p3_m7 (show zDX (m 94 10) (m 99) (m 112) (m1 113) (m1 114) (m1 94 55) (m 98) (m 101) (m 102) (m 108) from by first | (exact DX_wish r_DX p1_m1 p2_m1 (by assumption) (by omega) (by omega)) | (exfalso; omega; done) | (exfalso; contradiction; done)) (show ((m 94 10).toInt = 2 ∨ (m 94 10).toInt = 3) → zcov (m7 110) (m 112) 16 from by first | (exact fun hp => cov_le (cov_push (r_COVR hp) (by decide)) p2_m7 (fun k hk => (ra_112 hV_m9 (by omega)).2)) | (exact fun hp => cov_le (r_COVR hp) p2_m7 (fun k hk => (ra_112 hV_m9 (by omega)).2)) | (exact fun hp => cov_0 (by decide)) | (exact fun hp => cov_one (r_COVR hp) rfl (by omega) (by omega) (Or.inl (by omega))) | (exact fun hp => cov_one (r_COVR hp) rfl (by omega) (by omega) (Or.inr (by assumption))) | (exact fun hp => cov_cut (r_COVR hp) (by omega)) | (exact fun hp => cov_le (r_COVR hp) p2_m7 (fun k hk => (ra_112 hV_m9 (by omega)).2)) | (exact fun hp => cov_le (r_COVR hp) p2_m7 (fun k hk => (ra_114 hV_m9 (by have := rs_94_55 hV; omega)).2)) | (exfalso; omega; done) | (exfalso; contradiction; done)) (show ((m 94 10).toInt = 2 ∨ (m 94 10).toInt = 3) → zcov (m7 110) (m1 114) (m1 94 55).toInt from by first | (exact fun hp => cov_le (cov_wx (cov_push (r_COVW hp) (by decide)) p2_m1 (by rw [mu_self]; decide) (by omega) (by omega)) p2_m7 (fun k hk => (ra_114 hV_m9 (by have := GW_room p0_m1; omega)).2)) | (exact fun hp => cov_0 (by decide)) | (exact fun hp => cov_one (r_COVW hp) rfl (by omega) (by omega) (Or.inl (by omega))) | (exact fun hp => cov_one (r_COVW hp) rfl (by omega) (by omega) (Or.inr (by assumption))) | (exact fun hp => cov_cut (r_COVW hp) (by omega)) | (exact fun hp => cov_le (r_COVW hp) p2_m7 (fun k hk => (ra_112 hV_m9 (by omega)).2)) | (exact fun hp => cov_le (r_COVW hp) p2_m7 (fun k hk => (ra_114 hV_m9 (by have := rs_94_55 hV; omega)).2)) | (exfalso; omega; done) | (exfalso; contradiction; done)) (show zuw (m0 113) (m1 113) from by first | (exact zuw_tr r_UW p1_m1) | (exact zuw_rfl) | (exfalso; omega; done) | (exfalso; contradiction; done))
        · skip
          have g34 := i_ne h20
          refine sp_191  hV_m1 (show zKS (m 110) (m 94 73) from by first | (exact KS_0 (by omega)) | (exfalso; omega; done) | (exfalso; contradiction; done)) r_W r_CL r_KU (show zDX (m 94 10) (m 99) (m 112) (m1 113) (m1 114) (m1 94 55) (m 98) (m 101) (m 102) (m 108) from by first | (exact DX_wish r_DX p1_m1 p2_m1 (by assumption) (by omega) (by omega)) | (exfalso; omega; done) | (exfalso; contradiction; done)) (fun m11 hV_m11 p0_m11 p1_m11 p2_m11 p3_m11 => zmv_n ?_)
          have p0_m11 : (m11 94 73).toInt = 0 := p0_m11
          have p1_m11 : ((m 94 10).toInt = 2 ∨ (m 94 10).toInt = 3) → zCL (m11 110) (m 98) (m 101) (m 102) (m 108) (m11 118) (m11 94 73) 3100 0 := p1_m11
          have p2_m11 : zle (m 110) (m11 110) := p2_m11
          have p3_m11 : zKU (m 94 10) (m 99) (m11 110) := p3_m11
          have f35 : 0 ≤ (m11 94 73).toInt ∧ (m11 94 73).toInt ≤ 3100 := rs_94_73 (m := (zov wr_191 (zov wr_197 m m1) m11)) hV_m11
          first | have f36 : 0 ≤ (m 100 l2.toNatClampNeg).toInt ∧ (m 100 l2.toNatClampNeg).toInt ≤ 100000 := ra_100 (m := m) hV (k := l2.toNatClampNeg) (i_ix (n := 3100) (by omega) (by omega)).2 | have b37 := i_bd (m 100 l2.toNatClampNeg)
          refine sp_195 ((m 100 l2.toNatClampNeg)) ((0 : Int32)) hV_m11  (fun v14 m13 hV_m13 p0_m13 => zmi_n ?_)
          have p0_m13 : zWS (m 100) (m 99) (m11 110) (m1 109) (m 100 l2.toNatClampNeg) v14 := p0_m13
          try have gw := GW_room p0_m1
          have b38 := i_bd v14
          exact IH ((zmg (m 100) v14 : Int)).toNat (by have zq := zmg_lt (s := l2) (by omega) p0_m13 rfl (by omega) (by omega); omega) _ (v14) rfl (zF_zov (zF_zov (zF_zov hF ws_197_194) ws_191_194) ws_195_194) hV_m13 (show (m11 94 73).toInt = 0 from by omega) (show zWS (m 100) (m 99) (m11 110) (m1 109) (-1 : Int32) v14 from by first | (exact WS_weak p0_m13 (by omega)) | (exact p0_m13) | (exact Or.inl (by decide)) | (exact Or.inr ⟨by omega, by omega, by assumption, by assumption, by assumption, by omega⟩) | (exfalso; omega; done) | (exfalso; contradiction; done)) r_W p0_m1 p1_m11 p3_m11 (show zDX (m 94 10) (m 99) (m 112) (m1 113) (m1 114) (m1 94 55) (m 98) (m 101) (m 102) (m 108) from by first | (exact DX_wish r_DX p1_m1 p2_m1 (by assumption) (by omega) (by omega)) | (exfalso; omega; done) | (exfalso; contradiction; done)) (show ((m 94 10).toInt = 2 ∨ (m 94 10).toInt = 3) → zcov (m11 110) (m 112) 16 from by first | (exact fun hp => cov_le (cov_push (r_COVR hp) (by decide)) p2_m11 (fun k hk => (ra_112 hV_m13 (by omega)).2)) | (exact fun hp => cov_le (r_COVR hp) p2_m11 (fun k hk => (ra_112 hV_m13 (by omega)).2)) | (exact fun hp => cov_0 (by decide)) | (exact fun hp => cov_one (r_COVR hp) rfl (by omega) (by omega) (Or.inl (by omega))) | (exact fun hp => cov_one (r_COVR hp) rfl (by omega) (by omega) (Or.inr (by assumption))) | (exact fun hp => cov_cut (r_COVR hp) (by omega)) | (exact fun hp => cov_le (r_COVR hp) p2_m11 (fun k hk => (ra_112 hV_m13 (by omega)).2)) | (exact fun hp => cov_le (r_COVR hp) p2_m11 (fun k hk => (ra_114 hV_m13 (by have := rs_94_55 hV; omega)).2)) | (exfalso; omega; done) | (exfalso; contradiction; done)) (show ((m 94 10).toInt = 2 ∨ (m 94 10).toInt = 3) → zcov (m11 110) (m1 114) (m1 94 55).toInt from by first | (exact fun hp => cov_le (cov_wx (cov_push (r_COVW hp) (by decide)) p2_m1 (by rw [mu_self]; decide) (by omega) (by omega)) p2_m11 (fun k hk => (ra_114 hV_m13 (by have := GW_room p0_m1; omega)).2)) | (exact fun hp => cov_0 (by decide)) | (exact fun hp => cov_one (r_COVW hp) rfl (by omega) (by omega) (Or.inl (by omega))) | (exact fun hp => cov_one (r_COVW hp) rfl (by omega) (by omega) (Or.inr (by assumption))) | (exact fun hp => cov_cut (r_COVW hp) (by omega)) | (exact fun hp => cov_le (r_COVW hp) p2_m11 (fun k hk => (ra_112 hV_m13 (by omega)).2)) | (exact fun hp => cov_le (r_COVW hp) p2_m11 (fun k hk => (ra_114 hV_m13 (by have := rs_94_55 hV; omega)).2)) | (exfalso; omega; done) | (exfalso; contradiction; done)) (show zuw (m0 113) (m1 113) from by first | (exact zuw_tr r_UW p1_m1) | (exact zuw_rfl) | (exfalso; omega; done) | (exfalso; contradiction; done))
theorem sp_194 {X : Nat × (Nat → Int32)} {P : Option ma_V → (Nat → Nat → Int32) → Prop} {T : Nat} {m : Nat → Nat → Int32}  (hV : zV m) (hpre0 : (m 94 73).toInt = 0) (r_W : zW (m 94 7) (m 98) (m 101) (m 102) (m 108)) (r_GW : zGW T (m 94 55) (m 109)) (r_CL : ((m 94 10).toInt = 2 ∨ (m 94 10).toInt = 3) → zCL (m 110) (m 98) (m 101) (m 102) (m 108) (m 118) (m 94 73) 3100 0) (r_KU : zKU (m 94 10) (m 99) (m 110)) (r_DX : zDX (m 94 10) (m 99) (m 112) (m 113) (m 114) (m 94 55) (m 98) (m 101) (m 102) (m 108)) (r_COVR : ((m 94 10).toInt = 2 ∨ (m 94 10).toInt = 3) → zcov (m 110) (m 112) 16) (r_COVW : ((m 94 10).toInt = 2 ∨ (m 94 10).toInt = 3) → zcov (m 110) (m 114) (m 94 55).toInt) (KZ : ∀ m₉, zV (zov wr_194 m m₉) → ((m₉ 94 73).toInt = 0) → (zGW T (m₉ 94 55) (m₉ 109)) → (((m 94 10).toInt = 2 ∨ (m 94 10).toInt = 3) → zCL (m₉ 110) (m 98) (m 101) (m 102) (m 108) (m₉ 118) (m₉ 94 73) 3100 0) → (zKU (m 94 10) (m 99) (m₉ 110)) → (zDX (m 94 10) (m 99) (m 112) (m₉ 113) (m₉ 114) (m₉ 94 55) (m 98) (m 101) (m 102) (m 108)) → (((m 94 10).toInt = 2 ∨ (m 94 10).toInt = 3) → zcov (m₉ 110) (m 112) 16) → (((m 94 10).toInt = 2 ∨ (m 94 10).toInt = 3) → zcov (m₉ 110) (m₉ 114) (m₉ 94 55).toInt) → (zuw (m 113) (m₉ 113)) → P none (zov wr_194 m m₉)) : zm X 3 66 194 0 [(0, .inr (.inr (some 94)))] m P := by
  have K : ∀ m₉, zF wr_194 m m₉ → zV m₉ → ((m₉ 94 73).toInt = 0) → (zGW T (m₉ 94 55) (m₉ 109)) → (((m₉ 94 10).toInt = 2 ∨ (m₉ 94 10).toInt = 3) → zCL (m₉ 110) (m₉ 98) (m₉ 101) (m₉ 102) (m₉ 108) (m₉ 118) (m₉ 94 73) 3100 0) → (zKU (m₉ 94 10) (m₉ 99) (m₉ 110)) → (zDX (m₉ 94 10) (m₉ 99) (m₉ 112) (m₉ 113) (m₉ 114) (m₉ 94 55) (m₉ 98) (m₉ 101) (m₉ 102) (m₉ 108)) → (((m₉ 94 10).toInt = 2 ∨ (m₉ 94 10).toInt = 3) → zcov (m₉ 110) (m₉ 112) 16) → (((m₉ 94 10).toInt = 2 ∨ (m₉ 94 10).toInt = 3) → zcov (m₉ 110) (m₉ 114) (m₉ 94 55).toInt) → (zuw (m 113) (m₉ 113)) → P none m₉ := by
    intro m₉ hf z q0 q1 q2 q3 q4 q5 q6 q7
    have e := zov_eq hf
    rw [e] at z ⊢
    try rw [e] at q0
    try rw [e] at q1
    try rw [e] at q2
    try rw [e] at q3
    try rw [e] at q4
    try rw [e] at q5
    try rw [e] at q6
    try rw [e] at q7
    exact KZ m₉ z q0 q1 q2 q3 q4 q5 q6 q7
  refine g_194_0  ?_
  have f1 : 0 ≤ (m 94 73).toInt ∧ (m 94 73).toInt ≤ 3100 := rs_94_73 (m := m) hV
  have li2 : (-1 : Int32).toInt = -1 := rfl
  have li3 : (0 : Int32).toInt = 0 := rfl
  refine sp_195 ((-1 : Int32)) ((0 : Int32)) hV  (fun v2 m1 hV_m1 p0_m1 => zmi_n ?_)
  have p0_m1 : zWS (m 100) (m 99) (m 110) (m 109) (-1 : Int32) v2 := p0_m1
  try have gw := GW_room r_GW
  have b4 := i_bd v2
  exact lp_194_9 hV K _ _ (v2) rfl (zF_zov zF_rfl ws_195_194) hV_m1 (show (m 94 73).toInt = 0 from by omega) p0_m1 r_W r_GW r_CL r_KU r_DX r_COVR r_COVW (show zuw (m 113) (m 113) from by first | (exact zuw_rfl) | (exact zuw_rfl) | (exfalso; omega; done) | (exfalso; contradiction; done))

/-! from 94.417 -/
/-! removing, moving -/
section RM2
variable {m ma mo : Nat → Nat → Int32} {c ca co k t : Nat} {kp us us₉ at₉ ow : Nat → Int32} {x b v : Int32} {l s : Nat}
theorem rm_us (h : zrm us us₉ kp l) (hl : l < 3100) (hu : us₉ l ≠ 0) : us l ≠ 0 := by
  rw [← (h l hl).2 (Nat.le_refl _)]
  exact hu
theorem rm_end (h : zrm us us₉ kp l) (hl : 3100 ≤ l) : zrm us us₉ kp 3100 := fun s hs => ⟨fun _ => (h s hs).1 (by omega), fun z => by omega⟩
/-- one moves: where it was, it begins no more -/
theorem Ow_mv1 (h : zOw us (ma ca) (mo co)) (hu : us s ≠ 0) (hx : x.toInt < 0) (hl : (ma ca s).toInt = (l : Int)) (hv : v.toNatClampNeg = s) (hb : b.toInt = (t : Int)) : zOw us (ma_u ma ca s b ca) (ma_u (ma_u mo co l x) co t v co) := by
  intro p hp ho
  by_cases e : p = t
  · rw [e, mu_self, hv, mu_self]
    exact ⟨hu, hb⟩
  · rw [mu_ne e] at ho ⊢
    by_cases e2 : p = l
    · rw [e2, mu_self] at ho; omega
    · rw [mu_ne e2] at ho ⊢
      have := h p hp ho
      have e3 : (mo co p).toNatClampNeg ≠ s := fun z => by rw [z] at this; omega
      rw [mu_ne e3]
      exact this
theorem Ow_mv2 (h : zOw us (ma ca) (mo co)) (hu : us s ≠ 0) (hl : (ma ca s).toInt = (l : Int)) (hn : mo co l ≠ v) (hv0 : 0 ≤ v.toInt) (hv : v.toNatClampNeg = s) (hb : b.toInt = (t : Int)) : zOw us (ma_u ma ca s b ca) (ma_u mo co t v co) := by
  intro p hp ho
  by_cases e : p = t
  · rw [e, mu_self, hv, mu_self]
    exact ⟨hu, hb⟩
  · rw [mu_ne e] at ho ⊢
    have := h p hp ho
    have e3 : (mo co p).toNatClampNeg ≠ s := by
      intro z
      rw [z] at this
      have hpl : p = l := by omega
      rw [hpl] at z ho
      refine hn ?_
      refine Int32.toInt_inj.mp ?_
      have z2 : (mo co l).toNatClampNeg = v.toNatClampNeg := by rw [z, hv]
      rw [tn_eq, tn_eq] at z2
      have hvv : v.toNatClampNeg = v.toInt.toNat := rfl
      omega
    rw [mu_ne e3]
    exact this
end RM2

