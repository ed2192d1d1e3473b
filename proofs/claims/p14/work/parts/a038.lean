/-! from 94.444 -/
/-! the reference (written by wip/tools/gen94m.py) -/
set_option maxRecDepth 100000 in
theorem hm_240 : ma_md 240 = some (12, yX12_changes, cX12_changes, 3, none) := rfl
theorem dX12_changes_0 : decode cX12_changes 0 = .ok (.aload_n 0, 1) := by decide +kernel
theorem dX12_changes_4 : decode cX12_changes 4 = .ok (.iconst 5, 1) := by decide +kernel
theorem dX12_changes_20 : decode cX12_changes 20 = .ok (.return_, 1) := by decide +kernel
theorem dX12_changes_8 : decode cX12_changes 8 = .ok (.aload_n 0, 1) := by decide +kernel
theorem dX12_changes_15 : decode cX12_changes 15 = .ok (.iload_n 1, 1) := by decide +kernel
theorem dX12_changes_16 : decode cX12_changes 16 = .ok (.iload_n 2, 1) := by decide +kernel
theorem dX12_changes_21 : decode cX12_changes 21 = .ok (.aload_n 0, 1) := by decide +kernel
theorem dX12_changes_22 : decode cX12_changes 22 = .ok (.aload_n 0, 1) := by decide +kernel
theorem dX12_changes_33 : decode cX12_changes 33 = .ok (.iload_n 2, 1) := by decide +kernel
theorem dX12_changes_34 : decode cX12_changes 34 = .ok (.invokevirtual 396, 3) := by decide +kernel
theorem dX12_changes_37 : decode cX12_changes 37 = .ok (.return_, 1) := by decide +kernel
theorem dX12_changes_29 : decode cX12_changes 29 = .ok (.iload_n 1, 1) := by decide +kernel
theorem dX12_changes_30 : decode cX12_changes 30 = .ok (.goto 4, 3) := by decide +kernel
theorem dX12_changes_26 : decode cX12_changes 26 = .ok (.ifCond .eq 7, 3) := by decide +kernel
theorem dX12_changes_23 : decode cX12_changes 23 = .ok (.getfield 228, 3) := by decide +kernel
theorem dX12_changes_17 : decode cX12_changes 17 = .ok (.if_icmp .ne 4, 3) := by decide +kernel
theorem dX12_changes_12 : decode cX12_changes 12 = .ok (.ifCond .eq 8, 3) := by decide +kernel
theorem dX12_changes_9 : decode cX12_changes 9 = .ok (.getfield 270, 3) := by decide +kernel
theorem dX12_changes_5 : decode cX12_changes 5 = .ok (.if_icmp .ne 15, 3) := by decide +kernel
theorem dX12_changes_1 : decode cX12_changes 1 = .ok (.getfield 199, 3) := by decide +kernel
def wr_240 (c k : Nat) : Bool := Nat.beq c 106 || Nat.beq c 115 || (Nat.beq c 94 && (Nat.beq k 56))
theorem g_240_0 {X : Nat × (Nat → Int32)} {m : Nat → Nat → Int32} {P : Option ma_V → (Nat → Nat → Int32) → Prop} (wa : Int32) (is : Int32) (h : if (m 94 10) = (5 : Int32) then (if (m 94 58) = 0 then (P none m) else (if wa = is then (P none m) else (if (m 94 9) = 0 then (if is < 0 then (P none m) else ((0 ≤ is ∧ is.toNatClampNeg < 3100) ∧ (if (m 106 is.toNatClampNeg) = 0 then ((0 ≤ is ∧ is.toNatClampNeg < 3100) ∧ ((0 ≤ (m 94 56) ∧ (m 94 56).toNatClampNeg < 3100) ∧ (P none (ma_u (ma_u (ma_u m 106 is.toNatClampNeg (1 : Int32)) 115 (m 94 56).toNatClampNeg is) 94 56 ((m 94 56) + (1 : Int32)))))) else (P none m)))) else (if wa < 0 then (P none m) else ((0 ≤ wa ∧ wa.toNatClampNeg < 3100) ∧ (if (m 106 wa.toNatClampNeg) = 0 then ((0 ≤ wa ∧ wa.toNatClampNeg < 3100) ∧ ((0 ≤ (m 94 56) ∧ (m 94 56).toNatClampNeg < 3100) ∧ (P none (ma_u (ma_u (ma_u m 106 wa.toNatClampNeg (1 : Int32)) 115 (m 94 56).toNatClampNeg wa) 94 56 ((m 94 56) + (1 : Int32)))))) else (P none m))))))) else (P none m)) : zm X 1 21 240 0 [(0, .inr (.inr (some 94))), (1, .inl wa), (2, .inl is)] m P := by
  intro d w S Q hd hw hS hm HQ
  subst hm
  refine zw_push hm_240 dX12_changes_0 (v := .inr (.inr (some 94))) rfl ?_
  refine zw_gf hm_240 dX12_changes_1 (v := .inl ((mI S) 94 10)) (zT_is hS s_94) (zT_t hS s_94) rfl f_12_199_12 rfl ?_
  refine zw_push hm_240 dX12_changes_4 (v := .inl (5 : Int32)) rfl ?_
  refine zw_if2 hm_240 dX12_changes_5 (t := 20) rfl zc2_ne ?_ ?_
  · intro hc
    rw [if_neg hc] at h
    exact zw_vret hm_240 dX12_changes_20 (HQ _ _ h)
  · intro hc
    rw [if_pos (Classical.not_not.mp hc)] at h
    refine zw_push hm_240 dX12_changes_8 (v := .inr (.inr (some 94))) rfl ?_
    refine zw_gf hm_240 dX12_changes_9 (v := .inl ((mI S) 94 58)) (zT_is hS s_94) (zT_t hS s_94) rfl f_12_270_12 rfl ?_
    refine zw_if0 hm_240 dX12_changes_12 (t := 20) rfl zc0_eq ?_ ?_
    · intro hc
      rw [if_pos hc] at h
      exact zw_vret hm_240 dX12_changes_20 (HQ _ _ h)
    · intro hc
      rw [if_neg hc] at h
      refine zw_push hm_240 dX12_changes_15 (v := .inl wa) rfl ?_
      refine zw_push hm_240 dX12_changes_16 (v := .inl is) rfl ?_
      refine zw_if2 hm_240 dX12_changes_17 (t := 21) rfl zc2_ne ?_ ?_
      · intro hc
        rw [if_neg hc] at h
        refine zw_push hm_240 dX12_changes_21 (v := .inr (.inr (some 94))) rfl ?_
        refine zw_push hm_240 dX12_changes_22 (v := .inr (.inr (some 94))) rfl ?_
        refine zw_gf hm_240 dX12_changes_23 (v := .inl ((mI S) 94 9)) (zT_is hS s_94) (zT_t hS s_94) rfl f_12_228_12 rfl ?_
        refine zw_if0 hm_240 dX12_changes_26 (t := 33) rfl zc0_eq ?_ ?_
        · intro hc
          rw [if_pos hc] at h
          refine zw_push hm_240 dX12_changes_33 (v := .inl is) rfl ?_
          refine zw_cv hm_240 dX12_changes_34 v_12_396_12 hm_221 [.inl is] [] rfl (zT_rt hS s_94 rfl) ⟨by omega, by omega⟩ rfl ?_
          show ma_wp X (d - 1) (w - 21) 221 0 [(0, .inr (.inr (some 94))), (1, .inl is)] [] S _
          refine zw_push hm_221 dX12_toGrey_0 (v := .inl is) rfl ?_
          refine zw_if0 hm_221 dX12_toGrey_1 (t := 13) rfl zc0_lt ?_ ?_
          · intro hc
            rw [if_pos hc] at h
            refine zw_vret hm_221 dX12_toGrey_13 ?_
            show ma_wp X d w 240 37 [(0, .inr (.inr (some 94))), (1, .inl wa), (2, .inl is)] [] S _
            exact zw_vret hm_240 dX12_changes_37 (HQ _ _ h)
          · intro hc
            rw [if_neg hc] at h
            refine zw_push hm_221 dX12_toGrey_4 (v := .inr (.inr (some 94))) rfl ?_
            refine zw_gf hm_221 dX12_toGrey_5 (v := .inr (.inr (some 106))) (zT_is hS s_94) (zT_t hS s_94) rfl f_12_49_12 (zT_f hS r_94_38) ?_
            refine zw_push hm_221 dX12_toGrey_8 (v := .inl is) rfl ?_
            obtain ⟨hg, h⟩ := h
            refine zw_ia hm_221 dX12_toGrey_9 (zT_is hS s_106) (zT_h hS s_106) rfl hg ?_
            show ma_wp X (d - 1) (w - 21) 221 10 [(0, .inr (.inr (some 94))), (1, .inl is)] [.inl ((mI S) 106 is.toNatClampNeg)] S _
            refine zw_if0 hm_221 dX12_toGrey_10 (t := 14) rfl zc0_eq ?_ ?_
            · intro hc
              rw [if_pos hc] at h
              refine zw_push hm_221 dX12_toGrey_14 (v := .inr (.inr (some 94))) rfl ?_
              refine zw_gf hm_221 dX12_toGrey_15 (v := .inr (.inr (some 106))) (zT_is hS s_94) (zT_t hS s_94) rfl f_12_49_12 (zT_f hS r_94_38) ?_
              refine zw_push hm_221 dX12_toGrey_18 (v := .inl is) rfl ?_
              refine zw_push hm_221 dX12_toGrey_19 (v := .inl (1 : Int32)) rfl ?_
              obtain ⟨hg, h⟩ := h
              refine zw_ias hm_221 dX12_toGrey_20 (zT_is hS s_106) (zT_h hS s_106) rfl hg ?_
              refine zw_push hm_221 dX12_toGrey_21 (v := .inr (.inr (some 94))) rfl ?_
              refine zw_gf hm_221 dX12_toGrey_22 (v := .inr (.inr (some 115))) (zT_is (zT_pi hS) s_94) (zT_t (zT_pi hS) s_94) rfl f_12_77_12 (zT_f (zT_pi hS) r_94_54) ?_
              refine zw_push hm_221 dX12_toGrey_25 (v := .inr (.inr (some 94))) rfl ?_
              refine zw_gf hm_221 dX12_toGrey_26 (v := .inl ((mI S) 94 56)) (zT_is (zT_pi hS) s_94) (zT_t (zT_pi hS) s_94) rfl f_12_264_12 rfl ?_
              refine zw_push hm_221 dX12_toGrey_29 (v := .inl is) rfl ?_
              obtain ⟨hg, h⟩ := h
              refine zw_ias hm_221 dX12_toGrey_30 (zT_is (zT_pi hS) s_115) (zT_h (zT_pi hS) s_115) rfl hg ?_
              refine zw_push hm_221 dX12_toGrey_31 (v := .inr (.inr (some 94))) rfl ?_
              refine zw_stk hm_221 dX12_toGrey_32 (st₉ := [.inr (.inr (some 94)), .inr (.inr (some 94))]) rfl rfl ?_
              refine zw_gf hm_221 dX12_toGrey_33 (v := .inl ((mI S) 94 56)) (zT_is (zT_pi (zT_pi hS)) s_94) (zT_t (zT_pi (zT_pi hS)) s_94) rfl f_12_264_12 rfl ?_
              refine zw_push hm_221 dX12_toGrey_36 (v := .inl (1 : Int32)) rfl ?_
              refine zw_stk hm_221 dX12_toGrey_37 (st₉ := [.inl (((mI S) 94 56) + (1 : Int32)), .inr (.inr (some 94))]) rfl rfl ?_
              refine zw_pf hm_221 dX12_toGrey_38 (zT_is (zT_pi (zT_pi hS)) s_94) (zT_t (zT_pi (zT_pi hS)) s_94) p_12_264_12 zk_int ?_
              refine zw_vret hm_221 dX12_toGrey_41 ?_
              show ma_wp X d w 240 37 [(0, .inr (.inr (some 94))), (1, .inl wa), (2, .inl is)] [] (ma_put (ma_put (ma_put S 106 is.toNatClampNeg (.inl (1 : Int32))) 115 ((mI S) 94 56).toNatClampNeg (.inl is)) 94 56 (.inl (((mI S) 94 56) + (1 : Int32)))) _
              exact zw_vret hm_240 dX12_changes_37 (HQ _ _ h)
            · intro hc
              rw [if_neg hc] at h
              refine zw_vret hm_221 dX12_toGrey_13 ?_
              show ma_wp X d w 240 37 [(0, .inr (.inr (some 94))), (1, .inl wa), (2, .inl is)] [] S _
              exact zw_vret hm_240 dX12_changes_37 (HQ _ _ h)
        · intro hc
          rw [if_neg hc] at h
          refine zw_push hm_240 dX12_changes_29 (v := .inl wa) rfl ?_
          refine zw_goto hm_240 dX12_changes_30 (t := 34) rfl ?_
          refine zw_cv hm_240 dX12_changes_34 v_12_396_12 hm_221 [.inl wa] [] rfl (zT_rt hS s_94 rfl) ⟨by omega, by omega⟩ rfl ?_
          show ma_wp X (d - 1) (w - 21) 221 0 [(0, .inr (.inr (some 94))), (1, .inl wa)] [] S _
          refine zw_push hm_221 dX12_toGrey_0 (v := .inl wa) rfl ?_
          refine zw_if0 hm_221 dX12_toGrey_1 (t := 13) rfl zc0_lt ?_ ?_
          · intro hc
            rw [if_pos hc] at h
            refine zw_vret hm_221 dX12_toGrey_13 ?_
            show ma_wp X d w 240 37 [(0, .inr (.inr (some 94))), (1, .inl wa), (2, .inl is)] [] S _
            exact zw_vret hm_240 dX12_changes_37 (HQ _ _ h)
          · intro hc
            rw [if_neg hc] at h
            refine zw_push hm_221 dX12_toGrey_4 (v := .inr (.inr (some 94))) rfl ?_
            refine zw_gf hm_221 dX12_toGrey_5 (v := .inr (.inr (some 106))) (zT_is hS s_94) (zT_t hS s_94) rfl f_12_49_12 (zT_f hS r_94_38) ?_
            refine zw_push hm_221 dX12_toGrey_8 (v := .inl wa) rfl ?_
            obtain ⟨hg, h⟩ := h
            refine zw_ia hm_221 dX12_toGrey_9 (zT_is hS s_106) (zT_h hS s_106) rfl hg ?_
            show ma_wp X (d - 1) (w - 21) 221 10 [(0, .inr (.inr (some 94))), (1, .inl wa)] [.inl ((mI S) 106 wa.toNatClampNeg)] S _
            refine zw_if0 hm_221 dX12_toGrey_10 (t := 14) rfl zc0_eq ?_ ?_
            · intro hc
              rw [if_pos hc] at h
              refine zw_push hm_221 dX12_toGrey_14 (v := .inr (.inr (some 94))) rfl ?_
              refine zw_gf hm_221 dX12_toGrey_15 (v := .inr (.inr (some 106))) (zT_is hS s_94) (zT_t hS s_94) rfl f_12_49_12 (zT_f hS r_94_38) ?_
              refine zw_push hm_221 dX12_toGrey_18 (v := .inl wa) rfl ?_
              refine zw_push hm_221 dX12_toGrey_19 (v := .inl (1 : Int32)) rfl ?_
              obtain ⟨hg, h⟩ := h
              refine zw_ias hm_221 dX12_toGrey_20 (zT_is hS s_106) (zT_h hS s_106) rfl hg ?_
              refine zw_push hm_221 dX12_toGrey_21 (v := .inr (.inr (some 94))) rfl ?_
              refine zw_gf hm_221 dX12_toGrey_22 (v := .inr (.inr (some 115))) (zT_is (zT_pi hS) s_94) (zT_t (zT_pi hS) s_94) rfl f_12_77_12 (zT_f (zT_pi hS) r_94_54) ?_
              refine zw_push hm_221 dX12_toGrey_25 (v := .inr (.inr (some 94))) rfl ?_
              refine zw_gf hm_221 dX12_toGrey_26 (v := .inl ((mI S) 94 56)) (zT_is (zT_pi hS) s_94) (zT_t (zT_pi hS) s_94) rfl f_12_264_12 rfl ?_
              refine zw_push hm_221 dX12_toGrey_29 (v := .inl wa) rfl ?_
              obtain ⟨hg, h⟩ := h
              refine zw_ias hm_221 dX12_toGrey_30 (zT_is (zT_pi hS) s_115) (zT_h (zT_pi hS) s_115) rfl hg ?_
              refine zw_push hm_221 dX12_toGrey_31 (v := .inr (.inr (some 94))) rfl ?_
              refine zw_stk hm_221 dX12_toGrey_32 (st₉ := [.inr (.inr (some 94)), .inr (.inr (some 94))]) rfl rfl ?_
              refine zw_gf hm_221 dX12_toGrey_33 (v := .inl ((mI S) 94 56)) (zT_is (zT_pi (zT_pi hS)) s_94) (zT_t (zT_pi (zT_pi hS)) s_94) rfl f_12_264_12 rfl ?_
              refine zw_push hm_221 dX12_toGrey_36 (v := .inl (1 : Int32)) rfl ?_
              refine zw_stk hm_221 dX12_toGrey_37 (st₉ := [.inl (((mI S) 94 56) + (1 : Int32)), .inr (.inr (some 94))]) rfl rfl ?_
              refine zw_pf hm_221 dX12_toGrey_38 (zT_is (zT_pi (zT_pi hS)) s_94) (zT_t (zT_pi (zT_pi hS)) s_94) p_12_264_12 zk_int ?_
              refine zw_vret hm_221 dX12_toGrey_41 ?_
              show ma_wp X d w 240 37 [(0, .inr (.inr (some 94))), (1, .inl wa), (2, .inl is)] [] (ma_put (ma_put (ma_put S 106 wa.toNatClampNeg (.inl (1 : Int32))) 115 ((mI S) 94 56).toNatClampNeg (.inl wa)) 94 56 (.inl (((mI S) 94 56) + (1 : Int32)))) _
              exact zw_vret hm_240 dX12_changes_37 (HQ _ _ h)
            · intro hc
              rw [if_neg hc] at h
              refine zw_vret hm_221 dX12_toGrey_13 ?_
              show ma_wp X d w 240 37 [(0, .inr (.inr (some 94))), (1, .inl wa), (2, .inl is)] [] S _
              exact zw_vret hm_240 dX12_changes_37 (HQ _ _ h)
      · intro hc
        rw [if_pos (Classical.not_not.mp hc)] at h
        exact zw_vret hm_240 dX12_changes_20 (HQ _ _ h)
theorem sp_240 {X : Nat × (Nat → Int32)} {P : Option ma_V → (Nat → Nat → Int32) → Prop} {m : Nat → Nat → Int32} (wa : Int32) (is : Int32) (hV : zV m) (hpre0 : wa.toInt ≤ 3099) (hpre1 : is.toInt ≤ 3099) (r_GG : zGG (m 94 58) (m 94 56) (m 94 57) (m 106)) (hpre3 : (m 94 58).toInt = 0 ∨ (m 94 10).toInt = 5) (KZ : ∀ m₉, zV (zov wr_240 m m₉) → (zGG (m 94 58) (m₉ 94 56) (m 94 57) (m₉ 106)) → P none (zov wr_240 m m₉)) : zm X 1 21 240 0 [(0, .inr (.inr (some 94))), (1, .inl wa), (2, .inl is)] m P := by
  have K : ∀ m₉, zF wr_240 m m₉ → zV m₉ → (zGG (m₉ 94 58) (m₉ 94 56) (m₉ 94 57) (m₉ 106)) → P none m₉ := by
    intro m₉ hf z q0
    have e := zov_eq hf
    rw [e] at z ⊢
    try rw [e] at q0
    exact KZ m₉ z q0
  refine g_240_0 wa is ?_
  have f1 : 0 ≤ (m 94 58).toInt ∧ (m 94 58).toInt ≤ 1 := rs_94_58 (m := m) hV
  have f2 : 0 ≤ (m 94 10).toInt ∧ (m 94 10).toInt ≤ 6 := rs_94_10 (m := m) hV
  have li3 : (5 : Int32).toInt = 5 := rfl
  refine zd (fun (h4 : (m 94 10) = (5 : Int32)) => ?_) (fun (h4 : ¬ (m 94 10) = (5 : Int32)) => ?_)
  · skip
    have g5 := i_eq h4
    have li6 : (0 : Int32).toInt = 0 := rfl
    refine zd (fun (h7 : (m 94 58) = (0 : Int32)) => ?_) (fun (h7 : ¬ (m 94 58) = (0 : Int32)) => ?_)
    · skip
      have g8 := i_eq h7
      exact K _ zF_rfl hV r_GG
    · skip
      have g9 := i_ne h7
      have b10 := i_bd wa
      have b11 := i_bd is
      refine zd (fun (h12 : wa = is) => ?_) (fun (h12 : ¬ wa = is) => ?_)
      · skip
        have g13 := i_eq h12
        exact K _ zF_rfl hV r_GG
      · skip
        have g14 := i_ne h12
        have f15 : 0 ≤ (m 94 9).toInt ∧ (m 94 9).toInt ≤ 1 := rs_94_9 (m := m) hV
        refine zd (fun (h16 : (m 94 9) = (0 : Int32)) => ?_) (fun (h16 : ¬ (m 94 9) = (0 : Int32)) => ?_)
        · skip
          have g17 := i_eq h16
          refine zd (fun (h18 : is < (0 : Int32)) => ?_) (fun (h18 : ¬ is < (0 : Int32)) => ?_)
          · skip
            have g19 := i_lt h18
            exact K _ zF_rfl hV r_GG
          · skip
            have g20 := i_nlt h18
            have hg21 : (0 ≤ is ∧ is.toNatClampNeg < 3100) := i_ix (by omega) (by omega)
            refine ⟨hg21, ?_⟩
            have b22 := i_bd (m 106 is.toNatClampNeg)
            refine zd (fun (h23 : (m 106 is.toNatClampNeg) = (0 : Int32)) => ?_) (fun (h23 : ¬ (m 106 is.toNatClampNeg) = (0 : Int32)) => ?_)
            · skip
              have g24 := i_eq h23
              have hg25 : (0 ≤ is ∧ is.toNatClampNeg < 3100) := i_ix (by omega) (by omega)
              refine ⟨hg25, ?_⟩
              have f26 : 0 ≤ (m 94 56).toInt ∧ (m 94 56).toInt ≤ 3100 := rs_94_56 (m := m) hV
              try have gk := G1_room (r_GG (by omega)) (by assumption) (by omega)
              have hg27 : (0 ≤ (m 94 56) ∧ (m 94 56).toNatClampNeg < 3100) := i_ix (by omega) (by omega)
              refine ⟨hg27, ?_⟩
              have hV28 : zV (ma_u m 106 is.toNatClampNeg (1 : Int32)) := ua_106 hV
              have hV29 : zV (ma_u (ma_u m 106 is.toNatClampNeg (1 : Int32)) 115 (m 94 56).toNatClampNeg is) := ua_115 hV28 (by omega) (by omega)
              first | have e31 : ((m 94 56) + (1 : Int32)).toInt = (m 94 56).toInt + (1) := i_addk rfl (by omega) (by omega) | have b32 := i_bd ((m 94 56) + (1 : Int32))
              have hV30 : zV (ma_u (ma_u (ma_u m 106 is.toNatClampNeg (1 : Int32)) 115 (m 94 56).toNatClampNeg is) 94 56 ((m 94 56) + (1 : Int32))) := us_94_56 hV29 (by omega) (by omega)
              exact K _ (zF_u (zF_u (zF_u zF_rfl rfl) rfl) rfl) hV30 (show zGG (m 94 58) ((m 94 56) + (1 : Int32)) (m 94 57) ((ma_u m 106 is.toNatClampNeg (1 : Int32)) 106) from by first | (exact fun z => G1_push (r_GG z) (by assumption) (by omega) (by decide) (by assumption)) | (exact fun z => absurd z (by decide)) | (exact fun z => absurd z (by omega)) | (exfalso; omega; done) | (exfalso; contradiction; done))
            · skip
              have g33 := i_ne h23
              exact K _ zF_rfl hV r_GG
        · skip
          have g34 := i_ne h16
          refine zd (fun (h35 : wa < (0 : Int32)) => ?_) (fun (h35 : ¬ wa < (0 : Int32)) => ?_)
          · skip
            have g36 := i_lt h35
            exact K _ zF_rfl hV r_GG
          · skip
            have g37 := i_nlt h35
            have hg38 : (0 ≤ wa ∧ wa.toNatClampNeg < 3100) := i_ix (by omega) (by omega)
            refine ⟨hg38, ?_⟩
            have b39 := i_bd (m 106 wa.toNatClampNeg)
            refine zd (fun (h40 : (m 106 wa.toNatClampNeg) = (0 : Int32)) => ?_) (fun (h40 : ¬ (m 106 wa.toNatClampNeg) = (0 : Int32)) => ?_)
            · skip
              have g41 := i_eq h40
              have hg42 : (0 ≤ wa ∧ wa.toNatClampNeg < 3100) := i_ix (by omega) (by omega)
              refine ⟨hg42, ?_⟩
              have f43 : 0 ≤ (m 94 56).toInt ∧ (m 94 56).toInt ≤ 3100 := rs_94_56 (m := m) hV
              try have gk := G1_room (r_GG (by omega)) (by assumption) (by omega)
              have hg44 : (0 ≤ (m 94 56) ∧ (m 94 56).toNatClampNeg < 3100) := i_ix (by omega) (by omega)
              refine ⟨hg44, ?_⟩
              have hV45 : zV (ma_u m 106 wa.toNatClampNeg (1 : Int32)) := ua_106 hV
              have hV46 : zV (ma_u (ma_u m 106 wa.toNatClampNeg (1 : Int32)) 115 (m 94 56).toNatClampNeg wa) := ua_115 hV45 (by omega) (by omega)
              first | have e48 : ((m 94 56) + (1 : Int32)).toInt = (m 94 56).toInt + (1) := i_addk rfl (by omega) (by omega) | have b49 := i_bd ((m 94 56) + (1 : Int32))
              have hV47 : zV (ma_u (ma_u (ma_u m 106 wa.toNatClampNeg (1 : Int32)) 115 (m 94 56).toNatClampNeg wa) 94 56 ((m 94 56) + (1 : Int32))) := us_94_56 hV46 (by omega) (by omega)
              exact K _ (zF_u (zF_u (zF_u zF_rfl rfl) rfl) rfl) hV47 (show zGG (m 94 58) ((m 94 56) + (1 : Int32)) (m 94 57) ((ma_u m 106 wa.toNatClampNeg (1 : Int32)) 106) from by first | (exact fun z => G1_push (r_GG z) (by assumption) (by omega) (by decide) (by assumption)) | (exact fun z => absurd z (by decide)) | (exact fun z => absurd z (by omega)) | (exfalso; omega; done) | (exfalso; contradiction; done))
            · skip
              have g50 := i_ne h40
              exact K _ zF_rfl hV r_GG
  · skip
    have g51 := i_ne h4
    exact K _ zF_rfl hV r_GG

/-! from 94.445 -/
/-! the reference (written by wip/tools/gen94m.py) -/
set_option maxRecDepth 100000 in
theorem hm_238 : ma_md 238 = some (12, yX12_setRoot, cX12_setRoot, 4, none) := rfl
set_option maxRecDepth 100000 in
theorem hm_239 : ma_md 239 = some (12, yX12_more, cX12_more, 2, none) := rfl
theorem v_12_484_12 : ma_vl 12 484 12 = some (1, 239, 1) := by decide +kernel
theorem v_12_487_12 : ma_vl 12 487 12 = some (1, 240, 2) := by decide +kernel
theorem v_12_490_12 : ma_vl 12 490 12 = some (1, 241, 1) := by decide +kernel
theorem dX12_setRoot_0 : decode cX12_setRoot 0 = .ok (.aload_n 0, 1) := by decide +kernel
theorem dX12_setRoot_4 : decode cX12_setRoot 4 = .ok (.iload_n 1, 1) := by decide +kernel
theorem dX12_setRoot_6 : decode cX12_setRoot 6 = .ok (.istore_n 3, 1) := by decide +kernel
theorem dX12_setRoot_7 : decode cX12_setRoot 7 = .ok (.aload_n 0, 1) := by decide +kernel
theorem dX12_setRoot_8 : decode cX12_setRoot 8 = .ok (.iload_n 2, 1) := by decide +kernel
theorem dX12_setRoot_9 : decode cX12_setRoot 9 = .ok (.invokevirtual 484, 3) := by decide +kernel
theorem dX12_more_0 : decode cX12_more 0 = .ok (.iload_n 1, 1) := by decide +kernel
theorem dX12_setRoot_12 : decode cX12_setRoot 12 = .ok (.aload_n 0, 1) := by decide +kernel
theorem dX12_setRoot_16 : decode cX12_setRoot 16 = .ok (.iload_n 1, 1) := by decide +kernel
theorem dX12_setRoot_17 : decode cX12_setRoot 17 = .ok (.iload_n 2, 1) := by decide +kernel
theorem dX12_setRoot_19 : decode cX12_setRoot 19 = .ok (.aload_n 0, 1) := by decide +kernel
theorem dX12_setRoot_20 : decode cX12_setRoot 20 = .ok (.iload_n 3, 1) := by decide +kernel
theorem dX12_setRoot_21 : decode cX12_setRoot 21 = .ok (.iload_n 2, 1) := by decide +kernel
theorem dX12_setRoot_22 : decode cX12_setRoot 22 = .ok (.invokevirtual 487, 3) := by decide +kernel
theorem dX12_setRoot_25 : decode cX12_setRoot 25 = .ok (.aload_n 0, 1) := by decide +kernel
theorem dX12_setRoot_26 : decode cX12_setRoot 26 = .ok (.iload_n 3, 1) := by decide +kernel
theorem dX12_setRoot_27 : decode cX12_setRoot 27 = .ok (.invokevirtual 490, 3) := by decide +kernel
theorem dX12_setRoot_30 : decode cX12_setRoot 30 = .ok (.return_, 1) := by decide +kernel
theorem dX12_setRoot_18 : decode cX12_setRoot 18 = .ok (.iastore, 1) := by decide +kernel
theorem dX12_setRoot_13 : decode cX12_setRoot 13 = .ok (.getfield 68, 3) := by decide +kernel
theorem dX12_more_22 : decode cX12_more 22 = .ok (.return_, 1) := by decide +kernel
theorem dX12_more_4 : decode cX12_more 4 = .ok (.aload_n 0, 1) := by decide +kernel
theorem dX12_more_8 : decode cX12_more 8 = .ok (.iconst 4, 1) := by decide +kernel
theorem dX12_more_12 : decode cX12_more 12 = .ok (.aload_n 0, 1) := by decide +kernel
theorem dX12_more_16 : decode cX12_more 16 = .ok (.iload_n 1, 1) := by decide +kernel
theorem dX12_more_17 : decode cX12_more 17 = .ok (.dup2, 1) := by decide +kernel
theorem dX12_more_19 : decode cX12_more 19 = .ok (.iconst 1, 1) := by decide +kernel
theorem dX12_more_20 : decode cX12_more 20 = .ok (.iadd, 1) := by decide +kernel
theorem dX12_more_21 : decode cX12_more 21 = .ok (.iastore, 1) := by decide +kernel
theorem dX12_more_18 : decode cX12_more 18 = .ok (.iaload, 1) := by decide +kernel
theorem dX12_more_13 : decode cX12_more 13 = .ok (.getfield 46, 3) := by decide +kernel
theorem dX12_more_9 : decode cX12_more 9 = .ok (.if_icmp .ne 13, 3) := by decide +kernel
theorem dX12_more_5 : decode cX12_more 5 = .ok (.getfield 199, 3) := by decide +kernel
theorem dX12_more_1 : decode cX12_more 1 = .ok (.ifCond .lt 21, 3) := by decide +kernel
theorem dX12_setRoot_5 : decode cX12_setRoot 5 = .ok (.iaload, 1) := by decide +kernel
theorem dX12_setRoot_1 : decode cX12_setRoot 1 = .ok (.getfield 68, 3) := by decide +kernel
def wr_238 (c k : Nat) : Bool := Nat.beq c 99 || Nat.beq c 105 || Nat.beq c 106 || Nat.beq c 109 || Nat.beq c 111 || Nat.beq c 112 || Nat.beq c 113 || Nat.beq c 114 || Nat.beq c 115 || Nat.beq c 120 || Nat.beq c 121 || (Nat.beq c 94 && (Nat.beq k 44 || Nat.beq k 45 || Nat.beq k 49 || Nat.beq k 55 || Nat.beq k 56 || Nat.beq k 80))
theorem ws_240_238 : ∀ c k, wr_240 c k = true → wr_238 c k = true := by
  intro c k h
  simp only [wr_240, wr_238, Bool.or_eq_true, Bool.and_eq_true, Nat.beq_eq] at h ⊢
  omega
theorem ws_241_238 : ∀ c k, wr_241 c k = true → wr_238 c k = true := by
  intro c k h
  simp only [wr_241, wr_238, Bool.or_eq_true, Bool.and_eq_true, Nat.beq_eq] at h ⊢
  omega
theorem g_238_0 {X : Nat × (Nat → Int32)} {m : Nat → Nat → Int32} {P : Option ma_V → (Nat → Nat → Int32) → Prop} (r1 : Int32) (s : Int32) (h : (0 ≤ r1 ∧ r1.toNatClampNeg < 16) ∧ (if s < 0 then ((0 ≤ r1 ∧ r1.toNatClampNeg < 16) ∧ (zm X 1 21 240 0 [(0, .inr (.inr (some 94))), (1, .inl (m 112 r1.toNatClampNeg)), (2, .inl s)] (ma_u m 112 r1.toNatClampNeg s) (zmv (fun m1 => zm X 3 64 241 0 [(0, .inr (.inr (some 94))), (1, .inl (m 112 r1.toNatClampNeg))] m1 (zmv (fun m3 => P none m3)))))) else (if (m 94 10) = (4 : Int32) then ((0 ≤ s ∧ s.toNatClampNeg < 3100) ∧ ((0 ≤ s ∧ s.toNatClampNeg < 3100) ∧ ((0 ≤ r1 ∧ r1.toNatClampNeg < 16) ∧ (zm X 1 21 240 0 [(0, .inr (.inr (some 94))), (1, .inl (m 112 r1.toNatClampNeg)), (2, .inl s)] (ma_u (ma_u m 105 s.toNatClampNeg ((m 105 s.toNatClampNeg) + (1 : Int32))) 112 r1.toNatClampNeg s) (zmv (fun m9 => zm X 3 64 241 0 [(0, .inr (.inr (some 94))), (1, .inl (m 112 r1.toNatClampNeg))] m9 (zmv (fun m11 => P none m11)))))))) else ((0 ≤ r1 ∧ r1.toNatClampNeg < 16) ∧ (zm X 1 21 240 0 [(0, .inr (.inr (some 94))), (1, .inl (m 112 r1.toNatClampNeg)), (2, .inl s)] (ma_u m 112 r1.toNatClampNeg s) (zmv (fun m5 => zm X 3 64 241 0 [(0, .inr (.inr (some 94))), (1, .inl (m 112 r1.toNatClampNeg))] m5 (zmv (fun m7 => P none m7))))))))) : zm X 4 88 238 0 [(0, .inr (.inr (some 94))), (1, .inl r1), (2, .inl s)] m P := by
  intro d w S Q hd hw hS hm HQ
  subst hm
  refine zw_push hm_238 dX12_setRoot_0 (v := .inr (.inr (some 94))) rfl ?_
  refine zw_gf hm_238 dX12_setRoot_1 (v := .inr (.inr (some 112))) (zT_is hS s_94) (zT_t hS s_94) rfl f_12_68_12 (zT_f hS r_94_51) ?_
  refine zw_push hm_238 dX12_setRoot_4 (v := .inl r1) rfl ?_
  obtain ⟨hg, h⟩ := h
  refine zw_ia hm_238 dX12_setRoot_5 (zT_is hS s_112) (zT_h hS s_112) rfl hg ?_
  show ma_wp X d w 238 6 [(0, .inr (.inr (some 94))), (1, .inl r1), (2, .inl s)] [.inl ((mI S) 112 r1.toNatClampNeg)] S _
  refine zw_sto hm_238 dX12_setRoot_6 [(3, .inl ((mI S) 112 r1.toNatClampNeg)), (0, .inr (.inr (some 94))), (1, .inl r1), (2, .inl s)] rfl rfl rfl ?_
  refine zw_push hm_238 dX12_setRoot_7 (v := .inr (.inr (some 94))) rfl ?_
  refine zw_push hm_238 dX12_setRoot_8 (v := .inl s) rfl ?_
  refine zw_cv hm_238 dX12_setRoot_9 v_12_484_12 hm_239 [.inl s] [] rfl (zT_rt hS s_94 rfl) ⟨by omega, by omega⟩ rfl ?_
  show ma_wp X (d - 1) (w - 21) 239 0 [(0, .inr (.inr (some 94))), (1, .inl s)] [] S _
  refine zw_push hm_239 dX12_more_0 (v := .inl s) rfl ?_
  refine zw_if0 hm_239 dX12_more_1 (t := 22) rfl zc0_lt ?_ ?_
  · intro hc
    rw [if_pos hc] at h
    refine zw_vret hm_239 dX12_more_22 ?_
    show ma_wp X d w 238 12 [(3, .inl ((mI S) 112 r1.toNatClampNeg)), (0, .inr (.inr (some 94))), (1, .inl r1), (2, .inl s)] [] S _
    refine zw_push hm_238 dX12_setRoot_12 (v := .inr (.inr (some 94))) rfl ?_
    refine zw_gf hm_238 dX12_setRoot_13 (v := .inr (.inr (some 112))) (zT_is hS s_94) (zT_t hS s_94) rfl f_12_68_12 (zT_f hS r_94_51) ?_
    refine zw_push hm_238 dX12_setRoot_16 (v := .inl r1) rfl ?_
    refine zw_push hm_238 dX12_setRoot_17 (v := .inl s) rfl ?_
    obtain ⟨hg, h⟩ := h
    refine zw_ias hm_238 dX12_setRoot_18 (zT_is hS s_112) (zT_h hS s_112) rfl hg ?_
    refine zw_push hm_238 dX12_setRoot_19 (v := .inr (.inr (some 94))) rfl ?_
    refine zw_push hm_238 dX12_setRoot_20 (v := .inl ((mI S) 112 r1.toNatClampNeg)) rfl ?_
    refine zw_push hm_238 dX12_setRoot_21 (v := .inl s) rfl ?_
    refine zw_cv hm_238 dX12_setRoot_22 v_12_487_12 hm_240 [.inl s, .inl ((mI S) 112 r1.toNatClampNeg)] [] rfl (zT_rt (zT_pi hS) s_94 rfl) ⟨by omega, by omega⟩ rfl (h _ _ (ma_put S 112 r1.toNatClampNeg (.inl s)) _ (by omega) (by omega) (zT_pi hS) rfl (fun o9 m1 hv => ?_))
    obtain ⟨rfl, h⟩ := zmv_of hv
    show ma_wp X d w 238 25 [(3, .inl ((mI S) 112 r1.toNatClampNeg)), (0, .inr (.inr (some 94))), (1, .inl r1), (2, .inl s)] [] (zst S m1) _
    refine zw_push hm_238 dX12_setRoot_25 (v := .inr (.inr (some 94))) rfl ?_
    refine zw_push hm_238 dX12_setRoot_26 (v := .inl ((mI S) 112 r1.toNatClampNeg)) rfl ?_
    refine zw_cv hm_238 dX12_setRoot_27 v_12_490_12 hm_241 [.inl ((mI S) 112 r1.toNatClampNeg)] [] rfl (zT_rt (zT_zst hS m1) s_94 rfl) ⟨by omega, by omega⟩ rfl (h _ _ (zst S m1) _ (by omega) (by omega) (zT_zst hS m1) rfl (fun o9 m3 hv => ?_))
    obtain ⟨rfl, h⟩ := zmv_of hv
    show ma_wp X d w 238 30 [(3, .inl ((mI S) 112 r1.toNatClampNeg)), (0, .inr (.inr (some 94))), (1, .inl r1), (2, .inl s)] [] (zst S m3) _
    exact zw_vret hm_238 dX12_setRoot_30 (HQ _ _ h)
  · intro hc
    rw [if_neg hc] at h
    refine zw_push hm_239 dX12_more_4 (v := .inr (.inr (some 94))) rfl ?_
    refine zw_gf hm_239 dX12_more_5 (v := .inl ((mI S) 94 10)) (zT_is hS s_94) (zT_t hS s_94) rfl f_12_199_12 rfl ?_
    refine zw_push hm_239 dX12_more_8 (v := .inl (4 : Int32)) rfl ?_
    refine zw_if2 hm_239 dX12_more_9 (t := 22) rfl zc2_ne ?_ ?_
    · intro hc
      rw [if_neg hc] at h
      refine zw_vret hm_239 dX12_more_22 ?_
      show ma_wp X d w 238 12 [(3, .inl ((mI S) 112 r1.toNatClampNeg)), (0, .inr (.inr (some 94))), (1, .inl r1), (2, .inl s)] [] S _
      refine zw_push hm_238 dX12_setRoot_12 (v := .inr (.inr (some 94))) rfl ?_
      refine zw_gf hm_238 dX12_setRoot_13 (v := .inr (.inr (some 112))) (zT_is hS s_94) (zT_t hS s_94) rfl f_12_68_12 (zT_f hS r_94_51) ?_
      refine zw_push hm_238 dX12_setRoot_16 (v := .inl r1) rfl ?_
      refine zw_push hm_238 dX12_setRoot_17 (v := .inl s) rfl ?_
      obtain ⟨hg, h⟩ := h
      refine zw_ias hm_238 dX12_setRoot_18 (zT_is hS s_112) (zT_h hS s_112) rfl hg ?_
      refine zw_push hm_238 dX12_setRoot_19 (v := .inr (.inr (some 94))) rfl ?_
      refine zw_push hm_238 dX12_setRoot_20 (v := .inl ((mI S) 112 r1.toNatClampNeg)) rfl ?_
      refine zw_push hm_238 dX12_setRoot_21 (v := .inl s) rfl ?_
      refine zw_cv hm_238 dX12_setRoot_22 v_12_487_12 hm_240 [.inl s, .inl ((mI S) 112 r1.toNatClampNeg)] [] rfl (zT_rt (zT_pi hS) s_94 rfl) ⟨by omega, by omega⟩ rfl (h _ _ (ma_put S 112 r1.toNatClampNeg (.inl s)) _ (by omega) (by omega) (zT_pi hS) rfl (fun o9 m5 hv => ?_))
      obtain ⟨rfl, h⟩ := zmv_of hv
      show ma_wp X d w 238 25 [(3, .inl ((mI S) 112 r1.toNatClampNeg)), (0, .inr (.inr (some 94))), (1, .inl r1), (2, .inl s)] [] (zst S m5) _
      refine zw_push hm_238 dX12_setRoot_25 (v := .inr (.inr (some 94))) rfl ?_
      refine zw_push hm_238 dX12_setRoot_26 (v := .inl ((mI S) 112 r1.toNatClampNeg)) rfl ?_
      refine zw_cv hm_238 dX12_setRoot_27 v_12_490_12 hm_241 [.inl ((mI S) 112 r1.toNatClampNeg)] [] rfl (zT_rt (zT_zst hS m5) s_94 rfl) ⟨by omega, by omega⟩ rfl (h _ _ (zst S m5) _ (by omega) (by omega) (zT_zst hS m5) rfl (fun o9 m7 hv => ?_))
      obtain ⟨rfl, h⟩ := zmv_of hv
      show ma_wp X d w 238 30 [(3, .inl ((mI S) 112 r1.toNatClampNeg)), (0, .inr (.inr (some 94))), (1, .inl r1), (2, .inl s)] [] (zst S m7) _
      exact zw_vret hm_238 dX12_setRoot_30 (HQ _ _ h)
    · intro hc
      rw [if_pos (Classical.not_not.mp hc)] at h
      refine zw_push hm_239 dX12_more_12 (v := .inr (.inr (some 94))) rfl ?_
      refine zw_gf hm_239 dX12_more_13 (v := .inr (.inr (some 105))) (zT_is hS s_94) (zT_t hS s_94) rfl f_12_46_12 (zT_f hS r_94_37) ?_
      refine zw_push hm_239 dX12_more_16 (v := .inl s) rfl ?_
      refine zw_stk hm_239 dX12_more_17 (st₉ := [.inl s, .inr (.inr (some 105)), .inl s, .inr (.inr (some 105))]) rfl rfl ?_
      obtain ⟨hg, h⟩ := h
      refine zw_ia hm_239 dX12_more_18 (zT_is hS s_105) (zT_h hS s_105) rfl hg ?_
      show ma_wp X (d - 1) (w - 21) 239 19 [(0, .inr (.inr (some 94))), (1, .inl s)] [.inl ((mI S) 105 s.toNatClampNeg), .inl s, .inr (.inr (some 105))] S _
      refine zw_push hm_239 dX12_more_19 (v := .inl (1 : Int32)) rfl ?_
      refine zw_stk hm_239 dX12_more_20 (st₉ := [.inl (((mI S) 105 s.toNatClampNeg) + (1 : Int32)), .inl s, .inr (.inr (some 105))]) rfl rfl ?_
      obtain ⟨hg, h⟩ := h
      refine zw_ias hm_239 dX12_more_21 (zT_is hS s_105) (zT_h hS s_105) rfl hg ?_
      refine zw_vret hm_239 dX12_more_22 ?_
      show ma_wp X d w 238 12 [(3, .inl ((mI S) 112 r1.toNatClampNeg)), (0, .inr (.inr (some 94))), (1, .inl r1), (2, .inl s)] [] (ma_put S 105 s.toNatClampNeg (.inl (((mI S) 105 s.toNatClampNeg) + (1 : Int32)))) _
      refine zw_push hm_238 dX12_setRoot_12 (v := .inr (.inr (some 94))) rfl ?_
      refine zw_gf hm_238 dX12_setRoot_13 (v := .inr (.inr (some 112))) (zT_is (zT_pi hS) s_94) (zT_t (zT_pi hS) s_94) rfl f_12_68_12 (zT_f (zT_pi hS) r_94_51) ?_
      refine zw_push hm_238 dX12_setRoot_16 (v := .inl r1) rfl ?_
      refine zw_push hm_238 dX12_setRoot_17 (v := .inl s) rfl ?_
      obtain ⟨hg, h⟩ := h
      refine zw_ias hm_238 dX12_setRoot_18 (zT_is (zT_pi hS) s_112) (zT_h (zT_pi hS) s_112) rfl hg ?_
      refine zw_push hm_238 dX12_setRoot_19 (v := .inr (.inr (some 94))) rfl ?_
      refine zw_push hm_238 dX12_setRoot_20 (v := .inl ((mI S) 112 r1.toNatClampNeg)) rfl ?_
      refine zw_push hm_238 dX12_setRoot_21 (v := .inl s) rfl ?_
      refine zw_cv hm_238 dX12_setRoot_22 v_12_487_12 hm_240 [.inl s, .inl ((mI S) 112 r1.toNatClampNeg)] [] rfl (zT_rt (zT_pi (zT_pi hS)) s_94 rfl) ⟨by omega, by omega⟩ rfl (h _ _ (ma_put (ma_put S 105 s.toNatClampNeg (.inl (((mI S) 105 s.toNatClampNeg) + (1 : Int32)))) 112 r1.toNatClampNeg (.inl s)) _ (by omega) (by omega) (zT_pi (zT_pi hS)) rfl (fun o9 m9 hv => ?_))
      obtain ⟨rfl, h⟩ := zmv_of hv
      show ma_wp X d w 238 25 [(3, .inl ((mI S) 112 r1.toNatClampNeg)), (0, .inr (.inr (some 94))), (1, .inl r1), (2, .inl s)] [] (zst S m9) _
      refine zw_push hm_238 dX12_setRoot_25 (v := .inr (.inr (some 94))) rfl ?_
      refine zw_push hm_238 dX12_setRoot_26 (v := .inl ((mI S) 112 r1.toNatClampNeg)) rfl ?_
      refine zw_cv hm_238 dX12_setRoot_27 v_12_490_12 hm_241 [.inl ((mI S) 112 r1.toNatClampNeg)] [] rfl (zT_rt (zT_zst hS m9) s_94 rfl) ⟨by omega, by omega⟩ rfl (h _ _ (zst S m9) _ (by omega) (by omega) (zT_zst hS m9) rfl (fun o9 m11 hv => ?_))
      obtain ⟨rfl, h⟩ := zmv_of hv
      show ma_wp X d w 238 30 [(3, .inl ((mI S) 112 r1.toNatClampNeg)), (0, .inr (.inr (some 94))), (1, .inl r1), (2, .inl s)] [] (zst S m11) _
      exact zw_vret hm_238 dX12_setRoot_30 (HQ _ _ h)
theorem sp_238 {X : Nat × (Nat → Int32)} {P : Option ma_V → (Nat → Nat → Int32) → Prop} {T : Nat} {m : Nat → Nat → Int32} (r1 : Int32) (s : Int32) (hV : zV m) (hpre0 : 0 ≤ r1.toInt) (hpre1 : r1.toInt ≤ 15) (hpre2 : -1 ≤ s.toInt) (hpre3 : s.toInt ≤ 3099) (r_SU : ((m 94 10).toInt = 2 ∨ (m 94 10).toInt = 3) → s.toInt < 0 ∨ (m 99) s.toNatClampNeg ≠ 0) (r_W : zW (m 94 7) (m 98) (m 101) (m 102) (m 108)) (r_GW : zGW T (m 94 55) (m 109)) (r_GU : zGU T (m 94 46) (m 99)) (r_OW : zOw (m 99) (m 103) (m 111)) (r_DX : zDX (m 94 10) (m 99) (m 112) (m 113) (m 114) (m 94 55) (m 98) (m 101) (m 102) (m 108)) (r_GG : zGG (m 94 58) (m 94 56) (m 94 57) (m 106)) (r_HA : zHA (m 94 10) (m 94 11) (m 94 13) (m 94 14) (m 94 16) (m 94 61) (m 94 59) (m 94 60) (m 99) (m 102) (m 103) (m 111) (m 117) (m 98) (m 101) (m 108)) (r_RGc : zRG (m 94 10) (m 94 18) (m 94 64) (m 94 63) (m 99) (m 103) (m 102) (m 116)) (hpre13 : (m 94 58).toInt = 0 ∨ (m 94 10).toInt = 5) (KZ : ∀ m₉, zV (zov wr_238 m m₉) → (zGW T (m₉ 94 55) (m₉ 109)) → (zGU T (m 94 46) (m₉ 99)) → (zOw (m₉ 99) (m 103) (m₉ 111)) → (zDX (m 94 10) (m₉ 99) (m₉ 112) (m₉ 113) (m₉ 114) (m₉ 94 55) (m 98) (m 101) (m 102) (m 108)) → (zGG (m 94 58) (m₉ 94 56) (m 94 57) (m₉ 106)) → (zHA (m 94 10) (m 94 11) (m 94 13) (m 94 14) (m 94 16) (m 94 61) (m 94 59) (m 94 60) (m₉ 99) (m 102) (m 103) (m₉ 111) (m 117) (m 98) (m 101) (m 108)) → (zRG (m 94 10) (m 94 18) (m 94 64) (m 94 63) (m₉ 99) (m 103) (m 102) (m 116)) → ((m 94 58).toInt = 0 ∨ (m 94 10).toInt = 5) → P none (zov wr_238 m m₉)) : zm X 4 88 238 0 [(0, .inr (.inr (some 94))), (1, .inl r1), (2, .inl s)] m P := by
  have K : ∀ m₉, zF wr_238 m m₉ → zV m₉ → (zGW T (m₉ 94 55) (m₉ 109)) → (zGU T (m₉ 94 46) (m₉ 99)) → (zOw (m₉ 99) (m₉ 103) (m₉ 111)) → (zDX (m₉ 94 10) (m₉ 99) (m₉ 112) (m₉ 113) (m₉ 114) (m₉ 94 55) (m₉ 98) (m₉ 101) (m₉ 102) (m₉ 108)) → (zGG (m₉ 94 58) (m₉ 94 56) (m₉ 94 57) (m₉ 106)) → (zHA (m₉ 94 10) (m₉ 94 11) (m₉ 94 13) (m₉ 94 14) (m₉ 94 16) (m₉ 94 61) (m₉ 94 59) (m₉ 94 60) (m₉ 99) (m₉ 102) (m₉ 103) (m₉ 111) (m₉ 117) (m₉ 98) (m₉ 101) (m₉ 108)) → (zRG (m₉ 94 10) (m₉ 94 18) (m₉ 94 64) (m₉ 94 63) (m₉ 99) (m₉ 103) (m₉ 102) (m₉ 116)) → ((m₉ 94 58).toInt = 0 ∨ (m₉ 94 10).toInt = 5) → P none m₉ := by
    intro m₉ hf z q0 q1 q2 q3 q4 q5 q6 q7
    have e := zov_eq hf
    rw [e] at z ⊢
    try rw [e] at q0
    try rw [e] at q1
    try rw [e] at q2
    try rw [e] at q3
    try rw [e] at q4
    try rw [e] at q5
    try rw [e] at q6
    try rw [e] at q7
    exact KZ m₉ z q0 q1 q2 q3 q4 q5 q6 q7
  refine g_238_0 r1 s ?_
  have f1 : 0 ≤ (m 94 58).toInt ∧ (m 94 58).toInt ≤ 1 := rs_94_58 (m := m) hV
  have f2 : 0 ≤ (m 94 10).toInt ∧ (m 94 10).toInt ≤ 6 := rs_94_10 (m := m) hV
  have b3 := i_bd r1
  have hg4 : (0 ≤ r1 ∧ r1.toNatClampNeg < 16) := i_ix (by omega) (by omega)
  refine ⟨hg4, ?_⟩
  have b5 := i_bd s
  have li6 : (0 : Int32).toInt = 0 := rfl
  refine zd (fun (h7 : s < (0 : Int32)) => ?_) (fun (h7 : ¬ s < (0 : Int32)) => ?_)
  · skip
    have g8 := i_lt h7
    have hg9 : (0 ≤ r1 ∧ r1.toNatClampNeg < 16) := i_ix (by omega) (by omega)
    refine ⟨hg9, ?_⟩
    first | have f10 : -1 ≤ (m 112 r1.toNatClampNeg).toInt ∧ (m 112 r1.toNatClampNeg).toInt ≤ 3099 := ra_112 (m := m) hV (k := r1.toNatClampNeg) (i_ix (n := 16) (by omega) (by omega)).2 | have b11 := i_bd (m 112 r1.toNatClampNeg)
    have hV12 : zV (ma_u m 112 r1.toNatClampNeg s) := ua_112 hV (by omega) (by omega)
    refine sp_240 ((m 112 r1.toNatClampNeg)) (s) hV12 (by omega) (by omega) r_GG (show (m 94 58).toInt = 0 ∨ (m 94 10).toInt = 5 from by omega) (fun m1 hV_m1 p0_m1 => zmv_n ?_)
    have p0_m1 : zGG (m 94 58) (m1 94 56) (m 94 57) (m1 106) := p0_m1
    refine sp_241 ((m 112 r1.toNatClampNeg)) hV_m1 (by omega) r_W r_GW r_GU r_OW (show zDX (m 94 10) (m 99) ((ma_u m 112 r1.toNatClampNeg s) 112) (m 113) (m 114) (m 94 55) (m 98) (m 101) (m 102) (m 108) from by first | (exact DX_root r_DX r_SU) | (exfalso; omega; done) | (exfalso; contradiction; done)) (fun m3 hV_m3 p0_m3 p1_m3 p2_m3 p3_m3 p4_m3 => zmv_n ?_)
    have p0_m3 : zGW T (m3 94 55) (m3 109) := p0_m3
    have p1_m3 : zGU T (m 94 46) (m3 99) := p1_m3
    have p2_m3 : zOw (m3 99) (m 103) (m3 111) := p2_m3
    have p3_m3 : zDX (m 94 10) (m3 99) ((ma_u m 112 r1.toNatClampNeg s) 112) (m3 113) (m3 114) (m3 94 55) (m 98) (m 101) (m 102) (m 108) := p3_m3
    have p4_m3 : (m 94 10).toInt ≠ 4 → ((m3 99) = (m 99) ∧ (m3 111) = (m 111) ∧ (m3 113) = (m 113) ∧ (m3 114) = (m 114) ∧ (m3 94 55) = (m 94 55) ∧ (m3 109) = (m 109)) := p4_m3
    exact K _ (zF_zov (zF_zov (zF_u zF_rfl rfl) ws_240_238) ws_241_238) hV_m3 p0_m3 p1_m3 p2_m3 p3_m3 p0_m1 (show zHA (m 94 10) (m 94 11) (m 94 13) (m 94 14) (m 94 16) (m 94 61) (m 94 59) (m 94 60) (m3 99) (m 102) (m 103) (m3 111) (m 117) (m 98) (m 101) (m 108) from by first | (exact HA_lq r_HA (fun z => ⟨(p4_m3 z).1, (p4_m3 z).2.1⟩)) | (exfalso; omega; done) | (exfalso; contradiction; done)) (show zRG (m 94 10) (m 94 18) (m 94 64) (m 94 63) (m3 99) (m 103) (m 102) (m 116) from by first | (exact RG_lq r_RGc (fun z => (p4_m3 z).1)) | (exfalso; omega; done) | (exfalso; contradiction; done)) (show (m 94 58).toInt = 0 ∨ (m 94 10).toInt = 5 from by omega)
  · skip
    have g13 := i_nlt h7
    have li14 : (4 : Int32).toInt = 4 := rfl
    refine zd (fun (h15 : (m 94 10) = (4 : Int32)) => ?_) (fun (h15 : ¬ (m 94 10) = (4 : Int32)) => ?_)
    · skip
      have g16 := i_eq h15
      have hg17 : (0 ≤ s ∧ s.toNatClampNeg < 3100) := i_ix (by omega) (by omega)
      refine ⟨hg17, ?_⟩
      have hg18 : (0 ≤ s ∧ s.toNatClampNeg < 3100) := i_ix (by omega) (by omega)
      refine ⟨hg18, ?_⟩
      have hg19 : (0 ≤ r1 ∧ r1.toNatClampNeg < 16) := i_ix (by omega) (by omega)
      refine ⟨hg19, ?_⟩
      first | have f20 : -1 ≤ (m 112 r1.toNatClampNeg).toInt ∧ (m 112 r1.toNatClampNeg).toInt ≤ 3099 := ra_112 (m := m) hV (k := r1.toNatClampNeg) (i_ix (n := 16) (by omega) (by omega)).2 | have b21 := i_bd (m 112 r1.toNatClampNeg)
      have hV22 : zV (ma_u m 105 s.toNatClampNeg ((m 105 s.toNatClampNeg) + (1 : Int32))) := ua_105 hV
      have hV23 : zV (ma_u (ma_u m 105 s.toNatClampNeg ((m 105 s.toNatClampNeg) + (1 : Int32))) 112 r1.toNatClampNeg s) := ua_112 hV22 (by omega) (by omega)
      refine sp_240 ((m 112 r1.toNatClampNeg)) (s) hV23 (by omega) (by omega) r_GG (show (m 94 58).toInt = 0 ∨ (m 94 10).toInt = 5 from by omega) (fun m9 hV_m9 p0_m9 => zmv_n ?_)
      have p0_m9 : zGG (m 94 58) (m9 94 56) (m 94 57) (m9 106) := p0_m9
      refine sp_241 ((m 112 r1.toNatClampNeg)) hV_m9 (by omega) r_W r_GW r_GU r_OW (show zDX (m 94 10) (m 99) ((ma_u m 112 r1.toNatClampNeg s) 112) (m 113) (m 114) (m 94 55) (m 98) (m 101) (m 102) (m 108) from by first | (exact DX_root r_DX r_SU) | (exfalso; omega; done) | (exfalso; contradiction; done)) (fun m11 hV_m11 p0_m11 p1_m11 p2_m11 p3_m11 p4_m11 => zmv_n ?_)
      have p0_m11 : zGW T (m11 94 55) (m11 109) := p0_m11
      have p1_m11 : zGU T (m 94 46) (m11 99) := p1_m11
      have p2_m11 : zOw (m11 99) (m 103) (m11 111) := p2_m11
      have p3_m11 : zDX (m 94 10) (m11 99) ((ma_u m 112 r1.toNatClampNeg s) 112) (m11 113) (m11 114) (m11 94 55) (m 98) (m 101) (m 102) (m 108) := p3_m11
      have p4_m11 : (m 94 10).toInt ≠ 4 → ((m11 99) = (m 99) ∧ (m11 111) = (m 111) ∧ (m11 113) = (m 113) ∧ (m11 114) = (m 114) ∧ (m11 94 55) = (m 94 55) ∧ (m11 109) = (m 109)) := p4_m11
      exact K _ (zF_zov (zF_zov (zF_u (zF_u zF_rfl rfl) rfl) ws_240_238) ws_241_238) hV_m11 p0_m11 p1_m11 p2_m11 p3_m11 p0_m9 (show zHA (m 94 10) (m 94 11) (m 94 13) (m 94 14) (m 94 16) (m 94 61) (m 94 59) (m 94 60) (m11 99) (m 102) (m 103) (m11 111) (m 117) (m 98) (m 101) (m 108) from by first | (exact HA_lq r_HA (fun z => ⟨(p4_m11 z).1, (p4_m11 z).2.1⟩)) | (exfalso; omega; done) | (exfalso; contradiction; done)) (show zRG (m 94 10) (m 94 18) (m 94 64) (m 94 63) (m11 99) (m 103) (m 102) (m 116) from by first | (exact RG_lq r_RGc (fun z => (p4_m11 z).1)) | (exfalso; omega; done) | (exfalso; contradiction; done)) (show (m 94 58).toInt = 0 ∨ (m 94 10).toInt = 5 from by omega)
    · skip
      have g24 := i_ne h15
      have hg25 : (0 ≤ r1 ∧ r1.toNatClampNeg < 16) := i_ix (by omega) (by omega)
      refine ⟨hg25, ?_⟩
      first | have f26 : -1 ≤ (m 112 r1.toNatClampNeg).toInt ∧ (m 112 r1.toNatClampNeg).toInt ≤ 3099 := ra_112 (m := m) hV (k := r1.toNatClampNeg) (i_ix (n := 16) (by omega) (by omega)).2 | have b27 := i_bd (m 112 r1.toNatClampNeg)
      have hV28 : zV (ma_u m 112 r1.toNatClampNeg s) := ua_112 hV (by omega) (by omega)
      refine sp_240 ((m 112 r1.toNatClampNeg)) (s) hV28 (by omega) (by omega) r_GG (show (m 94 58).toInt = 0 ∨ (m 94 10).toInt = 5 from by omega) (fun m5 hV_m5 p0_m5 => zmv_n ?_)
      have p0_m5 : zGG (m 94 58) (m5 94 56) (m 94 57) (m5 106) := p0_m5
      refine sp_241 ((m 112 r1.toNatClampNeg)) hV_m5 (by omega) r_W r_GW r_GU r_OW (show zDX (m 94 10) (m 99) ((ma_u m 112 r1.toNatClampNeg s) 112) (m 113) (m 114) (m 94 55) (m 98) (m 101) (m 102) (m 108) from by first | (exact DX_root r_DX r_SU) | (exfalso; omega; done) | (exfalso; contradiction; done)) (fun m7 hV_m7 p0_m7 p1_m7 p2_m7 p3_m7 p4_m7 => zmv_n ?_)
      have p0_m7 : zGW T (m7 94 55) (m7 109) := p0_m7
      have p1_m7 : zGU T (m 94 46) (m7 99) := p1_m7
      have p2_m7 : zOw (m7 99) (m 103) (m7 111) := p2_m7
      have p3_m7 : zDX (m 94 10) (m7 99) ((ma_u m 112 r1.toNatClampNeg s) 112) (m7 113) (m7 114) (m7 94 55) (m 98) (m 101) (m 102) (m 108) := p3_m7
      have p4_m7 : (m 94 10).toInt ≠ 4 → ((m7 99) = (m 99) ∧ (m7 111) = (m 111) ∧ (m7 113) = (m 113) ∧ (m7 114) = (m 114) ∧ (m7 94 55) = (m 94 55) ∧ (m7 109) = (m 109)) := p4_m7
      exact K _ (zF_zov (zF_zov (zF_u zF_rfl rfl) ws_240_238) ws_241_238) hV_m7 p0_m7 p1_m7 p2_m7 p3_m7 p0_m5 (show zHA (m 94 10) (m 94 11) (m 94 13) (m 94 14) (m 94 16) (m 94 61) (m 94 59) (m 94 60) (m7 99) (m 102) (m 103) (m7 111) (m 117) (m 98) (m 101) (m 108) from by first | (exact HA_lq r_HA (fun z => ⟨(p4_m7 z).1, (p4_m7 z).2.1⟩)) | (exfalso; omega; done) | (exfalso; contradiction; done)) (show zRG (m 94 10) (m 94 18) (m 94 64) (m 94 63) (m7 99) (m 103) (m 102) (m 116) from by first | (exact RG_lq r_RGc (fun z => (p4_m7 z).1)) | (exfalso; omega; done) | (exfalso; contradiction; done)) (show (m 94 58).toInt = 0 ∨ (m 94 10).toInt = 5 from by omega)

/-! from 94.446 -/
/-! words are read and written -/
section WD1
variable {m : Nat → Nat → Int32} {c k : Nat} {ks po ro yo ol ca hf tp ot wm : Int32} {kr kd ws wd us rt wk wi at₉ ow di : Nat → Int32} {s i x : Int32}
theorem zrf_ne {s₉ i₉ : Nat} (h : 60 * s₉ + i₉ ≠ k) : zrf kr kd (ma_u m c k x c) s₉ i₉ = zrf kr kd (m c) s₉ i₉ := by
  unfold zrf
  rw [mu_ne h]
theorem zrf_no {s₉ i₉ : Nat} (h1 : ¬ kd s₉ = 16) (h2 : ¬ (kd s₉ < 16 ∧ ((kr (kd s₉).toNatClampNeg >>> (Int32.ofNat i₉ &&& 31)) &&& 1) = 1)) (wd₉ : Nat → Int32) : zrf kr kd wd₉ s₉ i₉ = -1 := by
  unfold zrf
  rw [if_neg h1, if_neg h2]
theorem W_w1 (h : zW ks kr kd ws wd) (h1 : 0 ≤ s.toInt) (h2 : s.toInt ≤ 3099) (h3 : 0 ≤ i.toInt) (h4 : i.toInt < (ws s.toNatClampNeg).toInt) (h5 : (ws s.toNatClampNeg).toInt ≤ 60) (hk : kd s.toNatClampNeg = 16) : -1 ≤ (wd (s * (60 : Int32) + i).toNatClampNeg).toInt ∧ (wd (s * (60 : Int32) + i).toNatClampNeg).toInt ≤ 3099 := by
  have e := zrf_eq (kr := kr) (kd := kd) (wd := wd) h1 h2 h3 (by omega)
  rw [if_pos hk] at e
  exact W_ref h h1 h2 h3 h4 e.symm
theorem W_w2 (h : zW ks kr kd ws wd) (h1 : 0 ≤ s.toInt) (h2 : s.toInt ≤ 3099) (h3 : 0 ≤ i.toInt) (h4 : i.toInt < (ws s.toNatClampNeg).toInt) (h5 : (ws s.toNatClampNeg).toInt ≤ 60) (hk : ¬ kd s.toNatClampNeg = 16) (hk2 : ¬ (16 : Int32) ≤ kd s.toNatClampNeg) (hb : ((kr (kd s.toNatClampNeg).toNatClampNeg >>> (i &&& 31)) &&& 1) = 1) : -1 ≤ (wd (s * (60 : Int32) + i).toNatClampNeg).toInt ∧ (wd (s * (60 : Int32) + i).toNatClampNeg).toInt ≤ 3099 := by
  have e := zrf_eq (kr := kr) (kd := kd) (wd := wd) h1 h2 h3 (by omega)
  rw [if_neg hk, if_pos ⟨Int32.not_le.mp hk2, hb⟩] at e
  exact W_ref h h1 h2 h3 h4 e.symm
/-- an int is written: what words refer to is as it was -/
theorem zrf_put (h1 : 0 ≤ s.toInt) (h2 : s.toInt ≤ 3099) (h3 : 0 ≤ i.toInt) (h4 : i.toInt < 60) (hk : ¬ kd s.toNatClampNeg = 16) (hk2 : ¬ (kd s.toNatClampNeg < 16 ∧ ((kr (kd s.toNatClampNeg).toNatClampNeg >>> (i &&& 31)) &&& 1) = 1)) : ∀ s₉ i₉ : Nat, i₉ < 60 → zrf kr kd (ma_u m c (s * (60 : Int32) + i).toNatClampNeg x c) s₉ i₉ = zrf kr kd (m c) s₉ i₉ := by
  intro s₉ i₉ hi
  have e := ix_word h1 h2 h3 (by omega : i.toInt ≤ 60)
  by_cases z : 60 * s₉ + i₉ = (s * (60 : Int32) + i).toNatClampNeg
  · have hi2 : i.toNatClampNeg < 60 := by rw [tn_eq]; omega
    have es : s₉ = s.toNatClampNeg := by omega
    have ei : i₉ = i.toNatClampNeg := by omega
    rw [es, ei]
    rw [zrf_no hk (by rw [ofNat_tn h3]; exact hk2), zrf_no hk (by rw [ofNat_tn h3]; exact hk2)]
  · exact zrf_ne z
section WD2
variable {kr₉ wd₉ : Nat → Int32}
theorem W_same {ks₉ : Int32} (h : zW ks kr kd ws wd) (hk : ks.toInt ≤ ks₉.toInt) (e : ∀ s₉ i₉ : Nat, s₉ < 3100 → (i₉ : Int) < (ws s₉).toInt → zrf kr₉ kd wd₉ s₉ i₉ = zrf kr kd wd s₉ i₉) : zW ks₉ kr₉ kd ws wd₉ := by
  intro s hs
  refine ⟨fun i hi => ?_, ?_⟩
  · rw [e s i hs hi]
    exact (h s hs).1 i hi
  · rcases (h s hs).2 with q | q | q
    · exact Or.inl q
    · exact Or.inr (Or.inl q)
    · exact Or.inr (Or.inr (by omega))
theorem DX_same (h : zDX po us rt wk wi wm kr kd ws wd) (e : ∀ s₉ i₉ : Nat, s₉ < 3100 → (i₉ : Int) < (ws s₉).toInt → zrf kr₉ kd wd₉ s₉ i₉ = zrf kr kd wd s₉ i₉) : zDX po us rt wk wi wm kr₉ kd ws wd₉ := by
  intro hp
  obtain ⟨a1, a2, a3, a4⟩ := h hp
  refine ⟨a1, a2, a3, fun s hs hu i hi => ?_⟩
  unfold zcl
  rw [e s i hs hi]
  exact a4 s hs hu i hi
theorem HA_same (h : zHA po ro yo ol ca hf tp ot us ws at₉ ow di kr kd wd) (e : ∀ s₉ i₉ : Nat, s₉ < 3100 → (i₉ : Int) < (ws s₉).toInt → zrf kr₉ kd wd₉ s₉ i₉ = zrf kr kd wd s₉ i₉) : zHA po ro yo ol ca hf tp ot us ws at₉ ow di kr₉ kd wd₉ := by
  refine ⟨h.1, fun hp => ?_⟩
  obtain ⟨a1, a2, a3, a4, a5⟩ := h.2 hp
  refine ⟨a1, a2, a3, a4, fun s hs hu ha i hi => ?_⟩
  rw [e s i hs hi]
  exact a5 s hs hu ha i hi
/-- a kind is told -/
theorem zrf_kind {ma : Nat → Nat → Int32} {ca₉ : Nat} (h : zW ks (ma ca₉) kd ws wd) (hk : (k : Int) = ks.toInt) (hd : ∀ s, s < 3100 → 0 ≤ (kd s).toInt) : ∀ s₉ i₉ : Nat, s₉ < 3100 → (i₉ : Int) < (ws s₉).toInt → zrf (ma_u ma ca₉ k x ca₉) kd wd s₉ i₉ = zrf (ma ca₉) kd wd s₉ i₉ := by
  intro s₉ i₉ hs hi
  unfold zrf
  by_cases h16 : kd s₉ = 16
  · rw [if_pos h16, if_pos h16]
  · rw [if_neg h16, if_neg h16]
    by_cases hl : (kd s₉).toInt < ks.toInt
    · have hn : (kd s₉).toNatClampNeg ≠ k := by rw [tn_eq]; have := hd s₉ hs; omega
      rw [mu_ne hn]
    · have h2 := (h s₉ hs).2
      have h3 : ¬ kd s₉ < 16 := fun z => by
        have z2 := Int32.lt_iff_toInt_lt.mp z
        have z3 : (16 : Int32).toInt = 16 := rfl
        rcases h2 with q | q | q <;> omega
      rw [if_neg (fun z => h3 z.1), if_neg (fun z => h3 z.1)]
/-- a REFERENCE is set -/
theorem zrf_link (h1 : 0 ≤ s.toInt) (h2 : s.toInt ≤ 3099) (h3 : 0 ≤ i.toInt) (h4 : i.toInt < 60) (hk : kd s.toNatClampNeg = 16 ∨ (kd s.toNatClampNeg < 16 ∧ ((kr (kd s.toNatClampNeg).toNatClampNeg >>> (i &&& 31)) &&& 1) = 1)) : ∀ s₉ i₉ : Nat, i₉ < 60 → zrf kr kd (ma_u m c (s * (60 : Int32) + i).toNatClampNeg x c) s₉ i₉ = if s₉ = s.toNatClampNeg ∧ i₉ = i.toNatClampNeg then x else zrf kr kd (m c) s₉ i₉ := by
  intro s₉ i₉ hi
  have e := ix_word h1 h2 h3 (by omega : i.toInt ≤ 60)
  have hi2 : i.toNatClampNeg < 60 := by rw [tn_eq]; omega
  by_cases z : 60 * s₉ + i₉ = (s * (60 : Int32) + i).toNatClampNeg
  · have es : s₉ = s.toNatClampNeg := by omega
    have ei : i₉ = i.toNatClampNeg := by omega
    rw [if_pos ⟨es, ei⟩, es, ei]
    unfold zrf
    rw [ofNat_tn h3, ← e, mu_self]
    rcases hk with q | q
    · rw [if_pos q]
    · by_cases q2 : kd s.toNatClampNeg = 16
      · rw [if_pos q2]
      · rw [if_neg q2, if_pos q]
  · rw [if_neg (fun q => z (by rw [q.1, q.2]; exact e.symm))]
    exact zrf_ne z
end WD2
end WD1
theorem GW_up {T : Nat} {z : Int32} {r : Nat → Int32} (h : zGW T z r) (ht : T + 1 ≤ 3000) : zGW (T + 1) z r := ⟨by have := h.1; omega, ht⟩
theorem GW_more {T : Nat} {m : Nat → Nat → Int32} {c k : Nat} {z x : Int32} (h : zGW T z (m c)) (ht : T + 1 ≤ 3000) : zGW (T + 1) z (ma_u m c k x c) := by
  have := cnt_ub (m := m) (c := c) (k := k) (x := x) (n := 3100)
  exact ⟨by have := h.1; omega, ht⟩

