/-! the class behind (written by wip/tools/gen95c.py) -/
theorem g_138_64_j4_0 {X : Nat × (Nat → Int32)} {d w : Nat} {S : ma_S} {Q : Option ma_V ⊕ Nat → ma_S → Prop} (x : Int32) (hd : 0 ≤ d) (hw : 0 ≤ w) (hS : zT S) (h : if (100 : Int32) ≤ (mI S 64 1) then (Q (.inl none) S) else ((0 ≤ (mI S 64 1) ∧ (mI S 64 1).toNatClampNeg < 100) ∧ (if (100 : Int32) ≤ ((mI S 64 1) + (1 : Int32)) then (Q (.inl none) (ma_put (ma_put S 65 (mI S 64 1).toNatClampNeg (.inl (vp_nar .byte (((x.toUInt32 >>> ((24 : Int32).toUInt32 &&& Int32.toUInt32 31)).toInt32).toInt8.toInt32)))) 64 1 (.inl ((mI S 64 1) + (1 : Int32))))) else ((0 ≤ ((mI S 64 1) + (1 : Int32)) ∧ ((mI S 64 1) + (1 : Int32)).toNatClampNeg < 100) ∧ (if (100 : Int32) ≤ (((mI S 64 1) + (1 : Int32)) + (1 : Int32)) then (Q (.inl none) (ma_put (ma_put (ma_put (ma_put S 65 (mI S 64 1).toNatClampNeg (.inl (vp_nar .byte (((x.toUInt32 >>> ((24 : Int32).toUInt32 &&& Int32.toUInt32 31)).toInt32).toInt8.toInt32)))) 64 1 (.inl ((mI S 64 1) + (1 : Int32)))) 65 ((mI S 64 1) + (1 : Int32)).toNatClampNeg (.inl (vp_nar .byte (((x.toUInt32 >>> ((16 : Int32).toUInt32 &&& Int32.toUInt32 31)).toInt32).toInt8.toInt32)))) 64 1 (.inl (((mI S 64 1) + (1 : Int32)) + (1 : Int32))))) else ((0 ≤ (((mI S 64 1) + (1 : Int32)) + (1 : Int32)) ∧ (((mI S 64 1) + (1 : Int32)) + (1 : Int32)).toNatClampNeg < 100) ∧ (if (100 : Int32) ≤ ((((mI S 64 1) + (1 : Int32)) + (1 : Int32)) + (1 : Int32)) then (Q (.inl none) (ma_put (ma_put (ma_put (ma_put (ma_put (ma_put S 65 (mI S 64 1).toNatClampNeg (.inl (vp_nar .byte (((x.toUInt32 >>> ((24 : Int32).toUInt32 &&& Int32.toUInt32 31)).toInt32).toInt8.toInt32)))) 64 1 (.inl ((mI S 64 1) + (1 : Int32)))) 65 ((mI S 64 1) + (1 : Int32)).toNatClampNeg (.inl (vp_nar .byte (((x.toUInt32 >>> ((16 : Int32).toUInt32 &&& Int32.toUInt32 31)).toInt32).toInt8.toInt32)))) 64 1 (.inl (((mI S 64 1) + (1 : Int32)) + (1 : Int32)))) 65 (((mI S 64 1) + (1 : Int32)) + (1 : Int32)).toNatClampNeg (.inl (vp_nar .byte (((x.toUInt32 >>> ((8 : Int32).toUInt32 &&& Int32.toUInt32 31)).toInt32).toInt8.toInt32)))) 64 1 (.inl ((((mI S 64 1) + (1 : Int32)) + (1 : Int32)) + (1 : Int32))))) else ((0 ≤ ((((mI S 64 1) + (1 : Int32)) + (1 : Int32)) + (1 : Int32)) ∧ ((((mI S 64 1) + (1 : Int32)) + (1 : Int32)) + (1 : Int32)).toNatClampNeg < 100) ∧ (Q (.inl none) (ma_put (ma_put (ma_put (ma_put (ma_put (ma_put (ma_put (ma_put S 65 (mI S 64 1).toNatClampNeg (.inl (vp_nar .byte (((x.toUInt32 >>> ((24 : Int32).toUInt32 &&& Int32.toUInt32 31)).toInt32).toInt8.toInt32)))) 64 1 (.inl ((mI S 64 1) + (1 : Int32)))) 65 ((mI S 64 1) + (1 : Int32)).toNatClampNeg (.inl (vp_nar .byte (((x.toUInt32 >>> ((16 : Int32).toUInt32 &&& Int32.toUInt32 31)).toInt32).toInt8.toInt32)))) 64 1 (.inl (((mI S 64 1) + (1 : Int32)) + (1 : Int32)))) 65 (((mI S 64 1) + (1 : Int32)) + (1 : Int32)).toNatClampNeg (.inl (vp_nar .byte (((x.toUInt32 >>> ((8 : Int32).toUInt32 &&& Int32.toUInt32 31)).toInt32).toInt8.toInt32)))) 64 1 (.inl ((((mI S 64 1) + (1 : Int32)) + (1 : Int32)) + (1 : Int32)))) 65 ((((mI S 64 1) + (1 : Int32)) + (1 : Int32)) + (1 : Int32)).toNatClampNeg (.inl (vp_nar .byte (((x.toUInt32 >>> ((0 : Int32).toUInt32 &&& Int32.toUInt32 31)).toInt32).toInt8.toInt32)))) 64 1 (.inl (((((mI S 64 1) + (1 : Int32)) + (1 : Int32)) + (1 : Int32)) + (1 : Int32))))))))))))) : ma_wp X d w 138 0 [(0, .inr (.inr (some 64))), (1, .inl x)] [] S Q := by
  refine zw_push hm_138 dX11_addBytes_0 (v := .inl (24 : Int32)) rfl ?_
  refine zw_sto hm_138 dX11_addBytes_2 [(2, .inl (24 : Int32)), (0, .inr (.inr (some 64))), (1, .inl x)] rfl rfl rfl ?_
  refine zw_push hm_138 dX11_addBytes_3 (v := .inl (24 : Int32)) rfl ?_
  refine zw_if0 hm_138 dX11_addBytes_4 (t := 45) rfl zc0_lt (fun hc => absurd hc (by decide)) (fun _ => ?_)
  refine zw_push hm_138 dX11_addBytes_7 (v := .inr (.inr (some 64))) rfl ?_
  refine zw_gf hm_138 dX11_addBytes_8 (v := .inl (mI S 64 1)) (zT_is hS s_64) (zT_t hS s_64) rfl f_11_68_11 rfl ?_
  refine zw_push hm_138 dX11_addBytes_11 (v := .inl (100 : Int32)) rfl ?_
  refine zw_if2 hm_138 dX11_addBytes_13 (t := 45) rfl zc2_ge ?_ ?_
  · intro hc
    rw [if_pos hc] at h
    exact zw_vret hm_138 dX11_addBytes_45 h
  · intro hc
    rw [if_neg hc] at h
    refine zw_push hm_138 dX11_addBytes_16 (v := .inr (.inr (some 64))) rfl ?_
    refine zw_gf hm_138 dX11_addBytes_17 (v := .inr (.inr (some 65))) (zT_is hS s_64) (zT_t hS s_64) rfl f_11_9_11 (zT_f hS r_64_0) ?_
    refine zw_push hm_138 dX11_addBytes_20 (v := .inr (.inr (some 64))) rfl ?_
    refine zw_gf hm_138 dX11_addBytes_21 (v := .inl (mI S 64 1)) (zT_is hS s_64) (zT_t hS s_64) rfl f_11_68_11 rfl ?_
    refine zw_push hm_138 dX11_addBytes_24 (v := .inl x) rfl ?_
    refine zw_push hm_138 dX11_addBytes_25 (v := .inl (24 : Int32)) rfl ?_
    refine zw_stk hm_138 dX11_addBytes_26 (st' := [.inl ((x.toUInt32 >>> ((24 : Int32).toUInt32 &&& Int32.toUInt32 31)).toInt32), .inl (mI S 64 1), .inr (.inr (some 65))]) rfl rfl ?_
    refine zw_stk hm_138 dX11_addBytes_27 (st' := [.inl (((x.toUInt32 >>> ((24 : Int32).toUInt32 &&& Int32.toUInt32 31)).toInt32).toInt8.toInt32), .inl (mI S 64 1), .inr (.inr (some 65))]) rfl rfl ?_
    obtain ⟨hg, h⟩ := h
    refine zw_bas21 hm_138 dX11_addBytes_28 (zT_is hS s_65) (zT_h hS s_65) rfl hg ?_
    refine zw_push hm_138 dX11_addBytes_29 (v := .inr (.inr (some 64))) rfl ?_
    refine zw_stk hm_138 dX11_addBytes_30 (st' := [.inr (.inr (some 64)), .inr (.inr (some 64))]) rfl rfl ?_
    refine zw_gf hm_138 dX11_addBytes_31 (v := .inl (mI S 64 1)) (zT_is (zT_pi hS) s_64) (zT_t (zT_pi hS) s_64) rfl f_11_68_11 rfl ?_
    refine zw_push hm_138 dX11_addBytes_34 (v := .inl (1 : Int32)) rfl ?_
    refine zw_stk hm_138 dX11_addBytes_35 (st' := [.inl ((mI S 64 1) + (1 : Int32)), .inr (.inr (some 64))]) rfl rfl ?_
    refine zw_pf hm_138 dX11_addBytes_36 (zT_is (zT_pi hS) s_64) (zT_t (zT_pi hS) s_64) p_11_68_11 zk_int ?_
    refine zw_sto hm_138 dX11_addBytes_39 [(2, .inl (16 : Int32)), (0, .inr (.inr (some 64))), (1, .inl x)] rfl rfl rfl ?_
    refine zw_goto hm_138 dX11_addBytes_42 (t := 3) rfl ?_
    refine zw_push hm_138 dX11_addBytes_3 (v := .inl (16 : Int32)) rfl ?_
    refine zw_if0 hm_138 dX11_addBytes_4 (t := 45) rfl zc0_lt (fun hc => absurd hc (by decide)) (fun _ => ?_)
    refine zw_push hm_138 dX11_addBytes_7 (v := .inr (.inr (some 64))) rfl ?_
    refine zw_gf hm_138 dX11_addBytes_8 (v := .inl ((mI S 64 1) + (1 : Int32))) (zT_is (zT_pi (zT_pi hS)) s_64) (zT_t (zT_pi (zT_pi hS)) s_64) rfl f_11_68_11 rfl ?_
    refine zw_push hm_138 dX11_addBytes_11 (v := .inl (100 : Int32)) rfl ?_
    refine zw_if2 hm_138 dX11_addBytes_13 (t := 45) rfl zc2_ge ?_ ?_
    · intro hc
      rw [if_pos hc] at h
      exact zw_vret hm_138 dX11_addBytes_45 h
    · intro hc
      rw [if_neg hc] at h
      refine zw_push hm_138 dX11_addBytes_16 (v := .inr (.inr (some 64))) rfl ?_
      refine zw_gf hm_138 dX11_addBytes_17 (v := .inr (.inr (some 65))) (zT_is (zT_pi (zT_pi hS)) s_64) (zT_t (zT_pi (zT_pi hS)) s_64) rfl f_11_9_11 (zT_f (zT_pi (zT_pi hS)) r_64_0) ?_
      refine zw_push hm_138 dX11_addBytes_20 (v := .inr (.inr (some 64))) rfl ?_
      refine zw_gf hm_138 dX11_addBytes_21 (v := .inl ((mI S 64 1) + (1 : Int32))) (zT_is (zT_pi (zT_pi hS)) s_64) (zT_t (zT_pi (zT_pi hS)) s_64) rfl f_11_68_11 rfl ?_
      refine zw_push hm_138 dX11_addBytes_24 (v := .inl x) rfl ?_
      refine zw_push hm_138 dX11_addBytes_25 (v := .inl (16 : Int32)) rfl ?_
      refine zw_stk hm_138 dX11_addBytes_26 (st' := [.inl ((x.toUInt32 >>> ((16 : Int32).toUInt32 &&& Int32.toUInt32 31)).toInt32), .inl ((mI S 64 1) + (1 : Int32)), .inr (.inr (some 65))]) rfl rfl ?_
      refine zw_stk hm_138 dX11_addBytes_27 (st' := [.inl (((x.toUInt32 >>> ((16 : Int32).toUInt32 &&& Int32.toUInt32 31)).toInt32).toInt8.toInt32), .inl ((mI S 64 1) + (1 : Int32)), .inr (.inr (some 65))]) rfl rfl ?_
      obtain ⟨hg, h⟩ := h
      refine zw_bas21 hm_138 dX11_addBytes_28 (zT_is (zT_pi (zT_pi hS)) s_65) (zT_h (zT_pi (zT_pi hS)) s_65) rfl hg ?_
      refine zw_push hm_138 dX11_addBytes_29 (v := .inr (.inr (some 64))) rfl ?_
      refine zw_stk hm_138 dX11_addBytes_30 (st' := [.inr (.inr (some 64)), .inr (.inr (some 64))]) rfl rfl ?_
      refine zw_gf hm_138 dX11_addBytes_31 (v := .inl ((mI S 64 1) + (1 : Int32))) (zT_is (zT_pi (zT_pi (zT_pi hS))) s_64) (zT_t (zT_pi (zT_pi (zT_pi hS))) s_64) rfl f_11_68_11 rfl ?_
      refine zw_push hm_138 dX11_addBytes_34 (v := .inl (1 : Int32)) rfl ?_
      refine zw_stk hm_138 dX11_addBytes_35 (st' := [.inl (((mI S 64 1) + (1 : Int32)) + (1 : Int32)), .inr (.inr (some 64))]) rfl rfl ?_
      refine zw_pf hm_138 dX11_addBytes_36 (zT_is (zT_pi (zT_pi (zT_pi hS))) s_64) (zT_t (zT_pi (zT_pi (zT_pi hS))) s_64) p_11_68_11 zk_int ?_
      refine zw_sto hm_138 dX11_addBytes_39 [(2, .inl (8 : Int32)), (0, .inr (.inr (some 64))), (1, .inl x)] rfl rfl rfl ?_
      refine zw_goto hm_138 dX11_addBytes_42 (t := 3) rfl ?_
      refine zw_push hm_138 dX11_addBytes_3 (v := .inl (8 : Int32)) rfl ?_
      refine zw_if0 hm_138 dX11_addBytes_4 (t := 45) rfl zc0_lt (fun hc => absurd hc (by decide)) (fun _ => ?_)
      refine zw_push hm_138 dX11_addBytes_7 (v := .inr (.inr (some 64))) rfl ?_
      refine zw_gf hm_138 dX11_addBytes_8 (v := .inl (((mI S 64 1) + (1 : Int32)) + (1 : Int32))) (zT_is (zT_pi (zT_pi (zT_pi (zT_pi hS)))) s_64) (zT_t (zT_pi (zT_pi (zT_pi (zT_pi hS)))) s_64) rfl f_11_68_11 rfl ?_
      refine zw_push hm_138 dX11_addBytes_11 (v := .inl (100 : Int32)) rfl ?_
      refine zw_if2 hm_138 dX11_addBytes_13 (t := 45) rfl zc2_ge ?_ ?_
      · intro hc
        rw [if_pos hc] at h
        exact zw_vret hm_138 dX11_addBytes_45 h
      · intro hc
        rw [if_neg hc] at h
        refine zw_push hm_138 dX11_addBytes_16 (v := .inr (.inr (some 64))) rfl ?_
        refine zw_gf hm_138 dX11_addBytes_17 (v := .inr (.inr (some 65))) (zT_is (zT_pi (zT_pi (zT_pi (zT_pi hS)))) s_64) (zT_t (zT_pi (zT_pi (zT_pi (zT_pi hS)))) s_64) rfl f_11_9_11 (zT_f (zT_pi (zT_pi (zT_pi (zT_pi hS)))) r_64_0) ?_
        refine zw_push hm_138 dX11_addBytes_20 (v := .inr (.inr (some 64))) rfl ?_
        refine zw_gf hm_138 dX11_addBytes_21 (v := .inl (((mI S 64 1) + (1 : Int32)) + (1 : Int32))) (zT_is (zT_pi (zT_pi (zT_pi (zT_pi hS)))) s_64) (zT_t (zT_pi (zT_pi (zT_pi (zT_pi hS)))) s_64) rfl f_11_68_11 rfl ?_
        refine zw_push hm_138 dX11_addBytes_24 (v := .inl x) rfl ?_
        refine zw_push hm_138 dX11_addBytes_25 (v := .inl (8 : Int32)) rfl ?_
        refine zw_stk hm_138 dX11_addBytes_26 (st' := [.inl ((x.toUInt32 >>> ((8 : Int32).toUInt32 &&& Int32.toUInt32 31)).toInt32), .inl (((mI S 64 1) + (1 : Int32)) + (1 : Int32)), .inr (.inr (some 65))]) rfl rfl ?_
        refine zw_stk hm_138 dX11_addBytes_27 (st' := [.inl (((x.toUInt32 >>> ((8 : Int32).toUInt32 &&& Int32.toUInt32 31)).toInt32).toInt8.toInt32), .inl (((mI S 64 1) + (1 : Int32)) + (1 : Int32)), .inr (.inr (some 65))]) rfl rfl ?_
        obtain ⟨hg, h⟩ := h
        refine zw_bas21 hm_138 dX11_addBytes_28 (zT_is (zT_pi (zT_pi (zT_pi (zT_pi hS)))) s_65) (zT_h (zT_pi (zT_pi (zT_pi (zT_pi hS)))) s_65) rfl hg ?_
        refine zw_push hm_138 dX11_addBytes_29 (v := .inr (.inr (some 64))) rfl ?_
        refine zw_stk hm_138 dX11_addBytes_30 (st' := [.inr (.inr (some 64)), .inr (.inr (some 64))]) rfl rfl ?_
        refine zw_gf hm_138 dX11_addBytes_31 (v := .inl (((mI S 64 1) + (1 : Int32)) + (1 : Int32))) (zT_is (zT_pi (zT_pi (zT_pi (zT_pi (zT_pi hS))))) s_64) (zT_t (zT_pi (zT_pi (zT_pi (zT_pi (zT_pi hS))))) s_64) rfl f_11_68_11 rfl ?_
        refine zw_push hm_138 dX11_addBytes_34 (v := .inl (1 : Int32)) rfl ?_
        refine zw_stk hm_138 dX11_addBytes_35 (st' := [.inl ((((mI S 64 1) + (1 : Int32)) + (1 : Int32)) + (1 : Int32)), .inr (.inr (some 64))]) rfl rfl ?_
        refine zw_pf hm_138 dX11_addBytes_36 (zT_is (zT_pi (zT_pi (zT_pi (zT_pi (zT_pi hS))))) s_64) (zT_t (zT_pi (zT_pi (zT_pi (zT_pi (zT_pi hS))))) s_64) p_11_68_11 zk_int ?_
        refine zw_sto hm_138 dX11_addBytes_39 [(2, .inl (0 : Int32)), (0, .inr (.inr (some 64))), (1, .inl x)] rfl rfl rfl ?_
        refine zw_goto hm_138 dX11_addBytes_42 (t := 3) rfl ?_
        refine zw_push hm_138 dX11_addBytes_3 (v := .inl (0 : Int32)) rfl ?_
        refine zw_if0 hm_138 dX11_addBytes_4 (t := 45) rfl zc0_lt (fun hc => absurd hc (by decide)) (fun _ => ?_)
        refine zw_push hm_138 dX11_addBytes_7 (v := .inr (.inr (some 64))) rfl ?_
        refine zw_gf hm_138 dX11_addBytes_8 (v := .inl ((((mI S 64 1) + (1 : Int32)) + (1 : Int32)) + (1 : Int32))) (zT_is (zT_pi (zT_pi (zT_pi (zT_pi (zT_pi (zT_pi hS)))))) s_64) (zT_t (zT_pi (zT_pi (zT_pi (zT_pi (zT_pi (zT_pi hS)))))) s_64) rfl f_11_68_11 rfl ?_
        refine zw_push hm_138 dX11_addBytes_11 (v := .inl (100 : Int32)) rfl ?_
        refine zw_if2 hm_138 dX11_addBytes_13 (t := 45) rfl zc2_ge ?_ ?_
        · intro hc
          rw [if_pos hc] at h
          exact zw_vret hm_138 dX11_addBytes_45 h
        · intro hc
          rw [if_neg hc] at h
          refine zw_push hm_138 dX11_addBytes_16 (v := .inr (.inr (some 64))) rfl ?_
          refine zw_gf hm_138 dX11_addBytes_17 (v := .inr (.inr (some 65))) (zT_is (zT_pi (zT_pi (zT_pi (zT_pi (zT_pi (zT_pi hS)))))) s_64) (zT_t (zT_pi (zT_pi (zT_pi (zT_pi (zT_pi (zT_pi hS)))))) s_64) rfl f_11_9_11 (zT_f (zT_pi (zT_pi (zT_pi (zT_pi (zT_pi (zT_pi hS)))))) r_64_0) ?_
          refine zw_push hm_138 dX11_addBytes_20 (v := .inr (.inr (some 64))) rfl ?_
          refine zw_gf hm_138 dX11_addBytes_21 (v := .inl ((((mI S 64 1) + (1 : Int32)) + (1 : Int32)) + (1 : Int32))) (zT_is (zT_pi (zT_pi (zT_pi (zT_pi (zT_pi (zT_pi hS)))))) s_64) (zT_t (zT_pi (zT_pi (zT_pi (zT_pi (zT_pi (zT_pi hS)))))) s_64) rfl f_11_68_11 rfl ?_
          refine zw_push hm_138 dX11_addBytes_24 (v := .inl x) rfl ?_
          refine zw_push hm_138 dX11_addBytes_25 (v := .inl (0 : Int32)) rfl ?_
          refine zw_stk hm_138 dX11_addBytes_26 (st' := [.inl ((x.toUInt32 >>> ((0 : Int32).toUInt32 &&& Int32.toUInt32 31)).toInt32), .inl ((((mI S 64 1) + (1 : Int32)) + (1 : Int32)) + (1 : Int32)), .inr (.inr (some 65))]) rfl rfl ?_
          refine zw_stk hm_138 dX11_addBytes_27 (st' := [.inl (((x.toUInt32 >>> ((0 : Int32).toUInt32 &&& Int32.toUInt32 31)).toInt32).toInt8.toInt32), .inl ((((mI S 64 1) + (1 : Int32)) + (1 : Int32)) + (1 : Int32)), .inr (.inr (some 65))]) rfl rfl ?_
          obtain ⟨hg, h⟩ := h
          refine zw_bas21 hm_138 dX11_addBytes_28 (zT_is (zT_pi (zT_pi (zT_pi (zT_pi (zT_pi (zT_pi hS)))))) s_65) (zT_h (zT_pi (zT_pi (zT_pi (zT_pi (zT_pi (zT_pi hS)))))) s_65) rfl hg ?_
          refine zw_push hm_138 dX11_addBytes_29 (v := .inr (.inr (some 64))) rfl ?_
          refine zw_stk hm_138 dX11_addBytes_30 (st' := [.inr (.inr (some 64)), .inr (.inr (some 64))]) rfl rfl ?_
          refine zw_gf hm_138 dX11_addBytes_31 (v := .inl ((((mI S 64 1) + (1 : Int32)) + (1 : Int32)) + (1 : Int32))) (zT_is (zT_pi (zT_pi (zT_pi (zT_pi (zT_pi (zT_pi (zT_pi hS))))))) s_64) (zT_t (zT_pi (zT_pi (zT_pi (zT_pi (zT_pi (zT_pi (zT_pi hS))))))) s_64) rfl f_11_68_11 rfl ?_
          refine zw_push hm_138 dX11_addBytes_34 (v := .inl (1 : Int32)) rfl ?_
          refine zw_stk hm_138 dX11_addBytes_35 (st' := [.inl (((((mI S 64 1) + (1 : Int32)) + (1 : Int32)) + (1 : Int32)) + (1 : Int32)), .inr (.inr (some 64))]) rfl rfl ?_
          refine zw_pf hm_138 dX11_addBytes_36 (zT_is (zT_pi (zT_pi (zT_pi (zT_pi (zT_pi (zT_pi (zT_pi hS))))))) s_64) (zT_t (zT_pi (zT_pi (zT_pi (zT_pi (zT_pi (zT_pi (zT_pi hS))))))) s_64) p_11_68_11 zk_int ?_
          refine zw_sto hm_138 dX11_addBytes_39 [(2, .inl (-8 : Int32)), (0, .inr (.inr (some 64))), (1, .inl x)] rfl rfl rfl ?_
          refine zw_goto hm_138 dX11_addBytes_42 (t := 3) rfl ?_
          refine zw_push hm_138 dX11_addBytes_3 (v := .inl (-8 : Int32)) rfl ?_
          refine zw_if0 hm_138 dX11_addBytes_4 (t := 45) rfl zc0_lt (fun _ => ?_) (fun hc => absurd (by decide) hc)
          exact zw_vret hm_138 dX11_addBytes_45 h
theorem sp_138_64_j4 {X : Nat × (Nat → Int32)} {d w : Nat} {f : Nat → Nat → Int32} {r : Nat → Nat → Option Nat} {C Z N : Nat} {Q : Option ma_V ⊕ Nat → ma_S → Prop} {S : ma_S} (x : Int32) (hd : 0 ≤ d) (hw : 0 ≤ w) (hI : zA f r C Z N S) (hpre0 : (mI S 64 1).toInt = (mI S 94 3).toInt + 16 ∧ (mI S 94 3).toInt ≤ 80) (K : ∀ S', zA f r C Z N S' → ((mI S' 64 1).toInt = (mI S' 94 3).toInt + 20 ∧ (mI S' 94 3).toInt ≤ 80) → Q (.inl none) S') : ma_wp X d w 138 0 [(0, .inr (.inr (some 64))), (1, .inl x)] [] S Q := by
  refine g_138_64_j4_0 x (by omega) (by omega) (zG_T hI) ?_
  have f1 := zG_s hI (0) (100) (c := 64) (k := 1) (by decide)
  have q2 : (mI S 94 3).toInt = (f 94 3).toInt := zG_zi hI rfl
  have b3 := i_bd (mI S 94 3)
  have li4 : (100 : Int32).toInt = 100 := rfl
  refine zd (fun h5 => ?_) (fun h5 => ?_)
  · skip
    have g6 := i_le h5
    exact K _ hI (show (mI S 64 1).toInt = (mI S 94 3).toInt + 20 ∧ (mI S 94 3).toInt ≤ 80 from by omega)
  · skip
    have g7 := i_nle h5
    refine ⟨i_ix (by omega) (by omega), ?_⟩
    first | have e8 : ((mI S 64 1) + (1 : Int32)).toInt = (mI S 64 1).toInt + (1) := i_addk rfl (by omega) (by omega) | have b9 := i_bd ((mI S 64 1) + (1 : Int32))
    refine zd (fun h10 => ?_) (fun h10 => ?_)
    · skip
      have g11 := i_le h10
      have hI12 : zA f r C Z N (ma_put S 65 (mI S 64 1).toNatClampNeg (.inl (vp_nar .byte (((x.toUInt32 >>> ((24 : Int32).toUInt32 &&& Int32.toUInt32 31)).toInt32).toInt8.toInt32)))) := zG_fa hI rfl (by decide) (by decide) (by decide) (show zA_x (mI S) from zG_x hI)
      have hI13 : zA f r C Z N (ma_put (ma_put S 65 (mI S 64 1).toNatClampNeg (.inl (vp_nar .byte (((x.toUInt32 >>> ((24 : Int32).toUInt32 &&& Int32.toUInt32 31)).toInt32).toInt8.toInt32)))) 64 1 (.inl ((mI S 64 1) + (1 : Int32)))) := zG_sp hI12 (0) (100) rfl (by decide) (by decide) (by decide) (show zA_x (mI (ma_put S 65 (mI S 64 1).toNatClampNeg (.inl (vp_nar .byte (((x.toUInt32 >>> ((24 : Int32).toUInt32 &&& Int32.toUInt32 31)).toInt32).toInt8.toInt32))))) from zG_x hI12) (by omega) (by omega)
      exact K _ hI13 (show ((mI S 64 1) + (1 : Int32)).toInt = (mI S 94 3).toInt + 20 ∧ (mI S 94 3).toInt ≤ 80 from by omega)
    · skip
      have g14 := i_nle h10
      refine ⟨i_ix (by omega) (by omega), ?_⟩
      first | have e15 : (((mI S 64 1) + (1 : Int32)) + (1 : Int32)).toInt = ((mI S 64 1) + (1 : Int32)).toInt + (1) := i_addk rfl (by omega) (by omega) | have b16 := i_bd (((mI S 64 1) + (1 : Int32)) + (1 : Int32))
      refine zd (fun h17 => ?_) (fun h17 => ?_)
      · skip
        have g18 := i_le h17
        have hI19 : zA f r C Z N (ma_put S 65 (mI S 64 1).toNatClampNeg (.inl (vp_nar .byte (((x.toUInt32 >>> ((24 : Int32).toUInt32 &&& Int32.toUInt32 31)).toInt32).toInt8.toInt32)))) := zG_fa hI rfl (by decide) (by decide) (by decide) (show zA_x (mI S) from zG_x hI)
        have hI20 : zA f r C Z N (ma_put (ma_put S 65 (mI S 64 1).toNatClampNeg (.inl (vp_nar .byte (((x.toUInt32 >>> ((24 : Int32).toUInt32 &&& Int32.toUInt32 31)).toInt32).toInt8.toInt32)))) 64 1 (.inl ((mI S 64 1) + (1 : Int32)))) := zG_sp hI19 (0) (100) rfl (by decide) (by decide) (by decide) (show zA_x (mI (ma_put S 65 (mI S 64 1).toNatClampNeg (.inl (vp_nar .byte (((x.toUInt32 >>> ((24 : Int32).toUInt32 &&& Int32.toUInt32 31)).toInt32).toInt8.toInt32))))) from zG_x hI19) (by omega) (by omega)
        have hI21 : zA f r C Z N (ma_put (ma_put (ma_put S 65 (mI S 64 1).toNatClampNeg (.inl (vp_nar .byte (((x.toUInt32 >>> ((24 : Int32).toUInt32 &&& Int32.toUInt32 31)).toInt32).toInt8.toInt32)))) 64 1 (.inl ((mI S 64 1) + (1 : Int32)))) 65 ((mI S 64 1) + (1 : Int32)).toNatClampNeg (.inl (vp_nar .byte (((x.toUInt32 >>> ((16 : Int32).toUInt32 &&& Int32.toUInt32 31)).toInt32).toInt8.toInt32)))) := zG_fa hI20 rfl (by decide) (by decide) (by decide) (show zA_x (mI (ma_put (ma_put S 65 (mI S 64 1).toNatClampNeg (.inl (vp_nar .byte (((x.toUInt32 >>> ((24 : Int32).toUInt32 &&& Int32.toUInt32 31)).toInt32).toInt8.toInt32)))) 64 1 (.inl ((mI S 64 1) + (1 : Int32))))) from zG_x hI20)
        have hI22 : zA f r C Z N (ma_put (ma_put (ma_put (ma_put S 65 (mI S 64 1).toNatClampNeg (.inl (vp_nar .byte (((x.toUInt32 >>> ((24 : Int32).toUInt32 &&& Int32.toUInt32 31)).toInt32).toInt8.toInt32)))) 64 1 (.inl ((mI S 64 1) + (1 : Int32)))) 65 ((mI S 64 1) + (1 : Int32)).toNatClampNeg (.inl (vp_nar .byte (((x.toUInt32 >>> ((16 : Int32).toUInt32 &&& Int32.toUInt32 31)).toInt32).toInt8.toInt32)))) 64 1 (.inl (((mI S 64 1) + (1 : Int32)) + (1 : Int32)))) := zG_sp hI21 (0) (100) rfl (by decide) (by decide) (by decide) (show zA_x (mI (ma_put (ma_put (ma_put S 65 (mI S 64 1).toNatClampNeg (.inl (vp_nar .byte (((x.toUInt32 >>> ((24 : Int32).toUInt32 &&& Int32.toUInt32 31)).toInt32).toInt8.toInt32)))) 64 1 (.inl ((mI S 64 1) + (1 : Int32)))) 65 ((mI S 64 1) + (1 : Int32)).toNatClampNeg (.inl (vp_nar .byte (((x.toUInt32 >>> ((16 : Int32).toUInt32 &&& Int32.toUInt32 31)).toInt32).toInt8.toInt32))))) from zG_x hI21) (by omega) (by omega)
        exact K _ hI22 (show (((mI S 64 1) + (1 : Int32)) + (1 : Int32)).toInt = (mI S 94 3).toInt + 20 ∧ (mI S 94 3).toInt ≤ 80 from by omega)
      · skip
        have g23 := i_nle h17
        refine ⟨i_ix (by omega) (by omega), ?_⟩
        first | have e24 : ((((mI S 64 1) + (1 : Int32)) + (1 : Int32)) + (1 : Int32)).toInt = (((mI S 64 1) + (1 : Int32)) + (1 : Int32)).toInt + (1) := i_addk rfl (by omega) (by omega) | have b25 := i_bd ((((mI S 64 1) + (1 : Int32)) + (1 : Int32)) + (1 : Int32))
        refine zd (fun h26 => ?_) (fun h26 => ?_)
        · skip
          have g27 := i_le h26
          have hI28 : zA f r C Z N (ma_put S 65 (mI S 64 1).toNatClampNeg (.inl (vp_nar .byte (((x.toUInt32 >>> ((24 : Int32).toUInt32 &&& Int32.toUInt32 31)).toInt32).toInt8.toInt32)))) := zG_fa hI rfl (by decide) (by decide) (by decide) (show zA_x (mI S) from zG_x hI)
          have hI29 : zA f r C Z N (ma_put (ma_put S 65 (mI S 64 1).toNatClampNeg (.inl (vp_nar .byte (((x.toUInt32 >>> ((24 : Int32).toUInt32 &&& Int32.toUInt32 31)).toInt32).toInt8.toInt32)))) 64 1 (.inl ((mI S 64 1) + (1 : Int32)))) := zG_sp hI28 (0) (100) rfl (by decide) (by decide) (by decide) (show zA_x (mI (ma_put S 65 (mI S 64 1).toNatClampNeg (.inl (vp_nar .byte (((x.toUInt32 >>> ((24 : Int32).toUInt32 &&& Int32.toUInt32 31)).toInt32).toInt8.toInt32))))) from zG_x hI28) (by omega) (by omega)
          have hI30 : zA f r C Z N (ma_put (ma_put (ma_put S 65 (mI S 64 1).toNatClampNeg (.inl (vp_nar .byte (((x.toUInt32 >>> ((24 : Int32).toUInt32 &&& Int32.toUInt32 31)).toInt32).toInt8.toInt32)))) 64 1 (.inl ((mI S 64 1) + (1 : Int32)))) 65 ((mI S 64 1) + (1 : Int32)).toNatClampNeg (.inl (vp_nar .byte (((x.toUInt32 >>> ((16 : Int32).toUInt32 &&& Int32.toUInt32 31)).toInt32).toInt8.toInt32)))) := zG_fa hI29 rfl (by decide) (by decide) (by decide) (show zA_x (mI (ma_put (ma_put S 65 (mI S 64 1).toNatClampNeg (.inl (vp_nar .byte (((x.toUInt32 >>> ((24 : Int32).toUInt32 &&& Int32.toUInt32 31)).toInt32).toInt8.toInt32)))) 64 1 (.inl ((mI S 64 1) + (1 : Int32))))) from zG_x hI29)
          have hI31 : zA f r C Z N (ma_put (ma_put (ma_put (ma_put S 65 (mI S 64 1).toNatClampNeg (.inl (vp_nar .byte (((x.toUInt32 >>> ((24 : Int32).toUInt32 &&& Int32.toUInt32 31)).toInt32).toInt8.toInt32)))) 64 1 (.inl ((mI S 64 1) + (1 : Int32)))) 65 ((mI S 64 1) + (1 : Int32)).toNatClampNeg (.inl (vp_nar .byte (((x.toUInt32 >>> ((16 : Int32).toUInt32 &&& Int32.toUInt32 31)).toInt32).toInt8.toInt32)))) 64 1 (.inl (((mI S 64 1) + (1 : Int32)) + (1 : Int32)))) := zG_sp hI30 (0) (100) rfl (by decide) (by decide) (by decide) (show zA_x (mI (ma_put (ma_put (ma_put S 65 (mI S 64 1).toNatClampNeg (.inl (vp_nar .byte (((x.toUInt32 >>> ((24 : Int32).toUInt32 &&& Int32.toUInt32 31)).toInt32).toInt8.toInt32)))) 64 1 (.inl ((mI S 64 1) + (1 : Int32)))) 65 ((mI S 64 1) + (1 : Int32)).toNatClampNeg (.inl (vp_nar .byte (((x.toUInt32 >>> ((16 : Int32).toUInt32 &&& Int32.toUInt32 31)).toInt32).toInt8.toInt32))))) from zG_x hI30) (by omega) (by omega)
          have hI32 : zA f r C Z N (ma_put (ma_put (ma_put (ma_put (ma_put S 65 (mI S 64 1).toNatClampNeg (.inl (vp_nar .byte (((x.toUInt32 >>> ((24 : Int32).toUInt32 &&& Int32.toUInt32 31)).toInt32).toInt8.toInt32)))) 64 1 (.inl ((mI S 64 1) + (1 : Int32)))) 65 ((mI S 64 1) + (1 : Int32)).toNatClampNeg (.inl (vp_nar .byte (((x.toUInt32 >>> ((16 : Int32).toUInt32 &&& Int32.toUInt32 31)).toInt32).toInt8.toInt32)))) 64 1 (.inl (((mI S 64 1) + (1 : Int32)) + (1 : Int32)))) 65 (((mI S 64 1) + (1 : Int32)) + (1 : Int32)).toNatClampNeg (.inl (vp_nar .byte (((x.toUInt32 >>> ((8 : Int32).toUInt32 &&& Int32.toUInt32 31)).toInt32).toInt8.toInt32)))) := zG_fa hI31 rfl (by decide) (by decide) (by decide) (show zA_x (mI (ma_put (ma_put (ma_put (ma_put S 65 (mI S 64 1).toNatClampNeg (.inl (vp_nar .byte (((x.toUInt32 >>> ((24 : Int32).toUInt32 &&& Int32.toUInt32 31)).toInt32).toInt8.toInt32)))) 64 1 (.inl ((mI S 64 1) + (1 : Int32)))) 65 ((mI S 64 1) + (1 : Int32)).toNatClampNeg (.inl (vp_nar .byte (((x.toUInt32 >>> ((16 : Int32).toUInt32 &&& Int32.toUInt32 31)).toInt32).toInt8.toInt32)))) 64 1 (.inl (((mI S 64 1) + (1 : Int32)) + (1 : Int32))))) from zG_x hI31)
          have hI33 : zA f r C Z N (ma_put (ma_put (ma_put (ma_put (ma_put (ma_put S 65 (mI S 64 1).toNatClampNeg (.inl (vp_nar .byte (((x.toUInt32 >>> ((24 : Int32).toUInt32 &&& Int32.toUInt32 31)).toInt32).toInt8.toInt32)))) 64 1 (.inl ((mI S 64 1) + (1 : Int32)))) 65 ((mI S 64 1) + (1 : Int32)).toNatClampNeg (.inl (vp_nar .byte (((x.toUInt32 >>> ((16 : Int32).toUInt32 &&& Int32.toUInt32 31)).toInt32).toInt8.toInt32)))) 64 1 (.inl (((mI S 64 1) + (1 : Int32)) + (1 : Int32)))) 65 (((mI S 64 1) + (1 : Int32)) + (1 : Int32)).toNatClampNeg (.inl (vp_nar .byte (((x.toUInt32 >>> ((8 : Int32).toUInt32 &&& Int32.toUInt32 31)).toInt32).toInt8.toInt32)))) 64 1 (.inl ((((mI S 64 1) + (1 : Int32)) + (1 : Int32)) + (1 : Int32)))) := zG_sp hI32 (0) (100) rfl (by decide) (by decide) (by decide) (show zA_x (mI (ma_put (ma_put (ma_put (ma_put (ma_put S 65 (mI S 64 1).toNatClampNeg (.inl (vp_nar .byte (((x.toUInt32 >>> ((24 : Int32).toUInt32 &&& Int32.toUInt32 31)).toInt32).toInt8.toInt32)))) 64 1 (.inl ((mI S 64 1) + (1 : Int32)))) 65 ((mI S 64 1) + (1 : Int32)).toNatClampNeg (.inl (vp_nar .byte (((x.toUInt32 >>> ((16 : Int32).toUInt32 &&& Int32.toUInt32 31)).toInt32).toInt8.toInt32)))) 64 1 (.inl (((mI S 64 1) + (1 : Int32)) + (1 : Int32)))) 65 (((mI S 64 1) + (1 : Int32)) + (1 : Int32)).toNatClampNeg (.inl (vp_nar .byte (((x.toUInt32 >>> ((8 : Int32).toUInt32 &&& Int32.toUInt32 31)).toInt32).toInt8.toInt32))))) from zG_x hI32) (by omega) (by omega)
          exact K _ hI33 (show ((((mI S 64 1) + (1 : Int32)) + (1 : Int32)) + (1 : Int32)).toInt = (mI S 94 3).toInt + 20 ∧ (mI S 94 3).toInt ≤ 80 from by omega)
        · skip
          have g34 := i_nle h26
          refine ⟨i_ix (by omega) (by omega), ?_⟩
          have hI35 : zA f r C Z N (ma_put S 65 (mI S 64 1).toNatClampNeg (.inl (vp_nar .byte (((x.toUInt32 >>> ((24 : Int32).toUInt32 &&& Int32.toUInt32 31)).toInt32).toInt8.toInt32)))) := zG_fa hI rfl (by decide) (by decide) (by decide) (show zA_x (mI S) from zG_x hI)
          have hI36 : zA f r C Z N (ma_put (ma_put S 65 (mI S 64 1).toNatClampNeg (.inl (vp_nar .byte (((x.toUInt32 >>> ((24 : Int32).toUInt32 &&& Int32.toUInt32 31)).toInt32).toInt8.toInt32)))) 64 1 (.inl ((mI S 64 1) + (1 : Int32)))) := zG_sp hI35 (0) (100) rfl (by decide) (by decide) (by decide) (show zA_x (mI (ma_put S 65 (mI S 64 1).toNatClampNeg (.inl (vp_nar .byte (((x.toUInt32 >>> ((24 : Int32).toUInt32 &&& Int32.toUInt32 31)).toInt32).toInt8.toInt32))))) from zG_x hI35) (by omega) (by omega)
          have hI37 : zA f r C Z N (ma_put (ma_put (ma_put S 65 (mI S 64 1).toNatClampNeg (.inl (vp_nar .byte (((x.toUInt32 >>> ((24 : Int32).toUInt32 &&& Int32.toUInt32 31)).toInt32).toInt8.toInt32)))) 64 1 (.inl ((mI S 64 1) + (1 : Int32)))) 65 ((mI S 64 1) + (1 : Int32)).toNatClampNeg (.inl (vp_nar .byte (((x.toUInt32 >>> ((16 : Int32).toUInt32 &&& Int32.toUInt32 31)).toInt32).toInt8.toInt32)))) := zG_fa hI36 rfl (by decide) (by decide) (by decide) (show zA_x (mI (ma_put (ma_put S 65 (mI S 64 1).toNatClampNeg (.inl (vp_nar .byte (((x.toUInt32 >>> ((24 : Int32).toUInt32 &&& Int32.toUInt32 31)).toInt32).toInt8.toInt32)))) 64 1 (.inl ((mI S 64 1) + (1 : Int32))))) from zG_x hI36)
          have hI38 : zA f r C Z N (ma_put (ma_put (ma_put (ma_put S 65 (mI S 64 1).toNatClampNeg (.inl (vp_nar .byte (((x.toUInt32 >>> ((24 : Int32).toUInt32 &&& Int32.toUInt32 31)).toInt32).toInt8.toInt32)))) 64 1 (.inl ((mI S 64 1) + (1 : Int32)))) 65 ((mI S 64 1) + (1 : Int32)).toNatClampNeg (.inl (vp_nar .byte (((x.toUInt32 >>> ((16 : Int32).toUInt32 &&& Int32.toUInt32 31)).toInt32).toInt8.toInt32)))) 64 1 (.inl (((mI S 64 1) + (1 : Int32)) + (1 : Int32)))) := zG_sp hI37 (0) (100) rfl (by decide) (by decide) (by decide) (show zA_x (mI (ma_put (ma_put (ma_put S 65 (mI S 64 1).toNatClampNeg (.inl (vp_nar .byte (((x.toUInt32 >>> ((24 : Int32).toUInt32 &&& Int32.toUInt32 31)).toInt32).toInt8.toInt32)))) 64 1 (.inl ((mI S 64 1) + (1 : Int32)))) 65 ((mI S 64 1) + (1 : Int32)).toNatClampNeg (.inl (vp_nar .byte (((x.toUInt32 >>> ((16 : Int32).toUInt32 &&& Int32.toUInt32 31)).toInt32).toInt8.toInt32))))) from zG_x hI37) (by omega) (by omega)
          have hI39 : zA f r C Z N (ma_put (ma_put (ma_put (ma_put (ma_put S 65 (mI S 64 1).toNatClampNeg (.inl (vp_nar .byte (((x.toUInt32 >>> ((24 : Int32).toUInt32 &&& Int32.toUInt32 31)).toInt32).toInt8.toInt32)))) 64 1 (.inl ((mI S 64 1) + (1 : Int32)))) 65 ((mI S 64 1) + (1 : Int32)).toNatClampNeg (.inl (vp_nar .byte (((x.toUInt32 >>> ((16 : Int32).toUInt32 &&& Int32.toUInt32 31)).toInt32).toInt8.toInt32)))) 64 1 (.inl (((mI S 64 1) + (1 : Int32)) + (1 : Int32)))) 65 (((mI S 64 1) + (1 : Int32)) + (1 : Int32)).toNatClampNeg (.inl (vp_nar .byte (((x.toUInt32 >>> ((8 : Int32).toUInt32 &&& Int32.toUInt32 31)).toInt32).toInt8.toInt32)))) := zG_fa hI38 rfl (by decide) (by decide) (by decide) (show zA_x (mI (ma_put (ma_put (ma_put (ma_put S 65 (mI S 64 1).toNatClampNeg (.inl (vp_nar .byte (((x.toUInt32 >>> ((24 : Int32).toUInt32 &&& Int32.toUInt32 31)).toInt32).toInt8.toInt32)))) 64 1 (.inl ((mI S 64 1) + (1 : Int32)))) 65 ((mI S 64 1) + (1 : Int32)).toNatClampNeg (.inl (vp_nar .byte (((x.toUInt32 >>> ((16 : Int32).toUInt32 &&& Int32.toUInt32 31)).toInt32).toInt8.toInt32)))) 64 1 (.inl (((mI S 64 1) + (1 : Int32)) + (1 : Int32))))) from zG_x hI38)
          have hI40 : zA f r C Z N (ma_put (ma_put (ma_put (ma_put (ma_put (ma_put S 65 (mI S 64 1).toNatClampNeg (.inl (vp_nar .byte (((x.toUInt32 >>> ((24 : Int32).toUInt32 &&& Int32.toUInt32 31)).toInt32).toInt8.toInt32)))) 64 1 (.inl ((mI S 64 1) + (1 : Int32)))) 65 ((mI S 64 1) + (1 : Int32)).toNatClampNeg (.inl (vp_nar .byte (((x.toUInt32 >>> ((16 : Int32).toUInt32 &&& Int32.toUInt32 31)).toInt32).toInt8.toInt32)))) 64 1 (.inl (((mI S 64 1) + (1 : Int32)) + (1 : Int32)))) 65 (((mI S 64 1) + (1 : Int32)) + (1 : Int32)).toNatClampNeg (.inl (vp_nar .byte (((x.toUInt32 >>> ((8 : Int32).toUInt32 &&& Int32.toUInt32 31)).toInt32).toInt8.toInt32)))) 64 1 (.inl ((((mI S 64 1) + (1 : Int32)) + (1 : Int32)) + (1 : Int32)))) := zG_sp hI39 (0) (100) rfl (by decide) (by decide) (by decide) (show zA_x (mI (ma_put (ma_put (ma_put (ma_put (ma_put S 65 (mI S 64 1).toNatClampNeg (.inl (vp_nar .byte (((x.toUInt32 >>> ((24 : Int32).toUInt32 &&& Int32.toUInt32 31)).toInt32).toInt8.toInt32)))) 64 1 (.inl ((mI S 64 1) + (1 : Int32)))) 65 ((mI S 64 1) + (1 : Int32)).toNatClampNeg (.inl (vp_nar .byte (((x.toUInt32 >>> ((16 : Int32).toUInt32 &&& Int32.toUInt32 31)).toInt32).toInt8.toInt32)))) 64 1 (.inl (((mI S 64 1) + (1 : Int32)) + (1 : Int32)))) 65 (((mI S 64 1) + (1 : Int32)) + (1 : Int32)).toNatClampNeg (.inl (vp_nar .byte (((x.toUInt32 >>> ((8 : Int32).toUInt32 &&& Int32.toUInt32 31)).toInt32).toInt8.toInt32))))) from zG_x hI39) (by omega) (by omega)
          have hI41 : zA f r C Z N (ma_put (ma_put (ma_put (ma_put (ma_put (ma_put (ma_put S 65 (mI S 64 1).toNatClampNeg (.inl (vp_nar .byte (((x.toUInt32 >>> ((24 : Int32).toUInt32 &&& Int32.toUInt32 31)).toInt32).toInt8.toInt32)))) 64 1 (.inl ((mI S 64 1) + (1 : Int32)))) 65 ((mI S 64 1) + (1 : Int32)).toNatClampNeg (.inl (vp_nar .byte (((x.toUInt32 >>> ((16 : Int32).toUInt32 &&& Int32.toUInt32 31)).toInt32).toInt8.toInt32)))) 64 1 (.inl (((mI S 64 1) + (1 : Int32)) + (1 : Int32)))) 65 (((mI S 64 1) + (1 : Int32)) + (1 : Int32)).toNatClampNeg (.inl (vp_nar .byte (((x.toUInt32 >>> ((8 : Int32).toUInt32 &&& Int32.toUInt32 31)).toInt32).toInt8.toInt32)))) 64 1 (.inl ((((mI S 64 1) + (1 : Int32)) + (1 : Int32)) + (1 : Int32)))) 65 ((((mI S 64 1) + (1 : Int32)) + (1 : Int32)) + (1 : Int32)).toNatClampNeg (.inl (vp_nar .byte (((x.toUInt32 >>> ((0 : Int32).toUInt32 &&& Int32.toUInt32 31)).toInt32).toInt8.toInt32)))) := zG_fa hI40 rfl (by decide) (by decide) (by decide) (show zA_x (mI (ma_put (ma_put (ma_put (ma_put (ma_put (ma_put S 65 (mI S 64 1).toNatClampNeg (.inl (vp_nar .byte (((x.toUInt32 >>> ((24 : Int32).toUInt32 &&& Int32.toUInt32 31)).toInt32).toInt8.toInt32)))) 64 1 (.inl ((mI S 64 1) + (1 : Int32)))) 65 ((mI S 64 1) + (1 : Int32)).toNatClampNeg (.inl (vp_nar .byte (((x.toUInt32 >>> ((16 : Int32).toUInt32 &&& Int32.toUInt32 31)).toInt32).toInt8.toInt32)))) 64 1 (.inl (((mI S 64 1) + (1 : Int32)) + (1 : Int32)))) 65 (((mI S 64 1) + (1 : Int32)) + (1 : Int32)).toNatClampNeg (.inl (vp_nar .byte (((x.toUInt32 >>> ((8 : Int32).toUInt32 &&& Int32.toUInt32 31)).toInt32).toInt8.toInt32)))) 64 1 (.inl ((((mI S 64 1) + (1 : Int32)) + (1 : Int32)) + (1 : Int32))))) from zG_x hI40)
          first | have e43 : (((((mI S 64 1) + (1 : Int32)) + (1 : Int32)) + (1 : Int32)) + (1 : Int32)).toInt = ((((mI S 64 1) + (1 : Int32)) + (1 : Int32)) + (1 : Int32)).toInt + (1) := i_addk rfl (by omega) (by omega) | have b44 := i_bd (((((mI S 64 1) + (1 : Int32)) + (1 : Int32)) + (1 : Int32)) + (1 : Int32))
          have hI42 : zA f r C Z N (ma_put (ma_put (ma_put (ma_put (ma_put (ma_put (ma_put (ma_put S 65 (mI S 64 1).toNatClampNeg (.inl (vp_nar .byte (((x.toUInt32 >>> ((24 : Int32).toUInt32 &&& Int32.toUInt32 31)).toInt32).toInt8.toInt32)))) 64 1 (.inl ((mI S 64 1) + (1 : Int32)))) 65 ((mI S 64 1) + (1 : Int32)).toNatClampNeg (.inl (vp_nar .byte (((x.toUInt32 >>> ((16 : Int32).toUInt32 &&& Int32.toUInt32 31)).toInt32).toInt8.toInt32)))) 64 1 (.inl (((mI S 64 1) + (1 : Int32)) + (1 : Int32)))) 65 (((mI S 64 1) + (1 : Int32)) + (1 : Int32)).toNatClampNeg (.inl (vp_nar .byte (((x.toUInt32 >>> ((8 : Int32).toUInt32 &&& Int32.toUInt32 31)).toInt32).toInt8.toInt32)))) 64 1 (.inl ((((mI S 64 1) + (1 : Int32)) + (1 : Int32)) + (1 : Int32)))) 65 ((((mI S 64 1) + (1 : Int32)) + (1 : Int32)) + (1 : Int32)).toNatClampNeg (.inl (vp_nar .byte (((x.toUInt32 >>> ((0 : Int32).toUInt32 &&& Int32.toUInt32 31)).toInt32).toInt8.toInt32)))) 64 1 (.inl (((((mI S 64 1) + (1 : Int32)) + (1 : Int32)) + (1 : Int32)) + (1 : Int32)))) := zG_sp hI41 (0) (100) rfl (by decide) (by decide) (by decide) (show zA_x (mI (ma_put (ma_put (ma_put (ma_put (ma_put (ma_put (ma_put S 65 (mI S 64 1).toNatClampNeg (.inl (vp_nar .byte (((x.toUInt32 >>> ((24 : Int32).toUInt32 &&& Int32.toUInt32 31)).toInt32).toInt8.toInt32)))) 64 1 (.inl ((mI S 64 1) + (1 : Int32)))) 65 ((mI S 64 1) + (1 : Int32)).toNatClampNeg (.inl (vp_nar .byte (((x.toUInt32 >>> ((16 : Int32).toUInt32 &&& Int32.toUInt32 31)).toInt32).toInt8.toInt32)))) 64 1 (.inl (((mI S 64 1) + (1 : Int32)) + (1 : Int32)))) 65 (((mI S 64 1) + (1 : Int32)) + (1 : Int32)).toNatClampNeg (.inl (vp_nar .byte (((x.toUInt32 >>> ((8 : Int32).toUInt32 &&& Int32.toUInt32 31)).toInt32).toInt8.toInt32)))) 64 1 (.inl ((((mI S 64 1) + (1 : Int32)) + (1 : Int32)) + (1 : Int32)))) 65 ((((mI S 64 1) + (1 : Int32)) + (1 : Int32)) + (1 : Int32)).toNatClampNeg (.inl (vp_nar .byte (((x.toUInt32 >>> ((0 : Int32).toUInt32 &&& Int32.toUInt32 31)).toInt32).toInt8.toInt32))))) from zG_x hI41) (by omega) (by omega)
          exact K _ hI42 (show (((((mI S 64 1) + (1 : Int32)) + (1 : Int32)) + (1 : Int32)) + (1 : Int32)).toInt = (mI S 94 3).toInt + 20 ∧ (mI S 94 3).toInt ≤ 80 from by omega)
theorem g_137_64_0 {X : Nat × (Nat → Int32)} {d w : Nat} {S : ma_S} {Q : Option ma_V ⊕ Nat → ma_S → Prop} (xa : Int32) (xb : Int32) (xc : Int32) (xd : Int32) (xe : Int32) (hd : 6 ≤ d) (hw : 89 ≤ w) (hS : zT S) (h : if ((mI S 64 1) + (20 : Int32)) ≤ (100 : Int32) then (ma_wp X (d - 1) (w - 22) 138 0 [(0, .inr (.inr (some 64))), (1, .inl xa)] [] S (zv (fun S1 => zT S1 ∧ (ma_wp X (d - 1) (w - 22) 138 0 [(0, .inr (.inr (some 64))), (1, .inl xb)] [] S1 (zv (fun S3 => zT S3 ∧ (ma_wp X (d - 1) (w - 22) 138 0 [(0, .inr (.inr (some 64))), (1, .inl xc)] [] S3 (zv (fun S5 => zT S5 ∧ (ma_wp X (d - 1) (w - 22) 138 0 [(0, .inr (.inr (some 64))), (1, .inl xd)] [] S5 (zv (fun S7 => zT S7 ∧ (ma_wp X (d - 1) (w - 22) 138 0 [(0, .inr (.inr (some 64))), (1, .inl xe)] [] S7 (zv (fun S9 => zT S9 ∧ (Q (.inl (some (.inl (mI S9 64 1)))) S9)) (fun x S9 => Q (.inr x) S9)))) (fun x S9 => Q (.inr x) S9)))) (fun x S9 => Q (.inr x) S9)))) (fun x S9 => Q (.inr x) S9)))) (fun x S9 => Q (.inr x) S9))) else (Q (.inr 1) (ma_bump S))) : ma_wp X d w 137 0 [(0, .inr (.inr (some 64))), (1, .inl xa), (2, .inl xb), (3, .inl xc), (4, .inl xd), (5, .inl xe)] [] S Q := by
  refine zw_push hm_137 dX11_feed_0 (v := .inr (.inr (some 64))) rfl ?_
  refine zw_gf hm_137 dX11_feed_1 (v := .inl (mI S 64 1)) (zT_is hS s_64) (zT_t hS s_64) rfl f_11_68_11 rfl ?_
  refine zw_push hm_137 dX11_feed_4 (v := .inl (20 : Int32)) rfl ?_
  refine zw_stk hm_137 dX11_feed_6 (st' := [.inl ((mI S 64 1) + (20 : Int32))]) rfl rfl ?_
  refine zw_push hm_137 dX11_feed_7 (v := .inl (100 : Int32)) rfl ?_
  refine zw_if2 hm_137 dX11_feed_9 (t := 20) rfl zc2_le ?_ ?_
  · intro hc
    rw [if_pos hc] at h
    refine zw_push hm_137 dX11_feed_20 (v := .inr (.inr (some 64))) rfl ?_
    refine zw_push hm_137 dX11_feed_21 (v := .inl xa) rfl ?_
    refine zw_cv hm_137 dX11_feed_22 v_11_75_11 hm_138 [.inl xa] [] rfl (zT_rt hS s_64 rfl) ⟨by omega, by omega⟩ rfl (zw_mono h (zv_go ?_ ?_))
    · intro S1 hv
      obtain ⟨hS1, h⟩ := hv
      refine zw_push hm_137 dX11_feed_25 (v := .inr (.inr (some 64))) rfl ?_
      refine zw_push hm_137 dX11_feed_26 (v := .inl xb) rfl ?_
      refine zw_cv hm_137 dX11_feed_27 v_11_75_11 hm_138 [.inl xb] [] rfl (zT_rt hS1 s_64 rfl) ⟨by omega, by omega⟩ rfl (zw_mono h (zv_go ?_ ?_))
      · intro S3 hv
        obtain ⟨hS3, h⟩ := hv
        refine zw_push hm_137 dX11_feed_30 (v := .inr (.inr (some 64))) rfl ?_
        refine zw_push hm_137 dX11_feed_31 (v := .inl xc) rfl ?_
        refine zw_cv hm_137 dX11_feed_32 v_11_75_11 hm_138 [.inl xc] [] rfl (zT_rt hS3 s_64 rfl) ⟨by omega, by omega⟩ rfl (zw_mono h (zv_go ?_ ?_))
        · intro S5 hv
          obtain ⟨hS5, h⟩ := hv
          refine zw_push hm_137 dX11_feed_35 (v := .inr (.inr (some 64))) rfl ?_
          refine zw_push hm_137 dX11_feed_36 (v := .inl xd) rfl ?_
          refine zw_cv hm_137 dX11_feed_38 v_11_75_11 hm_138 [.inl xd] [] rfl (zT_rt hS5 s_64 rfl) ⟨by omega, by omega⟩ rfl (zw_mono h (zv_go ?_ ?_))
          · intro S7 hv
            obtain ⟨hS7, h⟩ := hv
            refine zw_push hm_137 dX11_feed_41 (v := .inr (.inr (some 64))) rfl ?_
            refine zw_push hm_137 dX11_feed_42 (v := .inl xe) rfl ?_
            refine zw_cv hm_137 dX11_feed_44 v_11_75_11 hm_138 [.inl xe] [] rfl (zT_rt hS7 s_64 rfl) ⟨by omega, by omega⟩ rfl (zw_mono h (zv_go ?_ ?_))
            · intro S9 hv
              obtain ⟨hS9, h⟩ := hv
              refine zw_push hm_137 dX11_feed_47 (v := .inr (.inr (some 64))) rfl ?_
              refine zw_gf hm_137 dX11_feed_48 (v := .inl (mI S9 64 1)) (zT_is hS9 s_64) (zT_t hS9 s_64) rfl f_11_68_11 rfl ?_
              exact zw_iret hm_137 dX11_feed_51 h
            · intro x S9 hx
              exact ⟨by decide, hx⟩
          · intro x S9 hx
            exact ⟨by decide, hx⟩
        · intro x S9 hx
          exact ⟨by decide, hx⟩
      · intro x S9 hx
        exact ⟨by decide, hx⟩
    · intro x S9 hx
      exact ⟨by decide, hx⟩
  · intro hc
    rw [if_neg hc] at h
    exact zw_thr hm_137 dX11_feed_12 dX11_feed_15 dX11_feed_16 dX11_feed_19 x_11_72_74 n_11_72 (by omega) (by show 0 + 81 ≤ w; omega) h
theorem sp_137_64 {X : Nat × (Nat → Int32)} {d w : Nat} {f : Nat → Nat → Int32} {r : Nat → Nat → Option Nat} {C Z N : Nat} {Q : Option ma_V ⊕ Nat → ma_S → Prop} {S : ma_S} (xa : Int32) (xb : Int32) (xc : Int32) (xd : Int32) (xe : Int32) (hd : 6 ≤ d) (hw : 89 ≤ w) (hI : zA f r C Z N S) (hpre0 : (mI S 64 1).toInt = (mI S 94 3).toInt) (K : ∀ v S', zA f r C Z N S' → (v.toInt = (mI S' 94 3).toInt + 20 ∧ (mI S' 64 1).toInt = (mI S' 94 3).toInt + 20 ∧ (mI S' 94 3).toInt ≤ 80) → Q (.inl (some (.inl v))) S') (KX : ∀ x S', (x = 1) → zA f r C Z N S' → ((mI S' 64 1).toInt = (mI S' 94 3).toInt ∧ 81 ≤ (mI S' 94 3).toInt) → Q (.inr x) (ma_bump S')) : ma_wp X d w 137 0 [(0, .inr (.inr (some 64))), (1, .inl xa), (2, .inl xb), (3, .inl xc), (4, .inl xd), (5, .inl xe)] [] S Q := by
  refine g_137_64_0 xa xb xc xd xe (by omega) (by omega) (zG_T hI) ?_
  have f1 := zG_s hI (0) (100) (c := 64) (k := 1) (by decide)
  have q2 : (mI S 94 3).toInt = (f 94 3).toInt := zG_zi hI rfl
  have b3 := i_bd (mI S 94 3)
  first | have e4 : ((mI S 64 1) + (20 : Int32)).toInt = (mI S 64 1).toInt + (20) := i_addk rfl (by omega) (by omega) | have b5 := i_bd ((mI S 64 1) + (20 : Int32))
  have li6 : (100 : Int32).toInt = 100 := rfl
  refine zd (fun h7 => ?_) (fun h7 => ?_)
  · skip
    have g8 := i_le h7
    have b9 := i_bd xa
    refine sp_138_64_j0 (xa) (by omega) (by omega) hI (show (mI S 64 1).toInt = (mI S 94 3).toInt + 0 ∧ (mI S 94 3).toInt ≤ 80 from by omega) (fun S1 hI_S1 hp_S1 => zv_n ⟨zG_T hI_S1, ?_⟩)
    have b10 := i_bd xb
    have f11 := zG_s hI_S1 (0) (100) (c := 64) (k := 1) (by decide)
    have q12 : (mI S1 94 3).toInt = (f 94 3).toInt := zG_zi hI_S1 rfl
    have b13 := i_bd (mI S1 94 3)
    refine sp_138_64_j1 (xb) (by omega) (by omega) hI_S1 (show (mI S1 64 1).toInt = (mI S1 94 3).toInt + 4 ∧ (mI S1 94 3).toInt ≤ 80 from by omega) (fun S3 hI_S3 hp_S3 => zv_n ⟨zG_T hI_S3, ?_⟩)
    have b14 := i_bd xc
    have f15 := zG_s hI_S3 (0) (100) (c := 64) (k := 1) (by decide)
    have q16 : (mI S3 94 3).toInt = (f 94 3).toInt := zG_zi hI_S3 rfl
    have b17 := i_bd (mI S3 94 3)
    refine sp_138_64_j2 (xc) (by omega) (by omega) hI_S3 (show (mI S3 64 1).toInt = (mI S3 94 3).toInt + 8 ∧ (mI S3 94 3).toInt ≤ 80 from by omega) (fun S5 hI_S5 hp_S5 => zv_n ⟨zG_T hI_S5, ?_⟩)
    have b18 := i_bd xd
    have f19 := zG_s hI_S5 (0) (100) (c := 64) (k := 1) (by decide)
    have q20 : (mI S5 94 3).toInt = (f 94 3).toInt := zG_zi hI_S5 rfl
    have b21 := i_bd (mI S5 94 3)
    refine sp_138_64_j3 (xd) (by omega) (by omega) hI_S5 (show (mI S5 64 1).toInt = (mI S5 94 3).toInt + 12 ∧ (mI S5 94 3).toInt ≤ 80 from by omega) (fun S7 hI_S7 hp_S7 => zv_n ⟨zG_T hI_S7, ?_⟩)
    have b22 := i_bd xe
    have f23 := zG_s hI_S7 (0) (100) (c := 64) (k := 1) (by decide)
    have q24 : (mI S7 94 3).toInt = (f 94 3).toInt := zG_zi hI_S7 rfl
    have b25 := i_bd (mI S7 94 3)
    refine sp_138_64_j4 (xe) (by omega) (by omega) hI_S7 (show (mI S7 64 1).toInt = (mI S7 94 3).toInt + 16 ∧ (mI S7 94 3).toInt ≤ 80 from by omega) (fun S9 hI_S9 hp_S9 => zv_n ⟨zG_T hI_S9, ?_⟩)
    have f26 := zG_s hI_S9 (0) (100) (c := 64) (k := 1) (by decide)
    have q27 : (mI S9 94 3).toInt = (f 94 3).toInt := zG_zi hI_S9 rfl
    have b28 := i_bd (mI S9 94 3)
    exact K ((mI S9 64 1)) _ hI_S9 (show (mI S9 64 1).toInt = (mI S9 94 3).toInt + 20 ∧ (mI S9 64 1).toInt = (mI S9 94 3).toInt + 20 ∧ (mI S9 94 3).toInt ≤ 80 from by omega)
  · skip
    have g29 := i_nle h7
    exact KX 1 _ (by decide) hI (show (mI S 64 1).toInt = (mI S 94 3).toInt ∧ 81 ≤ (mI S 94 3).toInt from by omega)
theorem g_139_64_0 {X : Nat × (Nat → Int32)} {d w : Nat} {S : ma_S} {Q : Option ma_V ⊕ Nat → ma_S → Prop} (n : Int32) (hd : 6 ≤ d) (hw : 89 ≤ w) (hS : zT S) (h : if n < 0 then (Q (.inr 2) (ma_bump S)) else (if n ≤ (mI S 64 1) then (Q (.inl (some (.inl n))) (ma_put S 64 1 (.inl n))) else (Q (.inr 2) (ma_bump S)))) : ma_wp X d w 139 0 [(0, .inr (.inr (some 64))), (1, .inl n)] [] S Q := by
  refine zw_push hm_139 dX11_end_0 (v := .inl n) rfl ?_
  refine zw_if0 hm_139 dX11_end_1 (t := 12) rfl zc0_lt ?_ ?_
  · intro hc
    rw [if_pos hc] at h
    exact zw_thr hm_139 dX11_end_12 dX11_end_15 dX11_end_16 dX11_end_19 x_11_79_81 n_11_79 (by omega) (by show 0 + 81 ≤ w; omega) h
  · intro hc
    rw [if_neg hc] at h
    refine zw_push hm_139 dX11_end_4 (v := .inl n) rfl ?_
    refine zw_push hm_139 dX11_end_5 (v := .inr (.inr (some 64))) rfl ?_
    refine zw_gf hm_139 dX11_end_6 (v := .inl (mI S 64 1)) (zT_is hS s_64) (zT_t hS s_64) rfl f_11_68_11 rfl ?_
    refine zw_if2 hm_139 dX11_end_9 (t := 20) rfl zc2_le ?_ ?_
    · intro hc
      rw [if_pos hc] at h
      refine zw_push hm_139 dX11_end_20 (v := .inr (.inr (some 64))) rfl ?_
      refine zw_push hm_139 dX11_end_21 (v := .inl n) rfl ?_
      refine zw_pf hm_139 dX11_end_22 (zT_is hS s_64) (zT_t hS s_64) p_11_68_11 zk_int ?_
      refine zw_push hm_139 dX11_end_25 (v := .inl n) rfl ?_
      exact zw_iret hm_139 dX11_end_26 h
    · intro hc
      rw [if_neg hc] at h
      exact zw_thr hm_139 dX11_end_12 dX11_end_15 dX11_end_16 dX11_end_19 x_11_79_81 n_11_79 (by omega) (by show 0 + 81 ≤ w; omega) h
theorem sp_139_64 {X : Nat × (Nat → Int32)} {d w : Nat} {f : Nat → Nat → Int32} {r : Nat → Nat → Option Nat} {C Z N : Nat} {Q : Option ma_V ⊕ Nat → ma_S → Prop} {S : ma_S} (n : Int32) (hd : 6 ≤ d) (hw : 89 ≤ w) (hI : zA f r C Z N S) (hpre0 : (mI S 64 1).toInt = (mI S 94 3).toInt) (K : ∀ v S', zA f r C Z N S' → ((mI S' 64 1).toInt = n.toInt ∧ 0 ≤ n.toInt ∧ n.toInt ≤ (mI S' 94 3).toInt ∧ v.toInt = n.toInt) → Q (.inl (some (.inl v))) S') (KX : ∀ x S', (x = 2) → zA f r C Z N S' → ((mI S' 64 1).toInt = (mI S' 94 3).toInt ∧ (n.toInt < 0 ∨ (mI S' 94 3).toInt < n.toInt)) → Q (.inr x) (ma_bump S')) : ma_wp X d w 139 0 [(0, .inr (.inr (some 64))), (1, .inl n)] [] S Q := by
  refine g_139_64_0 n (by omega) (by omega) (zG_T hI) ?_
  have f1 := zG_s hI (0) (100) (c := 64) (k := 1) (by decide)
  have q2 : (mI S 94 3).toInt = (f 94 3).toInt := zG_zi hI rfl
  have b3 := i_bd (mI S 94 3)
  have b4 := i_bd n
  have li5 : (0 : Int32).toInt = 0 := rfl
  refine zd (fun h6 => ?_) (fun h6 => ?_)
  · skip
    have g7 := i_lt h6
    exact KX 2 _ (by decide) hI (show (mI S 64 1).toInt = (mI S 94 3).toInt ∧ (n.toInt < 0 ∨ (mI S 94 3).toInt < n.toInt) from by omega)
  · skip
    have g8 := i_nlt h6
    refine zd (fun h9 => ?_) (fun h9 => ?_)
    · skip
      have g10 := i_le h9
      have hI11 : zA f r C Z N (ma_put S 64 1 (.inl n)) := zG_sp hI (0) (100) rfl (by decide) (by decide) (by decide) (show zA_x (mI S) from zG_x hI) (by omega) (by omega)
      exact K (n) _ hI11 (show n.toInt = n.toInt ∧ 0 ≤ n.toInt ∧ n.toInt ≤ (mI S 94 3).toInt ∧ n.toInt = n.toInt from by omega)
    · skip
      have g12 := i_nle h9
      exact KX 2 _ (by decide) hI (show (mI S 64 1).toInt = (mI S 94 3).toInt ∧ (n.toInt < 0 ∨ (mI S 94 3).toInt < n.toInt) from by omega)
