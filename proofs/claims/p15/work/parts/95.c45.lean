/-! the class behind (written by wip/tools/gen95c.py) -/
theorem g_138_64_j0_0 {X : Nat × (Nat → Int32)} {d w : Nat} {S : ma_S} {Q : Option ma_V ⊕ Nat → ma_S → Prop} (x : Int32) (hd : 0 ≤ d) (hw : 0 ≤ w) (hS : zT S) (h : if (100 : Int32) ≤ (mI S 64 1) then (Q (.inl none) S) else ((0 ≤ (mI S 64 1) ∧ (mI S 64 1).toNatClampNeg < 100) ∧ (if (100 : Int32) ≤ ((mI S 64 1) + (1 : Int32)) then (Q (.inl none) (ma_put (ma_put S 65 (mI S 64 1).toNatClampNeg (.inl (vp_nar .byte (((x.toUInt32 >>> ((24 : Int32).toUInt32 &&& Int32.toUInt32 31)).toInt32).toInt8.toInt32)))) 64 1 (.inl ((mI S 64 1) + (1 : Int32))))) else ((0 ≤ ((mI S 64 1) + (1 : Int32)) ∧ ((mI S 64 1) + (1 : Int32)).toNatClampNeg < 100) ∧ (if (100 : Int32) ≤ (((mI S 64 1) + (1 : Int32)) + (1 : Int32)) then (Q (.inl none) (ma_put (ma_put (ma_put (ma_put S 65 (mI S 64 1).toNatClampNeg (.inl (vp_nar .byte (((x.toUInt32 >>> ((24 : Int32).toUInt32 &&& Int32.toUInt32 31)).toInt32).toInt8.toInt32)))) 64 1 (.inl ((mI S 64 1) + (1 : Int32)))) 65 ((mI S 64 1) + (1 : Int32)).toNatClampNeg (.inl (vp_nar .byte (((x.toUInt32 >>> ((16 : Int32).toUInt32 &&& Int32.toUInt32 31)).toInt32).toInt8.toInt32)))) 64 1 (.inl (((mI S 64 1) + (1 : Int32)) + (1 : Int32))))) else ((0 ≤ (((mI S 64 1) + (1 : Int32)) + (1 : Int32)) ∧ (((mI S 64 1) + (1 : Int32)) + (1 : Int32)).toNatClampNeg < 100) ∧ (if (100 : Int32) ≤ ((((mI S 64 1) + (1 : Int32)) + (1 : Int32)) + (1 : Int32)) then (Q (.inl none) (ma_put (ma_put (ma_put (ma_put (ma_put (ma_put S 65 (mI S 64 1).toNatClampNeg (.inl (vp_nar .byte (((x.toUInt32 >>> ((24 : Int32).toUInt32 &&& Int32.toUInt32 31)).toInt32).toInt8.toInt32)))) 64 1 (.inl ((mI S 64 1) + (1 : Int32)))) 65 ((mI S 64 1) + (1 : Int32)).toNatClampNeg (.inl (vp_nar .byte (((x.toUInt32 >>> ((16 : Int32).toUInt32 &&& Int32.toUInt32 31)).toInt32).toInt8.toInt32)))) 64 1 (.inl (((mI S 64 1) + (1 : Int32)) + (1 : Int32)))) 65 (((mI S 64 1) + (1 : Int32)) + (1 : Int32)).toNatClampNeg (.inl (vp_nar .byte (((x.toUInt32 >>> ((8 : Int32).toUInt32 &&& Int32.toUInt32 31)).toInt32).toInt8.toInt32)))) 64 1 (.inl ((((mI S 64 1) + (1 : Int32)) + (1 : Int32)) + (1 : Int32))))) else ((0 ≤ ((((mI S 64 1) + (1 : Int32)) + (1 : Int32)) + (1 : Int32)) ∧ ((((mI S 64 1) + (1 : Int32)) + (1 : Int32)) + (1 : Int32)).toNatClampNeg < 100) ∧ (Q (.inl none) (ma_put (ma_put (ma_put (ma_put (ma_put (ma_put (ma_put (ma_put S 65 (mI S 64 1).toNatClampNeg (.inl (vp_nar .byte (((x.toUInt32 >>> ((24 : Int32).toUInt32 &&& Int32.toUInt32 31)).toInt32).toInt8.toInt32)))) 64 1 (.inl ((mI S 64 1) + (1 : Int32)))) 65 ((mI S 64 1) + (1 : Int32)).toNatClampNeg (.inl (vp_nar .byte (((x.toUInt32 >>> ((16 : Int32).toUInt32 &&& Int32.toUInt32 31)).toInt32).toInt8.toInt32)))) 64 1 (.inl (((mI S 64 1) + (1 : Int32)) + (1 : Int32)))) 65 (((mI S 64 1) + (1 : Int32)) + (1 : Int32)).toNatClampNeg (.inl (vp_nar .byte (((x.toUInt32 >>> ((8 : Int32).toUInt32 &&& Int32.toUInt32 31)).toInt32).toInt8.toInt32)))) 64 1 (.inl ((((mI S 64 1) + (1 : Int32)) + (1 : Int32)) + (1 : Int32)))) 65 ((((mI S 64 1) + (1 : Int32)) + (1 : Int32)) + (1 : Int32)).toNatClampNeg (.inl (vp_nar .byte (((x.toUInt32 >>> ((0 : Int32).toUInt32 &&& Int32.toUInt32 31)).toInt32).toInt8.toInt32)))) 64 1 (.inl (((((mI S 64 1) + (1 : Int32)) + (1 : Int32)) + (1 : Int32)) + (1 : Int32))))))))))))) : ma_wp X d w 138 0 [(0, .inr (.inr (some 64))), (1, .inl x)] [] S Q := by
  refine zw_push hm_138 dX11_addBytes_0 (v := .inl (24 : Int32)) rfl ?_
  refine zw_sto hm_138 dX11_addBytes_2 [(2, .inl (24 : Int32)), (0, .inr (.inr (some 64))), (1, .inl x)] rfl rfl rfl ?_
  refine zw_push hm_138 dX11_addBytes_3 (v := .inl (24 : Int32)) rfl ?_
  refine zw_if0 hm_138 dX11_addBytes_4 (t := 45) rfl zc0_lt (fun hc => absurd hc (by decide)) (fun _ => ?_)
  refine zw_push hm_138 dX11_addBytes_7 (v := .inr (.inr (some 64))) rfl ?_
  refine zw_gf hm_138 dX11_addBytes_8 (v := .inl (mI S 64 1)) (zT_is hS s_64) (zT_t hS s_64) rfl f_11_68_11 rfl ?_
  refine zw_push hm_138 dX11_addBytes_11 (v := .inl (100 : Int32)) rfl ?_
  refine zw_if2 hm_138 dX11_addBytes_13 (t := 45) rfl zc2_ge ?_ ?_
  · intro hc
    rw [if_pos hc] at h
    exact zw_vret hm_138 dX11_addBytes_45 h
  · intro hc
    rw [if_neg hc] at h
    refine zw_push hm_138 dX11_addBytes_16 (v := .inr (.inr (some 64))) rfl ?_
    refine zw_gf hm_138 dX11_addBytes_17 (v := .inr (.inr (some 65))) (zT_is hS s_64) (zT_t hS s_64) rfl f_11_9_11 (zT_f hS r_64_0) ?_
    refine zw_push hm_138 dX11_addBytes_20 (v := .inr (.inr (some 64))) rfl ?_
    refine zw_gf hm_138 dX11_addBytes_21 (v := .inl (mI S 64 1)) (zT_is hS s_64) (zT_t hS s_64) rfl f_11_68_11 rfl ?_
    refine zw_push hm_138 dX11_addBytes_24 (v := .inl x) rfl ?_
    refine zw_push hm_138 dX11_addBytes_25 (v := .inl (24 : Int32)) rfl ?_
    refine zw_stk hm_138 dX11_addBytes_26 (st' := [.inl ((x.toUInt32 >>> ((24 : Int32).toUInt32 &&& Int32.toUInt32 31)).toInt32), .inl (mI S 64 1), .inr (.inr (some 65))]) rfl rfl ?_
    refine zw_stk hm_138 dX11_addBytes_27 (st' := [.inl (((x.toUInt32 >>> ((24 : Int32).toUInt32 &&& Int32.toUInt32 31)).toInt32).toInt8.toInt32), .inl (mI S 64 1), .inr (.inr (some 65))]) rfl rfl ?_
    obtain ⟨hg, h⟩ := h
    refine zw_bas21 hm_138 dX11_addBytes_28 (zT_is hS s_65) (zT_h hS s_65) rfl hg ?_
    refine zw_push hm_138 dX11_addBytes_29 (v := .inr (.inr (some 64))) rfl ?_
    refine zw_stk hm_138 dX11_addBytes_30 (st' := [.inr (.inr (some 64)), .inr (.inr (some 64))]) rfl rfl ?_
    refine zw_gf hm_138 dX11_addBytes_31 (v := .inl (mI S 64 1)) (zT_is (zT_pi hS) s_64) (zT_t (zT_pi hS) s_64) rfl f_11_68_11 rfl ?_
    refine zw_push hm_138 dX11_addBytes_34 (v := .inl (1 : Int32)) rfl ?_
    refine zw_stk hm_138 dX11_addBytes_35 (st' := [.inl ((mI S 64 1) + (1 : Int32)), .inr (.inr (some 64))]) rfl rfl ?_
    refine zw_pf hm_138 dX11_addBytes_36 (zT_is (zT_pi hS) s_64) (zT_t (zT_pi hS) s_64) p_11_68_11 zk_int ?_
    refine zw_sto hm_138 dX11_addBytes_39 [(2, .inl (16 : Int32)), (0, .inr (.inr (some 64))), (1, .inl x)] rfl rfl rfl ?_
    refine zw_goto hm_138 dX11_addBytes_42 (t := 3) rfl ?_
    refine zw_push hm_138 dX11_addBytes_3 (v := .inl (16 : Int32)) rfl ?_
    refine zw_if0 hm_138 dX11_addBytes_4 (t := 45) rfl zc0_lt (fun hc => absurd hc (by decide)) (fun _ => ?_)
    refine zw_push hm_138 dX11_addBytes_7 (v := .inr (.inr (some 64))) rfl ?_
    refine zw_gf hm_138 dX11_addBytes_8 (v := .inl ((mI S 64 1) + (1 : Int32))) (zT_is (zT_pi (zT_pi hS)) s_64) (zT_t (zT_pi (zT_pi hS)) s_64) rfl f_11_68_11 rfl ?_
    refine zw_push hm_138 dX11_addBytes_11 (v := .inl (100 : Int32)) rfl ?_
    refine zw_if2 hm_138 dX11_addBytes_13 (t := 45) rfl zc2_ge ?_ ?_
    · intro hc
      rw [if_pos hc] at h
      exact zw_vret hm_138 dX11_addBytes_45 h
    · intro hc
      rw [if_neg hc] at h
      refine zw_push hm_138 dX11_addBytes_16 (v := .inr (.inr (some 64))) rfl ?_
      refine zw_gf hm_138 dX11_addBytes_17 (v := .inr (.inr (some 65))) (zT_is (zT_pi (zT_pi hS)) s_64) (zT_t (zT_pi (zT_pi hS)) s_64) rfl f_11_9_11 (zT_f (zT_pi (zT_pi hS)) r_64_0) ?_
      refine zw_push hm_138 dX11_addBytes_20 (v := .inr (.inr (some 64))) rfl ?_
      refine zw_gf hm_138 dX11_addBytes_21 (v := .inl ((mI S 64 1) + (1 : Int32))) (zT_is (zT_pi (zT_pi hS)) s_64) (zT_t (zT_pi (zT_pi hS)) s_64) rfl f_11_68_11 rfl ?_
      refine zw_push hm_138 dX11_addBytes_24 (v := .inl x) rfl ?_
      refine zw_push hm_138 dX11_addBytes_25 (v := .inl (16 : Int32)) rfl ?_
      refine zw_stk hm_138 dX11_addBytes_26 (st' := [.inl ((x.toUInt32 >>> ((16 : Int32).toUInt32 &&& Int32.toUInt32 31)).toInt32), .inl ((mI S 64 1) + (1 : Int32)), .inr (.inr (some 65))]) rfl rfl ?_
      refine zw_stk hm_138 dX11_addBytes_27 (st' := [.inl (((x.toUInt32 >>> ((16 : Int32).toUInt32 &&& Int32.toUInt32 31)).toInt32).toInt8.toInt32), .inl ((mI S 64 1) + (1 : Int32)), .inr (.inr (some 65))]) rfl rfl ?_
      obtain ⟨hg, h⟩ := h
      refine zw_bas21 hm_138 dX11_addBytes_28 (zT_is (zT_pi (zT_pi hS)) s_65) (zT_h (zT_pi (zT_pi hS)) s_65) rfl hg ?_
      refine zw_push hm_138 dX11_addBytes_29 (v := .inr (.inr (some 64))) rfl ?_
      refine zw_stk hm_138 dX11_addBytes_30 (st' := [.inr (.inr (some 64)), .inr (.inr (some 64))]) rfl rfl ?_
      refine zw_gf hm_138 dX11_addBytes_31 (v := .inl ((mI S 64 1) + (1 : Int32))) (zT_is (zT_pi (zT_pi (zT_pi hS))) s_64) (zT_t (zT_pi (zT_pi (zT_pi hS))) s_64) rfl f_11_68_11 rfl ?_
      refine zw_push hm_138 dX11_addBytes_34 (v := .inl (1 : Int32)) rfl ?_
      refine zw_stk hm_138 dX11_addBytes_35 (st' := [.inl (((mI S 64 1) + (1 : Int32)) + (1 : Int32)), .inr (.inr (some 64))]) rfl rfl ?_
      refine zw_pf hm_138 dX11_addBytes_36 (zT_is (zT_pi (zT_pi (zT_pi hS))) s_64) (zT_t (zT_pi (zT_pi (zT_pi hS))) s_64) p_11_68_11 zk_int ?_
      refine zw_sto hm_138 dX11_addBytes_39 [(2, .inl (8 : Int32)), (0, .inr (.inr (some 64))), (1, .inl x)] rfl rfl rfl ?_
      refine zw_goto hm_138 dX11_addBytes_42 (t := 3) rfl ?_
      refine zw_push hm_138 dX11_addBytes_3 (v := .inl (8 : Int32)) rfl ?_
      refine zw_if0 hm_138 dX11_addBytes_4 (t := 45) rfl zc0_lt (fun hc => absurd hc (by decide)) (fun _ => ?_)
      refine zw_push hm_138 dX11_addBytes_7 (v := .inr (.inr (some 64))) rfl ?_
      refine zw_gf hm_138 dX11_addBytes_8 (v := .inl (((mI S 64 1) + (1 : Int32)) + (1 : Int32))) (zT_is (zT_pi (zT_pi (zT_pi (zT_pi hS)))) s_64) (zT_t (zT_pi (zT_pi (zT_pi (zT_pi hS)))) s_64) rfl f_11_68_11 rfl ?_
      refine zw_push hm_138 dX11_addBytes_11 (v := .inl (100 : Int32)) rfl ?_
      refine zw_if2 hm_138 dX11_addBytes_13 (t := 45) rfl zc2_ge ?_ ?_
      · intro hc
        rw [if_pos hc] at h
        exact zw_vret hm_138 dX11_addBytes_45 h
      · intro hc
        rw [if_neg hc] at h
        refine zw_push hm_138 dX11_addBytes_16 (v := .inr (.inr (some 64))) rfl ?_
        refine zw_gf hm_138 dX11_addBytes_17 (v := .inr (.inr (some 65))) (zT_is (zT_pi (zT_pi (zT_pi (zT_pi hS)))) s_64) (zT_t (zT_pi (zT_pi (zT_pi (zT_pi hS)))) s_64) rfl f_11_9_11 (zT_f (zT_pi (zT_pi (zT_pi (zT_pi hS)))) r_64_0) ?_
        refine zw_push hm_138 dX11_addBytes_20 (v := .inr (.inr (some 64))) rfl ?_
        refine zw_gf hm_138 dX11_addBytes_21 (v := .inl (((mI S 64 1) + (1 : Int32)) + (1 : Int32))) (zT_is (zT_pi (zT_pi (zT_pi (zT_pi hS)))) s_64) (zT_t (zT_pi (zT_pi (zT_pi (zT_pi hS)))) s_64) rfl f_11_68_11 rfl ?_
        refine zw_push hm_138 dX11_addBytes_24 (v := .inl x) rfl ?_
        refine zw_push hm_138 dX11_addBytes_25 (v := .inl (8 : Int32)) rfl ?_
        refine zw_stk hm_138 dX11_addBytes_26 (st' := [.inl ((x.toUInt32 >>> ((8 : Int32).toUInt32 &&& Int32.toUInt32 31)).toInt32), .inl (((mI S 64 1) + (1 : Int32)) + (1 : Int32)), .inr (.inr (some 65))]) rfl rfl ?_
        refine zw_stk hm_138 dX11_addBytes_27 (st' := [.inl (((x.toUInt32 >>> ((8 : Int32).toUInt32 &&& Int32.toUInt32 31)).toInt32).toInt8.toInt32), .inl (((mI S 64 1) + (1 : Int32)) + (1 : Int32)), .inr (.inr (some 65))]) rfl rfl ?_
        obtain ⟨hg, h⟩ := h
        refine zw_bas21 hm_138 dX11_addBytes_28 (zT_is (zT_pi (zT_pi (zT_pi (zT_pi hS)))) s_65) (zT_h (zT_pi (zT_pi (zT_pi (zT_pi hS)))) s_65) rfl hg ?_
        refine zw_push hm_138 dX11_addBytes_29 (v := .inr (.inr (some 64))) rfl ?_
        refine zw_stk hm_138 dX11_addBytes_30 (st' := [.inr (.inr (some 64)), .inr (.inr (some 64))]) rfl rfl ?_
        refine zw_gf hm_138 dX11_addBytes_31 (v := .inl (((mI S 64 1) + (1 : Int32)) + (1 : Int32))) (zT_is (zT_pi (zT_pi (zT_pi (zT_pi (zT_pi hS))))) s_64) (zT_t (zT_pi (zT_pi (zT_pi (zT_pi (zT_pi hS))))) s_64) rfl f_11_68_11 rfl ?_
        refine zw_push hm_138 dX11_addBytes_34 (v := .inl (1 : Int32)) rfl ?_
        refine zw_stk hm_138 dX11_addBytes_35 (st' := [.inl ((((mI S 64 1) + (1 : Int32)) + (1 : Int32)) + (1 : Int32)), .inr (.inr (some 64))]) rfl rfl ?_
        refine zw_pf hm_138 dX11_addBytes_36 (zT_is (zT_pi (zT_pi (zT_pi (zT_pi (zT_pi hS))))) s_64) (zT_t (zT_pi (zT_pi (zT_pi (zT_pi (zT_pi hS))))) s_64) p_11_68_11 zk_int ?_
        refine zw_sto hm_138 dX11_addBytes_39 [(2, .inl (0 : Int32)), (0, .inr (.inr (some 64))), (1, .inl x)] rfl rfl rfl ?_
        refine zw_goto hm_138 dX11_addBytes_42 (t := 3) rfl ?_
        refine zw_push hm_138 dX11_addBytes_3 (v := .inl (0 : Int32)) rfl ?_
        refine zw_if0 hm_138 dX11_addBytes_4 (t := 45) rfl zc0_lt (fun hc => absurd hc (by decide)) (fun _ => ?_)
        refine zw_push hm_138 dX11_addBytes_7 (v := .inr (.inr (some 64))) rfl ?_
        refine zw_gf hm_138 dX11_addBytes_8 (v := .inl ((((mI S 64 1) + (1 : Int32)) + (1 : Int32)) + (1 : Int32))) (zT_is (zT_pi (zT_pi (zT_pi (zT_pi (zT_pi (zT_pi hS)))))) s_64) (zT_t (zT_pi (zT_pi (zT_pi (zT_pi (zT_pi (zT_pi hS)))))) s_64) rfl f_11_68_11 rfl ?_
        refine zw_push hm_138 dX11_addBytes_11 (v := .inl (100 : Int32)) rfl ?_
        refine zw_if2 hm_138 dX11_addBytes_13 (t := 45) rfl zc2_ge ?_ ?_
        · intro hc
          rw [if_pos hc] at h
          exact zw_vret hm_138 dX11_addBytes_45 h
        · intro hc
          rw [if_neg hc] at h
          refine zw_push hm_138 dX11_addBytes_16 (v := .inr (.inr (some 64))) rfl ?_
          refine zw_gf hm_138 dX11_addBytes_17 (v := .inr (.inr (some 65))) (zT_is (zT_pi (zT_pi (zT_pi (zT_pi (zT_pi (zT_pi hS)))))) s_64) (zT_t (zT_pi (zT_pi (zT_pi (zT_pi (zT_pi (zT_pi hS)))))) s_64) rfl f_11_9_11 (zT_f (zT_pi (zT_pi (zT_pi (zT_pi (zT_pi (zT_pi hS)))))) r_64_0) ?_
          refine zw_push hm_138 dX11_addBytes_20 (v := .inr (.inr (some 64))) rfl ?_
          refine zw_gf hm_138 dX11_addBytes_21 (v := .inl ((((mI S 64 1) + (1 : Int32)) + (1 : Int32)) + (1 : Int32))) (zT_is (zT_pi (zT_pi (zT_pi (zT_pi (zT_pi (zT_pi hS)))))) s_64) (zT_t (zT_pi (zT_pi (zT_pi (zT_pi (zT_pi (zT_pi hS)))))) s_64) rfl f_11_68_11 rfl ?_
          refine zw_push hm_138 dX11_addBytes_24 (v := .inl x) rfl ?_
          refine zw_push hm_138 dX11_addBytes_25 (v := .inl (0 : Int32)) rfl ?_
          refine zw_stk hm_138 dX11_addBytes_26 (st' := [.inl ((x.toUInt32 >>> ((0 : Int32).toUInt32 &&& Int32.toUInt32 31)).toInt32), .inl ((((mI S 64 1) + (1 : Int32)) + (1 : Int32)) + (1 : Int32)), .inr (.inr (some 65))]) rfl rfl ?_
          refine zw_stk hm_138 dX11_addBytes_27 (st' := [.inl (((x.toUInt32 >>> ((0 : Int32).toUInt32 &&& Int32.toUInt32 31)).toInt32).toInt8.toInt32), .inl ((((mI S 64 1) + (1 : Int32)) + (1 : Int32)) + (1 : Int32)), .inr (.inr (some 65))]) rfl rfl ?_
          obtain ⟨hg, h⟩ := h
          refine zw_bas21 hm_138 dX11_addBytes_28 (zT_is (zT_pi (zT_pi (zT_pi (zT_pi (zT_pi (zT_pi hS)))))) s_65) (zT_h (zT_pi (zT_pi (zT_pi (zT_pi (zT_pi (zT_pi hS)))))) s_65) rfl hg ?_
          refine zw_push hm_138 dX11_addBytes_29 (v := .inr (.inr (some 64))) rfl ?_
          refine zw_stk hm_138 dX11_addBytes_30 (st' := [.inr (.inr (some 64)), .inr (.inr (some 64))]) rfl rfl ?_
          refine zw_gf hm_138 dX11_addBytes_31 (v := .inl ((((mI S 64 1) + (1 : Int32)) + (1 : Int32)) + (1 : Int32))) (zT_is (zT_pi (zT_pi (zT_pi (zT_pi (zT_pi (zT_pi (zT_pi hS))))))) s_64) (zT_t (zT_pi (zT_pi (zT_pi (zT_pi (zT_pi (zT_pi (zT_pi hS))))))) s_64) rfl f_11_68_11 rfl ?_
          refine zw_push hm_138 dX11_addBytes_34 (v := .inl (1 : Int32)) rfl ?_
          refine zw_stk hm_138 dX11_addBytes_35 (st' := [.inl (((((mI S 64 1) + (1 : Int32)) + (1 : Int32)) + (1 : Int32)) + (1 : Int32)), .inr (.inr (some 64))]) rfl rfl ?_
          refine zw_pf hm_138 dX11_addBytes_36 (zT_is (zT_pi (zT_pi (zT_pi (zT_pi (zT_pi (zT_pi (zT_pi hS))))))) s_64) (zT_t (zT_pi (zT_pi (zT_pi (zT_pi (zT_pi (zT_pi (zT_pi hS))))))) s_64) p_11_68_11 zk_int ?_
          refine zw_sto hm_138 dX11_addBytes_39 [(2, .inl (-8 : Int32)), (0, .inr (.inr (some 64))), (1, .inl x)] rfl rfl rfl ?_
          refine zw_goto hm_138 dX11_addBytes_42 (t := 3) rfl ?_
          refine zw_push hm_138 dX11_addBytes_3 (v := .inl (-8 : Int32)) rfl ?_
          refine zw_if0 hm_138 dX11_addBytes_4 (t := 45) rfl zc0_lt (fun _ => ?_) (fun hc => absurd (by decide) hc)
          exact zw_vret hm_138 dX11_addBytes_45 h
theorem sp_138_64_j0 {X : Nat × (Nat → Int32)} {d w : Nat} {f : Nat → Nat → Int32} {r : Nat → Nat → Option Nat} {C Z N : Nat} {Q : Option ma_V ⊕ Nat → ma_S → Prop} {S : ma_S} (x : Int32) (hd : 0 ≤ d) (hw : 0 ≤ w) (hI : zA f r C Z N S) (hpre0 : (mI S 64 1).toInt = (mI S 94 3).toInt + 0 ∧ (mI S 94 3).toInt ≤ 80) (K : ∀ S', zA f r C Z N S' → ((mI S' 64 1).toInt = (mI S' 94 3).toInt + 4 ∧ (mI S' 94 3).toInt ≤ 80) → Q (.inl none) S') : ma_wp X d w 138 0 [(0, .inr (.inr (some 64))), (1, .inl x)] [] S Q := by
  refine g_138_64_j0_0 x (by omega) (by omega) (zG_T hI) ?_
  have f1 := zG_s hI (0) (100) (c := 64) (k := 1) (by decide)
  have q2 : (mI S 94 3).toInt = (f 94 3).toInt := zG_zi hI rfl
  have b3 := i_bd (mI S 94 3)
  have li4 : (100 : Int32).toInt = 100 := rfl
  refine zd (fun h5 => ?_) (fun h5 => ?_)
  · skip
    have g6 := i_le h5
    exact K _ hI (show (mI S 64 1).toInt = (mI S 94 3).toInt + 4 ∧ (mI S 94 3).toInt ≤ 80 from by omega)
  · skip
    have g7 := i_nle h5
    refine ⟨i_ix (by omega) (by omega), ?_⟩
    first | have e8 : ((mI S 64 1) + (1 : Int32)).toInt = (mI S 64 1).toInt + (1) := i_addk rfl (by omega) (by omega) | have b9 := i_bd ((mI S 64 1) + (1 : Int32))
    refine zd (fun h10 => ?_) (fun h10 => ?_)
    · skip
      have g11 := i_le h10
      have hI12 : zA f r C Z N (ma_put S 65 (mI S 64 1).toNatClampNeg (.inl (vp_nar .byte (((x.toUInt32 >>> ((24 : Int32).toUInt32 &&& Int32.toUInt32 31)).toInt32).toInt8.toInt32)))) := zG_fa hI rfl (by decide) (by decide) (by decide) (show zA_x (mI S) from zG_x hI)
      have hI13 : zA f r C Z N (ma_put (ma_put S 65 (mI S 64 1).toNatClampNeg (.inl (vp_nar .byte (((x.toUInt32 >>> ((24 : Int32).toUInt32 &&& Int32.toUInt32 31)).toInt32).toInt8.toInt32)))) 64 1 (.inl ((mI S 64 1) + (1 : Int32)))) := zG_sp hI12 (0) (100) rfl (by decide) (by decide) (by decide) (show zA_x (mI (ma_put S 65 (mI S 64 1).toNatClampNeg (.inl (vp_nar .byte (((x.toUInt32 >>> ((24 : Int32).toUInt32 &&& Int32.toUInt32 31)).toInt32).toInt8.toInt32))))) from zG_x hI12) (by omega) (by omega)
      exact K _ hI13 (show ((mI S 64 1) + (1 : Int32)).toInt = (mI S 94 3).toInt + 4 ∧ (mI S 94 3).toInt ≤ 80 from by omega)
    · skip
      have g14 := i_nle h10
      refine ⟨i_ix (by omega) (by omega), ?_⟩
      first | have e15 : (((mI S 64 1) + (1 : Int32)) + (1 : Int32)).toInt = ((mI S 64 1) + (1 : Int32)).toInt + (1) := i_addk rfl (by omega) (by omega) | have b16 := i_bd (((mI S 64 1) + (1 : Int32)) + (1 : Int32))
      refine zd (fun h17 => ?_) (fun h17 => ?_)
      · skip
        have g18 := i_le h17
        have hI19 : zA f r C Z N (ma_put S 65 (mI S 64 1).toNatClampNeg (.inl (vp_nar .byte (((x.toUInt32 >>> ((24 : Int32).toUInt32 &&& Int32.toUInt32 31)).toInt32).toInt8.toInt32)))) := zG_fa hI rfl (by decide) (by decide) (by decide) (show zA_x (mI S) from zG_x hI)
        have hI20 : zA f r C Z N (ma_put (ma_put S 65 (mI S 64 1).toNatClampNeg (.inl (vp_nar .byte (((x.toUInt32 >>> ((24 : Int32).toUInt32 &&& Int32.toUInt32 31)).toInt32).toInt8.toInt32)))) 64 1 (.inl ((mI S 64 1) + (1 : Int32)))) := zG_sp hI19 (0) (100) rfl (by decide) (by decide) (by decide) (show zA_x (mI (ma_put S 65 (mI S 64 1).toNatClampNeg (.inl (vp_nar .byte (((x.toUInt32 >>> ((24 : Int32).toUInt32 &&& Int32.toUInt32 31)).toInt32).toInt8.toInt32))))) from zG_x hI19) (by omega) (by omega)
        have hI21 : zA f r C Z N (ma_put (ma_put (ma_put S 65 (mI S 64 1).toNatClampNeg (.inl (vp_nar .byte (((x.toUInt32 >>> ((24 : Int32).toUInt32 &&& Int32.toUInt32 31)).toInt32).toInt8.toInt32)))) 64 1 (.inl ((mI S 64 1) + (1 : Int32)))) 65 ((mI S 64 1) + (1 : Int32)).toNatClampNeg (.inl (vp_nar .byte (((x.toUInt32 >>> ((16 : Int32).toUInt32 &&& Int32.toUInt32 31)).toInt32).toInt8.toInt32)))) := zG_fa hI20 rfl (by decide) (by decide) (by decide) (show zA_x (mI (ma_put (ma_put S 65 (mI S 64 1).toNatClampNeg (.inl (vp_nar .byte (((x.toUInt32 >>> ((24 : Int32).toUInt32 &&& Int32.toUInt32 31)).toInt32).toInt8.toInt32)))) 64 1 (.inl ((mI S 64 1) + (1 : Int32))))) from zG_x hI20)
        have hI22 : zA f r C Z N (ma_put (ma_put (ma_put (ma_put S 65 (mI S 64 1).toNatClampNeg (.inl (vp_nar .byte (((x.toUInt32 >>> ((24 : Int32).toUInt32 &&& Int32.toUInt32 31)).toInt32).toInt8.toInt32)))) 64 1 (.inl ((mI S 64 1) + (1 : Int32)))) 65 ((mI S 64 1) + (1 : Int32)).toNatClampNeg (.inl (vp_nar .byte (((x.toUInt32 >>> ((16 : Int32).toUInt32 &&& Int32.toUInt32 31)).toInt32).toInt8.toInt32)))) 64 1 (.inl (((mI S 64 1) + (1 : Int32)) + (1 : Int32)))) := zG_sp hI21 (0) (100) rfl (by decide) (by decide) (by decide) (show zA_x (mI (ma_put (ma_put (ma_put S 65 (mI S 64 1).toNatClampNeg (.inl (vp_nar .byte (((x.toUInt32 >>> ((24 : Int32).toUInt32 &&& Int32.toUInt32 31)).toInt32).toInt8.toInt32)))) 64 1 (.inl ((mI S 64 1) + (1 : Int32)))) 65 ((mI S 64 1) + (1 : Int32)).toNatClampNeg (.inl (vp_nar .byte (((x.toUInt32 >>> ((16 : Int32).toUInt32 &&& Int32.toUInt32 31)).toInt32).toInt8.toInt32))))) from zG_x hI21) (by omega) (by omega)
        exact K _ hI22 (show (((mI S 64 1) + (1 : Int32)) + (1 : Int32)).toInt = (mI S 94 3).toInt + 4 ∧ (mI S 94 3).toInt ≤ 80 from by omega)
      · skip
        have g23 := i_nle h17
        refine ⟨i_ix (by omega) (by omega), ?_⟩
        first | have e24 : ((((mI S 64 1) + (1 : Int32)) + (1 : Int32)) + (1 : Int32)).toInt = (((mI S 64 1) + (1 : Int32)) + (1 : Int32)).toInt + (1) := i_addk rfl (by omega) (by omega) | have b25 := i_bd ((((mI S 64 1) + (1 : Int32)) + (1 : Int32)) + (1 : Int32))
        refine zd (fun h26 => ?_) (fun h26 => ?_)
        · skip
          have g27 := i_le h26
          have hI28 : zA f r C Z N (ma_put S 65 (mI S 64 1).toNatClampNeg (.inl (vp_nar .byte (((x.toUInt32 >>> ((24 : Int32).toUInt32 &&& Int32.toUInt32 31)).toInt32).toInt8.toInt32)))) := zG_fa hI rfl (by decide) (by decide) (by decide) (show zA_x (mI S) from zG_x hI)
          have hI29 : zA f r C Z N (ma_put (ma_put S 65 (mI S 64 1).toNatClampNeg (.inl (vp_nar .byte (((x.toUInt32 >>> ((24 : Int32).toUInt32 &&& Int32.toUInt32 31)).toInt32).toInt8.toInt32)))) 64 1 (.inl ((mI S 64 1) + (1 : Int32)))) := zG_sp hI28 (0) (100) rfl (by decide) (by decide) (by decide) (show zA_x (mI (ma_put S 65 (mI S 64 1).toNatClampNeg (.inl (vp_nar .byte (((x.toUInt32 >>> ((24 : Int32).toUInt32 &&& Int32.toUInt32 31)).toInt32).toInt8.toInt32))))) from zG_x hI28) (by omega) (by omega)
          have hI30 : zA f r C Z N (ma_put (ma_put (ma_put S 65 (mI S 64 1).toNatClampNeg (.inl (vp_nar .byte (((x.toUInt32 >>> ((24 : Int32).toUInt32 &&& Int32.toUInt32 31)).toInt32).toInt8.toInt32)))) 64 1 (.inl ((mI S 64 1) + (1 : Int32)))) 65 ((mI S 64 1) + (1 : Int32)).toNatClampNeg (.inl (vp_nar .byte (((x.toUInt32 >>> ((16 : Int32).toUInt32 &&& Int32.toUInt32 31)).toInt32).toInt8.toInt32)))) := zG_fa hI29 rfl (by decide) (by decide) (by decide) (show zA_x (mI (ma_put (ma_put S 65 (mI S 64 1).toNatClampNeg (.inl (vp_nar .byte (((x.toUInt32 >>> ((24 : Int32).toUInt32 &&& Int32.toUInt32 31)).toInt32).toInt8.toInt32)))) 64 1 (.inl ((mI S 64 1) + (1 : Int32))))) from zG_x hI29)
          have hI31 : zA f r C Z N (ma_put (ma_put (ma_put (ma_put S 65 (mI S 64 1).toNatClampNeg (.inl (vp_nar .byte (((x.toUInt32 >>> ((24 : Int32).toUInt32 &&& Int32.toUInt32 31)).toInt32).toInt8.toInt32)))) 64 1 (.inl ((mI S 64 1) + (1 : Int32)))) 65 ((mI S 64 1) + (1 : Int32)).toNatClampNeg (.inl (vp_nar .byte (((x.toUInt32 >>> ((16 : Int32).toUInt32 &&& Int32.toUInt32 31)).toInt32).toInt8.toInt32)))) 64 1 (.inl (((mI S 64 1) + (1 : Int32)) + (1 : Int32)))) := zG_sp hI30 (0) (100) rfl (by decide) (by decide) (by decide) (show zA_x (mI (ma_put (ma_put (ma_put S 65 (mI S 64 1).toNatClampNeg (.inl (vp_nar .byte (((x.toUInt32 >>> ((24 : Int32).toUInt32 &&& Int32.toUInt32 31)).toInt32).toInt8.toInt32)))) 64 1 (.inl ((mI S 64 1) + (1 : Int32)))) 65 ((mI S 64 1) + (1 : Int32)).toNatClampNeg (.inl (vp_nar .byte (((x.toUInt32 >>> ((16 : Int32).toUInt32 &&& Int32.toUInt32 31)).toInt32).toInt8.toInt32))))) from zG_x hI30) (by omega) (by omega)
          have hI32 : zA f r C Z N (ma_put (ma_put (ma_put (ma_put (ma_put S 65 (mI S 64 1).toNatClampNeg (.inl (vp_nar .byte (((x.toUInt32 >>> ((24 : Int32).toUInt32 &&& Int32.toUInt32 31)).toInt32).toInt8.toInt32)))) 64 1 (.inl ((mI S 64 1) + (1 : Int32)))) 65 ((mI S 64 1) + (1 : Int32)).toNatClampNeg (.inl (vp_nar .byte (((x.toUInt32 >>> ((16 : Int32).toUInt32 &&& Int32.toUInt32 31)).toInt32).toInt8.toInt32)))) 64 1 (.inl (((mI S 64 1) + (1 : Int32)) + (1 : Int32)))) 65 (((mI S 64 1) + (1 : Int32)) + (1 : Int32)).toNatClampNeg (.inl (vp_nar .byte (((x.toUInt32 >>> ((8 : Int32).toUInt32 &&& Int32.toUInt32 31)).toInt32).toInt8.toInt32)))) := zG_fa hI31 rfl (by decide) (by decide) (by decide) (show zA_x (mI (ma_put (ma_put (ma_put (ma_put S 65 (mI S 64 1).toNatClampNeg (.inl (vp_nar .byte (((x.toUInt32 >>> ((24 : Int32).toUInt32 &&& Int32.toUInt32 31)).toInt32).toInt8.toInt32)))) 64 1 (.inl ((mI S 64 1) + (1 : Int32)))) 65 ((mI S 64 1) + (1 : Int32)).toNatClampNeg (.inl (vp_nar .byte (((x.toUInt32 >>> ((16 : Int32).toUInt32 &&& Int32.toUInt32 31)).toInt32).toInt8.toInt32)))) 64 1 (.inl (((mI S 64 1) + (1 : Int32)) + (1 : Int32))))) from zG_x hI31)
          have hI33 : zA f r C Z N (ma_put (ma_put (ma_put (ma_put (ma_put (ma_put S 65 (mI S 64 1).toNatClampNeg (.inl (vp_nar .byte (((x.toUInt32 >>> ((24 : Int32).toUInt32 &&& Int32.toUInt32 31)).toInt32).toInt8.toInt32)))) 64 1 (.inl ((mI S 64 1) + (1 : Int32)))) 65 ((mI S 64 1) + (1 : Int32)).toNatClampNeg (.inl (vp_nar .byte (((x.toUInt32 >>> ((16 : Int32).toUInt32 &&& Int32.toUInt32 31)).toInt32).toInt8.toInt32)))) 64 1 (.inl (((mI S 64 1) + (1 : Int32)) + (1 : Int32)))) 65 (((mI S 64 1) + (1 : Int32)) + (1 : Int32)).toNatClampNeg (.inl (vp_nar .byte (((x.toUInt32 >>> ((8 : Int32).toUInt32 &&& Int32.toUInt32 31)).toInt32).toInt8.toInt32)))) 64 1 (.inl ((((mI S 64 1) + (1 : Int32)) + (1 : Int32)) + (1 : Int32)))) := zG_sp hI32 (0) (100) rfl (by decide) (by decide) (by decide) (show zA_x (mI (ma_put (ma_put (ma_put (ma_put (ma_put S 65 (mI S 64 1).toNatClampNeg (.inl (vp_nar .byte (((x.toUInt32 >>> ((24 : Int32).toUInt32 &&& Int32.toUInt32 31)).toInt32).toInt8.toInt32)))) 64 1 (.inl ((mI S 64 1) + (1 : Int32)))) 65 ((mI S 64 1) + (1 : Int32)).toNatClampNeg (.inl (vp_nar .byte (((x.toUInt32 >>> ((16 : Int32).toUInt32 &&& Int32.toUInt32 31)).toInt32).toInt8.toInt32)))) 64 1 (.inl (((mI S 64 1) + (1 : Int32)) + (1 : Int32)))) 65 (((mI S 64 1) + (1 : Int32)) + (1 : Int32)).toNatClampNeg (.inl (vp_nar .byte (((x.toUInt32 >>> ((8 : Int32).toUInt32 &&& Int32.toUInt32 31)).toInt32).toInt8.toInt32))))) from zG_x hI32) (by omega) (by omega)
          exact K _ hI33 (show ((((mI S 64 1) + (1 : Int32)) + (1 : Int32)) + (1 : Int32)).toInt = (mI S 94 3).toInt + 4 ∧ (mI S 94 3).toInt ≤ 80 from by omega)
        · skip
          have g34 := i_nle h26
          refine ⟨i_ix (by omega) (by omega), ?_⟩
          have hI35 : zA f r C Z N (ma_put S 65 (mI S 64 1).toNatClampNeg (.inl (vp_nar .byte (((x.toUInt32 >>> ((24 : Int32).toUInt32 &&& Int32.toUInt32 31)).toInt32).toInt8.toInt32)))) := zG_fa hI rfl (by decide) (by decide) (by decide) (show zA_x (mI S) from zG_x hI)
          have hI36 : zA f r C Z N (ma_put (ma_put S 65 (mI S 64 1).toNatClampNeg (.inl (vp_nar .byte (((x.toUInt32 >>> ((24 : Int32).toUInt32 &&& Int32.toUInt32 31)).toInt32).toInt8.toInt32)))) 64 1 (.inl ((mI S 64 1) + (1 : Int32)))) := zG_sp hI35 (0) (100) rfl (by decide) (by decide) (by decide) (show zA_x (mI (ma_put S 65 (mI S 64 1).toNatClampNeg (.inl (vp_nar .byte (((x.toUInt32 >>> ((24 : Int32).toUInt32 &&& Int32.toUInt32 31)).toInt32).toInt8.toInt32))))) from zG_x hI35) (by omega) (by omega)
          have hI37 : zA f r C Z N (ma_put (ma_put (ma_put S 65 (mI S 64 1).toNatClampNeg (.inl (vp_nar .byte (((x.toUInt32 >>> ((24 : Int32).toUInt32 &&& Int32.toUInt32 31)).toInt32).toInt8.toInt32)))) 64 1 (.inl ((mI S 64 1) + (1 : Int32)))) 65 ((mI S 64 1) + (1 : Int32)).toNatClampNeg (.inl (vp_nar .byte (((x.toUInt32 >>> ((16 : Int32).toUInt32 &&& Int32.toUInt32 31)).toInt32).toInt8.toInt32)))) := zG_fa hI36 rfl (by decide) (by decide) (by decide) (show zA_x (mI (ma_put (ma_put S 65 (mI S 64 1).toNatClampNeg (.inl (vp_nar .byte (((x.toUInt32 >>> ((24 : Int32).toUInt32 &&& Int32.toUInt32 31)).toInt32).toInt8.toInt32)))) 64 1 (.inl ((mI S 64 1) + (1 : Int32))))) from zG_x hI36)
          have hI38 : zA f r C Z N (ma_put (ma_put (ma_put (ma_put S 65 (mI S 64 1).toNatClampNeg (.inl (vp_nar .byte (((x.toUInt32 >>> ((24 : Int32).toUInt32 &&& Int32.toUInt32 31)).toInt32).toInt8.toInt32)))) 64 1 (.inl ((mI S 64 1) + (1 : Int32)))) 65 ((mI S 64 1) + (1 : Int32)).toNatClampNeg (.inl (vp_nar .byte (((x.toUInt32 >>> ((16 : Int32).toUInt32 &&& Int32.toUInt32 31)).toInt32).toInt8.toInt32)))) 64 1 (.inl (((mI S 64 1) + (1 : Int32)) + (1 : Int32)))) := zG_sp hI37 (0) (100) rfl (by decide) (by decide) (by decide) (show zA_x (mI (ma_put (ma_put (ma_put S 65 (mI S 64 1).toNatClampNeg (.inl (vp_nar .byte (((x.toUInt32 >>> ((24 : Int32).toUInt32 &&& Int32.toUInt32 31)).toInt32).toInt8.toInt32)))) 64 1 (.inl ((mI S 64 1) + (1 : Int32)))) 65 ((mI S 64 1) + (1 : Int32)).toNatClampNeg (.inl (vp_nar .byte (((x.toUInt32 >>> ((16 : Int32).toUInt32 &&& Int32.toUInt32 31)).toInt32).toInt8.toInt32))))) from zG_x hI37) (by omega) (by omega)
          have hI39 : zA f r C Z N (ma_put (ma_put (ma_put (ma_put (ma_put S 65 (mI S 64 1).toNatClampNeg (.inl (vp_nar .byte (((x.toUInt32 >>> ((24 : Int32).toUInt32 &&& Int32.toUInt32 31)).toInt32).toInt8.toInt32)))) 64 1 (.inl ((mI S 64 1) + (1 : Int32)))) 65 ((mI S 64 1) + (1 : Int32)).toNatClampNeg (.inl (vp_nar .byte (((x.toUInt32 >>> ((16 : Int32).toUInt32 &&& Int32.toUInt32 31)).toInt32).toInt8.toInt32)))) 64 1 (.inl (((mI S 64 1) + (1 : Int32)) + (1 : Int32)))) 65 (((mI S 64 1) + (1 : Int32)) + (1 : Int32)).toNatClampNeg (.inl (vp_nar .byte (((x.toUInt32 >>> ((8 : Int32).toUInt32 &&& Int32.toUInt32 31)).toInt32).toInt8.toInt32)))) := zG_fa hI38 rfl (by decide) (by decide) (by decide) (show zA_x (mI (ma_put (ma_put (ma_put (ma_put S 65 (mI S 64 1).toNatClampNeg (.inl (vp_nar .byte (((x.toUInt32 >>> ((24 : Int32).toUInt32 &&& Int32.toUInt32 31)).toInt32).toInt8.toInt32)))) 64 1 (.inl ((mI S 64 1) + (1 : Int32)))) 65 ((mI S 64 1) + (1 : Int32)).toNatClampNeg (.inl (vp_nar .byte (((x.toUInt32 >>> ((16 : Int32).toUInt32 &&& Int32.toUInt32 31)).toInt32).toInt8.toInt32)))) 64 1 (.inl (((mI S 64 1) + (1 : Int32)) + (1 : Int32))))) from zG_x hI38)
          have hI40 : zA f r C Z N (ma_put (ma_put (ma_put (ma_put (ma_put (ma_put S 65 (mI S 64 1).toNatClampNeg (.inl (vp_nar .byte (((x.toUInt32 >>> ((24 : Int32).toUInt32 &&& Int32.toUInt32 31)).toInt32).toInt8.toInt32)))) 64 1 (.inl ((mI S 64 1) + (1 : Int32)))) 65 ((mI S 64 1) + (1 : Int32)).toNatClampNeg (.inl (vp_nar .byte (((x.toUInt32 >>> ((16 : Int32).toUInt32 &&& Int32.toUInt32 31)).toInt32).toInt8.toInt32)))) 64 1 (.inl (((mI S 64 1) + (1 : Int32)) + (1 : Int32)))) 65 (((mI S 64 1) + (1 : Int32)) + (1 : Int32)).toNatClampNeg (.inl (vp_nar .byte (((x.toUInt32 >>> ((8 : Int32).toUInt32 &&& Int32.toUInt32 31)).toInt32).toInt8.toInt32)))) 64 1 (.inl ((((mI S 64 1) + (1 : Int32)) + (1 : Int32)) + (1 : Int32)))) := zG_sp hI39 (0) (100) rfl (by decide) (by decide) (by decide) (show zA_x (mI (ma_put (ma_put (ma_put (ma_put (ma_put S 65 (mI S 64 1).toNatClampNeg (.inl (vp_nar .byte (((x.toUInt32 >>> ((24 : Int32).toUInt32 &&& Int32.toUInt32 31)).toInt32).toInt8.toInt32)))) 64 1 (.inl ((mI S 64 1) + (1 : Int32)))) 65 ((mI S 64 1) + (1 : Int32)).toNatClampNeg (.inl (vp_nar .byte (((x.toUInt32 >>> ((16 : Int32).toUInt32 &&& Int32.toUInt32 31)).toInt32).toInt8.toInt32)))) 64 1 (.inl (((mI S 64 1) + (1 : Int32)) + (1 : Int32)))) 65 (((mI S 64 1) + (1 : Int32)) + (1 : Int32)).toNatClampNeg (.inl (vp_nar .byte (((x.toUInt32 >>> ((8 : Int32).toUInt32 &&& Int32.toUInt32 31)).toInt32).toInt8.toInt32))))) from zG_x hI39) (by omega) (by omega)
          have hI41 : zA f r C Z N (ma_put (ma_put (ma_put (ma_put (ma_put (ma_put (ma_put S 65 (mI S 64 1).toNatClampNeg (.inl (vp_nar .byte (((x.toUInt32 >>> ((24 : Int32).toUInt32 &&& Int32.toUInt32 31)).toInt32).toInt8.toInt32)))) 64 1 (.inl ((mI S 64 1) + (1 : Int32)))) 65 ((mI S 64 1) + (1 : Int32)).toNatClampNeg (.inl (vp_nar .byte (((x.toUInt32 >>> ((16 : Int32).toUInt32 &&& Int32.toUInt32 31)).toInt32).toInt8.toInt32)))) 64 1 (.inl (((mI S 64 1) + (1 : Int32)) + (1 : Int32)))) 65 (((mI S 64 1) + (1 : Int32)) + (1 : Int32)).toNatClampNeg (.inl (vp_nar .byte (((x.toUInt32 >>> ((8 : Int32).toUInt32 &&& Int32.toUInt32 31)).toInt32).toInt8.toInt32)))) 64 1 (.inl ((((mI S 64 1) + (1 : Int32)) + (1 : Int32)) + (1 : Int32)))) 65 ((((mI S 64 1) + (1 : Int32)) + (1 : Int32)) + (1 : Int32)).toNatClampNeg (.inl (vp_nar .byte (((x.toUInt32 >>> ((0 : Int32).toUInt32 &&& Int32.toUInt32 31)).toInt32).toInt8.toInt32)))) := zG_fa hI40 rfl (by decide) (by decide) (by decide) (show zA_x (mI (ma_put (ma_put (ma_put (ma_put (ma_put (ma_put S 65 (mI S 64 1).toNatClampNeg (.inl (vp_nar .byte (((x.toUInt32 >>> ((24 : Int32).toUInt32 &&& Int32.toUInt32 31)).toInt32).toInt8.toInt32)))) 64 1 (.inl ((mI S 64 1) + (1 : Int32)))) 65 ((mI S 64 1) + (1 : Int32)).toNatClampNeg (.inl (vp_nar .byte (((x.toUInt32 >>> ((16 : Int32).toUInt32 &&& Int32.toUInt32 31)).toInt32).toInt8.toInt32)))) 64 1 (.inl (((mI S 64 1) + (1 : Int32)) + (1 : Int32)))) 65 (((mI S 64 1) + (1 : Int32)) + (1 : Int32)).toNatClampNeg (.inl (vp_nar .byte (((x.toUInt32 >>> ((8 : Int32).toUInt32 &&& Int32.toUInt32 31)).toInt32).toInt8.toInt32)))) 64 1 (.inl ((((mI S 64 1) + (1 : Int32)) + (1 : Int32)) + (1 : Int32))))) from zG_x hI40)
          first | have e43 : (((((mI S 64 1) + (1 : Int32)) + (1 : Int32)) + (1 : Int32)) + (1 : Int32)).toInt = ((((mI S 64 1) + (1 : Int32)) + (1 : Int32)) + (1 : Int32)).toInt + (1) := i_addk rfl (by omega) (by omega) | have b44 := i_bd (((((mI S 64 1) + (1 : Int32)) + (1 : Int32)) + (1 : Int32)) + (1 : Int32))
          have hI42 : zA f r C Z N (ma_put (ma_put (ma_put (ma_put (ma_put (ma_put (ma_put (ma_put S 65 (mI S 64 1).toNatClampNeg (.inl (vp_nar .byte (((x.toUInt32 >>> ((24 : Int32).toUInt32 &&& Int32.toUInt32 31)).toInt32).toInt8.toInt32)))) 64 1 (.inl ((mI S 64 1) + (1 : Int32)))) 65 ((mI S 64 1) + (1 : Int32)).toNatClampNeg (.inl (vp_nar .byte (((x.toUInt32 >>> ((16 : Int32).toUInt32 &&& Int32.toUInt32 31)).toInt32).toInt8.toInt32)))) 64 1 (.inl (((mI S 64 1) + (1 : Int32)) + (1 : Int32)))) 65 (((mI S 64 1) + (1 : Int32)) + (1 : Int32)).toNatClampNeg (.inl (vp_nar .byte (((x.toUInt32 >>> ((8 : Int32).toUInt32 &&& Int32.toUInt32 31)).toInt32).toInt8.toInt32)))) 64 1 (.inl ((((mI S 64 1) + (1 : Int32)) + (1 : Int32)) + (1 : Int32)))) 65 ((((mI S 64 1) + (1 : Int32)) + (1 : Int32)) + (1 : Int32)).toNatClampNeg (.inl (vp_nar .byte (((x.toUInt32 >>> ((0 : Int32).toUInt32 &&& Int32.toUInt32 31)).toInt32).toInt8.toInt32)))) 64 1 (.inl (((((mI S 64 1) + (1 : Int32)) + (1 : Int32)) + (1 : Int32)) + (1 : Int32)))) := zG_sp hI41 (0) (100) rfl (by decide) (by decide) (by decide) (show zA_x (mI (ma_put (ma_put (ma_put (ma_put (ma_put (ma_put (ma_put S 65 (mI S 64 1).toNatClampNeg (.inl (vp_nar .byte (((x.toUInt32 >>> ((24 : Int32).toUInt32 &&& Int32.toUInt32 31)).toInt32).toInt8.toInt32)))) 64 1 (.inl ((mI S 64 1) + (1 : Int32)))) 65 ((mI S 64 1) + (1 : Int32)).toNatClampNeg (.inl (vp_nar .byte (((x.toUInt32 >>> ((16 : Int32).toUInt32 &&& Int32.toUInt32 31)).toInt32).toInt8.toInt32)))) 64 1 (.inl (((mI S 64 1) + (1 : Int32)) + (1 : Int32)))) 65 (((mI S 64 1) + (1 : Int32)) + (1 : Int32)).toNatClampNeg (.inl (vp_nar .byte (((x.toUInt32 >>> ((8 : Int32).toUInt32 &&& Int32.toUInt32 31)).toInt32).toInt8.toInt32)))) 64 1 (.inl ((((mI S 64 1) + (1 : Int32)) + (1 : Int32)) + (1 : Int32)))) 65 ((((mI S 64 1) + (1 : Int32)) + (1 : Int32)) + (1 : Int32)).toNatClampNeg (.inl (vp_nar .byte (((x.toUInt32 >>> ((0 : Int32).toUInt32 &&& Int32.toUInt32 31)).toInt32).toInt8.toInt32))))) from zG_x hI41) (by omega) (by omega)
          exact K _ hI42 (show (((((mI S 64 1) + (1 : Int32)) + (1 : Int32)) + (1 : Int32)) + (1 : Int32)).toInt = (mI S 94 3).toInt + 4 ∧ (mI S 94 3).toInt ≤ 80 from by omega)
