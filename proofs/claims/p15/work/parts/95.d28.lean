/-! texts (written by wip/tools/gen95d.py) -/
theorem g_138_64_n_0 {X : Nat × (Nat → Int32)} {d w : Nat} {S : ma_S} {Q : Option ma_V ⊕ Nat → ma_S → Prop} (x : Int32) (hd : 0 ≤ d) (hw : 0 ≤ w) (hS : zT S) (h : if (100 : Int32) ≤ (mI S 64 1) then (Q (.inl none) S) else ((0 ≤ (mI S 64 1) ∧ (mI S 64 1).toNatClampNeg < 100) ∧ (if (100 : Int32) ≤ ((mI S 64 1) + (1 : Int32)) then (Q (.inl none) (ma_put (ma_put S 65 (mI S 64 1).toNatClampNeg (.inl (vp_nar .byte (((x.toUInt32 >>> ((24 : Int32).toUInt32 &&& Int32.toUInt32 31)).toInt32).toInt8.toInt32)))) 64 1 (.inl ((mI S 64 1) + (1 : Int32))))) else ((0 ≤ ((mI S 64 1) + (1 : Int32)) ∧ ((mI S 64 1) + (1 : Int32)).toNatClampNeg < 100) ∧ (if (100 : Int32) ≤ (((mI S 64 1) + (1 : Int32)) + (1 : Int32)) then (Q (.inl none) (ma_put (ma_put (ma_put (ma_put S 65 (mI S 64 1).toNatClampNeg (.inl (vp_nar .byte (((x.toUInt32 >>> ((24 : Int32).toUInt32 &&& Int32.toUInt32 31)).toInt32).toInt8.toInt32)))) 64 1 (.inl ((mI S 64 1) + (1 : Int32)))) 65 ((mI S 64 1) + (1 : Int32)).toNatClampNeg (.inl (vp_nar .byte (((x.toUInt32 >>> ((16 : Int32).toUInt32 &&& Int32.toUInt32 31)).toInt32).toInt8.toInt32)))) 64 1 (.inl (((mI S 64 1) + (1 : Int32)) + (1 : Int32))))) else ((0 ≤ (((mI S 64 1) + (1 : Int32)) + (1 : Int32)) ∧ (((mI S 64 1) + (1 : Int32)) + (1 : Int32)).toNatClampNeg < 100) ∧ (if (100 : Int32) ≤ ((((mI S 64 1) + (1 : Int32)) + (1 : Int32)) + (1 : Int32)) then (Q (.inl none) (ma_put (ma_put (ma_put (ma_put (ma_put (ma_put S 65 (mI S 64 1).toNatClampNeg (.inl (vp_nar .byte (((x.toUInt32 >>> ((24 : Int32).toUInt32 &&& Int32.toUInt32 31)).toInt32).toInt8.toInt32)))) 64 1 (.inl ((mI S 64 1) + (1 : Int32)))) 65 ((mI S 64 1) + (1 : Int32)).toNatClampNeg (.inl (vp_nar .byte (((x.toUInt32 >>> ((16 : Int32).toUInt32 &&& Int32.toUInt32 31)).toInt32).toInt8.toInt32)))) 64 1 (.inl (((mI S 64 1) + (1 : Int32)) + (1 : Int32)))) 65 (((mI S 64 1) + (1 : Int32)) + (1 : Int32)).toNatClampNeg (.inl (vp_nar .byte (((x.toUInt32 >>> ((8 : Int32).toUInt32 &&& Int32.toUInt32 31)).toInt32).toInt8.toInt32)))) 64 1 (.inl ((((mI S 64 1) + (1 : Int32)) + (1 : Int32)) + (1 : Int32))))) else ((0 ≤ ((((mI S 64 1) + (1 : Int32)) + (1 : Int32)) + (1 : Int32)) ∧ ((((mI S 64 1) + (1 : Int32)) + (1 : Int32)) + (1 : Int32)).toNatClampNeg < 100) ∧ (Q (.inl none) (ma_put (ma_put (ma_put (ma_put (ma_put (ma_put (ma_put (ma_put S 65 (mI S 64 1).toNatClampNeg (.inl (vp_nar .byte (((x.toUInt32 >>> ((24 : Int32).toUInt32 &&& Int32.toUInt32 31)).toInt32).toInt8.toInt32)))) 64 1 (.inl ((mI S 64 1) + (1 : Int32)))) 65 ((mI S 64 1) + (1 : Int32)).toNatClampNeg (.inl (vp_nar .byte (((x.toUInt32 >>> ((16 : Int32).toUInt32 &&& Int32.toUInt32 31)).toInt32).toInt8.toInt32)))) 64 1 (.inl (((mI S 64 1) + (1 : Int32)) + (1 : Int32)))) 65 (((mI S 64 1) + (1 : Int32)) + (1 : Int32)).toNatClampNeg (.inl (vp_nar .byte (((x.toUInt32 >>> ((8 : Int32).toUInt32 &&& Int32.toUInt32 31)).toInt32).toInt8.toInt32)))) 64 1 (.inl ((((mI S 64 1) + (1 : Int32)) + (1 : Int32)) + (1 : Int32)))) 65 ((((mI S 64 1) + (1 : Int32)) + (1 : Int32)) + (1 : Int32)).toNatClampNeg (.inl (vp_nar .byte (((x.toUInt32 >>> ((0 : Int32).toUInt32 &&& Int32.toUInt32 31)).toInt32).toInt8.toInt32)))) 64 1 (.inl (((((mI S 64 1) + (1 : Int32)) + (1 : Int32)) + (1 : Int32)) + (1 : Int32))))))))))))) : ma_wp X d w 138 0 [(0, .inr (.inr (some 64))), (1, .inl x)] [] S Q := by
  refine zw_push hm_138 dX11_addBytes_0 (v := .inl (24 : Int32)) rfl ?_
  refine zw_sto hm_138 dX11_addBytes_2 [(2, .inl (24 : Int32)), (0, .inr (.inr (some 64))), (1, .inl x)] rfl rfl rfl ?_
  refine zw_push hm_138 dX11_addBytes_3 (v := .inl (24 : Int32)) rfl ?_
  refine zw_if0 hm_138 dX11_addBytes_4 (t := 45) rfl zc0_lt (fun hc => absurd hc (by decide)) (fun _ => ?_)
  refine zw_push hm_138 dX11_addBytes_7 (v := .inr (.inr (some 64))) rfl ?_
  refine zw_gf hm_138 dX11_addBytes_8 (v := .inl (mI S 64 1)) (zT_is hS s_64) (zT_t hS s_64) rfl f_11_68_11 rfl ?_
  refine zw_push hm_138 dX11_addBytes_11 (v := .inl (100 : Int32)) rfl ?_
  refine zw_if2 hm_138 dX11_addBytes_13 (t := 45) rfl zc2_ge ?_ ?_
  · intro hc
    rw [if_pos hc] at h
    exact zw_vret hm_138 dX11_addBytes_45 h
  · intro hc
    rw [if_neg hc] at h
    refine zw_push hm_138 dX11_addBytes_16 (v := .inr (.inr (some 64))) rfl ?_
    refine zw_gf hm_138 dX11_addBytes_17 (v := .inr (.inr (some 65))) (zT_is hS s_64) (zT_t hS s_64) rfl f_11_9_11 (zT_f hS r_64_0) ?_
    refine zw_push hm_138 dX11_addBytes_20 (v := .inr (.inr (some 64))) rfl ?_
    refine zw_gf hm_138 dX11_addBytes_21 (v := .inl (mI S 64 1)) (zT_is hS s_64) (zT_t hS s_64) rfl f_11_68_11 rfl ?_
    refine zw_push hm_138 dX11_addBytes_24 (v := .inl x) rfl ?_
    refine zw_push hm_138 dX11_addBytes_25 (v := .inl (24 : Int32)) rfl ?_
    refine zw_stk hm_138 dX11_addBytes_26 (st' := [.inl ((x.toUInt32 >>> ((24 : Int32).toUInt32 &&& Int32.toUInt32 31)).toInt32), .inl (mI S 64 1), .inr (.inr (some 65))]) rfl rfl ?_
    refine zw_stk hm_138 dX11_addBytes_27 (st' := [.inl (((x.toUInt32 >>> ((24 : Int32).toUInt32 &&& Int32.toUInt32 31)).toInt32).toInt8.toInt32), .inl (mI S 64 1), .inr (.inr (some 65))]) rfl rfl ?_
    obtain ⟨hg, h⟩ := h
    refine zw_bas21 hm_138 dX11_addBytes_28 (zT_is hS s_65) (zT_h hS s_65) rfl hg ?_
    refine zw_push hm_138 dX11_addBytes_29 (v := .inr (.inr (some 64))) rfl ?_
    refine zw_stk hm_138 dX11_addBytes_30 (st' := [.inr (.inr (some 64)), .inr (.inr (some 64))]) rfl rfl ?_
    refine zw_gf hm_138 dX11_addBytes_31 (v := .inl (mI S 64 1)) (zT_is (zT_pi hS) s_64) (zT_t (zT_pi hS) s_64) rfl f_11_68_11 rfl ?_
    refine zw_push hm_138 dX11_addBytes_34 (v := .inl (1 : Int32)) rfl ?_
    refine zw_stk hm_138 dX11_addBytes_35 (st' := [.inl ((mI S 64 1) + (1 : Int32)), .inr (.inr (some 64))]) rfl rfl ?_
    refine zw_pf hm_138 dX11_addBytes_36 (zT_is (zT_pi hS) s_64) (zT_t (zT_pi hS) s_64) p_11_68_11 zk_int ?_
    refine zw_sto hm_138 dX11_addBytes_39 [(2, .inl (16 : Int32)), (0, .inr (.inr (some 64))), (1, .inl x)] rfl rfl rfl ?_
    refine zw_goto hm_138 dX11_addBytes_42 (t := 3) rfl ?_
    refine zw_push hm_138 dX11_addBytes_3 (v := .inl (16 : Int32)) rfl ?_
    refine zw_if0 hm_138 dX11_addBytes_4 (t := 45) rfl zc0_lt (fun hc => absurd hc (by decide)) (fun _ => ?_)
    refine zw_push hm_138 dX11_addBytes_7 (v := .inr (.inr (some 64))) rfl ?_
    refine zw_gf hm_138 dX11_addBytes_8 (v := .inl ((mI S 64 1) + (1 : Int32))) (zT_is (zT_pi (zT_pi hS)) s_64) (zT_t (zT_pi (zT_pi hS)) s_64) rfl f_11_68_11 rfl ?_
    refine zw_push hm_138 dX11_addBytes_11 (v := .inl (100 : Int32)) rfl ?_
    refine zw_if2 hm_138 dX11_addBytes_13 (t := 45) rfl zc2_ge ?_ ?_
    · intro hc
      rw [if_pos hc] at h
      exact zw_vret hm_138 dX11_addBytes_45 h
    · intro hc
      rw [if_neg hc] at h
      refine zw_push hm_138 dX11_addBytes_16 (v := .inr (.inr (some 64))) rfl ?_
      refine zw_gf hm_138 dX11_addBytes_17 (v := .inr (.inr (some 65))) (zT_is (zT_pi (zT_pi hS)) s_64) (zT_t (zT_pi (zT_pi hS)) s_64) rfl f_11_9_11 (zT_f (zT_pi (zT_pi hS)) r_64_0) ?_
      refine zw_push hm_138 dX11_addBytes_20 (v := .inr (.inr (some 64))) rfl ?_
      refine zw_gf hm_138 dX11_addBytes_21 (v := .inl ((mI S 64 1) + (1 : Int32))) (zT_is (zT_pi (zT_pi hS)) s_64) (zT_t (zT_pi (zT_pi hS)) s_64) rfl f_11_68_11 rfl ?_
      refine zw_push hm_138 dX11_addBytes_24 (v := .inl x) rfl ?_
      refine zw_push hm_138 dX11_addBytes_25 (v := .inl (16 : Int32)) rfl ?_
      refine zw_stk hm_138 dX11_addBytes_26 (st' := [.inl ((x.toUInt32 >>> ((16 : Int32).toUInt32 &&& Int32.toUInt32 31)).toInt32), .inl ((mI S 64 1) + (1 : Int32)), .inr (.inr (some 65))]) rfl rfl ?_
      refine zw_stk hm_138 dX11_addBytes_27 (st' := [.inl (((x.toUInt32 >>> ((16 : Int32).toUInt32 &&& Int32.toUInt32 31)).toInt32).toInt8.toInt32), .inl ((mI S 64 1) + (1 : Int32)), .inr (.inr (some 65))]) rfl rfl ?_
      obtain ⟨hg, h⟩ := h
      refine zw_bas21 hm_138 dX11_addBytes_28 (zT_is (zT_pi (zT_pi hS)) s_65) (zT_h (zT_pi (zT_pi hS)) s_65) rfl hg ?_
      refine zw_push hm_138 dX11_addBytes_29 (v := .inr (.inr (some 64))) rfl ?_
      refine zw_stk hm_138 dX11_addBytes_30 (st' := [.inr (.inr (some 64)), .inr (.inr (some 64))]) rfl rfl ?_
      refine zw_gf hm_138 dX11_addBytes_31 (v := .inl ((mI S 64 1) + (1 : Int32))) (zT_is (zT_pi (zT_pi (zT_pi hS))) s_64) (zT_t (zT_pi (zT_pi (zT_pi hS))) s_64) rfl f_11_68_11 rfl ?_
      refine zw_push hm_138 dX11_addBytes_34 (v := .inl (1 : Int32)) rfl ?_
      refine zw_stk hm_138 dX11_addBytes_35 (st' := [.inl (((mI S 64 1) + (1 : Int32)) + (1 : Int32)), .inr (.inr (some 64))]) rfl rfl ?_
      refine zw_pf hm_138 dX11_addBytes_36 (zT_is (zT_pi (zT_pi (zT_pi hS))) s_64) (zT_t (zT_pi (zT_pi (zT_pi hS))) s_64) p_11_68_11 zk_int ?_
      refine zw_sto hm_138 dX11_addBytes_39 [(2, .inl (8 : Int32)), (0, .inr (.inr (some 64))), (1, .inl x)] rfl rfl rfl ?_
      refine zw_goto hm_138 dX11_addBytes_42 (t := 3) rfl ?_
      refine zw_push hm_138 dX11_addBytes_3 (v := .inl (8 : Int32)) rfl ?_
      refine zw_if0 hm_138 dX11_addBytes_4 (t := 45) rfl zc0_lt (fun hc => absurd hc (by decide)) (fun _ => ?_)
      refine zw_push hm_138 dX11_addBytes_7 (v := .inr (.inr (some 64))) rfl ?_
      refine zw_gf hm_138 dX11_addBytes_8 (v := .inl (((mI S 64 1) + (1 : Int32)) + (1 : Int32))) (zT_is (zT_pi (zT_pi (zT_pi (zT_pi hS)))) s_64) (zT_t (zT_pi (zT_pi (zT_pi (zT_pi hS)))) s_64) rfl f_11_68_11 rfl ?_
      refine zw_push hm_138 dX11_addBytes_11 (v := .inl (100 : Int32)) rfl ?_
      refine zw_if2 hm_138 dX11_addBytes_13 (t := 45) rfl zc2_ge ?_ ?_
      · intro hc
        rw [if_pos hc] at h
        exact zw_vret hm_138 dX11_addBytes_45 h
      · intro hc
        rw [if_neg hc] at h
        refine zw_push hm_138 dX11_addBytes_16 (v := .inr (.inr (some 64))) rfl ?_
        refine zw_gf hm_138 dX11_addBytes_17 (v := .inr (.inr (some 65))) (zT_is (zT_pi (zT_pi (zT_pi (zT_pi hS)))) s_64) (zT_t (zT_pi (zT_pi (zT_pi (zT_pi hS)))) s_64) rfl f_11_9_11 (zT_f (zT_pi (zT_pi (zT_pi (zT_pi hS)))) r_64_0) ?_
        refine zw_push hm_138 dX11_addBytes_20 (v := .inr (.inr (some 64))) rfl ?_
        refine zw_gf hm_138 dX11_addBytes_21 (v := .inl (((mI S 64 1) + (1 : Int32)) + (1 : Int32))) (zT_is (zT_pi (zT_pi (zT_pi (zT_pi hS)))) s_64) (zT_t (zT_pi (zT_pi (zT_pi (zT_pi hS)))) s_64) rfl f_11_68_11 rfl ?_
        refine zw_push hm_138 dX11_addBytes_24 (v := .inl x) rfl ?_
        refine zw_push hm_138 dX11_addBytes_25 (v := .inl (8 : Int32)) rfl ?_
        refine zw_stk hm_138 dX11_addBytes_26 (st' := [.inl ((x.toUInt32 >>> ((8 : Int32).toUInt32 &&& Int32.toUInt32 31)).toInt32), .inl (((mI S 64 1) + (1 : Int32)) + (1 : Int32)), .inr (.inr (some 65))]) rfl rfl ?_
        refine zw_stk hm_138 dX11_addBytes_27 (st' := [.inl (((x.toUInt32 >>> ((8 : Int32).toUInt32 &&& Int32.toUInt32 31)).toInt32).toInt8.toInt32), .inl (((mI S 64 1) + (1 : Int32)) + (1 : Int32)), .inr (.inr (some 65))]) rfl rfl ?_
        obtain ⟨hg, h⟩ := h
        refine zw_bas21 hm_138 dX11_addBytes_28 (zT_is (zT_pi (zT_pi (zT_pi (zT_pi hS)))) s_65) (zT_h (zT_pi (zT_pi (zT_pi (zT_pi hS)))) s_65) rfl hg ?_
        refine zw_push hm_138 dX11_addBytes_29 (v := .inr (.inr (some 64))) rfl ?_
        refine zw_stk hm_138 dX11_addBytes_30 (st' := [.inr (.inr (some 64)), .inr (.inr (some 64))]) rfl rfl ?_
        refine zw_gf hm_138 dX11_addBytes_31 (v := .inl (((mI S 64 1) + (1 : Int32)) + (1 : Int32))) (zT_is (zT_pi (zT_pi (zT_pi (zT_pi (zT_pi hS))))) s_64) (zT_t (zT_pi (zT_pi (zT_pi (zT_pi (zT_pi hS))))) s_64) rfl f_11_68_11 rfl ?_
        refine zw_push hm_138 dX11_addBytes_34 (v := .inl (1 : Int32)) rfl ?_
        refine zw_stk hm_138 dX11_addBytes_35 (st' := [.inl ((((mI S 64 1) + (1 : Int32)) + (1 : Int32)) + (1 : Int32)), .inr (.inr (some 64))]) rfl rfl ?_
        refine zw_pf hm_138 dX11_addBytes_36 (zT_is (zT_pi (zT_pi (zT_pi (zT_pi (zT_pi hS))))) s_64) (zT_t (zT_pi (zT_pi (zT_pi (zT_pi (zT_pi hS))))) s_64) p_11_68_11 zk_int ?_
        refine zw_sto hm_138 dX11_addBytes_39 [(2, .inl (0 : Int32)), (0, .inr (.inr (some 64))), (1, .inl x)] rfl rfl rfl ?_
        refine zw_goto hm_138 dX11_addBytes_42 (t := 3) rfl ?_
        refine zw_push hm_138 dX11_addBytes_3 (v := .inl (0 : Int32)) rfl ?_
        refine zw_if0 hm_138 dX11_addBytes_4 (t := 45) rfl zc0_lt (fun hc => absurd hc (by decide)) (fun _ => ?_)
        refine zw_push hm_138 dX11_addBytes_7 (v := .inr (.inr (some 64))) rfl ?_
        refine zw_gf hm_138 dX11_addBytes_8 (v := .inl ((((mI S 64 1) + (1 : Int32)) + (1 : Int32)) + (1 : Int32))) (zT_is (zT_pi (zT_pi (zT_pi (zT_pi (zT_pi (zT_pi hS)))))) s_64) (zT_t (zT_pi (zT_pi (zT_pi (zT_pi (zT_pi (zT_pi hS)))))) s_64) rfl f_11_68_11 rfl ?_
        refine zw_push hm_138 dX11_addBytes_11 (v := .inl (100 : Int32)) rfl ?_
        refine zw_if2 hm_138 dX11_addBytes_13 (t := 45) rfl zc2_ge ?_ ?_
        · intro hc
          rw [if_pos hc] at h
          exact zw_vret hm_138 dX11_addBytes_45 h
        · intro hc
          rw [if_neg hc] at h
          refine zw_push hm_138 dX11_addBytes_16 (v := .inr (.inr (some 64))) rfl ?_
          refine zw_gf hm_138 dX11_addBytes_17 (v := .inr (.inr (some 65))) (zT_is (zT_pi (zT_pi (zT_pi (zT_pi (zT_pi (zT_pi hS)))))) s_64) (zT_t (zT_pi (zT_pi (zT_pi (zT_pi (zT_pi (zT_pi hS)))))) s_64) rfl f_11_9_11 (zT_f (zT_pi (zT_pi (zT_pi (zT_pi (zT_pi (zT_pi hS)))))) r_64_0) ?_
          refine zw_push hm_138 dX11_addBytes_20 (v := .inr (.inr (some 64))) rfl ?_
          refine zw_gf hm_138 dX11_addBytes_21 (v := .inl ((((mI S 64 1) + (1 : Int32)) + (1 : Int32)) + (1 : Int32))) (zT_is (zT_pi (zT_pi (zT_pi (zT_pi (zT_pi (zT_pi hS)))))) s_64) (zT_t (zT_pi (zT_pi (zT_pi (zT_pi (zT_pi (zT_pi hS)))))) s_64) rfl f_11_68_11 rfl ?_
          refine zw_push hm_138 dX11_addBytes_24 (v := .inl x) rfl ?_
          refine zw_push hm_138 dX11_addBytes_25 (v := .inl (0 : Int32)) rfl ?_
          refine zw_stk hm_138 dX11_addBytes_26 (st' := [.inl ((x.toUInt32 >>> ((0 : Int32).toUInt32 &&& Int32.toUInt32 31)).toInt32), .inl ((((mI S 64 1) + (1 : Int32)) + (1 : Int32)) + (1 : Int32)), .inr (.inr (some 65))]) rfl rfl ?_
          refine zw_stk hm_138 dX11_addBytes_27 (st' := [.inl (((x.toUInt32 >>> ((0 : Int32).toUInt32 &&& Int32.toUInt32 31)).toInt32).toInt8.toInt32), .inl ((((mI S 64 1) + (1 : Int32)) + (1 : Int32)) + (1 : Int32)), .inr (.inr (some 65))]) rfl rfl ?_
          obtain ⟨hg, h⟩ := h
          refine zw_bas21 hm_138 dX11_addBytes_28 (zT_is (zT_pi (zT_pi (zT_pi (zT_pi (zT_pi (zT_pi hS)))))) s_65) (zT_h (zT_pi (zT_pi (zT_pi (zT_pi (zT_pi (zT_pi hS)))))) s_65) rfl hg ?_
          refine zw_push hm_138 dX11_addBytes_29 (v := .inr (.inr (some 64))) rfl ?_
          refine zw_stk hm_138 dX11_addBytes_30 (st' := [.inr (.inr (some 64)), .inr (.inr (some 64))]) rfl rfl ?_
          refine zw_gf hm_138 dX11_addBytes_31 (v := .inl ((((mI S 64 1) + (1 : Int32)) + (1 : Int32)) + (1 : Int32))) (zT_is (zT_pi (zT_pi (zT_pi (zT_pi (zT_pi (zT_pi (zT_pi hS))))))) s_64) (zT_t (zT_pi (zT_pi (zT_pi (zT_pi (zT_pi (zT_pi (zT_pi hS))))))) s_64) rfl f_11_68_11 rfl ?_
          refine zw_push hm_138 dX11_addBytes_34 (v := .inl (1 : Int32)) rfl ?_
          refine zw_stk hm_138 dX11_addBytes_35 (st' := [.inl (((((mI S 64 1) + (1 : Int32)) + (1 : Int32)) + (1 : Int32)) + (1 : Int32)), .inr (.inr (some 64))]) rfl rfl ?_
          refine zw_pf hm_138 dX11_addBytes_36 (zT_is (zT_pi (zT_pi (zT_pi (zT_pi (zT_pi (zT_pi (zT_pi hS))))))) s_64) (zT_t (zT_pi (zT_pi (zT_pi (zT_pi (zT_pi (zT_pi (zT_pi hS))))))) s_64) p_11_68_11 zk_int ?_
          refine zw_sto hm_138 dX11_addBytes_39 [(2, .inl (-8 : Int32)), (0, .inr (.inr (some 64))), (1, .inl x)] rfl rfl rfl ?_
          refine zw_goto hm_138 dX11_addBytes_42 (t := 3) rfl ?_
          refine zw_push hm_138 dX11_addBytes_3 (v := .inl (-8 : Int32)) rfl ?_
          refine zw_if0 hm_138 dX11_addBytes_4 (t := 45) rfl zc0_lt (fun _ => ?_) (fun hc => absurd (by decide) hc)
          exact zw_vret hm_138 dX11_addBytes_45 h
theorem sp_138_64_n {X : Nat × (Nat → Int32)} {d w : Nat} {f : Nat → Nat → Int32} {r : Nat → Nat → Option Nat} {C Z N : Nat} {Q : Option ma_V ⊕ Nat → ma_S → Prop} {L0 : Int} {r0 : Nat→Int32} {S : ma_S} (x : Int32) (hd : 0 ≤ d) (hw : 0 ≤ w) (hI : zFe f r C Z N S) (hpre0 : (mI S 64 1).toInt = L0 ∧ (mI S 64 1).toInt ≤ 96) (hpre1 : (mI S 65) = r0) (K : ∀ S', zFe f r C Z N S' → ((mI S' 64 1).toInt = L0 + 4) → (zFq r0 (mI S' 65) L0 x) → Q (.inl none) S') : ma_wp X d w 138 0 [(0, .inr (.inr (some 64))), (1, .inl x)] [] S Q := by
  refine g_138_64_n_0 x (by omega) (by omega) (zG_T hI) ?_
  have f1 := zG_s hI (0) (100) (c := 64) (k := 1) (by decide)
  have li2 : (100 : Int32).toInt = 100 := rfl
  refine zd (fun h3 => ?_) (fun h3 => ?_)
  · skip
    have g4 := i_le h3
    exact K _ hI (show (mI S 64 1).toInt = L0 + 4 from by first | (omega) | (exfalso; omega)) (show zFq r0 (mI S 65) L0 x from by first | (omega) | (exfalso; omega))
  · skip
    have g5 := i_nle h3
    refine ⟨i_ix (by omega) (by omega), ?_⟩
    first | have e6 : ((mI S 64 1) + (1 : Int32)).toInt = (mI S 64 1).toInt + (1) := i_addk rfl (by omega) (by omega) | have b7 := i_bd ((mI S 64 1) + (1 : Int32))
    refine zd (fun h8 => ?_) (fun h8 => ?_)
    · skip
      have g9 := i_le h8
      have hI10 : zFe f r C Z N (ma_put S 65 (mI S 64 1).toNatClampNeg (.inl (vp_nar .byte (((x.toUInt32 >>> ((24 : Int32).toUInt32 &&& Int32.toUInt32 31)).toInt32).toInt8.toInt32)))) := zG_fa hI rfl (by decide) (by decide) (by decide) trivial
      have hI11 : zFe f r C Z N (ma_put (ma_put S 65 (mI S 64 1).toNatClampNeg (.inl (vp_nar .byte (((x.toUInt32 >>> ((24 : Int32).toUInt32 &&& Int32.toUInt32 31)).toInt32).toInt8.toInt32)))) 64 1 (.inl ((mI S 64 1) + (1 : Int32)))) := zG_sp hI10 (0) (100) rfl (by decide) (by decide) (by decide) trivial (by omega) (by omega)
      exact K _ hI11 (show ((mI S 64 1) + (1 : Int32)).toInt = L0 + 4 from by first | (omega) | (exfalso; omega)) (show zFq r0 (mI (ma_put (ma_put S 65 (mI S 64 1).toNatClampNeg (.inl (vp_nar .byte (((x.toUInt32 >>> ((24 : Int32).toUInt32 &&& Int32.toUInt32 31)).toInt32).toInt8.toInt32)))) 64 1 (.inl ((mI S 64 1) + (1 : Int32)))) 65) L0 x from by first | (omega) | (exfalso; omega))
    · skip
      have g12 := i_nle h8
      refine ⟨i_ix (by omega) (by omega), ?_⟩
      first | have e13 : (((mI S 64 1) + (1 : Int32)) + (1 : Int32)).toInt = ((mI S 64 1) + (1 : Int32)).toInt + (1) := i_addk rfl (by omega) (by omega) | have b14 := i_bd (((mI S 64 1) + (1 : Int32)) + (1 : Int32))
      refine zd (fun h15 => ?_) (fun h15 => ?_)
      · skip
        have g16 := i_le h15
        have hI17 : zFe f r C Z N (ma_put S 65 (mI S 64 1).toNatClampNeg (.inl (vp_nar .byte (((x.toUInt32 >>> ((24 : Int32).toUInt32 &&& Int32.toUInt32 31)).toInt32).toInt8.toInt32)))) := zG_fa hI rfl (by decide) (by decide) (by decide) trivial
        have hI18 : zFe f r C Z N (ma_put (ma_put S 65 (mI S 64 1).toNatClampNeg (.inl (vp_nar .byte (((x.toUInt32 >>> ((24 : Int32).toUInt32 &&& Int32.toUInt32 31)).toInt32).toInt8.toInt32)))) 64 1 (.inl ((mI S 64 1) + (1 : Int32)))) := zG_sp hI17 (0) (100) rfl (by decide) (by decide) (by decide) trivial (by omega) (by omega)
        have hI19 : zFe f r C Z N (ma_put (ma_put (ma_put S 65 (mI S 64 1).toNatClampNeg (.inl (vp_nar .byte (((x.toUInt32 >>> ((24 : Int32).toUInt32 &&& Int32.toUInt32 31)).toInt32).toInt8.toInt32)))) 64 1 (.inl ((mI S 64 1) + (1 : Int32)))) 65 ((mI S 64 1) + (1 : Int32)).toNatClampNeg (.inl (vp_nar .byte (((x.toUInt32 >>> ((16 : Int32).toUInt32 &&& Int32.toUInt32 31)).toInt32).toInt8.toInt32)))) := zG_fa hI18 rfl (by decide) (by decide) (by decide) trivial
        have hI20 : zFe f r C Z N (ma_put (ma_put (ma_put (ma_put S 65 (mI S 64 1).toNatClampNeg (.inl (vp_nar .byte (((x.toUInt32 >>> ((24 : Int32).toUInt32 &&& Int32.toUInt32 31)).toInt32).toInt8.toInt32)))) 64 1 (.inl ((mI S 64 1) + (1 : Int32)))) 65 ((mI S 64 1) + (1 : Int32)).toNatClampNeg (.inl (vp_nar .byte (((x.toUInt32 >>> ((16 : Int32).toUInt32 &&& Int32.toUInt32 31)).toInt32).toInt8.toInt32)))) 64 1 (.inl (((mI S 64 1) + (1 : Int32)) + (1 : Int32)))) := zG_sp hI19 (0) (100) rfl (by decide) (by decide) (by decide) trivial (by omega) (by omega)
        exact K _ hI20 (show (((mI S 64 1) + (1 : Int32)) + (1 : Int32)).toInt = L0 + 4 from by first | (omega) | (exfalso; omega)) (show zFq r0 (mI (ma_put (ma_put (ma_put (ma_put S 65 (mI S 64 1).toNatClampNeg (.inl (vp_nar .byte (((x.toUInt32 >>> ((24 : Int32).toUInt32 &&& Int32.toUInt32 31)).toInt32).toInt8.toInt32)))) 64 1 (.inl ((mI S 64 1) + (1 : Int32)))) 65 ((mI S 64 1) + (1 : Int32)).toNatClampNeg (.inl (vp_nar .byte (((x.toUInt32 >>> ((16 : Int32).toUInt32 &&& Int32.toUInt32 31)).toInt32).toInt8.toInt32)))) 64 1 (.inl (((mI S 64 1) + (1 : Int32)) + (1 : Int32)))) 65) L0 x from by first | (omega) | (exfalso; omega))
      · skip
        have g21 := i_nle h15
        refine ⟨i_ix (by omega) (by omega), ?_⟩
        first | have e22 : ((((mI S 64 1) + (1 : Int32)) + (1 : Int32)) + (1 : Int32)).toInt = (((mI S 64 1) + (1 : Int32)) + (1 : Int32)).toInt + (1) := i_addk rfl (by omega) (by omega) | have b23 := i_bd ((((mI S 64 1) + (1 : Int32)) + (1 : Int32)) + (1 : Int32))
        refine zd (fun h24 => ?_) (fun h24 => ?_)
        · skip
          have g25 := i_le h24
          have hI26 : zFe f r C Z N (ma_put S 65 (mI S 64 1).toNatClampNeg (.inl (vp_nar .byte (((x.toUInt32 >>> ((24 : Int32).toUInt32 &&& Int32.toUInt32 31)).toInt32).toInt8.toInt32)))) := zG_fa hI rfl (by decide) (by decide) (by decide) trivial
          have hI27 : zFe f r C Z N (ma_put (ma_put S 65 (mI S 64 1).toNatClampNeg (.inl (vp_nar .byte (((x.toUInt32 >>> ((24 : Int32).toUInt32 &&& Int32.toUInt32 31)).toInt32).toInt8.toInt32)))) 64 1 (.inl ((mI S 64 1) + (1 : Int32)))) := zG_sp hI26 (0) (100) rfl (by decide) (by decide) (by decide) trivial (by omega) (by omega)
          have hI28 : zFe f r C Z N (ma_put (ma_put (ma_put S 65 (mI S 64 1).toNatClampNeg (.inl (vp_nar .byte (((x.toUInt32 >>> ((24 : Int32).toUInt32 &&& Int32.toUInt32 31)).toInt32).toInt8.toInt32)))) 64 1 (.inl ((mI S 64 1) + (1 : Int32)))) 65 ((mI S 64 1) + (1 : Int32)).toNatClampNeg (.inl (vp_nar .byte (((x.toUInt32 >>> ((16 : Int32).toUInt32 &&& Int32.toUInt32 31)).toInt32).toInt8.toInt32)))) := zG_fa hI27 rfl (by decide) (by decide) (by decide) trivial
          have hI29 : zFe f r C Z N (ma_put (ma_put (ma_put (ma_put S 65 (mI S 64 1).toNatClampNeg (.inl (vp_nar .byte (((x.toUInt32 >>> ((24 : Int32).toUInt32 &&& Int32.toUInt32 31)).toInt32).toInt8.toInt32)))) 64 1 (.inl ((mI S 64 1) + (1 : Int32)))) 65 ((mI S 64 1) + (1 : Int32)).toNatClampNeg (.inl (vp_nar .byte (((x.toUInt32 >>> ((16 : Int32).toUInt32 &&& Int32.toUInt32 31)).toInt32).toInt8.toInt32)))) 64 1 (.inl (((mI S 64 1) + (1 : Int32)) + (1 : Int32)))) := zG_sp hI28 (0) (100) rfl (by decide) (by decide) (by decide) trivial (by omega) (by omega)
          have hI30 : zFe f r C Z N (ma_put (ma_put (ma_put (ma_put (ma_put S 65 (mI S 64 1).toNatClampNeg (.inl (vp_nar .byte (((x.toUInt32 >>> ((24 : Int32).toUInt32 &&& Int32.toUInt32 31)).toInt32).toInt8.toInt32)))) 64 1 (.inl ((mI S 64 1) + (1 : Int32)))) 65 ((mI S 64 1) + (1 : Int32)).toNatClampNeg (.inl (vp_nar .byte (((x.toUInt32 >>> ((16 : Int32).toUInt32 &&& Int32.toUInt32 31)).toInt32).toInt8.toInt32)))) 64 1 (.inl (((mI S 64 1) + (1 : Int32)) + (1 : Int32)))) 65 (((mI S 64 1) + (1 : Int32)) + (1 : Int32)).toNatClampNeg (.inl (vp_nar .byte (((x.toUInt32 >>> ((8 : Int32).toUInt32 &&& Int32.toUInt32 31)).toInt32).toInt8.toInt32)))) := zG_fa hI29 rfl (by decide) (by decide) (by decide) trivial
          have hI31 : zFe f r C Z N (ma_put (ma_put (ma_put (ma_put (ma_put (ma_put S 65 (mI S 64 1).toNatClampNeg (.inl (vp_nar .byte (((x.toUInt32 >>> ((24 : Int32).toUInt32 &&& Int32.toUInt32 31)).toInt32).toInt8.toInt32)))) 64 1 (.inl ((mI S 64 1) + (1 : Int32)))) 65 ((mI S 64 1) + (1 : Int32)).toNatClampNeg (.inl (vp_nar .byte (((x.toUInt32 >>> ((16 : Int32).toUInt32 &&& Int32.toUInt32 31)).toInt32).toInt8.toInt32)))) 64 1 (.inl (((mI S 64 1) + (1 : Int32)) + (1 : Int32)))) 65 (((mI S 64 1) + (1 : Int32)) + (1 : Int32)).toNatClampNeg (.inl (vp_nar .byte (((x.toUInt32 >>> ((8 : Int32).toUInt32 &&& Int32.toUInt32 31)).toInt32).toInt8.toInt32)))) 64 1 (.inl ((((mI S 64 1) + (1 : Int32)) + (1 : Int32)) + (1 : Int32)))) := zG_sp hI30 (0) (100) rfl (by decide) (by decide) (by decide) trivial (by omega) (by omega)
          exact K _ hI31 (show ((((mI S 64 1) + (1 : Int32)) + (1 : Int32)) + (1 : Int32)).toInt = L0 + 4 from by first | (omega) | (exfalso; omega)) (show zFq r0 (mI (ma_put (ma_put (ma_put (ma_put (ma_put (ma_put S 65 (mI S 64 1).toNatClampNeg (.inl (vp_nar .byte (((x.toUInt32 >>> ((24 : Int32).toUInt32 &&& Int32.toUInt32 31)).toInt32).toInt8.toInt32)))) 64 1 (.inl ((mI S 64 1) + (1 : Int32)))) 65 ((mI S 64 1) + (1 : Int32)).toNatClampNeg (.inl (vp_nar .byte (((x.toUInt32 >>> ((16 : Int32).toUInt32 &&& Int32.toUInt32 31)).toInt32).toInt8.toInt32)))) 64 1 (.inl (((mI S 64 1) + (1 : Int32)) + (1 : Int32)))) 65 (((mI S 64 1) + (1 : Int32)) + (1 : Int32)).toNatClampNeg (.inl (vp_nar .byte (((x.toUInt32 >>> ((8 : Int32).toUInt32 &&& Int32.toUInt32 31)).toInt32).toInt8.toInt32)))) 64 1 (.inl ((((mI S 64 1) + (1 : Int32)) + (1 : Int32)) + (1 : Int32)))) 65) L0 x from by first | (omega) | (exfalso; omega))
        · skip
          have g32 := i_nle h24
          refine ⟨i_ix (by omega) (by omega), ?_⟩
          have hI33 : zFe f r C Z N (ma_put S 65 (mI S 64 1).toNatClampNeg (.inl (vp_nar .byte (((x.toUInt32 >>> ((24 : Int32).toUInt32 &&& Int32.toUInt32 31)).toInt32).toInt8.toInt32)))) := zG_fa hI rfl (by decide) (by decide) (by decide) trivial
          have hI34 : zFe f r C Z N (ma_put (ma_put S 65 (mI S 64 1).toNatClampNeg (.inl (vp_nar .byte (((x.toUInt32 >>> ((24 : Int32).toUInt32 &&& Int32.toUInt32 31)).toInt32).toInt8.toInt32)))) 64 1 (.inl ((mI S 64 1) + (1 : Int32)))) := zG_sp hI33 (0) (100) rfl (by decide) (by decide) (by decide) trivial (by omega) (by omega)
          have hI35 : zFe f r C Z N (ma_put (ma_put (ma_put S 65 (mI S 64 1).toNatClampNeg (.inl (vp_nar .byte (((x.toUInt32 >>> ((24 : Int32).toUInt32 &&& Int32.toUInt32 31)).toInt32).toInt8.toInt32)))) 64 1 (.inl ((mI S 64 1) + (1 : Int32)))) 65 ((mI S 64 1) + (1 : Int32)).toNatClampNeg (.inl (vp_nar .byte (((x.toUInt32 >>> ((16 : Int32).toUInt32 &&& Int32.toUInt32 31)).toInt32).toInt8.toInt32)))) := zG_fa hI34 rfl (by decide) (by decide) (by decide) trivial
          have hI36 : zFe f r C Z N (ma_put (ma_put (ma_put (ma_put S 65 (mI S 64 1).toNatClampNeg (.inl (vp_nar .byte (((x.toUInt32 >>> ((24 : Int32).toUInt32 &&& Int32.toUInt32 31)).toInt32).toInt8.toInt32)))) 64 1 (.inl ((mI S 64 1) + (1 : Int32)))) 65 ((mI S 64 1) + (1 : Int32)).toNatClampNeg (.inl (vp_nar .byte (((x.toUInt32 >>> ((16 : Int32).toUInt32 &&& Int32.toUInt32 31)).toInt32).toInt8.toInt32)))) 64 1 (.inl (((mI S 64 1) + (1 : Int32)) + (1 : Int32)))) := zG_sp hI35 (0) (100) rfl (by decide) (by decide) (by decide) trivial (by omega) (by omega)
          have hI37 : zFe f r C Z N (ma_put (ma_put (ma_put (ma_put (ma_put S 65 (mI S 64 1).toNatClampNeg (.inl (vp_nar .byte (((x.toUInt32 >>> ((24 : Int32).toUInt32 &&& Int32.toUInt32 31)).toInt32).toInt8.toInt32)))) 64 1 (.inl ((mI S 64 1) + (1 : Int32)))) 65 ((mI S 64 1) + (1 : Int32)).toNatClampNeg (.inl (vp_nar .byte (((x.toUInt32 >>> ((16 : Int32).toUInt32 &&& Int32.toUInt32 31)).toInt32).toInt8.toInt32)))) 64 1 (.inl (((mI S 64 1) + (1 : Int32)) + (1 : Int32)))) 65 (((mI S 64 1) + (1 : Int32)) + (1 : Int32)).toNatClampNeg (.inl (vp_nar .byte (((x.toUInt32 >>> ((8 : Int32).toUInt32 &&& Int32.toUInt32 31)).toInt32).toInt8.toInt32)))) := zG_fa hI36 rfl (by decide) (by decide) (by decide) trivial
          have hI38 : zFe f r C Z N (ma_put (ma_put (ma_put (ma_put (ma_put (ma_put S 65 (mI S 64 1).toNatClampNeg (.inl (vp_nar .byte (((x.toUInt32 >>> ((24 : Int32).toUInt32 &&& Int32.toUInt32 31)).toInt32).toInt8.toInt32)))) 64 1 (.inl ((mI S 64 1) + (1 : Int32)))) 65 ((mI S 64 1) + (1 : Int32)).toNatClampNeg (.inl (vp_nar .byte (((x.toUInt32 >>> ((16 : Int32).toUInt32 &&& Int32.toUInt32 31)).toInt32).toInt8.toInt32)))) 64 1 (.inl (((mI S 64 1) + (1 : Int32)) + (1 : Int32)))) 65 (((mI S 64 1) + (1 : Int32)) + (1 : Int32)).toNatClampNeg (.inl (vp_nar .byte (((x.toUInt32 >>> ((8 : Int32).toUInt32 &&& Int32.toUInt32 31)).toInt32).toInt8.toInt32)))) 64 1 (.inl ((((mI S 64 1) + (1 : Int32)) + (1 : Int32)) + (1 : Int32)))) := zG_sp hI37 (0) (100) rfl (by decide) (by decide) (by decide) trivial (by omega) (by omega)
          have hI39 : zFe f r C Z N (ma_put (ma_put (ma_put (ma_put (ma_put (ma_put (ma_put S 65 (mI S 64 1).toNatClampNeg (.inl (vp_nar .byte (((x.toUInt32 >>> ((24 : Int32).toUInt32 &&& Int32.toUInt32 31)).toInt32).toInt8.toInt32)))) 64 1 (.inl ((mI S 64 1) + (1 : Int32)))) 65 ((mI S 64 1) + (1 : Int32)).toNatClampNeg (.inl (vp_nar .byte (((x.toUInt32 >>> ((16 : Int32).toUInt32 &&& Int32.toUInt32 31)).toInt32).toInt8.toInt32)))) 64 1 (.inl (((mI S 64 1) + (1 : Int32)) + (1 : Int32)))) 65 (((mI S 64 1) + (1 : Int32)) + (1 : Int32)).toNatClampNeg (.inl (vp_nar .byte (((x.toUInt32 >>> ((8 : Int32).toUInt32 &&& Int32.toUInt32 31)).toInt32).toInt8.toInt32)))) 64 1 (.inl ((((mI S 64 1) + (1 : Int32)) + (1 : Int32)) + (1 : Int32)))) 65 ((((mI S 64 1) + (1 : Int32)) + (1 : Int32)) + (1 : Int32)).toNatClampNeg (.inl (vp_nar .byte (((x.toUInt32 >>> ((0 : Int32).toUInt32 &&& Int32.toUInt32 31)).toInt32).toInt8.toInt32)))) := zG_fa hI38 rfl (by decide) (by decide) (by decide) trivial
          first | have e41 : (((((mI S 64 1) + (1 : Int32)) + (1 : Int32)) + (1 : Int32)) + (1 : Int32)).toInt = ((((mI S 64 1) + (1 : Int32)) + (1 : Int32)) + (1 : Int32)).toInt + (1) := i_addk rfl (by omega) (by omega) | have b42 := i_bd (((((mI S 64 1) + (1 : Int32)) + (1 : Int32)) + (1 : Int32)) + (1 : Int32))
          have hI40 : zFe f r C Z N (ma_put (ma_put (ma_put (ma_put (ma_put (ma_put (ma_put (ma_put S 65 (mI S 64 1).toNatClampNeg (.inl (vp_nar .byte (((x.toUInt32 >>> ((24 : Int32).toUInt32 &&& Int32.toUInt32 31)).toInt32).toInt8.toInt32)))) 64 1 (.inl ((mI S 64 1) + (1 : Int32)))) 65 ((mI S 64 1) + (1 : Int32)).toNatClampNeg (.inl (vp_nar .byte (((x.toUInt32 >>> ((16 : Int32).toUInt32 &&& Int32.toUInt32 31)).toInt32).toInt8.toInt32)))) 64 1 (.inl (((mI S 64 1) + (1 : Int32)) + (1 : Int32)))) 65 (((mI S 64 1) + (1 : Int32)) + (1 : Int32)).toNatClampNeg (.inl (vp_nar .byte (((x.toUInt32 >>> ((8 : Int32).toUInt32 &&& Int32.toUInt32 31)).toInt32).toInt8.toInt32)))) 64 1 (.inl ((((mI S 64 1) + (1 : Int32)) + (1 : Int32)) + (1 : Int32)))) 65 ((((mI S 64 1) + (1 : Int32)) + (1 : Int32)) + (1 : Int32)).toNatClampNeg (.inl (vp_nar .byte (((x.toUInt32 >>> ((0 : Int32).toUInt32 &&& Int32.toUInt32 31)).toInt32).toInt8.toInt32)))) 64 1 (.inl (((((mI S 64 1) + (1 : Int32)) + (1 : Int32)) + (1 : Int32)) + (1 : Int32)))) := zG_sp hI39 (0) (100) rfl (by decide) (by decide) (by decide) trivial (by omega) (by omega)
          exact K _ hI40 (show (((((mI S 64 1) + (1 : Int32)) + (1 : Int32)) + (1 : Int32)) + (1 : Int32)).toInt = L0 + 4 from by first | (omega) | (exfalso; omega)) (show zFq r0 (mI (ma_put (ma_put (ma_put (ma_put (ma_put (ma_put (ma_put (ma_put S 65 (mI S 64 1).toNatClampNeg (.inl (vp_nar .byte (((x.toUInt32 >>> ((24 : Int32).toUInt32 &&& Int32.toUInt32 31)).toInt32).toInt8.toInt32)))) 64 1 (.inl ((mI S 64 1) + (1 : Int32)))) 65 ((mI S 64 1) + (1 : Int32)).toNatClampNeg (.inl (vp_nar .byte (((x.toUInt32 >>> ((16 : Int32).toUInt32 &&& Int32.toUInt32 31)).toInt32).toInt8.toInt32)))) 64 1 (.inl (((mI S 64 1) + (1 : Int32)) + (1 : Int32)))) 65 (((mI S 64 1) + (1 : Int32)) + (1 : Int32)).toNatClampNeg (.inl (vp_nar .byte (((x.toUInt32 >>> ((8 : Int32).toUInt32 &&& Int32.toUInt32 31)).toInt32).toInt8.toInt32)))) 64 1 (.inl ((((mI S 64 1) + (1 : Int32)) + (1 : Int32)) + (1 : Int32)))) 65 ((((mI S 64 1) + (1 : Int32)) + (1 : Int32)) + (1 : Int32)).toNatClampNeg (.inl (vp_nar .byte (((x.toUInt32 >>> ((0 : Int32).toUInt32 &&& Int32.toUInt32 31)).toInt32).toInt8.toInt32)))) 64 1 (.inl (((((mI S 64 1) + (1 : Int32)) + (1 : Int32)) + (1 : Int32)) + (1 : Int32)))) 65) L0 x from by first | (exact fq_of (i0 := (mI S 64 1).toNatClampNeg) (b0 := (vp_nar .byte (((x.toUInt32 >>> ((24 : Int32).toUInt32 &&& Int32.toUInt32 31)).toInt32).toInt8.toInt32))) (i1 := ((mI S 64 1) + (1 : Int32)).toNatClampNeg) (b1 := (vp_nar .byte (((x.toUInt32 >>> ((16 : Int32).toUInt32 &&& Int32.toUInt32 31)).toInt32).toInt8.toInt32))) (i2 := (((mI S 64 1) + (1 : Int32)) + (1 : Int32)).toNatClampNeg) (b2 := (vp_nar .byte (((x.toUInt32 >>> ((8 : Int32).toUInt32 &&& Int32.toUInt32 31)).toInt32).toInt8.toInt32))) (i3 := ((((mI S 64 1) + (1 : Int32)) + (1 : Int32)) + (1 : Int32)).toNatClampNeg) (b3 := (vp_nar .byte (((x.toUInt32 >>> ((0 : Int32).toUInt32 &&& Int32.toUInt32 31)).toInt32).toInt8.toInt32))) (fun k => by rw [pr_o, pr_s, pr_o, pr_s, pr_o, pr_s, pr_o, pr_s, hpre1]) (by rw [tn_cast (by omega)]; omega) (by rw [tn_cast (by omega)]; omega) (by rw [tn_cast (by omega)]; omega) (by rw [tn_cast (by omega)]; omega) (zb_24 _) (zb_16 _) (zb_8 _) (zb_0 _)) | (omega) | (exfalso; omega))
theorem g_137_64_n_0 {X : Nat × (Nat → Int32)} {d w : Nat} {S : ma_S} {Q : Option ma_V ⊕ Nat → ma_S → Prop} (xa : Int32) (xb : Int32) (xc : Int32) (xd : Int32) (xe : Int32) (hd : 6 ≤ d) (hw : 89 ≤ w) (hS : zT S) (h : if ((mI S 64 1) + (20 : Int32)) ≤ (100 : Int32) then (ma_wp X (d - 1) (w - 22) 138 0 [(0, .inr (.inr (some 64))), (1, .inl xa)] [] S (zv (fun S1 => zT S1 ∧ (ma_wp X (d - 1) (w - 22) 138 0 [(0, .inr (.inr (some 64))), (1, .inl xb)] [] S1 (zv (fun S3 => zT S3 ∧ (ma_wp X (d - 1) (w - 22) 138 0 [(0, .inr (.inr (some 64))), (1, .inl xc)] [] S3 (zv (fun S5 => zT S5 ∧ (ma_wp X (d - 1) (w - 22) 138 0 [(0, .inr (.inr (some 64))), (1, .inl xd)] [] S5 (zv (fun S7 => zT S7 ∧ (ma_wp X (d - 1) (w - 22) 138 0 [(0, .inr (.inr (some 64))), (1, .inl xe)] [] S7 (zv (fun S9 => zT S9 ∧ (Q (.inl (some (.inl (mI S9 64 1)))) S9)) (fun x S9 => Q (.inr x) S9)))) (fun x S9 => Q (.inr x) S9)))) (fun x S9 => Q (.inr x) S9)))) (fun x S9 => Q (.inr x) S9)))) (fun x S9 => Q (.inr x) S9))) else (Q (.inr 1) (ma_bump S))) : ma_wp X d w 137 0 [(0, .inr (.inr (some 64))), (1, .inl xa), (2, .inl xb), (3, .inl xc), (4, .inl xd), (5, .inl xe)] [] S Q := by
  refine zw_push hm_137 dX11_feed_0 (v := .inr (.inr (some 64))) rfl ?_
  refine zw_gf hm_137 dX11_feed_1 (v := .inl (mI S 64 1)) (zT_is hS s_64) (zT_t hS s_64) rfl f_11_68_11 rfl ?_
  refine zw_push hm_137 dX11_feed_4 (v := .inl (20 : Int32)) rfl ?_
  refine zw_stk hm_137 dX11_feed_6 (st' := [.inl ((mI S 64 1) + (20 : Int32))]) rfl rfl ?_
  refine zw_push hm_137 dX11_feed_7 (v := .inl (100 : Int32)) rfl ?_
  refine zw_if2 hm_137 dX11_feed_9 (t := 20) rfl zc2_le ?_ ?_
  · intro hc
    rw [if_pos hc] at h
    refine zw_push hm_137 dX11_feed_20 (v := .inr (.inr (some 64))) rfl ?_
    refine zw_push hm_137 dX11_feed_21 (v := .inl xa) rfl ?_
    refine zw_cv hm_137 dX11_feed_22 v_11_75_11 hm_138 [.inl xa] [] rfl (zT_rt hS s_64 rfl) ⟨by omega, by omega⟩ rfl (zw_mono h (zv_go ?_ ?_))
    · intro S1 hv
      obtain ⟨hS1, h⟩ := hv
      refine zw_push hm_137 dX11_feed_25 (v := .inr (.inr (some 64))) rfl ?_
      refine zw_push hm_137 dX11_feed_26 (v := .inl xb) rfl ?_
      refine zw_cv hm_137 dX11_feed_27 v_11_75_11 hm_138 [.inl xb] [] rfl (zT_rt hS1 s_64 rfl) ⟨by omega, by omega⟩ rfl (zw_mono h (zv_go ?_ ?_))
      · intro S3 hv
        obtain ⟨hS3, h⟩ := hv
        refine zw_push hm_137 dX11_feed_30 (v := .inr (.inr (some 64))) rfl ?_
        refine zw_push hm_137 dX11_feed_31 (v := .inl xc) rfl ?_
        refine zw_cv hm_137 dX11_feed_32 v_11_75_11 hm_138 [.inl xc] [] rfl (zT_rt hS3 s_64 rfl) ⟨by omega, by omega⟩ rfl (zw_mono h (zv_go ?_ ?_))
        · intro S5 hv
          obtain ⟨hS5, h⟩ := hv
          refine zw_push hm_137 dX11_feed_35 (v := .inr (.inr (some 64))) rfl ?_
          refine zw_push hm_137 dX11_feed_36 (v := .inl xd) rfl ?_
          refine zw_cv hm_137 dX11_feed_38 v_11_75_11 hm_138 [.inl xd] [] rfl (zT_rt hS5 s_64 rfl) ⟨by omega, by omega⟩ rfl (zw_mono h (zv_go ?_ ?_))
          · intro S7 hv
            obtain ⟨hS7, h⟩ := hv
            refine zw_push hm_137 dX11_feed_41 (v := .inr (.inr (some 64))) rfl ?_
            refine zw_push hm_137 dX11_feed_42 (v := .inl xe) rfl ?_
            refine zw_cv hm_137 dX11_feed_44 v_11_75_11 hm_138 [.inl xe] [] rfl (zT_rt hS7 s_64 rfl) ⟨by omega, by omega⟩ rfl (zw_mono h (zv_go ?_ ?_))
            · intro S9 hv
              obtain ⟨hS9, h⟩ := hv
              refine zw_push hm_137 dX11_feed_47 (v := .inr (.inr (some 64))) rfl ?_
              refine zw_gf hm_137 dX11_feed_48 (v := .inl (mI S9 64 1)) (zT_is hS9 s_64) (zT_t hS9 s_64) rfl f_11_68_11 rfl ?_
              exact zw_iret hm_137 dX11_feed_51 h
            · intro x S9 hx
              exact ⟨by decide, hx⟩
          · intro x S9 hx
            exact ⟨by decide, hx⟩
        · intro x S9 hx
          exact ⟨by decide, hx⟩
      · intro x S9 hx
        exact ⟨by decide, hx⟩
    · intro x S9 hx
      exact ⟨by decide, hx⟩
  · intro hc
    rw [if_neg hc] at h
    exact zw_thr hm_137 dX11_feed_12 dX11_feed_15 dX11_feed_16 dX11_feed_19 x_11_72_74 n_11_72 (by omega) (by show 0 + 81 ≤ w; omega) h
theorem sp_137_64_n {X : Nat × (Nat → Int32)} {d w : Nat} {f : Nat → Nat → Int32} {r : Nat → Nat → Option Nat} {C Z N : Nat} {Q : Option ma_V ⊕ Nat → ma_S → Prop} {r0 : Nat→Int32} {S : ma_S} (xa : Int32) (xb : Int32) (xc : Int32) (xd : Int32) (xe : Int32) (hd : 6 ≤ d) (hw : 89 ≤ w) (hI : zFe f r C Z N S) (hpre0 : (mI S 64 1).toInt = (mI S 94 3).toInt) (hpre1 : (mI S 65) = r0) (K : ∀ v S', zFe f r C Z N S' → (v.toInt = (mI S' 94 3).toInt + 20 ∧ (mI S' 64 1).toInt = (mI S' 94 3).toInt + 20 ∧ (mI S' 94 3).toInt ≤ 80) → (zFd r0 (mI S' 65) (f 94 3).toInt 5 (zw5 xa xb xc xd xe)) → Q (.inl (some (.inl v))) S') (KX : ∀ x S', (x = 1) → zFe f r C Z N S' → ((mI S' 64 1).toInt = (mI S' 94 3).toInt ∧ 81 ≤ (mI S' 94 3).toInt) → ((mI S' 65) = r0) → Q (.inr x) (ma_bump S')) : ma_wp X d w 137 0 [(0, .inr (.inr (some 64))), (1, .inl xa), (2, .inl xb), (3, .inl xc), (4, .inl xd), (5, .inl xe)] [] S Q := by
  refine g_137_64_n_0 xa xb xc xd xe (by omega) (by omega) (zG_T hI) ?_
  have f1 := zG_s hI (0) (100) (c := 64) (k := 1) (by decide)
  have q2 : (mI S 94 3).toInt = (f 94 3).toInt := zG_zi hI rfl
  have b3 := i_bd (mI S 94 3)
  first | have e4 : ((mI S 64 1) + (20 : Int32)).toInt = (mI S 64 1).toInt + (20) := i_addk rfl (by omega) (by omega) | have b5 := i_bd ((mI S 64 1) + (20 : Int32))
  have li6 : (100 : Int32).toInt = 100 := rfl
  refine zd (fun h7 => ?_) (fun h7 => ?_)
  · skip
    have g8 := i_le h7
    have b9 := i_bd xa
    refine sp_138_64_n (L0 := ((mI S 64 1).toInt)) (r0 := (mI S 65)) (xa) (by omega) (by omega) hI (show (mI S 64 1).toInt = ((mI S 64 1).toInt) ∧ (mI S 64 1).toInt ≤ 96 from by omega) (show (mI S 65) = (mI S 65) from by first | (exact rfl) | (omega) | (exfalso; omega)) (fun S1 hI_S1 rp0_S1 rp1_S1 => zv_n ⟨zG_T hI_S1, ?_⟩)
    have f10 := zG_s hI_S1 (0) (100) (c := 64) (k := 1) (by decide)
    have rp0_S1 : (mI S1 64 1).toInt = ((mI S 64 1).toInt) + 4 := rp0_S1
    have rp1_S1 : zFq (mI S 65) (mI S1 65) ((mI S 64 1).toInt) xa := rp1_S1
    have b11 := i_bd xb
    refine sp_138_64_n (L0 := ((mI S1 64 1).toInt)) (r0 := (mI S1 65)) (xb) (by omega) (by omega) hI_S1 (show (mI S1 64 1).toInt = ((mI S1 64 1).toInt) ∧ (mI S1 64 1).toInt ≤ 96 from by omega) (show (mI S1 65) = (mI S1 65) from by first | (exact rfl) | (omega) | (exfalso; omega)) (fun S3 hI_S3 rp0_S3 rp1_S3 => zv_n ⟨zG_T hI_S3, ?_⟩)
    have f12 := zG_s hI_S3 (0) (100) (c := 64) (k := 1) (by decide)
    have rp0_S3 : (mI S3 64 1).toInt = ((mI S1 64 1).toInt) + 4 := rp0_S3
    have rp1_S3 : zFq (mI S1 65) (mI S3 65) ((mI S1 64 1).toInt) xb := rp1_S3
    have b13 := i_bd xc
    refine sp_138_64_n (L0 := ((mI S3 64 1).toInt)) (r0 := (mI S3 65)) (xc) (by omega) (by omega) hI_S3 (show (mI S3 64 1).toInt = ((mI S3 64 1).toInt) ∧ (mI S3 64 1).toInt ≤ 96 from by omega) (show (mI S3 65) = (mI S3 65) from by first | (exact rfl) | (omega) | (exfalso; omega)) (fun S5 hI_S5 rp0_S5 rp1_S5 => zv_n ⟨zG_T hI_S5, ?_⟩)
    have f14 := zG_s hI_S5 (0) (100) (c := 64) (k := 1) (by decide)
    have rp0_S5 : (mI S5 64 1).toInt = ((mI S3 64 1).toInt) + 4 := rp0_S5
    have rp1_S5 : zFq (mI S3 65) (mI S5 65) ((mI S3 64 1).toInt) xc := rp1_S5
    have b15 := i_bd xd
    refine sp_138_64_n (L0 := ((mI S5 64 1).toInt)) (r0 := (mI S5 65)) (xd) (by omega) (by omega) hI_S5 (show (mI S5 64 1).toInt = ((mI S5 64 1).toInt) ∧ (mI S5 64 1).toInt ≤ 96 from by omega) (show (mI S5 65) = (mI S5 65) from by first | (exact rfl) | (omega) | (exfalso; omega)) (fun S7 hI_S7 rp0_S7 rp1_S7 => zv_n ⟨zG_T hI_S7, ?_⟩)
    have f16 := zG_s hI_S7 (0) (100) (c := 64) (k := 1) (by decide)
    have rp0_S7 : (mI S7 64 1).toInt = ((mI S5 64 1).toInt) + 4 := rp0_S7
    have rp1_S7 : zFq (mI S5 65) (mI S7 65) ((mI S5 64 1).toInt) xd := rp1_S7
    have b17 := i_bd xe
    refine sp_138_64_n (L0 := ((mI S7 64 1).toInt)) (r0 := (mI S7 65)) (xe) (by omega) (by omega) hI_S7 (show (mI S7 64 1).toInt = ((mI S7 64 1).toInt) ∧ (mI S7 64 1).toInt ≤ 96 from by omega) (show (mI S7 65) = (mI S7 65) from by first | (exact rfl) | (omega) | (exfalso; omega)) (fun S9 hI_S9 rp0_S9 rp1_S9 => zv_n ⟨zG_T hI_S9, ?_⟩)
    have f18 := zG_s hI_S9 (0) (100) (c := 64) (k := 1) (by decide)
    have rp0_S9 : (mI S9 64 1).toInt = ((mI S7 64 1).toInt) + 4 := rp0_S9
    have rp1_S9 : zFq (mI S7 65) (mI S9 65) ((mI S7 64 1).toInt) xe := rp1_S9
    have q19 : (mI S9 94 3).toInt = (f 94 3).toInt := zG_zi hI_S9 rfl
    have b20 := i_bd (mI S9 94 3)
    exact K ((mI S9 64 1)) _ hI_S9 (show (mI S9 64 1).toInt = (mI S9 94 3).toInt + 20 ∧ (mI S9 64 1).toInt = (mI S9 94 3).toInt + 20 ∧ (mI S9 94 3).toInt ≤ 80 from by omega) (show zFd r0 (mI S9 65) (f 94 3).toInt 5 (zw5 xa xb xc xd xe) from by first | (exact (fd_s (fd_s (fd_s (fd_s (fd_s (show zFd r0 (mI S 65) (f 94 3).toInt 0 (zw5 xa xb xc xd xe) from by rw [hpre1]; exact fd_0) (by omega) rp1_S1 (by omega) rfl) (by omega) rp1_S3 (by omega) rfl) (by omega) rp1_S5 (by omega) rfl) (by omega) rp1_S7 (by omega) rfl) (by omega) rp1_S9 (by omega) rfl)) | (omega) | (exfalso; omega))
  · skip
    have g21 := i_nle h7
    exact KX 1 _ (by decide) hI (show (mI S 64 1).toInt = (mI S 94 3).toInt ∧ 81 ≤ (mI S 94 3).toInt from by omega) (show (mI S 65) = r0 from by first | (exact hpre1) | (omega) | (exfalso; omega))
theorem g_139_64_n_0 {X : Nat × (Nat → Int32)} {d w : Nat} {S : ma_S} {Q : Option ma_V ⊕ Nat → ma_S → Prop} (n : Int32) (hd : 6 ≤ d) (hw : 89 ≤ w) (hS : zT S) (h : if n < 0 then (Q (.inr 2) (ma_bump S)) else (if n ≤ (mI S 64 1) then (Q (.inl (some (.inl n))) (ma_put S 64 1 (.inl n))) else (Q (.inr 2) (ma_bump S)))) : ma_wp X d w 139 0 [(0, .inr (.inr (some 64))), (1, .inl n)] [] S Q := by
  refine zw_push hm_139 dX11_end_0 (v := .inl n) rfl ?_
  refine zw_if0 hm_139 dX11_end_1 (t := 12) rfl zc0_lt ?_ ?_
  · intro hc
    rw [if_pos hc] at h
    exact zw_thr hm_139 dX11_end_12 dX11_end_15 dX11_end_16 dX11_end_19 x_11_79_81 n_11_79 (by omega) (by show 0 + 81 ≤ w; omega) h
  · intro hc
    rw [if_neg hc] at h
    refine zw_push hm_139 dX11_end_4 (v := .inl n) rfl ?_
    refine zw_push hm_139 dX11_end_5 (v := .inr (.inr (some 64))) rfl ?_
    refine zw_gf hm_139 dX11_end_6 (v := .inl (mI S 64 1)) (zT_is hS s_64) (zT_t hS s_64) rfl f_11_68_11 rfl ?_
    refine zw_if2 hm_139 dX11_end_9 (t := 20) rfl zc2_le ?_ ?_
    · intro hc
      rw [if_pos hc] at h
      refine zw_push hm_139 dX11_end_20 (v := .inr (.inr (some 64))) rfl ?_
      refine zw_push hm_139 dX11_end_21 (v := .inl n) rfl ?_
      refine zw_pf hm_139 dX11_end_22 (zT_is hS s_64) (zT_t hS s_64) p_11_68_11 zk_int ?_
      refine zw_push hm_139 dX11_end_25 (v := .inl n) rfl ?_
      exact zw_iret hm_139 dX11_end_26 h
    · intro hc
      rw [if_neg hc] at h
      exact zw_thr hm_139 dX11_end_12 dX11_end_15 dX11_end_16 dX11_end_19 x_11_79_81 n_11_79 (by omega) (by show 0 + 81 ≤ w; omega) h
theorem sp_139_64_n {X : Nat × (Nat → Int32)} {d w : Nat} {f : Nat → Nat → Int32} {r : Nat → Nat → Option Nat} {C Z N : Nat} {Q : Option ma_V ⊕ Nat → ma_S → Prop} {S : ma_S} (n : Int32) (hd : 6 ≤ d) (hw : 89 ≤ w) (hI : zX f r C Z N S) (hpre0 : (mI S 64 1).toInt = (mI S 94 3).toInt) (K : ∀ v S', zX f r C Z N S' → ((mI S' 64 1).toInt = n.toInt ∧ 0 ≤ n.toInt ∧ n.toInt ≤ (mI S' 94 3).toInt ∧ v.toInt = n.toInt) → Q (.inl (some (.inl v))) S') (KX : ∀ x S', (x = 2) → zX f r C Z N S' → ((mI S' 64 1).toInt = (mI S' 94 3).toInt ∧ (n.toInt < 0 ∨ (mI S' 94 3).toInt < n.toInt)) → Q (.inr x) (ma_bump S')) : ma_wp X d w 139 0 [(0, .inr (.inr (some 64))), (1, .inl n)] [] S Q := by
  refine g_139_64_n_0 n (by omega) (by omega) (zG_T hI) ?_
  have f1 := zG_s hI (0) (100) (c := 64) (k := 1) (by decide)
  have q2 : (mI S 94 3).toInt = (f 94 3).toInt := zG_zi hI rfl
  have b3 := i_bd (mI S 94 3)
  have b4 := i_bd n
  have li5 : (0 : Int32).toInt = 0 := rfl
  refine zd (fun h6 => ?_) (fun h6 => ?_)
  · skip
    have g7 := i_lt h6
    exact KX 2 _ (by decide) hI (show (mI S 64 1).toInt = (mI S 94 3).toInt ∧ (n.toInt < 0 ∨ (mI S 94 3).toInt < n.toInt) from by omega)
  · skip
    have g8 := i_nlt h6
    refine zd (fun h9 => ?_) (fun h9 => ?_)
    · skip
      have g10 := i_le h9
      have hI11 : zX f r C Z N (ma_put S 64 1 (.inl n)) := zG_sp hI (0) (100) rfl (by decide) (by decide) (by decide) trivial (by omega) (by omega)
      exact K (n) _ hI11 (show n.toInt = n.toInt ∧ 0 ≤ n.toInt ∧ n.toInt ≤ (mI S 94 3).toInt ∧ n.toInt = n.toInt from by omega)
    · skip
      have g12 := i_nle h9
      exact KX 2 _ (by decide) hI (show (mI S 64 1).toInt = (mI S 94 3).toInt ∧ (n.toInt < 0 ∨ (mI S 94 3).toInt < n.toInt) from by omega)
theorem g_140_64_zKd_n_0 {X : Nat × (Nat → Int32)} {d w : Nat} {S : ma_S} {Q : Option ma_V ⊕ Nat → ma_S → Prop} (wd : Int32) (rf : Int32) (hd : 6 ≤ d) (hw : 89 ≤ w) (hS : zT S) (h : if wd < 0 then (Q (.inr 2) (ma_bump S)) else (if (8 : Int32) < wd then (Q (.inr 2) (ma_bump S)) else (if rf < 0 then (Q (.inr 2) (ma_bump S)) else (if rf < ((1 : Int32) <<< (wd &&& 31)) then (if (mI S 64 7) < (16 : Int32) then ((0 ≤ (mI S 64 7) ∧ (mI S 64 7).toNatClampNeg < 16) ∧ ((0 ≤ (mI S 64 7) ∧ (mI S 64 7).toNatClampNeg < 16) ∧ (Q (.inl (some (.inl (((mI S 64 7) + (1 : Int32)) - (1 : Int32))))) (ma_put (ma_put (ma_put S 67 (mI S 64 7).toNatClampNeg (.inl wd)) 68 (mI S 64 7).toNatClampNeg (.inl rf)) 64 7 (.inl ((mI S 64 7) + (1 : Int32))))))) else (Q (.inr 3) (ma_bump S))) else (Q (.inr 2) (ma_bump S)))))) : ma_wp X d w 140 0 [(0, .inr (.inr (some 64))), (1, .inl wd), (2, .inl rf)] [] S Q := by
  refine zw_push hm_140 dX11_kind_0 (v := .inl wd) rfl ?_
  refine zw_if0 hm_140 dX11_kind_1 (t := 21) rfl zc0_lt ?_ ?_
  · intro hc
    rw [if_pos hc] at h
    exact zw_thr hm_140 dX11_kind_21 dX11_kind_24 dX11_kind_25 dX11_kind_28 x_11_79_81 n_11_79 (by omega) (by show 0 + 81 ≤ w; omega) h
  · intro hc
    rw [if_neg hc] at h
    refine zw_push hm_140 dX11_kind_4 (v := .inl wd) rfl ?_
    refine zw_push hm_140 dX11_kind_5 (v := .inl (8 : Int32)) rfl ?_
    refine zw_if2 hm_140 dX11_kind_7 (t := 21) rfl zc2_gt ?_ ?_
    · intro hc
      rw [if_pos hc] at h
      exact zw_thr hm_140 dX11_kind_21 dX11_kind_24 dX11_kind_25 dX11_kind_28 x_11_79_81 n_11_79 (by omega) (by show 0 + 81 ≤ w; omega) h
    · intro hc
      rw [if_neg hc] at h
      refine zw_push hm_140 dX11_kind_10 (v := .inl rf) rfl ?_
      refine zw_if0 hm_140 dX11_kind_11 (t := 21) rfl zc0_lt ?_ ?_
      · intro hc
        rw [if_pos hc] at h
        exact zw_thr hm_140 dX11_kind_21 dX11_kind_24 dX11_kind_25 dX11_kind_28 x_11_79_81 n_11_79 (by omega) (by show 0 + 81 ≤ w; omega) h
      · intro hc
        rw [if_neg hc] at h
        refine zw_push hm_140 dX11_kind_14 (v := .inl rf) rfl ?_
        refine zw_push hm_140 dX11_kind_15 (v := .inl (1 : Int32)) rfl ?_
        refine zw_push hm_140 dX11_kind_16 (v := .inl wd) rfl ?_
        refine zw_stk hm_140 dX11_kind_17 (st' := [.inl ((1 : Int32) <<< (wd &&& 31)), .inl rf]) rfl rfl ?_
        refine zw_if2 hm_140 dX11_kind_18 (t := 29) rfl zc2_lt ?_ ?_
        · intro hc
          rw [if_pos hc] at h
          refine zw_push hm_140 dX11_kind_29 (v := .inr (.inr (some 64))) rfl ?_
          refine zw_gf hm_140 dX11_kind_30 (v := .inl (mI S 64 7)) (zT_is hS s_64) (zT_t hS s_64) rfl f_11_82_11 rfl ?_
          refine zw_push hm_140 dX11_kind_33 (v := .inl (16 : Int32)) rfl ?_
          refine zw_if2 hm_140 dX11_kind_35 (t := 46) rfl zc2_lt ?_ ?_
          · intro hc
            rw [if_pos hc] at h
            refine zw_push hm_140 dX11_kind_46 (v := .inr (.inr (some 64))) rfl ?_
            refine zw_gf hm_140 dX11_kind_47 (v := .inr (.inr (some 67))) (zT_is hS s_64) (zT_t hS s_64) rfl f_11_17_11 (zT_f hS r_64_5) ?_
            refine zw_push hm_140 dX11_kind_50 (v := .inr (.inr (some 64))) rfl ?_
            refine zw_gf hm_140 dX11_kind_51 (v := .inl (mI S 64 7)) (zT_is hS s_64) (zT_t hS s_64) rfl f_11_82_11 rfl ?_
            refine zw_push hm_140 dX11_kind_54 (v := .inl wd) rfl ?_
            obtain ⟨hg, h⟩ := h
            refine zw_ias hm_140 dX11_kind_55 (zT_is hS s_67) (zT_h hS s_67) rfl hg ?_
            refine zw_push hm_140 dX11_kind_56 (v := .inr (.inr (some 64))) rfl ?_
            refine zw_gf hm_140 dX11_kind_57 (v := .inr (.inr (some 68))) (zT_is (zT_pi hS) s_64) (zT_t (zT_pi hS) s_64) rfl f_11_20_11 (zT_f (zT_pi hS) r_64_6) ?_
            refine zw_push hm_140 dX11_kind_60 (v := .inr (.inr (some 64))) rfl ?_
            refine zw_gf hm_140 dX11_kind_61 (v := .inl (mI S 64 7)) (zT_is (zT_pi hS) s_64) (zT_t (zT_pi hS) s_64) rfl f_11_82_11 rfl ?_
            refine zw_push hm_140 dX11_kind_64 (v := .inl rf) rfl ?_
            obtain ⟨hg, h⟩ := h
            refine zw_ias hm_140 dX11_kind_65 (zT_is (zT_pi hS) s_68) (zT_h (zT_pi hS) s_68) rfl hg ?_
            refine zw_push hm_140 dX11_kind_66 (v := .inr (.inr (some 64))) rfl ?_
            refine zw_stk hm_140 dX11_kind_67 (st' := [.inr (.inr (some 64)), .inr (.inr (some 64))]) rfl rfl ?_
            refine zw_gf hm_140 dX11_kind_68 (v := .inl (mI S 64 7)) (zT_is (zT_pi (zT_pi hS)) s_64) (zT_t (zT_pi (zT_pi hS)) s_64) rfl f_11_82_11 rfl ?_
            refine zw_push hm_140 dX11_kind_71 (v := .inl (1 : Int32)) rfl ?_
            refine zw_stk hm_140 dX11_kind_72 (st' := [.inl ((mI S 64 7) + (1 : Int32)), .inr (.inr (some 64))]) rfl rfl ?_
            refine zw_pf hm_140 dX11_kind_73 (zT_is (zT_pi (zT_pi hS)) s_64) (zT_t (zT_pi (zT_pi hS)) s_64) p_11_82_11 zk_int ?_
            refine zw_push hm_140 dX11_kind_76 (v := .inr (.inr (some 64))) rfl ?_
            refine zw_gf hm_140 dX11_kind_77 (v := .inl ((mI S 64 7) + (1 : Int32))) (zT_is (zT_pi (zT_pi (zT_pi hS))) s_64) (zT_t (zT_pi (zT_pi (zT_pi hS))) s_64) rfl f_11_82_11 rfl ?_
            refine zw_push hm_140 dX11_kind_80 (v := .inl (1 : Int32)) rfl ?_
            refine zw_stk hm_140 dX11_kind_81 (st' := [.inl (((mI S 64 7) + (1 : Int32)) - (1 : Int32))]) rfl rfl ?_
            exact zw_iret hm_140 dX11_kind_82 h
          · intro hc
            rw [if_neg hc] at h
            exact zw_thr hm_140 dX11_kind_38 dX11_kind_41 dX11_kind_42 dX11_kind_45 x_11_85_87 n_11_85 (by omega) (by show 0 + 81 ≤ w; omega) h
        · intro hc
          rw [if_neg hc] at h
          exact zw_thr hm_140 dX11_kind_21 dX11_kind_24 dX11_kind_25 dX11_kind_28 x_11_79_81 n_11_79 (by omega) (by show 0 + 81 ≤ w; omega) h
theorem sp_140_64_zKd_n {X : Nat × (Nat → Int32)} {d w : Nat} {f : Nat → Nat → Int32} {r : Nat → Nat → Option Nat} {C Z N : Nat} {Q : Option ma_V ⊕ Nat → ma_S → Prop} {S : ma_S} (wd : Int32) (rf : Int32) (hd : 6 ≤ d) (hw : 89 ≤ w) (hI : zKd f r C Z N S) (hpre0 : (mI S 64 1).toInt = (mI S 94 3).toInt) (hpre1 : (mI S 64 7).toInt = (mI S 94 7).toInt) (K : ∀ v S', zKd f r C Z N S' → ((mI S' 64 1).toInt = (mI S' 94 3).toInt ∧ v.toInt = (mI S' 94 7).toInt ∧ (mI S' 64 7).toInt = (mI S' 94 7).toInt + 1 ∧ (mI S' 94 7).toInt < 16 ∧ ¬ (wd.toInt < 0 ∨ 8 < wd.toInt ∨ rf.toInt < 0 ∨ ((1 : Int32) <<< (wd &&& 31)).toInt ≤ rf.toInt)) → Q (.inl (some (.inl v))) S') (KX : ∀ x S', (x = 2 ∨ x = 3) → zKd f r C Z N S' → ((mI S' 64 1).toInt = (mI S' 94 3).toInt ∧ (mI S' 64 7).toInt = (mI S' 94 7).toInt ∧ (x = 2 → (wd.toInt < 0 ∨ 8 < wd.toInt ∨ rf.toInt < 0 ∨ ((1 : Int32) <<< (wd &&& 31)).toInt ≤ rf.toInt)) ∧ (x = 3 → ¬ (wd.toInt < 0 ∨ 8 < wd.toInt ∨ rf.toInt < 0 ∨ ((1 : Int32) <<< (wd &&& 31)).toInt ≤ rf.toInt) ∧ 16 ≤ (mI S' 94 7).toInt)) → Q (.inr x) (ma_bump S')) : ma_wp X d w 140 0 [(0, .inr (.inr (some 64))), (1, .inl wd), (2, .inl rf)] [] S Q := by
  refine g_140_64_zKd_n_0 wd rf (by omega) (by omega) (zG_T hI) ?_
  have f1 := zG_s hI (0) (100) (c := 64) (k := 1) (by decide)
  have q2 : (mI S 94 3).toInt = (f 94 3).toInt := zG_zi hI rfl
  have b3 := i_bd (mI S 94 3)
  have f4 := zG_s hI (0) (16) (c := 64) (k := 7) (by decide)
  have q5 : (mI S 94 7).toInt = (f 94 7).toInt := zG_zi hI rfl
  have b6 := i_bd (mI S 94 7)
  have b7 := i_bd wd
  have li8 : (0 : Int32).toInt = 0 := rfl
  refine zd (fun h9 => ?_) (fun h9 => ?_)
  · skip
    have g10 := i_lt h9
    exact KX 2 _ (by decide) hI (show (mI S 64 1).toInt = (mI S 94 3).toInt ∧ (mI S 64 7).toInt = (mI S 94 7).toInt ∧ (2 = 2 → (wd.toInt < 0 ∨ 8 < wd.toInt ∨ rf.toInt < 0 ∨ ((1 : Int32) <<< (wd &&& 31)).toInt ≤ rf.toInt)) ∧ (2 = 3 → ¬ (wd.toInt < 0 ∨ 8 < wd.toInt ∨ rf.toInt < 0 ∨ ((1 : Int32) <<< (wd &&& 31)).toInt ≤ rf.toInt) ∧ 16 ≤ (mI S 94 7).toInt) from by omega)
  · skip
    have g11 := i_nlt h9
    have li12 : (8 : Int32).toInt = 8 := rfl
    refine zd (fun h13 => ?_) (fun h13 => ?_)
    · skip
      have g14 := i_lt h13
      exact KX 2 _ (by decide) hI (show (mI S 64 1).toInt = (mI S 94 3).toInt ∧ (mI S 64 7).toInt = (mI S 94 7).toInt ∧ (2 = 2 → (wd.toInt < 0 ∨ 8 < wd.toInt ∨ rf.toInt < 0 ∨ ((1 : Int32) <<< (wd &&& 31)).toInt ≤ rf.toInt)) ∧ (2 = 3 → ¬ (wd.toInt < 0 ∨ 8 < wd.toInt ∨ rf.toInt < 0 ∨ ((1 : Int32) <<< (wd &&& 31)).toInt ≤ rf.toInt) ∧ 16 ≤ (mI S 94 7).toInt) from by omega)
    · skip
      have g15 := i_nlt h13
      have b16 := i_bd rf
      refine zd (fun h17 => ?_) (fun h17 => ?_)
      · skip
        have g18 := i_lt h17
        exact KX 2 _ (by decide) hI (show (mI S 64 1).toInt = (mI S 94 3).toInt ∧ (mI S 64 7).toInt = (mI S 94 7).toInt ∧ (2 = 2 → (wd.toInt < 0 ∨ 8 < wd.toInt ∨ rf.toInt < 0 ∨ ((1 : Int32) <<< (wd &&& 31)).toInt ≤ rf.toInt)) ∧ (2 = 3 → ¬ (wd.toInt < 0 ∨ 8 < wd.toInt ∨ rf.toInt < 0 ∨ ((1 : Int32) <<< (wd &&& 31)).toInt ≤ rf.toInt) ∧ 16 ≤ (mI S 94 7).toInt) from by omega)
      · skip
        have g19 := i_nlt h17
        have b20 := i_bd ((1 : Int32) <<< (wd &&& 31))
        refine zd (fun h21 => ?_) (fun h21 => ?_)
        · skip
          have g22 := i_lt h21
          have li23 : (16 : Int32).toInt = 16 := rfl
          refine zd (fun h24 => ?_) (fun h24 => ?_)
          · skip
            have g25 := i_lt h24
            refine ⟨i_ix (by omega) (by omega), ?_⟩
            refine ⟨i_ix (by omega) (by omega), ?_⟩
            have hI26 : zKd f r C Z N (ma_put S 67 (mI S 64 7).toNatClampNeg (.inl wd)) := zG_sa hI (0) (8) rfl (by decide) (by decide) (by decide) trivial (by omega) (by omega)
            have hI27 : zKd f r C Z N (ma_put (ma_put S 67 (mI S 64 7).toNatClampNeg (.inl wd)) 68 (mI S 64 7).toNatClampNeg (.inl rf)) := zG_fa hI26 rfl (by decide) (by decide) (by decide) trivial
            first | have e29 : ((mI S 64 7) + (1 : Int32)).toInt = (mI S 64 7).toInt + (1) := i_addk rfl (by omega) (by omega) | have b30 := i_bd ((mI S 64 7) + (1 : Int32))
            have hI28 : zKd f r C Z N (ma_put (ma_put (ma_put S 67 (mI S 64 7).toNatClampNeg (.inl wd)) 68 (mI S 64 7).toNatClampNeg (.inl rf)) 64 7 (.inl ((mI S 64 7) + (1 : Int32)))) := zG_sp hI27 (0) (16) rfl (by decide) (by decide) (by decide) trivial (by omega) (by omega)
            first | have e31 : (((mI S 64 7) + (1 : Int32)) - (1 : Int32)).toInt = ((mI S 64 7) + (1 : Int32)).toInt - (1) := i_subk rfl (by omega) (by omega) | have b32 := i_bd (((mI S 64 7) + (1 : Int32)) - (1 : Int32))
            exact K ((((mI S 64 7) + (1 : Int32)) - (1 : Int32))) _ hI28 (show (mI S 64 1).toInt = (mI S 94 3).toInt ∧ (((mI S 64 7) + (1 : Int32)) - (1 : Int32)).toInt = (mI S 94 7).toInt ∧ ((mI S 64 7) + (1 : Int32)).toInt = (mI S 94 7).toInt + 1 ∧ (mI S 94 7).toInt < 16 ∧ ¬ (wd.toInt < 0 ∨ 8 < wd.toInt ∨ rf.toInt < 0 ∨ ((1 : Int32) <<< (wd &&& 31)).toInt ≤ rf.toInt) from by omega)
          · skip
            have g33 := i_nlt h24
            exact KX 3 _ (by decide) hI (show (mI S 64 1).toInt = (mI S 94 3).toInt ∧ (mI S 64 7).toInt = (mI S 94 7).toInt ∧ (3 = 2 → (wd.toInt < 0 ∨ 8 < wd.toInt ∨ rf.toInt < 0 ∨ ((1 : Int32) <<< (wd &&& 31)).toInt ≤ rf.toInt)) ∧ (3 = 3 → ¬ (wd.toInt < 0 ∨ 8 < wd.toInt ∨ rf.toInt < 0 ∨ ((1 : Int32) <<< (wd &&& 31)).toInt ≤ rf.toInt) ∧ 16 ≤ (mI S 94 7).toInt) from by omega)
        · skip
          have g34 := i_nlt h21
          exact KX 2 _ (by decide) hI (show (mI S 64 1).toInt = (mI S 94 3).toInt ∧ (mI S 64 7).toInt = (mI S 94 7).toInt ∧ (2 = 2 → (wd.toInt < 0 ∨ 8 < wd.toInt ∨ rf.toInt < 0 ∨ ((1 : Int32) <<< (wd &&& 31)).toInt ≤ rf.toInt)) ∧ (2 = 3 → ¬ (wd.toInt < 0 ∨ 8 < wd.toInt ∨ rf.toInt < 0 ∨ ((1 : Int32) <<< (wd &&& 31)).toInt ≤ rf.toInt) ∧ 16 ≤ (mI S 94 7).toInt) from by omega)
