/-! the law -/
theorem gl_889 {X : Nat × (Nat → Int32)} {d w : Nat} {S : ma_S} {Q : Option ma_V → ma_S → Prop} (i : Int32) (hd : 13 ≤ d) (hw : 494 ≤ w) (hS : zT S) (h : (0 ≤ (i + (1 : Int32)) ∧ ((i + (1 : Int32))).toNatClampNeg < X.1) ∧ ((0 ≤ (i + (2 : Int32)) ∧ ((i + (2 : Int32))).toNatClampNeg < X.1) ∧ (ma_fp X 18 (d - 1) (w - 24) 0 [(0, .inr (.inr (some 64))), (1, .inl (X.2 ((i + (1 : Int32))).toNatClampNeg)), (2, .inl (X.2 ((i + (2 : Int32))).toNatClampNeg)), (3, .inr (.inr (some 125)))] [] S (zfi_ (fun v1 S2 => zT S2 ∧ ((0 ≤ (i + (1 : Int32)) ∧ ((i + (1 : Int32))).toNatClampNeg < X.1) ∧ ((0 ≤ (i + (2 : Int32)) ∧ ((i + (2 : Int32))).toNatClampNeg < X.1) ∧ (ma_wp X (d - 1) (w - 25) 259 0 [(0, .inr (.inr (some 94))), (1, .inl (X.2 ((i + (1 : Int32))).toNatClampNeg)), (2, .inl (X.2 ((i + (2 : Int32))).toNatClampNeg))] [] S2 (zi (fun v4 S3 => zT S3 ∧ (ma_fp X 0 d w 957 [(0, .inr (.inr (some 30))), (1, .inr (.inr (some 64))), (2, .inr (.inr (some 94))), (3, .inr (.inr (some 125))), (4, .inl i)] [] S3 Q)) (fun _ _ => False)))))))))) : ma_fp X 0 d w 889 [(0, .inr (.inr (some 30))), (1, .inr (.inr (some 64))), (2, .inr (.inr (some 94))), (3, .inr (.inr (some 125))), (4, .inl i)] [] S Q := by
  refine zf_push fm_0 dF0_889 (v := .inr (.inr (some 64))) rfl ?_
  refine zf_push fm_0 dF0_890 (v := .inr (.inr (some 30))) rfl ?_
  refine zf_push fm_0 dF0_891 (v := .inl i) rfl ?_
  refine zf_push fm_0 dF0_893 (v := .inl (1 : Int32)) rfl ?_
  refine zf_stk fm_0 dF0_894 (st₉ := [.inl (i + (1 : Int32)), .inr (.inr (some 30)), .inr (.inr (some 64))]) rfl rfl ?_
  obtain ⟨hg, h⟩ := h
  refine zf_one fm_0 dF0_895 (oo_sc hg) ?_
  refine zf_push fm_0 dF0_896 (v := .inr (.inr (some 30))) rfl ?_
  refine zf_push fm_0 dF0_897 (v := .inl i) rfl ?_
  refine zf_push fm_0 dF0_899 (v := .inl (2 : Int32)) rfl ?_
  refine zf_stk fm_0 dF0_900 (st₉ := [.inl (i + (2 : Int32)), .inr (.inr (some 30)), .inl (X.2 ((i + (1 : Int32))).toNatClampNeg), .inr (.inr (some 64))]) rfl rfl ?_
  obtain ⟨hg, h⟩ := h
  refine zf_one fm_0 dF0_901 (oo_sc hg) ?_
  refine zf_push fm_0 dF0_902 (v := .inr (.inr (some 125))) rfl ?_
  refine zf_cw fm_0 dF0_903 cw_156 fm_18 [.inr (.inr (some 125)), .inl (X.2 ((i + (2 : Int32))).toNatClampNeg), .inl (X.2 ((i + (1 : Int32))).toNatClampNeg), .inr (.inr (some 64))] [] rfl (by omega) (by omega) rfl (zf_mono h (zfi_go ?_))
  · intro v1 S2 hv
    obtain ⟨hS2, h⟩ := hv
    refine zf_sto fm_0 dF0_906 [(5, .inl v1), (0, .inr (.inr (some 30))), (1, .inr (.inr (some 64))), (2, .inr (.inr (some 94))), (3, .inr (.inr (some 125))), (4, .inl i)] rfl rfl rfl ?_
    refine zf_push fm_0 dF0_908 (v := .inr (.inr (some 94))) rfl ?_
    refine zf_push fm_0 dF0_909 (v := .inr (.inr (some 30))) rfl ?_
    refine zf_push fm_0 dF0_910 (v := .inl i) rfl ?_
    refine zf_push fm_0 dF0_912 (v := .inl (1 : Int32)) rfl ?_
    refine zf_stk fm_0 dF0_913 (st₉ := [.inl (i + (1 : Int32)), .inr (.inr (some 30)), .inr (.inr (some 94))]) rfl rfl ?_
    obtain ⟨hg, h⟩ := h
    refine zf_one fm_0 dF0_914 (oo_sc hg) ?_
    refine zf_push fm_0 dF0_915 (v := .inr (.inr (some 30))) rfl ?_
    refine zf_push fm_0 dF0_916 (v := .inl i) rfl ?_
    refine zf_push fm_0 dF0_918 (v := .inl (2 : Int32)) rfl ?_
    refine zf_stk fm_0 dF0_919 (st₉ := [.inl (i + (2 : Int32)), .inr (.inr (some 30)), .inl (X.2 ((i + (1 : Int32))).toNatClampNeg), .inr (.inr (some 94))]) rfl rfl ?_
    obtain ⟨hg, h⟩ := h
    refine zf_one fm_0 dF0_920 (oo_sc hg) ?_
    refine zf_cv fm_0 dF0_921 v_14_158_12 hm_259 [.inl (X.2 ((i + (2 : Int32))).toNatClampNeg), .inl (X.2 ((i + (1 : Int32))).toNatClampNeg)] [] rfl (zT_rt hS2 s_94 rfl) ⟨by omega, by omega⟩ rfl (zw_mono h (zi_go ?_ ?_))
    · intro v4 S3 hv
      obtain ⟨hS3, h⟩ := hv
      refine zf_sto fm_0 dF0_924 [(6, .inl v4), (5, .inl v1), (0, .inr (.inr (some 30))), (1, .inr (.inr (some 64))), (2, .inr (.inr (some 94))), (3, .inr (.inr (some 125))), (4, .inl i)] rfl rfl rfl ?_
      refine zf_goto fm_0 dF0_926 (t := 957) rfl ?_
      exact zf_sub (ma_nd_of (ks := [0, 1, 2, 3, 4]) rfl (by decide)) (ma_nd_of (ks := [6, 5, 0, 1, 2, 3, 4]) rfl (by decide)) (ma_le_cons rfl (ma_le_cons rfl (ma_le_cons rfl (ma_le_cons rfl (ma_le_cons rfl (ma_le_nil _)))))) h
    · intro x S9 hx
      exact hx.elim
theorem gl_929 {X : Nat × (Nat → Int32)} {d w : Nat} {S : ma_S} {Q : Option ma_V → ma_S → Prop} (i : Int32) (hd : 13 ≤ d) (hw : 494 ≤ w) (hS : zT S) (h : (0 ≤ (i + (1 : Int32)) ∧ ((i + (1 : Int32))).toNatClampNeg < X.1) ∧ (ma_fp X 19 (d - 1) (w - 23) 0 [(0, .inr (.inr (some 64))), (1, .inl (X.2 ((i + (1 : Int32))).toNatClampNeg)), (2, .inr (.inr (some 125)))] [] S (zfi_ (fun v1 S2 => zT S2 ∧ ((0 ≤ (i + (1 : Int32)) ∧ ((i + (1 : Int32))).toNatClampNeg < X.1) ∧ (ma_wp X (d - 1) (w - 21) 260 0 [(0, .inr (.inr (some 94))), (1, .inl (X.2 ((i + (1 : Int32))).toNatClampNeg))] [] S2 (zi (fun v4 S3 => zT S3 ∧ (ma_fp X 0 d w 957 [(0, .inr (.inr (some 30))), (1, .inr (.inr (some 64))), (2, .inr (.inr (some 94))), (3, .inr (.inr (some 125))), (4, .inl i)] [] S3 Q)) (fun _ _ => False)))))))) : ma_fp X 0 d w 929 [(0, .inr (.inr (some 30))), (1, .inr (.inr (some 64))), (2, .inr (.inr (some 94))), (3, .inr (.inr (some 125))), (4, .inl i)] [] S Q := by
  refine zf_push fm_0 dF0_929 (v := .inr (.inr (some 64))) rfl ?_
  refine zf_push fm_0 dF0_930 (v := .inr (.inr (some 30))) rfl ?_
  refine zf_push fm_0 dF0_931 (v := .inl i) rfl ?_
  refine zf_push fm_0 dF0_933 (v := .inl (1 : Int32)) rfl ?_
  refine zf_stk fm_0 dF0_934 (st₉ := [.inl (i + (1 : Int32)), .inr (.inr (some 30)), .inr (.inr (some 64))]) rfl rfl ?_
  obtain ⟨hg, h⟩ := h
  refine zf_one fm_0 dF0_935 (oo_sc hg) ?_
  refine zf_push fm_0 dF0_936 (v := .inr (.inr (some 125))) rfl ?_
  refine zf_cw fm_0 dF0_937 cw_159 fm_19 [.inr (.inr (some 125)), .inl (X.2 ((i + (1 : Int32))).toNatClampNeg), .inr (.inr (some 64))] [] rfl (by omega) (by omega) rfl (zf_mono h (zfi_go ?_))
  · intro v1 S2 hv
    obtain ⟨hS2, h⟩ := hv
    refine zf_sto fm_0 dF0_940 [(5, .inl v1), (0, .inr (.inr (some 30))), (1, .inr (.inr (some 64))), (2, .inr (.inr (some 94))), (3, .inr (.inr (some 125))), (4, .inl i)] rfl rfl rfl ?_
    refine zf_push fm_0 dF0_942 (v := .inr (.inr (some 94))) rfl ?_
    refine zf_push fm_0 dF0_943 (v := .inr (.inr (some 30))) rfl ?_
    refine zf_push fm_0 dF0_944 (v := .inl i) rfl ?_
    refine zf_push fm_0 dF0_946 (v := .inl (1 : Int32)) rfl ?_
    refine zf_stk fm_0 dF0_947 (st₉ := [.inl (i + (1 : Int32)), .inr (.inr (some 30)), .inr (.inr (some 94))]) rfl rfl ?_
    obtain ⟨hg, h⟩ := h
    refine zf_one fm_0 dF0_948 (oo_sc hg) ?_
    refine zf_cv fm_0 dF0_949 v_14_161_12 hm_260 [.inl (X.2 ((i + (1 : Int32))).toNatClampNeg)] [] rfl (zT_rt hS2 s_94 rfl) ⟨by omega, by omega⟩ rfl (zw_mono h (zi_go ?_ ?_))
    · intro v4 S3 hv
      obtain ⟨hS3, h⟩ := hv
      refine zf_sto fm_0 dF0_952 [(6, .inl v4), (5, .inl v1), (0, .inr (.inr (some 30))), (1, .inr (.inr (some 64))), (2, .inr (.inr (some 94))), (3, .inr (.inr (some 125))), (4, .inl i)] rfl rfl rfl ?_
      refine zf_goto fm_0 dF0_954 (t := 957) rfl ?_
      exact zf_sub (ma_nd_of (ks := [0, 1, 2, 3, 4]) rfl (by decide)) (ma_nd_of (ks := [6, 5, 0, 1, 2, 3, 4]) rfl (by decide)) (ma_le_cons rfl (ma_le_cons rfl (ma_le_cons rfl (ma_le_cons rfl (ma_le_cons rfl (ma_le_nil _)))))) h
    · intro x S9 hx
      exact hx.elim
