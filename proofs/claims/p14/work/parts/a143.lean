/-! from 95.i28 -/
/-! the class opens a heap (written by wip/tools/gen18c.py) -/
theorem g_137_64_sq_0 {X : Nat × (Nat → Int32)} {d w : Nat} {S : ma_S} {Q : Option ma_V ⊕ Nat → ma_S → Prop} (xa : Int32) (xb : Int32) (xc : Int32) (xd : Int32) (xe : Int32) (hd : 6 ≤ d) (hw : 89 ≤ w) (hS : zT S) (h : if ((mI S 64 1) + (20 : Int32)) ≤ (100 : Int32) then (ma_wp X (d - 1) (w - 22) 138 0 [(0, .inr (.inr (some 64))), (1, .inl xa)] [] S (zv (fun S1 => zT S1 ∧ (ma_wp X (d - 1) (w - 22) 138 0 [(0, .inr (.inr (some 64))), (1, .inl xb)] [] S1 (zv (fun S3 => zT S3 ∧ (ma_wp X (d - 1) (w - 22) 138 0 [(0, .inr (.inr (some 64))), (1, .inl xc)] [] S3 (zv (fun S5 => zT S5 ∧ (ma_wp X (d - 1) (w - 22) 138 0 [(0, .inr (.inr (some 64))), (1, .inl xd)] [] S5 (zv (fun S7 => zT S7 ∧ (ma_wp X (d - 1) (w - 22) 138 0 [(0, .inr (.inr (some 64))), (1, .inl xe)] [] S7 (zv (fun S9 => zT S9 ∧ (Q (.inl (some (.inl (mI S9 64 1)))) S9)) (fun x S9 => Q (.inr x) S9)))) (fun x S9 => Q (.inr x) S9)))) (fun x S9 => Q (.inr x) S9)))) (fun x S9 => Q (.inr x) S9)))) (fun x S9 => Q (.inr x) S9))) else (Q (.inr 1) (ma_bump S))) : ma_wp X d w 137 0 [(0, .inr (.inr (some 64))), (1, .inl xa), (2, .inl xb), (3, .inl xc), (4, .inl xd), (5, .inl xe)] [] S Q := by
  refine zw_push hm_137 dX11_feed_0 (v := .inr (.inr (some 64))) rfl ?_
  refine zw_gf hm_137 dX11_feed_1 (v := .inl (mI S 64 1)) (zT_is hS s_64) (zT_t hS s_64) rfl f_11_68_11 rfl ?_
  refine zw_push hm_137 dX11_feed_4 (v := .inl (20 : Int32)) rfl ?_
  refine zw_stk hm_137 dX11_feed_6 (st₉ := [.inl ((mI S 64 1) + (20 : Int32))]) rfl rfl ?_
  refine zw_push hm_137 dX11_feed_7 (v := .inl (100 : Int32)) rfl ?_
  refine zw_if2 hm_137 dX11_feed_9 (t := 20) rfl zc2_le ?_ ?_
  · intro hc
    rw [if_pos hc] at h
    refine zw_push hm_137 dX11_feed_20 (v := .inr (.inr (some 64))) rfl ?_
    refine zw_push hm_137 dX11_feed_21 (v := .inl xa) rfl ?_
    refine zw_cv hm_137 dX11_feed_22 v_11_75_11 hm_138 [.inl xa] [] rfl (zT_rt hS s_64 rfl) ⟨by omega, by omega⟩ rfl (zw_mono h (zv_go ?_ ?_))
    · intro S1 hv
      obtain ⟨hS1, h⟩ := hv
      refine zw_push hm_137 dX11_feed_25 (v := .inr (.inr (some 64))) rfl ?_
      refine zw_push hm_137 dX11_feed_26 (v := .inl xb) rfl ?_
      refine zw_cv hm_137 dX11_feed_27 v_11_75_11 hm_138 [.inl xb] [] rfl (zT_rt hS1 s_64 rfl) ⟨by omega, by omega⟩ rfl (zw_mono h (zv_go ?_ ?_))
      · intro S3 hv
        obtain ⟨hS3, h⟩ := hv
        refine zw_push hm_137 dX11_feed_30 (v := .inr (.inr (some 64))) rfl ?_
        refine zw_push hm_137 dX11_feed_31 (v := .inl xc) rfl ?_
        refine zw_cv hm_137 dX11_feed_32 v_11_75_11 hm_138 [.inl xc] [] rfl (zT_rt hS3 s_64 rfl) ⟨by omega, by omega⟩ rfl (zw_mono h (zv_go ?_ ?_))
        · intro S5 hv
          obtain ⟨hS5, h⟩ := hv
          refine zw_push hm_137 dX11_feed_35 (v := .inr (.inr (some 64))) rfl ?_
          refine zw_push hm_137 dX11_feed_36 (v := .inl xd) rfl ?_
          refine zw_cv hm_137 dX11_feed_38 v_11_75_11 hm_138 [.inl xd] [] rfl (zT_rt hS5 s_64 rfl) ⟨by omega, by omega⟩ rfl (zw_mono h (zv_go ?_ ?_))
          · intro S7 hv
            obtain ⟨hS7, h⟩ := hv
            refine zw_push hm_137 dX11_feed_41 (v := .inr (.inr (some 64))) rfl ?_
            refine zw_push hm_137 dX11_feed_42 (v := .inl xe) rfl ?_
            refine zw_cv hm_137 dX11_feed_44 v_11_75_11 hm_138 [.inl xe] [] rfl (zT_rt hS7 s_64 rfl) ⟨by omega, by omega⟩ rfl (zw_mono h (zv_go ?_ ?_))
            · intro S9 hv
              obtain ⟨hS9, h⟩ := hv
              refine zw_push hm_137 dX11_feed_47 (v := .inr (.inr (some 64))) rfl ?_
              refine zw_gf hm_137 dX11_feed_48 (v := .inl (mI S9 64 1)) (zT_is hS9 s_64) (zT_t hS9 s_64) rfl f_11_68_11 rfl ?_
              exact zw_iret hm_137 dX11_feed_51 h
            · intro x S9 hx
              exact ⟨by decide, hx⟩
          · intro x S9 hx
            exact ⟨by decide, hx⟩
        · intro x S9 hx
          exact ⟨by decide, hx⟩
      · intro x S9 hx
        exact ⟨by decide, hx⟩
    · intro x S9 hx
      exact ⟨by decide, hx⟩
  · intro hc
    rw [if_neg hc] at h
    exact zw_thr hm_137 dX11_feed_12 dX11_feed_15 dX11_feed_16 dX11_feed_19 x_11_72_74 n_11_72 (by omega) (by show 0 + 81 ≤ w; omega) h
theorem sp_137_64_sq {X : Nat × (Nat → Int32)} {d w : Nat} {f : Nat → Nat → Int32} {r : Nat → Nat → Option Nat} {C Z N : Nat} {Q : Option ma_V ⊕ Nat → ma_S → Prop} {r0 : Nat→Int32} {I0 : Nat→Nat→Int32} {L0 : Nat→Nat→Int64} {R0 : zRT} {S : ma_S} (xa : Int32) (xb : Int32) (xc : Int32) (xd : Int32) (xe : Int32) (hd : 6 ≤ d) (hw : 89 ≤ w) (hI : zFe f r C Z N S) (hpre0 : (mI S 64 1).toInt = (mI S 94 3).toInt) (hpre1 : (mI S 65) = r0) (hpre2 : zFm I0 L0 R0 S) (K : ∀ v S₉, zFe f r C Z N S₉ → (v.toInt = (mI S₉ 94 3).toInt + 20 ∧ (mI S₉ 64 1).toInt = (mI S₉ 94 3).toInt + 20 ∧ (mI S₉ 94 3).toInt ≤ 80) → (zFd r0 (mI S₉ 65) (f 94 3).toInt 5 (zw5 xa xb xc xd xe)) → (zFm I0 L0 R0 S₉) → Q (.inl (some (.inl v))) S₉) (KX : ∀ x S₉, (x = 1) → zFe f r C Z N S₉ → ((mI S₉ 64 1).toInt = (mI S₉ 94 3).toInt ∧ 81 ≤ (mI S₉ 94 3).toInt) → ((mI S₉ 65) = r0) → (zFm I0 L0 R0 S₉) → Q (.inr x) (ma_bump S₉)) : ma_wp X d w 137 0 [(0, .inr (.inr (some 64))), (1, .inl xa), (2, .inl xb), (3, .inl xc), (4, .inl xd), (5, .inl xe)] [] S Q := by
  refine g_137_64_sq_0 xa xb xc xd xe (by omega) (by omega) (zG_T hI) ?_
  have f1 := zG_s hI (0) (100) (c := 64) (k := 1) (by decide)
  have q2 : (mI S 94 3).toInt = (f 94 3).toInt := zG_zi hI rfl
  have b3 := i_bd (mI S 94 3)
  first | have e4 : ((mI S 64 1) + (20 : Int32)).toInt = (mI S 64 1).toInt + (20) := i_addk rfl (by omega) (by omega) | have b5 := i_bd ((mI S 64 1) + (20 : Int32))
  have li6 : (100 : Int32).toInt = 100 := rfl
  refine zd (fun h7 => ?_) (fun h7 => ?_)
  · skip
    have g8 := i_le h7
    have b9 := i_bd xa
    refine sp_138_64_sq (LL := ((mI S 64 1).toInt)) (r0 := (mI S 65)) (I0 := I0) (L0 := L0) (R0 := R0) (xa) (by omega) (by omega) hI (show (mI S 64 1).toInt = ((mI S 64 1).toInt) ∧ (mI S 64 1).toInt ≤ 96 from by omega) (show (mI S 65) = (mI S 65) from by first | (exact rfl)) (show zFm I0 L0 R0 S from by first | (exact hpre2)) (fun S1 hI_S1 rp0_S1 rp1_S1 rp2_S1 => zv_n ⟨zG_T hI_S1, ?_⟩)
    have f10 := zG_s hI_S1 (0) (100) (c := 64) (k := 1) (by decide)
    have rp0_S1 : (mI S1 64 1).toInt = ((mI S 64 1).toInt) + 4 := rp0_S1
    have rp1_S1 : zFq (mI S 65) (mI S1 65) ((mI S 64 1).toInt) xa := rp1_S1
    have rp2_S1 : zFm I0 L0 R0 S1 := rp2_S1
    have b11 := i_bd xb
    refine sp_138_64_sq (LL := ((mI S1 64 1).toInt)) (r0 := (mI S1 65)) (I0 := I0) (L0 := L0) (R0 := R0) (xb) (by omega) (by omega) hI_S1 (show (mI S1 64 1).toInt = ((mI S1 64 1).toInt) ∧ (mI S1 64 1).toInt ≤ 96 from by omega) (show (mI S1 65) = (mI S1 65) from by first | (exact rfl)) (show zFm I0 L0 R0 S1 from by first | (exact rp2_S1)) (fun S3 hI_S3 rp0_S3 rp1_S3 rp2_S3 => zv_n ⟨zG_T hI_S3, ?_⟩)
    have f12 := zG_s hI_S3 (0) (100) (c := 64) (k := 1) (by decide)
    have rp0_S3 : (mI S3 64 1).toInt = ((mI S1 64 1).toInt) + 4 := rp0_S3
    have rp1_S3 : zFq (mI S1 65) (mI S3 65) ((mI S1 64 1).toInt) xb := rp1_S3
    have rp2_S3 : zFm I0 L0 R0 S3 := rp2_S3
    have b13 := i_bd xc
    refine sp_138_64_sq (LL := ((mI S3 64 1).toInt)) (r0 := (mI S3 65)) (I0 := I0) (L0 := L0) (R0 := R0) (xc) (by omega) (by omega) hI_S3 (show (mI S3 64 1).toInt = ((mI S3 64 1).toInt) ∧ (mI S3 64 1).toInt ≤ 96 from by omega) (show (mI S3 65) = (mI S3 65) from by first | (exact rfl)) (show zFm I0 L0 R0 S3 from by first | (exact rp2_S3)) (fun S5 hI_S5 rp0_S5 rp1_S5 rp2_S5 => zv_n ⟨zG_T hI_S5, ?_⟩)
    have f14 := zG_s hI_S5 (0) (100) (c := 64) (k := 1) (by decide)
    have rp0_S5 : (mI S5 64 1).toInt = ((mI S3 64 1).toInt) + 4 := rp0_S5
    have rp1_S5 : zFq (mI S3 65) (mI S5 65) ((mI S3 64 1).toInt) xc := rp1_S5
    have rp2_S5 : zFm I0 L0 R0 S5 := rp2_S5
    have b15 := i_bd xd
    refine sp_138_64_sq (LL := ((mI S5 64 1).toInt)) (r0 := (mI S5 65)) (I0 := I0) (L0 := L0) (R0 := R0) (xd) (by omega) (by omega) hI_S5 (show (mI S5 64 1).toInt = ((mI S5 64 1).toInt) ∧ (mI S5 64 1).toInt ≤ 96 from by omega) (show (mI S5 65) = (mI S5 65) from by first | (exact rfl)) (show zFm I0 L0 R0 S5 from by first | (exact rp2_S5)) (fun S7 hI_S7 rp0_S7 rp1_S7 rp2_S7 => zv_n ⟨zG_T hI_S7, ?_⟩)
    have f16 := zG_s hI_S7 (0) (100) (c := 64) (k := 1) (by decide)
    have rp0_S7 : (mI S7 64 1).toInt = ((mI S5 64 1).toInt) + 4 := rp0_S7
    have rp1_S7 : zFq (mI S5 65) (mI S7 65) ((mI S5 64 1).toInt) xd := rp1_S7
    have rp2_S7 : zFm I0 L0 R0 S7 := rp2_S7
    have b17 := i_bd xe
    refine sp_138_64_sq (LL := ((mI S7 64 1).toInt)) (r0 := (mI S7 65)) (I0 := I0) (L0 := L0) (R0 := R0) (xe) (by omega) (by omega) hI_S7 (show (mI S7 64 1).toInt = ((mI S7 64 1).toInt) ∧ (mI S7 64 1).toInt ≤ 96 from by omega) (show (mI S7 65) = (mI S7 65) from by first | (exact rfl)) (show zFm I0 L0 R0 S7 from by first | (exact rp2_S7)) (fun S9 hI_S9 rp0_S9 rp1_S9 rp2_S9 => zv_n ⟨zG_T hI_S9, ?_⟩)
    have f18 := zG_s hI_S9 (0) (100) (c := 64) (k := 1) (by decide)
    have rp0_S9 : (mI S9 64 1).toInt = ((mI S7 64 1).toInt) + 4 := rp0_S9
    have rp1_S9 : zFq (mI S7 65) (mI S9 65) ((mI S7 64 1).toInt) xe := rp1_S9
    have rp2_S9 : zFm I0 L0 R0 S9 := rp2_S9
    have q19 : (mI S9 94 3).toInt = (f 94 3).toInt := zG_zi hI_S9 rfl
    have b20 := i_bd (mI S9 94 3)
    exact K ((mI S9 64 1)) _ hI_S9 (show (mI S9 64 1).toInt = (mI S9 94 3).toInt + 20 ∧ (mI S9 64 1).toInt = (mI S9 94 3).toInt + 20 ∧ (mI S9 94 3).toInt ≤ 80 from by omega) (show zFd r0 (mI S9 65) (f 94 3).toInt 5 (zw5 xa xb xc xd xe) from by first | (exact (fd_s (fd_s (fd_s (fd_s (fd_s (show zFd r0 (mI S 65) (f 94 3).toInt 0 (zw5 xa xb xc xd xe) from by rw [hpre1]; exact fd_0) (by omega) rp1_S1 (by omega) rfl) (by omega) rp1_S3 (by omega) rfl) (by omega) rp1_S5 (by omega) rfl) (by omega) rp1_S7 (by omega) rfl) (by omega) rp1_S9 (by omega) rfl))) (show zFm I0 L0 R0 S9 from by first | (exact rp2_S9))
  · skip
    have g21 := i_nle h7
    exact KX 1 _ (by decide) hI (show (mI S 64 1).toInt = (mI S 94 3).toInt ∧ 81 ≤ (mI S 94 3).toInt from by omega) (show (mI S 65) = r0 from by first | (exact hpre1)) (show zFm I0 L0 R0 S from by first | (exact hpre2))
theorem g_139_64_sq_0 {X : Nat × (Nat → Int32)} {d w : Nat} {S : ma_S} {Q : Option ma_V ⊕ Nat → ma_S → Prop} (n : Int32) (hd : 6 ≤ d) (hw : 89 ≤ w) (hS : zT S) (h : if n < 0 then (Q (.inr 2) (ma_bump S)) else (if n ≤ (mI S 64 1) then (Q (.inl (some (.inl n))) (ma_put S 64 1 (.inl n))) else (Q (.inr 2) (ma_bump S)))) : ma_wp X d w 139 0 [(0, .inr (.inr (some 64))), (1, .inl n)] [] S Q := by
  refine zw_push hm_139 dX11_end_0 (v := .inl n) rfl ?_
  refine zw_if0 hm_139 dX11_end_1 (t := 12) rfl zc0_lt ?_ ?_
  · intro hc
    rw [if_pos hc] at h
    exact zw_thr hm_139 dX11_end_12 dX11_end_15 dX11_end_16 dX11_end_19 x_11_79_81 n_11_79 (by omega) (by show 0 + 81 ≤ w; omega) h
  · intro hc
    rw [if_neg hc] at h
    refine zw_push hm_139 dX11_end_4 (v := .inl n) rfl ?_
    refine zw_push hm_139 dX11_end_5 (v := .inr (.inr (some 64))) rfl ?_
    refine zw_gf hm_139 dX11_end_6 (v := .inl (mI S 64 1)) (zT_is hS s_64) (zT_t hS s_64) rfl f_11_68_11 rfl ?_
    refine zw_if2 hm_139 dX11_end_9 (t := 20) rfl zc2_le ?_ ?_
    · intro hc
      rw [if_pos hc] at h
      refine zw_push hm_139 dX11_end_20 (v := .inr (.inr (some 64))) rfl ?_
      refine zw_push hm_139 dX11_end_21 (v := .inl n) rfl ?_
      refine zw_pf hm_139 dX11_end_22 (zT_is hS s_64) (zT_t hS s_64) p_11_68_11 zk_int ?_
      refine zw_push hm_139 dX11_end_25 (v := .inl n) rfl ?_
      exact zw_iret hm_139 dX11_end_26 h
    · intro hc
      rw [if_neg hc] at h
      exact zw_thr hm_139 dX11_end_12 dX11_end_15 dX11_end_16 dX11_end_19 x_11_79_81 n_11_79 (by omega) (by show 0 + 81 ≤ w; omega) h
theorem sp_139_64_sq {X : Nat × (Nat → Int32)} {d w : Nat} {f : Nat → Nat → Int32} {r : Nat → Nat → Option Nat} {C Z N : Nat} {Q : Option ma_V ⊕ Nat → ma_S → Prop} {I0 : Nat→Nat→Int32} {L0 : Nat→Nat→Int64} {R0 : zRT} {S : ma_S} (n : Int32) (hd : 6 ≤ d) (hw : 89 ≤ w) (hI : zX f r C Z N S) (hpre0 : (mI S 64 1).toInt = (mI S 94 3).toInt) (hpre1 : zFm I0 L0 R0 S) (K : ∀ v S₉, zX f r C Z N S₉ → ((mI S₉ 64 1).toInt = n.toInt ∧ 0 ≤ n.toInt ∧ n.toInt ≤ (mI S₉ 94 3).toInt ∧ v.toInt = n.toInt) → (zFm I0 L0 R0 S₉) → Q (.inl (some (.inl v))) S₉) (KX : ∀ x S₉, (x = 2) → zX f r C Z N S₉ → ((mI S₉ 64 1).toInt = (mI S₉ 94 3).toInt ∧ (n.toInt < 0 ∨ (mI S₉ 94 3).toInt < n.toInt)) → (zFm I0 L0 R0 S₉) → Q (.inr x) (ma_bump S₉)) : ma_wp X d w 139 0 [(0, .inr (.inr (some 64))), (1, .inl n)] [] S Q := by
  refine g_139_64_sq_0 n (by omega) (by omega) (zG_T hI) ?_
  have f1 := zG_s hI (0) (100) (c := 64) (k := 1) (by decide)
  have q2 : (mI S 94 3).toInt = (f 94 3).toInt := zG_zi hI rfl
  have b3 := i_bd (mI S 94 3)
  have b4 := i_bd n
  have li5 : (0 : Int32).toInt = 0 := rfl
  refine zd (fun h6 => ?_) (fun h6 => ?_)
  · skip
    have g7 := i_lt h6
    exact KX 2 _ (by decide) hI (show (mI S 64 1).toInt = (mI S 94 3).toInt ∧ (n.toInt < 0 ∨ (mI S 94 3).toInt < n.toInt) from by omega) (show zFm I0 L0 R0 S from by first | (exact hpre1))
  · skip
    have g8 := i_nlt h6
    refine zd (fun h9 => ?_) (fun h9 => ?_)
    · skip
      have g10 := i_le h9
      have hI11 : zX f r C Z N (ma_put S 64 1 (.inl n)) := zG_sp hI (0) (100) rfl (by decide) (by decide) (by decide) trivial (by omega) (by omega)
      exact K (n) _ hI11 (show n.toInt = n.toInt ∧ 0 ≤ n.toInt ∧ n.toInt ≤ (mI S 94 3).toInt ∧ n.toInt = n.toInt from by omega) (show zFm I0 L0 R0 (ma_put S 64 1 (.inl n)) from by first | (exact (fn9_p hpre1 (by decide))))
    · skip
      have g12 := i_nle h9
      exact KX 2 _ (by decide) hI (show (mI S 64 1).toInt = (mI S 94 3).toInt ∧ (n.toInt < 0 ∨ (mI S 94 3).toInt < n.toInt) from by omega) (show zFm I0 L0 R0 S from by first | (exact hpre1))
theorem g_140_64_zKd_sq_0 {X : Nat × (Nat → Int32)} {d w : Nat} {S : ma_S} {Q : Option ma_V ⊕ Nat → ma_S → Prop} (wd : Int32) (rf : Int32) (hd : 6 ≤ d) (hw : 89 ≤ w) (hS : zT S) (h : if wd < 0 then (Q (.inr 2) (ma_bump S)) else (if (8 : Int32) < wd then (Q (.inr 2) (ma_bump S)) else (if rf < 0 then (Q (.inr 2) (ma_bump S)) else (if rf < ((1 : Int32) <<< (wd &&& 31)) then (if (mI S 64 7) < (16 : Int32) then ((0 ≤ (mI S 64 7) ∧ (mI S 64 7).toNatClampNeg < 16) ∧ ((0 ≤ (mI S 64 7) ∧ (mI S 64 7).toNatClampNeg < 16) ∧ (Q (.inl (some (.inl (((mI S 64 7) + (1 : Int32)) - (1 : Int32))))) (ma_put (ma_put (ma_put S 67 (mI S 64 7).toNatClampNeg (.inl wd)) 68 (mI S 64 7).toNatClampNeg (.inl rf)) 64 7 (.inl ((mI S 64 7) + (1 : Int32))))))) else (Q (.inr 3) (ma_bump S))) else (Q (.inr 2) (ma_bump S)))))) : ma_wp X d w 140 0 [(0, .inr (.inr (some 64))), (1, .inl wd), (2, .inl rf)] [] S Q := by
  refine zw_push hm_140 dX11_kind_0 (v := .inl wd) rfl ?_
  refine zw_if0 hm_140 dX11_kind_1 (t := 21) rfl zc0_lt ?_ ?_
  · intro hc
    rw [if_pos hc] at h
    exact zw_thr hm_140 dX11_kind_21 dX11_kind_24 dX11_kind_25 dX11_kind_28 x_11_79_81 n_11_79 (by omega) (by show 0 + 81 ≤ w; omega) h
  · intro hc
    rw [if_neg hc] at h
    refine zw_push hm_140 dX11_kind_4 (v := .inl wd) rfl ?_
    refine zw_push hm_140 dX11_kind_5 (v := .inl (8 : Int32)) rfl ?_
    refine zw_if2 hm_140 dX11_kind_7 (t := 21) rfl zc2_gt ?_ ?_
    · intro hc
      rw [if_pos hc] at h
      exact zw_thr hm_140 dX11_kind_21 dX11_kind_24 dX11_kind_25 dX11_kind_28 x_11_79_81 n_11_79 (by omega) (by show 0 + 81 ≤ w; omega) h
    · intro hc
      rw [if_neg hc] at h
      refine zw_push hm_140 dX11_kind_10 (v := .inl rf) rfl ?_
      refine zw_if0 hm_140 dX11_kind_11 (t := 21) rfl zc0_lt ?_ ?_
      · intro hc
        rw [if_pos hc] at h
        exact zw_thr hm_140 dX11_kind_21 dX11_kind_24 dX11_kind_25 dX11_kind_28 x_11_79_81 n_11_79 (by omega) (by show 0 + 81 ≤ w; omega) h
      · intro hc
        rw [if_neg hc] at h
        refine zw_push hm_140 dX11_kind_14 (v := .inl rf) rfl ?_
        refine zw_push hm_140 dX11_kind_15 (v := .inl (1 : Int32)) rfl ?_
        refine zw_push hm_140 dX11_kind_16 (v := .inl wd) rfl ?_
        refine zw_stk hm_140 dX11_kind_17 (st₉ := [.inl ((1 : Int32) <<< (wd &&& 31)), .inl rf]) rfl rfl ?_
        refine zw_if2 hm_140 dX11_kind_18 (t := 29) rfl zc2_lt ?_ ?_
        · intro hc
          rw [if_pos hc] at h
          refine zw_push hm_140 dX11_kind_29 (v := .inr (.inr (some 64))) rfl ?_
          refine zw_gf hm_140 dX11_kind_30 (v := .inl (mI S 64 7)) (zT_is hS s_64) (zT_t hS s_64) rfl f_11_82_11 rfl ?_
          refine zw_push hm_140 dX11_kind_33 (v := .inl (16 : Int32)) rfl ?_
          refine zw_if2 hm_140 dX11_kind_35 (t := 46) rfl zc2_lt ?_ ?_
          · intro hc
            rw [if_pos hc] at h
            refine zw_push hm_140 dX11_kind_46 (v := .inr (.inr (some 64))) rfl ?_
            refine zw_gf hm_140 dX11_kind_47 (v := .inr (.inr (some 67))) (zT_is hS s_64) (zT_t hS s_64) rfl f_11_17_11 (zT_f hS r_64_5) ?_
            refine zw_push hm_140 dX11_kind_50 (v := .inr (.inr (some 64))) rfl ?_
            refine zw_gf hm_140 dX11_kind_51 (v := .inl (mI S 64 7)) (zT_is hS s_64) (zT_t hS s_64) rfl f_11_82_11 rfl ?_
            refine zw_push hm_140 dX11_kind_54 (v := .inl wd) rfl ?_
            obtain ⟨hg, h⟩ := h
            refine zw_ias hm_140 dX11_kind_55 (zT_is hS s_67) (zT_h hS s_67) rfl hg ?_
            refine zw_push hm_140 dX11_kind_56 (v := .inr (.inr (some 64))) rfl ?_
            refine zw_gf hm_140 dX11_kind_57 (v := .inr (.inr (some 68))) (zT_is (zT_pi hS) s_64) (zT_t (zT_pi hS) s_64) rfl f_11_20_11 (zT_f (zT_pi hS) r_64_6) ?_
            refine zw_push hm_140 dX11_kind_60 (v := .inr (.inr (some 64))) rfl ?_
            refine zw_gf hm_140 dX11_kind_61 (v := .inl (mI S 64 7)) (zT_is (zT_pi hS) s_64) (zT_t (zT_pi hS) s_64) rfl f_11_82_11 rfl ?_
            refine zw_push hm_140 dX11_kind_64 (v := .inl rf) rfl ?_
            obtain ⟨hg, h⟩ := h
            refine zw_ias hm_140 dX11_kind_65 (zT_is (zT_pi hS) s_68) (zT_h (zT_pi hS) s_68) rfl hg ?_
            refine zw_push hm_140 dX11_kind_66 (v := .inr (.inr (some 64))) rfl ?_
            refine zw_stk hm_140 dX11_kind_67 (st₉ := [.inr (.inr (some 64)), .inr (.inr (some 64))]) rfl rfl ?_
            refine zw_gf hm_140 dX11_kind_68 (v := .inl (mI S 64 7)) (zT_is (zT_pi (zT_pi hS)) s_64) (zT_t (zT_pi (zT_pi hS)) s_64) rfl f_11_82_11 rfl ?_
            refine zw_push hm_140 dX11_kind_71 (v := .inl (1 : Int32)) rfl ?_
            refine zw_stk hm_140 dX11_kind_72 (st₉ := [.inl ((mI S 64 7) + (1 : Int32)), .inr (.inr (some 64))]) rfl rfl ?_
            refine zw_pf hm_140 dX11_kind_73 (zT_is (zT_pi (zT_pi hS)) s_64) (zT_t (zT_pi (zT_pi hS)) s_64) p_11_82_11 zk_int ?_
            refine zw_push hm_140 dX11_kind_76 (v := .inr (.inr (some 64))) rfl ?_
            refine zw_gf hm_140 dX11_kind_77 (v := .inl ((mI S 64 7) + (1 : Int32))) (zT_is (zT_pi (zT_pi (zT_pi hS))) s_64) (zT_t (zT_pi (zT_pi (zT_pi hS))) s_64) rfl f_11_82_11 rfl ?_
            refine zw_push hm_140 dX11_kind_80 (v := .inl (1 : Int32)) rfl ?_
            refine zw_stk hm_140 dX11_kind_81 (st₉ := [.inl (((mI S 64 7) + (1 : Int32)) - (1 : Int32))]) rfl rfl ?_
            exact zw_iret hm_140 dX11_kind_82 h
          · intro hc
            rw [if_neg hc] at h
            exact zw_thr hm_140 dX11_kind_38 dX11_kind_41 dX11_kind_42 dX11_kind_45 x_11_85_87 n_11_85 (by omega) (by show 0 + 81 ≤ w; omega) h
        · intro hc
          rw [if_neg hc] at h
          exact zw_thr hm_140 dX11_kind_21 dX11_kind_24 dX11_kind_25 dX11_kind_28 x_11_79_81 n_11_79 (by omega) (by show 0 + 81 ≤ w; omega) h
theorem sp_140_64_zKd_sq {X : Nat × (Nat → Int32)} {d w : Nat} {f : Nat → Nat → Int32} {r : Nat → Nat → Option Nat} {C Z N : Nat} {Q : Option ma_V ⊕ Nat → ma_S → Prop} {I0 : Nat→Nat→Int32} {L0 : Nat→Nat→Int64} {R0 : zRT} {k67 : Nat→Int32} {k68 : Nat→Int32} {kn : Int32} {S : ma_S} (wd : Int32) (rf : Int32) (hd : 6 ≤ d) (hw : 89 ≤ w) (hI : zKd f r C Z N S) (hpre0 : (mI S 64 1).toInt = (mI S 94 3).toInt) (hpre1 : (mI S 64 7).toInt = (mI S 94 7).toInt) (hpre2 : zFm I0 L0 R0 S) (hpre3 : (mI S 67) = k67 ∧ (mI S 68) = k68 ∧ (mI S 64 7) = kn) (K : ∀ v S₉, zKd f r C Z N S₉ → ((mI S₉ 64 1).toInt = (mI S₉ 94 3).toInt ∧ v.toInt = (mI S₉ 94 7).toInt ∧ (mI S₉ 64 7).toInt = (mI S₉ 94 7).toInt + 1 ∧ (mI S₉ 94 7).toInt < 16 ∧ ¬ (wd.toInt < 0 ∨ 8 < wd.toInt ∨ rf.toInt < 0 ∨ ((1 : Int32) <<< (wd &&& 31)).toInt ≤ rf.toInt)) → (zFm I0 L0 R0 S₉) → ((mI S₉ 67) = zUp k67 kn.toNatClampNeg wd ∧ (mI S₉ 68) = zUp k68 kn.toNatClampNeg rf) → Q (.inl (some (.inl v))) S₉) (KX : ∀ x S₉, (x = 2 ∨ x = 3) → zKd f r C Z N S₉ → ((mI S₉ 64 1).toInt = (mI S₉ 94 3).toInt ∧ (mI S₉ 64 7).toInt = (mI S₉ 94 7).toInt ∧ (x = 2 → (wd.toInt < 0 ∨ 8 < wd.toInt ∨ rf.toInt < 0 ∨ ((1 : Int32) <<< (wd &&& 31)).toInt ≤ rf.toInt)) ∧ (x = 3 → ¬ (wd.toInt < 0 ∨ 8 < wd.toInt ∨ rf.toInt < 0 ∨ ((1 : Int32) <<< (wd &&& 31)).toInt ≤ rf.toInt) ∧ 16 ≤ (mI S₉ 94 7).toInt)) → (zFm I0 L0 R0 S₉) → ((mI S₉ 67) = k67 ∧ (mI S₉ 68) = k68 ∧ (mI S₉ 64 7) = kn) → Q (.inr x) (ma_bump S₉)) : ma_wp X d w 140 0 [(0, .inr (.inr (some 64))), (1, .inl wd), (2, .inl rf)] [] S Q := by
  refine g_140_64_zKd_sq_0 wd rf (by omega) (by omega) (zG_T hI) ?_
  have f1 := zG_s hI (0) (100) (c := 64) (k := 1) (by decide)
  have q2 : (mI S 94 3).toInt = (f 94 3).toInt := zG_zi hI rfl
  have b3 := i_bd (mI S 94 3)
  have f4 := zG_s hI (0) (16) (c := 64) (k := 7) (by decide)
  have q5 : (mI S 94 7).toInt = (f 94 7).toInt := zG_zi hI rfl
  have b6 := i_bd (mI S 94 7)
  have b7 := i_bd wd
  have li8 : (0 : Int32).toInt = 0 := rfl
  refine zd (fun h9 => ?_) (fun h9 => ?_)
  · skip
    have g10 := i_lt h9
    exact KX 2 _ (by decide) hI (show (mI S 64 1).toInt = (mI S 94 3).toInt ∧ (mI S 64 7).toInt = (mI S 94 7).toInt ∧ (2 = 2 → (wd.toInt < 0 ∨ 8 < wd.toInt ∨ rf.toInt < 0 ∨ ((1 : Int32) <<< (wd &&& 31)).toInt ≤ rf.toInt)) ∧ (2 = 3 → ¬ (wd.toInt < 0 ∨ 8 < wd.toInt ∨ rf.toInt < 0 ∨ ((1 : Int32) <<< (wd &&& 31)).toInt ≤ rf.toInt) ∧ 16 ≤ (mI S 94 7).toInt) from by omega) (show zFm I0 L0 R0 S from by first | (exact hpre2)) (show (mI S 67) = k67 ∧ (mI S 68) = k68 ∧ (mI S 64 7) = kn from by first | (exact hpre3))
  · skip
    have g11 := i_nlt h9
    have li12 : (8 : Int32).toInt = 8 := rfl
    refine zd (fun h13 => ?_) (fun h13 => ?_)
    · skip
      have g14 := i_lt h13
      exact KX 2 _ (by decide) hI (show (mI S 64 1).toInt = (mI S 94 3).toInt ∧ (mI S 64 7).toInt = (mI S 94 7).toInt ∧ (2 = 2 → (wd.toInt < 0 ∨ 8 < wd.toInt ∨ rf.toInt < 0 ∨ ((1 : Int32) <<< (wd &&& 31)).toInt ≤ rf.toInt)) ∧ (2 = 3 → ¬ (wd.toInt < 0 ∨ 8 < wd.toInt ∨ rf.toInt < 0 ∨ ((1 : Int32) <<< (wd &&& 31)).toInt ≤ rf.toInt) ∧ 16 ≤ (mI S 94 7).toInt) from by omega) (show zFm I0 L0 R0 S from by first | (exact hpre2)) (show (mI S 67) = k67 ∧ (mI S 68) = k68 ∧ (mI S 64 7) = kn from by first | (exact hpre3))
    · skip
      have g15 := i_nlt h13
      have b16 := i_bd rf
      refine zd (fun h17 => ?_) (fun h17 => ?_)
      · skip
        have g18 := i_lt h17
        exact KX 2 _ (by decide) hI (show (mI S 64 1).toInt = (mI S 94 3).toInt ∧ (mI S 64 7).toInt = (mI S 94 7).toInt ∧ (2 = 2 → (wd.toInt < 0 ∨ 8 < wd.toInt ∨ rf.toInt < 0 ∨ ((1 : Int32) <<< (wd &&& 31)).toInt ≤ rf.toInt)) ∧ (2 = 3 → ¬ (wd.toInt < 0 ∨ 8 < wd.toInt ∨ rf.toInt < 0 ∨ ((1 : Int32) <<< (wd &&& 31)).toInt ≤ rf.toInt) ∧ 16 ≤ (mI S 94 7).toInt) from by omega) (show zFm I0 L0 R0 S from by first | (exact hpre2)) (show (mI S 67) = k67 ∧ (mI S 68) = k68 ∧ (mI S 64 7) = kn from by first | (exact hpre3))
      · skip
        have g19 := i_nlt h17
        have b20 := i_bd ((1 : Int32) <<< (wd &&& 31))
        refine zd (fun h21 => ?_) (fun h21 => ?_)
        · skip
          have g22 := i_lt h21
          have li23 : (16 : Int32).toInt = 16 := rfl
          refine zd (fun h24 => ?_) (fun h24 => ?_)
          · skip
            have g25 := i_lt h24
            refine ⟨i_ix (by omega) (by omega), ?_⟩
            refine ⟨i_ix (by omega) (by omega), ?_⟩
            have hI26 : zKd f r C Z N (ma_put S 67 (mI S 64 7).toNatClampNeg (.inl wd)) := zG_sa hI (0) (8) rfl (by decide) (by decide) (by decide) trivial (by omega) (by omega)
            have hI27 : zKd f r C Z N (ma_put (ma_put S 67 (mI S 64 7).toNatClampNeg (.inl wd)) 68 (mI S 64 7).toNatClampNeg (.inl rf)) := zG_fa hI26 rfl (by decide) (by decide) (by decide) trivial
            first | have e29 : ((mI S 64 7) + (1 : Int32)).toInt = (mI S 64 7).toInt + (1) := i_addk rfl (by omega) (by omega) | have b30 := i_bd ((mI S 64 7) + (1 : Int32))
            have hI28 : zKd f r C Z N (ma_put (ma_put (ma_put S 67 (mI S 64 7).toNatClampNeg (.inl wd)) 68 (mI S 64 7).toNatClampNeg (.inl rf)) 64 7 (.inl ((mI S 64 7) + (1 : Int32)))) := zG_sp hI27 (0) (16) rfl (by decide) (by decide) (by decide) trivial (by omega) (by omega)
            first | have e31 : (((mI S 64 7) + (1 : Int32)) - (1 : Int32)).toInt = ((mI S 64 7) + (1 : Int32)).toInt - (1) := i_subk rfl (by omega) (by omega) | have b32 := i_bd (((mI S 64 7) + (1 : Int32)) - (1 : Int32))
            exact K ((((mI S 64 7) + (1 : Int32)) - (1 : Int32))) _ hI28 (show (mI S 64 1).toInt = (mI S 94 3).toInt ∧ (((mI S 64 7) + (1 : Int32)) - (1 : Int32)).toInt = (mI S 94 7).toInt ∧ ((mI S 64 7) + (1 : Int32)).toInt = (mI S 94 7).toInt + 1 ∧ (mI S 94 7).toInt < 16 ∧ ¬ (wd.toInt < 0 ∨ 8 < wd.toInt ∨ rf.toInt < 0 ∨ ((1 : Int32) <<< (wd &&& 31)).toInt ≤ rf.toInt) from by omega) (show zFm I0 L0 R0 (ma_put (ma_put (ma_put S 67 (mI S 64 7).toNatClampNeg (.inl wd)) 68 (mI S 64 7).toNatClampNeg (.inl rf)) 64 7 (.inl ((mI S 64 7) + (1 : Int32)))) from by first | (exact (fn9_p (fn9_p (fn9_p hpre2 (by decide)) (by decide)) (by decide)))) (show (mI (ma_put (ma_put (ma_put S 67 (mI S 64 7).toNatClampNeg (.inl wd)) 68 (mI S 64 7).toNatClampNeg (.inl rf)) 64 7 (.inl ((mI S 64 7) + (1 : Int32)))) 67) = zUp k67 kn.toNatClampNeg wd ∧ (mI (ma_put (ma_put (ma_put S 67 (mI S 64 7).toNatClampNeg (.inl wd)) 68 (mI S 64 7).toNatClampNeg (.inl rf)) 64 7 (.inl ((mI S 64 7) + (1 : Int32)))) 68) = zUp k68 kn.toNatClampNeg rf from by first | (refine ⟨up_67.trans ?_, up_68.trans ?_⟩; (rw [hpre3.1, hpre3.2.2]); (rw [hpre3.2.1, hpre3.2.2])))
          · skip
            have g33 := i_nlt h24
            exact KX 3 _ (by decide) hI (show (mI S 64 1).toInt = (mI S 94 3).toInt ∧ (mI S 64 7).toInt = (mI S 94 7).toInt ∧ (3 = 2 → (wd.toInt < 0 ∨ 8 < wd.toInt ∨ rf.toInt < 0 ∨ ((1 : Int32) <<< (wd &&& 31)).toInt ≤ rf.toInt)) ∧ (3 = 3 → ¬ (wd.toInt < 0 ∨ 8 < wd.toInt ∨ rf.toInt < 0 ∨ ((1 : Int32) <<< (wd &&& 31)).toInt ≤ rf.toInt) ∧ 16 ≤ (mI S 94 7).toInt) from by omega) (show zFm I0 L0 R0 S from by first | (exact hpre2)) (show (mI S 67) = k67 ∧ (mI S 68) = k68 ∧ (mI S 64 7) = kn from by first | (exact hpre3))
        · skip
          have g34 := i_nlt h21
          exact KX 2 _ (by decide) hI (show (mI S 64 1).toInt = (mI S 94 3).toInt ∧ (mI S 64 7).toInt = (mI S 94 7).toInt ∧ (2 = 2 → (wd.toInt < 0 ∨ 8 < wd.toInt ∨ rf.toInt < 0 ∨ ((1 : Int32) <<< (wd &&& 31)).toInt ≤ rf.toInt)) ∧ (2 = 3 → ¬ (wd.toInt < 0 ∨ 8 < wd.toInt ∨ rf.toInt < 0 ∨ ((1 : Int32) <<< (wd &&& 31)).toInt ≤ rf.toInt) ∧ 16 ≤ (mI S 94 7).toInt) from by omega) (show zFm I0 L0 R0 S from by first | (exact hpre2)) (show (mI S 67) = k67 ∧ (mI S 68) = k68 ∧ (mI S 64 7) = kn from by first | (exact hpre3))

/-! from 95.i29 -/
/-! the class opens a heap (written by wip/tools/gen18c.py) -/
theorem g_160_64_sq_p0_0 {X : Nat × (Nat → Int32)} {d w : Nat} {S : ma_S} {Q : Option ma_V ⊕ Nat → ma_S → Prop} (n : Int32) (hd : 7 ≤ d) (hw : 114 ≤ w) (hS : zT S) (h : if n < 0 then (Q (.inr 2) (ma_bump S)) else (if n ≤ (1000 : Int32) then (mR S 64 11 = none ∧ (Q (.inr 3) (ma_bump S))) else (Q (.inr 2) (ma_bump S)))) : ma_wp X d w 160 0 [(0, .inr (.inr (some 64))), (1, .inl n)] [] S Q := by
  refine zw_push hm_160 dX11_step_0 (v := .inl n) rfl ?_
  refine zw_if0 hm_160 dX11_step_1 (t := 11) rfl zc0_lt ?_ ?_
  · intro hc
    rw [if_pos hc] at h
    exact zw_thr hm_160 dX11_step_11 dX11_step_14 dX11_step_15 dX11_step_18 x_11_79_81 n_11_79 (by omega) (by show 0 + 81 ≤ w; omega) h
  · intro hc
    rw [if_neg hc] at h
    refine zw_push hm_160 dX11_step_4 (v := .inl n) rfl ?_
    refine zw_push hm_160 dX11_step_5 (v := .inl (1000 : Int32)) rfl ?_
    refine zw_if2 hm_160 dX11_step_8 (t := 19) rfl zc2_le ?_ ?_
    · intro hc
      rw [if_pos hc] at h
      refine zw_push hm_160 dX11_step_19 (v := .inr (.inr (some 64))) rfl ?_
      refine zw_cv hm_160 dX11_step_20 v_11_119_11 hm_144 [] [] rfl (zT_rt hS s_64 rfl) ⟨by omega, by omega⟩ rfl ?_
      show ma_wp X (d - 1) (w - 20) 144 0 [(0, .inr (.inr (some 64)))] [] S _
      refine zw_push hm_144 dX11_needCollector_0 (v := .inr (.inr (some 64))) rfl ?_
      obtain ⟨hg, h⟩ := h
      refine zw_gf hm_144 dX11_needCollector_1 (v := .inr (.inr none)) (zT_is hS s_64) (zT_t hS s_64) rfl f_11_98_11 (congrArg (fun z => Sum.inr (Sum.inr z)) hg) ?_
      refine zw_ifnonnull hm_144 dX11_needCollector_4 (t := 15) rfl (fun _ => ?_) (fun _ z => by cases z)
      exact zw_thr hm_144 dX11_needCollector_7 dX11_needCollector_10 dX11_needCollector_11 dX11_needCollector_14 x_11_85_87 n_11_85 (by omega) (by show 0 + 81 ≤ (w - 20); omega) ⟨by decide, h⟩
    · intro hc
      rw [if_neg hc] at h
      exact zw_thr hm_160 dX11_step_11 dX11_step_14 dX11_step_15 dX11_step_18 x_11_79_81 n_11_79 (by omega) (by show 0 + 81 ≤ w; omega) h
theorem sp_160_64_sq_p0 {X : Nat × (Nat → Int32)} {d w : Nat} {f : Nat → Nat → Int32} {r : Nat → Nat → Option Nat} {C Z N : Nat} {Q : Option ma_V ⊕ Nat → ma_S → Prop} {S : ma_S} (n : Int32) (hd : 7 ≤ d) (hw : 114 ≤ w) (hI : zB f r C Z N S) (hr : r 64 11 = none)  (K : ∀ v S₉, zB f r C Z N S₉ → ((0 : Int) = 1) → Q (.inl (some (.inl v))) S₉) (KX : ∀ x S₉, (x = 2 ∨ x = 3) → zB f r C Z N S₉ → ((x = 2 ∧ (n.toInt < 0 ∨ 1000 < n.toInt)) ∨ (x = 3 ∧ 0 ≤ n.toInt ∧ n.toInt ≤ 1000)) → Q (.inr x) (ma_bump S₉)) : ma_wp X d w 160 0 [(0, .inr (.inr (some 64))), (1, .inl n)] [] S Q := by
  refine g_160_64_sq_p0_0 n (by omega) (by omega) (zG_T hI) ?_
  have b1 := i_bd n
  have li2 : (0 : Int32).toInt = 0 := rfl
  refine zd (fun h3 => ?_) (fun h3 => ?_)
  · skip
    have g4 := i_lt h3
    exact KX 2 _ (by decide) hI (show (2 = 2 ∧ (n.toInt < 0 ∨ 1000 < n.toInt)) ∨ (2 = 3 ∧ 0 ≤ n.toInt ∧ n.toInt ≤ 1000) from by omega)
  · skip
    have g5 := i_nlt h3
    have li6 : (1000 : Int32).toInt = 1000 := rfl
    refine zd (fun h7 => ?_) (fun h7 => ?_)
    · skip
      have g8 := i_le h7
      refine ⟨((zG_r hI (by decide)).trans hr), ?_⟩
      exact KX 3 _ (by decide) hI (show (3 = 2 ∧ (n.toInt < 0 ∨ 1000 < n.toInt)) ∨ (3 = 3 ∧ 0 ≤ n.toInt ∧ n.toInt ≤ 1000) from by omega)
    · skip
      have g9 := i_nle h7
      exact KX 2 _ (by decide) hI (show (2 = 2 ∧ (n.toInt < 0 ∨ 1000 < n.toInt)) ∨ (2 = 3 ∧ 0 ≤ n.toInt ∧ n.toInt ≤ 1000) from by omega)
/-! from 95.i30 -/
/-! the class opens a heap (written by wip/tools/gen18c.py) -/
theorem g_80_69_sq_0 {X : Nat × (Nat → Int32)} {d w : Nat} {S : ma_S} {Q : Option ma_V ⊕ Nat → ma_S → Prop}  (hd : 1 ≤ d) (hw : 23 ≤ w) (hS : zT S) (h : ma_wp X d w 80 2 [(0, .inr (.inr (some 69))), (1, .inl (0 : Int32))] [] S Q) : ma_wp X d w 80 0 [(0, .inr (.inr (some 69)))] [] S Q := by
  refine zw_push hm_80 dX7_forgetAll_0 (v := .inl (0 : Int32)) rfl ?_
  refine zw_sto hm_80 dX7_forgetAll_1 [(1, .inl (0 : Int32)), (0, .inr (.inr (some 69)))] rfl rfl rfl ?_
  exact zw_sub (ma_nd_of (ks := [0, 1]) rfl (by decide)) (ma_nd_of (ks := [1, 0]) rfl (by decide)) (ma_le_cons rfl (ma_le_cons rfl (ma_le_nil _))) h
theorem g_80_69_sq_2 {X : Nat × (Nat → Int32)} {d w : Nat} {S : ma_S} {Q : Option ma_V ⊕ Nat → ma_S → Prop} (l1 : Int32) (hd : 1 ≤ d) (hw : 23 ≤ w) (hS : zT S) (h : if (512 : Int32) ≤ l1 then (ma_wp X (d - 1) (w - 23) 276 0 [(0, .inr (.inr (some 71))), (1, .inl (-1 : Int32))] [] S (zv (fun S1 => zT S1 ∧ (ma_wp X (d - 1) (w - 23) 276 0 [(0, .inr (.inr (some 72))), (1, .inl (-1 : Int32))] [] S1 (zv (fun S3 => zT S3 ∧ (ma_wp X (d - 1) (w - 23) 276 0 [(0, .inr (.inr (some 73))), (1, .inl (-1 : Int32))] [] S3 (zv (fun S5 => zT S5 ∧ (Q (.inl none) (ma_put (ma_put (ma_put (ma_put (ma_put (ma_put (ma_put (ma_put S5 69 5 (.inl (0 : Int32))) 69 6 (.inl (0 : Int32))) 69 7 (.inl (0 : Int32))) 69 8 (.inl (0 : Int32))) 69 9 (.inl (0 : Int32))) 69 10 (.inl (0 : Int32))) 69 11 (.inl (0 : Int32))) 69 12 (.inl (0 : Int32))))) (fun _ _ => False)))) (fun _ _ => False)))) (fun _ _ => False))) else ((0 ≤ l1 ∧ l1.toNatClampNeg < 512) ∧ (ma_wp X d w 80 2 [(0, .inr (.inr (some 69))), (1, .inl (l1 + (1 : Int32)))] [] (ma_put S 70 l1.toNatClampNeg (.inr (.inr none))) Q))) : ma_wp X d w 80 2 [(0, .inr (.inr (some 69))), (1, .inl l1)] [] S Q := by
  refine zw_push hm_80 dX7_forgetAll_2 (v := .inl l1) rfl ?_
  refine zw_push hm_80 dX7_forgetAll_3 (v := .inl (512 : Int32)) rfl ?_
  refine zw_if2 hm_80 dX7_forgetAll_6 (t := 22) rfl zc2_ge ?_ ?_
  · intro hc
    rw [if_pos hc] at h
    refine zw_push hm_80 dX7_forgetAll_22 (v := .inr (.inr (some 69))) rfl ?_
    refine zw_gf hm_80 dX7_forgetAll_23 (v := .inr (.inr (some 71))) (zT_is hS s_69) (zT_t hS s_69) rfl f_7_17_7 (zT_f hS r_69_1) ?_
    refine zw_push hm_80 dX7_forgetAll_26 (v := .inl (-1 : Int32)) rfl ?_
    refine zw_cs hm_80 dX7_forgetAll_27 pn_7_30 sl_7_30 hm_276 [.inl (-1 : Int32), .inr (.inr (some 71))] [] rfl ⟨by omega, by omega⟩ rfl (zw_mono h (zv_go ?_ ?_))
    · intro S1 hv
      obtain ⟨hS1, h⟩ := hv
      refine zw_push hm_80 dX7_forgetAll_30 (v := .inr (.inr (some 69))) rfl ?_
      refine zw_gf hm_80 dX7_forgetAll_31 (v := .inr (.inr (some 72))) (zT_is hS1 s_69) (zT_t hS1 s_69) rfl f_7_21_7 (zT_f hS1 r_69_2) ?_
      refine zw_push hm_80 dX7_forgetAll_34 (v := .inl (-1 : Int32)) rfl ?_
      refine zw_cs hm_80 dX7_forgetAll_35 pn_7_30 sl_7_30 hm_276 [.inl (-1 : Int32), .inr (.inr (some 72))] [] rfl ⟨by omega, by omega⟩ rfl (zw_mono h (zv_go ?_ ?_))
      · intro S3 hv
        obtain ⟨hS3, h⟩ := hv
        refine zw_push hm_80 dX7_forgetAll_38 (v := .inr (.inr (some 69))) rfl ?_
        refine zw_gf hm_80 dX7_forgetAll_39 (v := .inr (.inr (some 73))) (zT_is hS3 s_69) (zT_t hS3 s_69) rfl f_7_24_7 (zT_f hS3 r_69_3) ?_
        refine zw_push hm_80 dX7_forgetAll_42 (v := .inl (-1 : Int32)) rfl ?_
        refine zw_cs hm_80 dX7_forgetAll_43 pn_7_30 sl_7_30 hm_276 [.inl (-1 : Int32), .inr (.inr (some 73))] [] rfl ⟨by omega, by omega⟩ rfl (zw_mono h (zv_go ?_ ?_))
        · intro S5 hv
          obtain ⟨hS5, h⟩ := hv
          refine zw_push hm_80 dX7_forgetAll_46 (v := .inr (.inr (some 69))) rfl ?_
          refine zw_push hm_80 dX7_forgetAll_47 (v := .inl (0 : Int32)) rfl ?_
          refine zw_pf hm_80 dX7_forgetAll_48 (zT_is hS5 s_69) (zT_t hS5 s_69) p_7_36_7 zk_int ?_
          refine zw_push hm_80 dX7_forgetAll_51 (v := .inr (.inr (some 69))) rfl ?_
          refine zw_push hm_80 dX7_forgetAll_52 (v := .inl (0 : Int32)) rfl ?_
          refine zw_pf hm_80 dX7_forgetAll_53 (zT_is (zT_pi hS5) s_69) (zT_t (zT_pi hS5) s_69) p_7_40_7 zk_int ?_
          refine zw_push hm_80 dX7_forgetAll_56 (v := .inr (.inr (some 69))) rfl ?_
          refine zw_push hm_80 dX7_forgetAll_57 (v := .inl (0 : Int32)) rfl ?_
          refine zw_pf hm_80 dX7_forgetAll_58 (zT_is (zT_pi (zT_pi hS5)) s_69) (zT_t (zT_pi (zT_pi hS5)) s_69) p_7_43_7 zk_int ?_
          refine zw_push hm_80 dX7_forgetAll_61 (v := .inr (.inr (some 69))) rfl ?_
          refine zw_push hm_80 dX7_forgetAll_62 (v := .inl (0 : Int32)) rfl ?_
          refine zw_pf hm_80 dX7_forgetAll_63 (zT_is (zT_pi (zT_pi (zT_pi hS5))) s_69) (zT_t (zT_pi (zT_pi (zT_pi hS5))) s_69) p_7_46_7 zk_int ?_
          refine zw_push hm_80 dX7_forgetAll_66 (v := .inr (.inr (some 69))) rfl ?_
          refine zw_push hm_80 dX7_forgetAll_67 (v := .inl (0 : Int32)) rfl ?_
          refine zw_pf hm_80 dX7_forgetAll_68 (zT_is (zT_pi (zT_pi (zT_pi (zT_pi hS5)))) s_69) (zT_t (zT_pi (zT_pi (zT_pi (zT_pi hS5)))) s_69) p_7_49_7 zk_int ?_
          refine zw_push hm_80 dX7_forgetAll_71 (v := .inr (.inr (some 69))) rfl ?_
          refine zw_push hm_80 dX7_forgetAll_72 (v := .inl (0 : Int32)) rfl ?_
          refine zw_pf hm_80 dX7_forgetAll_73 (zT_is (zT_pi (zT_pi (zT_pi (zT_pi (zT_pi hS5))))) s_69) (zT_t (zT_pi (zT_pi (zT_pi (zT_pi (zT_pi hS5))))) s_69) p_7_52_7 zk_int ?_
          refine zw_push hm_80 dX7_forgetAll_76 (v := .inr (.inr (some 69))) rfl ?_
          refine zw_push hm_80 dX7_forgetAll_77 (v := .inl (0 : Int32)) rfl ?_
          refine zw_pf hm_80 dX7_forgetAll_78 (zT_is (zT_pi (zT_pi (zT_pi (zT_pi (zT_pi (zT_pi hS5)))))) s_69) (zT_t (zT_pi (zT_pi (zT_pi (zT_pi (zT_pi (zT_pi hS5)))))) s_69) p_7_55_7 zk_int ?_
          refine zw_push hm_80 dX7_forgetAll_81 (v := .inr (.inr (some 69))) rfl ?_
          refine zw_push hm_80 dX7_forgetAll_82 (v := .inl (0 : Int32)) rfl ?_
          refine zw_pf hm_80 dX7_forgetAll_83 (zT_is (zT_pi (zT_pi (zT_pi (zT_pi (zT_pi (zT_pi (zT_pi hS5))))))) s_69) (zT_t (zT_pi (zT_pi (zT_pi (zT_pi (zT_pi (zT_pi (zT_pi hS5))))))) s_69) p_7_58_7 zk_int ?_
          exact zw_vret hm_80 dX7_forgetAll_86 h
        · intro x S9 hx
          exact hx.elim
      · intro x S9 hx
        exact hx.elim
    · intro x S9 hx
      exact hx.elim
  · intro hc
    rw [if_neg hc] at h
    refine zw_push hm_80 dX7_forgetAll_9 (v := .inr (.inr (some 69))) rfl ?_
    refine zw_gf hm_80 dX7_forgetAll_10 (v := .inr (.inr (some 70))) (zT_is hS s_69) (zT_t hS s_69) rfl f_7_11_7 (zT_f hS r_69_0) ?_
    refine zw_push hm_80 dX7_forgetAll_13 (v := .inl l1) rfl ?_
    refine zw_push hm_80 dX7_forgetAll_14 (v := .inr (.inr none)) rfl ?_
    obtain ⟨hg, h⟩ := h
    refine zw_aas hm_80 dX7_forgetAll_15 (zT_is hS s_70) (zT_h hS s_70) rfl hg (fun _ z => by cases z) ?_
    refine zw_sto hm_80 dX7_forgetAll_16 [(1, .inl (l1 + (1 : Int32))), (0, .inr (.inr (some 69)))] rfl rfl rfl ?_
    refine zw_goto hm_80 dX7_forgetAll_19 (t := 2) rfl ?_
    exact zw_sub (ma_nd_of (ks := [0, 1]) rfl (by decide)) (ma_nd_of (ks := [1, 0]) rfl (by decide)) (ma_le_cons rfl (ma_le_cons rfl (ma_le_nil _))) h
theorem lp_80_69_sq_2 {X : Nat × (Nat → Int32)} {d w : Nat} {f : Nat → Nat → Int32} {r : Nat → Nat → Option Nat} {C Z N : Nat} {Q : Option ma_V ⊕ Nat → ma_S → Prop} {ab : Nat→Nat→Int32} (hd : 1 ≤ d) (hw : 23 ≤ w) (K : ∀ S₉, zS f r C Z N S₉ → (xB S₉ (mR S₉ 70)) → (aS 88 S₉ = aFg ab) → Q (.inl none) S₉) : ∀ (n : Nat) (S : ma_S) (l1 : Int32), (512 - l1.toInt).toNat = n → zS f r C Z N S → (0 ≤ l1.toInt) → (l1.toInt ≤ 512) → (zNt S l1.toInt) → (aS 88 S = zDe ab l1.toInt) → ma_wp X d w 80 2 [(0, .inr (.inr (some 69))), (1, .inl l1)] [] S Q := by
  intro n
  induction n using Nat.strongRecOn with
  | _ n IH =>
    intro S l1 hmu hI  hi0 hi1 hi2 hi3
    refine g_80_69_sq_2 l1 (by omega) (by omega) (zG_T hI) ?_
    have li1 : (512 : Int32).toInt = 512 := rfl
    have b2 := i_bd l1
    refine zd (fun h3 => ?_) (fun h3 => ?_)
    · skip
      have g4 := i_le h3
      have li5 : (-1 : Int32).toInt = -1 := rfl
      refine sp_276_71_s (ab := (aS 88 S)) ((-1 : Int32)) (by omega) (by omega) (zS_dn hI) (show xB S (mR S 70) from by first | (exact Nt_e (by have z := hi2; rw [show l1.toInt = 512 from by omega] at z; exact z))) (show aS 88 S = (aS 88 S) from by first | (exact rfl)) (fun S1 hL_S1 rp0_S1 rp1_S1 => zv_n ⟨zG_T hL_S1, ?_⟩)
      have hI_S1 := zS_up hI hL_S1
      have rp0_S1 : xB S1 (mR S1 70) := by
        have z := rp0_S1
        (try rw [show mI S 65 = f 65 from funext (fun k => zG_z hI rfl)] at z)
        (try rw [show mI S 64 1 = f 64 1 from zG_z hI rfl] at z)
        exact z
      have rp1_S1 : aS 88 S1 = zFl (aS 88 S) 71 (-1 : Int32) 4500 := by
        have z := rp1_S1
        (try rw [show mI S 65 = f 65 from funext (fun k => zG_z hI rfl)] at z)
        (try rw [show mI S 64 1 = f 64 1 from zG_z hI rfl] at z)
        exact z
      refine sp_276_72_s (ab := (aS 88 S1)) ((-1 : Int32)) (by omega) (by omega) (zS_dn hI_S1) (show xB S1 (mR S1 70) from by first | (exact xB_x (xC_o (W := 75) rp0_S1).2)) (show aS 88 S1 = (aS 88 S1) from by first | (exact rfl)) (fun S3 hL_S3 rp0_S3 rp1_S3 => zv_n ⟨zG_T hL_S3, ?_⟩)
      have hI_S3 := zS_up hI_S1 hL_S3
      have rp0_S3 : xB S3 (mR S3 70) := by
        have z := rp0_S3
        (try rw [show mI S1 65 = f 65 from funext (fun k => zG_z hI_S1 rfl)] at z)
        (try rw [show mI S1 64 1 = f 64 1 from zG_z hI_S1 rfl] at z)
        exact z
      have rp1_S3 : aS 88 S3 = zFl (aS 88 S1) 72 (-1 : Int32) 16 := by
        have z := rp1_S3
        (try rw [show mI S1 65 = f 65 from funext (fun k => zG_z hI_S1 rfl)] at z)
        (try rw [show mI S1 64 1 = f 64 1 from zG_z hI_S1 rfl] at z)
        exact z
      refine sp_276_73_s (ab := (aS 88 S3)) ((-1 : Int32)) (by omega) (by omega) (zS_dn hI_S3) (show xB S3 (mR S3 70) from by first | (exact xB_x (xC_o (W := 75) rp0_S3).2)) (show aS 88 S3 = (aS 88 S3) from by first | (exact rfl)) (fun S5 hL_S5 rp0_S5 rp1_S5 => zv_n ⟨zG_T hL_S5, ?_⟩)
      have hI_S5 := zS_up hI_S3 hL_S5
      have rp0_S5 : xB S5 (mR S5 70) := by
        have z := rp0_S5
        (try rw [show mI S3 65 = f 65 from funext (fun k => zG_z hI_S3 rfl)] at z)
        (try rw [show mI S3 64 1 = f 64 1 from zG_z hI_S3 rfl] at z)
        exact z
      have rp1_S5 : aS 88 S5 = zFl (aS 88 S3) 73 (-1 : Int32) 16 := by
        have z := rp1_S5
        (try rw [show mI S3 65 = f 65 from funext (fun k => zG_z hI_S3 rfl)] at z)
        (try rw [show mI S3 64 1 = f 64 1 from zG_z hI_S3 rfl] at z)
        exact z
      have li7 : (0 : Int32).toInt = 0 := rfl
      have hI6 : zS f r C Z N (ma_put S5 69 5 (.inl (0 : Int32))) := zG_sp hI_S5 (0) (512) rfl (by decide) (by decide) (by decide) trivial (by omega) (by omega)
      have hI8 : zS f r C Z N (ma_put (ma_put S5 69 5 (.inl (0 : Int32))) 69 6 (.inl (0 : Int32))) := zG_sp hI6 (0) (512) rfl (by decide) (by decide) (by decide) trivial (by omega) (by omega)
      have hI9 : zS f r C Z N (ma_put (ma_put (ma_put S5 69 5 (.inl (0 : Int32))) 69 6 (.inl (0 : Int32))) 69 7 (.inl (0 : Int32))) := zG_fr hI8 rfl (by decide) (by decide) (by decide) trivial
      have hI10 : zS f r C Z N (ma_put (ma_put (ma_put (ma_put S5 69 5 (.inl (0 : Int32))) 69 6 (.inl (0 : Int32))) 69 7 (.inl (0 : Int32))) 69 8 (.inl (0 : Int32))) := zG_fr hI9 rfl (by decide) (by decide) (by decide) trivial
      have hI11 : zS f r C Z N (ma_put (ma_put (ma_put (ma_put (ma_put S5 69 5 (.inl (0 : Int32))) 69 6 (.inl (0 : Int32))) 69 7 (.inl (0 : Int32))) 69 8 (.inl (0 : Int32))) 69 9 (.inl (0 : Int32))) := zG_fr hI10 rfl (by decide) (by decide) (by decide) trivial
      have hI12 : zS f r C Z N (ma_put (ma_put (ma_put (ma_put (ma_put (ma_put S5 69 5 (.inl (0 : Int32))) 69 6 (.inl (0 : Int32))) 69 7 (.inl (0 : Int32))) 69 8 (.inl (0 : Int32))) 69 9 (.inl (0 : Int32))) 69 10 (.inl (0 : Int32))) := zG_fr hI11 rfl (by decide) (by decide) (by decide) trivial
      have hI13 : zS f r C Z N (ma_put (ma_put (ma_put (ma_put (ma_put (ma_put (ma_put S5 69 5 (.inl (0 : Int32))) 69 6 (.inl (0 : Int32))) 69 7 (.inl (0 : Int32))) 69 8 (.inl (0 : Int32))) 69 9 (.inl (0 : Int32))) 69 10 (.inl (0 : Int32))) 69 11 (.inl (0 : Int32))) := zG_fr hI12 rfl (by decide) (by decide) (by decide) trivial
      have hI14 : zS f r C Z N (ma_put (ma_put (ma_put (ma_put (ma_put (ma_put (ma_put (ma_put S5 69 5 (.inl (0 : Int32))) 69 6 (.inl (0 : Int32))) 69 7 (.inl (0 : Int32))) 69 8 (.inl (0 : Int32))) 69 9 (.inl (0 : Int32))) 69 10 (.inl (0 : Int32))) 69 11 (.inl (0 : Int32))) 69 12 (.inl (0 : Int32))) := zG_fr hI13 rfl (by decide) (by decide) (by decide) trivial
      exact K _ hI14 (show xB (ma_put (ma_put (ma_put (ma_put (ma_put (ma_put (ma_put (ma_put S5 69 5 (.inl (0 : Int32))) 69 6 (.inl (0 : Int32))) 69 7 (.inl (0 : Int32))) 69 8 (.inl (0 : Int32))) 69 9 (.inl (0 : Int32))) 69 10 (.inl (0 : Int32))) 69 11 (.inl (0 : Int32))) 69 12 (.inl (0 : Int32))) (mR (ma_put (ma_put (ma_put (ma_put (ma_put (ma_put (ma_put (ma_put S5 69 5 (.inl (0 : Int32))) 69 6 (.inl (0 : Int32))) 69 7 (.inl (0 : Int32))) 69 8 (.inl (0 : Int32))) 69 9 (.inl (0 : Int32))) 69 10 (.inl (0 : Int32))) 69 11 (.inl (0 : Int32))) 69 12 (.inl (0 : Int32))) 70) from by first | (exact xB_x (xC_n (c := 69) (k := 12) (x := (0 : Int32)) (xC_p (c := 69) (k := 11) (x := (0 : Int32)) (xC_n (c := 69) (k := 10) (x := (0 : Int32)) (xC_n (c := 69) (k := 9) (x := (0 : Int32)) (xC_p (c := 69) (k := 8) (x := (0 : Int32)) (xC_n (c := 69) (k := 7) (x := (0 : Int32)) (xC_p (c := 69) (k := 6) (x := (0 : Int32)) (xC_p (c := 69) (k := 5) (x := (0 : Int32)) (xC_o (W := 75) rp0_S5) 69 xW75 rfl rfl) 69 xW75 rfl rfl) ⟨by decide, Or.inl ⟨rfl, rfl⟩⟩) 69 xW75 rfl rfl) ⟨by decide, Or.inl ⟨rfl, rfl⟩⟩) ⟨by decide, Or.inl ⟨rfl, rfl⟩⟩) 69 xW75 rfl rfl) ⟨by decide, Or.inl ⟨rfl, rfl⟩⟩).2)) (show aS 88 (ma_put (ma_put (ma_put (ma_put (ma_put (ma_put (ma_put (ma_put S5 69 5 (.inl (0 : Int32))) 69 6 (.inl (0 : Int32))) 69 7 (.inl (0 : Int32))) 69 8 (.inl (0 : Int32))) 69 9 (.inl (0 : Int32))) 69 10 (.inl (0 : Int32))) 69 11 (.inl (0 : Int32))) 69 12 (.inl (0 : Int32))) = aFg ab from by first | (refine (xC_n (c := 69) (k := 12) (x := (0 : Int32)) (xC_p (c := 69) (k := 11) (x := (0 : Int32)) (xC_n (c := 69) (k := 10) (x := (0 : Int32)) (xC_n (c := 69) (k := 9) (x := (0 : Int32)) (xC_p (c := 69) (k := 8) (x := (0 : Int32)) (xC_n (c := 69) (k := 7) (x := (0 : Int32)) (xC_p (c := 69) (k := 6) (x := (0 : Int32)) (xC_p (c := 69) (k := 5) (x := (0 : Int32)) (xC_o (W := 88) rp0_S5) 69 xW88 rfl rfl) 69 xW88 rfl rfl) ⟨by decide, Or.inr ⟨rfl, Or.inr ⟨rfl, by decide⟩⟩⟩) 69 xW88 rfl rfl) ⟨by decide, Or.inr ⟨rfl, Or.inr ⟨rfl, by decide⟩⟩⟩) ⟨by decide, Or.inr ⟨rfl, Or.inr ⟨rfl, by decide⟩⟩⟩) 69 xW88 rfl rfl) ⟨by decide, Or.inr ⟨rfl, Or.inr ⟨rfl, by decide⟩⟩⟩).1.trans ?_; rw [rp1_S5, rp1_S3, rp1_S1, hi3, show l1.toInt = 512 from by omega]; rfl))
    · skip
      have g15 := i_nle h3
      refine ⟨i_ix (by omega) (by omega), ?_⟩
      have hI16 : zS f r C Z N (ma_put S 70 l1.toNatClampNeg (.inr (.inr none))) := zG_rf hI (by decide) (by decide +kernel) (fun _ z => by cases z)
      first | have e17 : (l1 + (1 : Int32)).toInt = l1.toInt + (1) := i_addk rfl (by omega) (by omega) | have b18 := i_bd (l1 + (1 : Int32))
      exact IH _ (by omega) _ ((l1 + (1 : Int32))) rfl hI16 (by omega) (by omega) (show zNt (ma_put S 70 l1.toNatClampNeg (.inr (.inr none))) ((l1 + (1 : Int32))).toInt from by first | (exact Nt_0) | (exact Nt_s hi2 (by omega) (by omega))) (show aS 88 (ma_put S 70 l1.toNatClampNeg (.inr (.inr none))) = zDe ab ((l1 + (1 : Int32))).toInt from by first | (refine aS_n0.trans ?_; rw [hi3]; exact zDe_s (by omega) (by omega)))
theorem sp_80_69_sq {X : Nat × (Nat → Int32)} {d w : Nat} {f : Nat → Nat → Int32} {r : Nat → Nat → Option Nat} {C Z N : Nat} {Q : Option ma_V ⊕ Nat → ma_S → Prop} {ab : Nat→Nat→Int32} {S : ma_S}  (hd : 1 ≤ d) (hw : 23 ≤ w) (hI : zS f r C Z N S) (hpre0 : aS 88 S = ab) (K : ∀ S₉, zS f r C Z N S₉ → (xB S₉ (mR S₉ 70)) → (aS 88 S₉ = aFg ab) → Q (.inl none) S₉) : ma_wp X d w 80 0 [(0, .inr (.inr (some 69)))] [] S Q := by
  refine g_80_69_sq_0  (by omega) (by omega) (zG_T hI) ?_
  have li1 : (0 : Int32).toInt = 0 := rfl
  exact lp_80_69_sq_2 (by omega) (by omega) K _ _ ((0 : Int32)) rfl hI (by omega) (by omega) (show zNt S ((0 : Int32)).toInt from by first | (exact Nt_0)) (show aS 88 S = zDe ab ((0 : Int32)).toInt from by first | (rw [hpre0]; exact zDe_0.symm))
theorem g_101_87_sq_0 {X : Nat × (Nat → Int32)} {d w : Nat} {S : ma_S} {Q : Option ma_V ⊕ Nat → ma_S → Prop}  (hd : 0 ≤ d) (hw : 0 ≤ w) (hS : zT S) (h : Q (.inl (some (.inl (mI S 87 0)))) S) : ma_wp X d w 101 0 [(0, .inr (.inr (some 87)))] [] S Q := by
  refine zw_push hm_101 dX8_total_0 (v := .inr (.inr (some 87))) rfl ?_
  refine zw_gf hm_101 dX8_total_1 (v := .inl (mI S 87 0)) (zT_is hS s_87) (zT_t hS s_87) rfl f_8_9_6 rfl ?_
  exact zw_iret hm_101 dX8_total_4 h
theorem sp_101_87_sq {X : Nat × (Nat → Int32)} {d w : Nat} {f : Nat → Nat → Int32} {r : Nat → Nat → Option Nat} {C Z N : Nat} {Q : Option ma_V ⊕ Nat → ma_S → Prop} {S : ma_S}  (hd : 0 ≤ d) (hw : 0 ≤ w) (hI : zJ87 f r C Z N S)  (K : ∀ v S₉, S₉ = S → (True) → Q (.inl (some (.inl v))) S₉) : ma_wp X d w 101 0 [(0, .inr (.inr (some 87)))] [] S Q := by
  refine g_101_87_sq_0  (by omega) (by omega) (zG_T hI) ?_
  have f1 := zG_s hI (0) (1500) (c := 87) (k := 0) (by decide)
  exact K ((mI S 87 0)) _ rfl trivial

/-! from 95.i31 -/
/-! the class opens a heap (written by wip/tools/gen18c.py) -/
theorem hp_ng {v s : Int32} {Z : Int} {W : Prop} (h : (v.toInt = -1 ∧ -1 - s.toInt = Z) ∨ (v.toInt ≠ -1 ∧ W)) (hv : v.toInt = -1) (h0 : 0 ≤ s.toInt) : Z < 0 := by
  rcases h with h | h
  · omega
  · exact absurd hv h.1
