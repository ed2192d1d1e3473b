/-! from 95.m29 -/
/-! COUNTS, the class (written by wip/tools/gen20k.py) -/
theorem g_145_64_84_sk_0 {X : Nat × (Nat → Int32)} {d w : Nat} {S : ma_S} {Q : Option ma_V ⊕ Nat → ma_S → Prop} (i : Int32) (x : Option Nat) (hd : 5 ≤ d) (hw : 110 ≤ w) (hS : zT S) (h : ma_wp X (d - 1) (w - 23) 92 0 [(0, .inr (.inr (some 69))), (1, .inl i), (2, .inr (.inr x))] [] S (zo (fun v2 S1 => zT S1 ∧ (ma_wp X (d - 1) (w - 24) 24 0 [(0, .inr (.inr (some 84))), (1, .inr (.inr v2))] [] S1 (zv (fun S3 => zT S3 ∧ (Q (.inl (some (.inr (.inr v2)))) S3)) (fun _ _ => False)))) (fun x S9 => Q (.inr x) S9))) : ma_wp X d w 145 0 [(0, .inr (.inr (some 64))), (1, .inr (.inr (some 84))), (2, .inl i), (3, .inr (.inr x))] [] S Q := by
  refine zw_push hm_145 dX11_changeRoot_0 (v := .inr (.inr (some 64))) rfl ?_
  refine zw_gf hm_145 dX11_changeRoot_1 (v := .inr (.inr (some 69))) (zT_is hS s_64) (zT_t hS s_64) rfl f_11_26_11 (zT_f hS r_64_8) ?_
  refine zw_push hm_145 dX11_changeRoot_4 (v := .inl i) rfl ?_
  refine zw_push hm_145 dX11_changeRoot_5 (v := .inr (.inr x)) rfl ?_
  refine zw_cv hm_145 dX11_changeRoot_6 v_11_379_7 hm_92 [.inr (.inr x), .inl i] [] rfl (zT_rt hS s_69 rfl) ⟨by omega, by omega⟩ rfl (zw_mono h (zo_go ?_ ?_))
  · intro v2 S1 hv
    obtain ⟨hS1, h⟩ := hv
    refine zw_sto hm_145 dX11_changeRoot_9 [(4, .inr (.inr v2)), (0, .inr (.inr (some 64))), (1, .inr (.inr (some 84))), (2, .inl i), (3, .inr (.inr x))] rfl rfl rfl ?_
    refine zw_push hm_145 dX11_changeRoot_11 (v := .inr (.inr (some 84))) rfl ?_
    refine zw_push hm_145 dX11_changeRoot_12 (v := .inr (.inr v2)) rfl ?_
    refine zw_push hm_145 dX11_changeRoot_14 (v := .inr (.inr x)) rfl ?_
    refine zw_cv hm_145 dX11_changeRoot_15 v_11_153_2 hm_265 [.inr (.inr x), .inr (.inr v2)] [] rfl (zT_rt hS1 s_84 rfl) ⟨by omega, by omega⟩ rfl ?_
    show ma_wp X (d - 1) (w - 22) 265 0 [(0, .inr (.inr (some 84))), (1, .inr (.inr v2)), (2, .inr (.inr x))] [] S1 _
    refine zw_vret hm_265 dX1_noteChange_0 ?_
    show ma_wp X d w 145 18 [(4, .inr (.inr v2)), (0, .inr (.inr (some 64))), (1, .inr (.inr (some 84))), (2, .inl i), (3, .inr (.inr x))] [] S1 _
    refine zw_push hm_145 dX11_changeRoot_18 (v := .inr (.inr (some 84))) rfl ?_
    refine zw_push hm_145 dX11_changeRoot_19 (v := .inr (.inr v2)) rfl ?_
    refine zw_cv hm_145 dX11_changeRoot_21 v_11_157_2 hm_24 [.inr (.inr v2)] [] rfl (zT_rt hS1 s_84 rfl) ⟨by omega, by omega⟩ rfl (zw_mono h (zv_go ?_ ?_))
    · intro S3 hv
      obtain ⟨hS3, h⟩ := hv
      refine zw_push hm_145 dX11_changeRoot_24 (v := .inr (.inr v2)) rfl ?_
      exact zw_aret hm_145 dX11_changeRoot_26 h
    · intro x S9 hx
      exact hx.elim
  · intro x S9 hx
    exact ⟨by decide, hx⟩
theorem sp_145_64_84_sk {X : Nat × (Nat → Int32)} {d w : Nat} {f : Nat → Nat → Int32} {r : Nat → Nat → Option Nat} {C Z N : Nat} {Q : Option ma_V ⊕ Nat → ma_S → Prop} {ab : Nat→Nat→Int32} {R : zRT} {W : Nat} {kk : Nat→Int32} {y : Int32} {B : Int} {fq : Nat→Int32} {n0 : Nat→Nat→Int32} {S : ma_S} (i : Int32) (x : Option Nat) (hd : 5 ≤ d) (hw : 110 ≤ w) (hI : zJ84 f r C Z N S) (hq_x : ∀ c, x = some c → 126 ≤ c ∧ c < N) (hpre0 : xB S R) (hpre1 : aS W S = ab) (hpre2 : xW W) (hpre3 : x = zTa R y) (hpre4 : 0 ≤ i.toInt) (hpre5 : i.toInt ≤ 15) (hpre6 : kC S = kk) (hpre7 : cC ab [] kk B) (hpre8 : B ≤ 1000000) (hpre9 : zfP 84 (mI S) = fq) (hpre10 : zN0 S = n0) (K : ∀ v S₉, zJ84 f r C Z N S₉ → (∀ c, v = some c → 126 ≤ c ∧ c < N) → (xB S₉ (mR S₉ 70)) → (aS W S₉ = cLe (aR0 ab i y) (ab 72 i.toNatClampNeg)) → (v = zTa R (ab 72 i.toNatClampNeg)) → (cC (aS W S₉) [] (kC S₉) B) → (zfP 84 (mI S₉) = fq) → (zN0 S₉ = n0) → Q (.inl (some (.inr (.inr v)))) S₉) : ma_wp X d w 145 0 [(0, .inr (.inr (some 64))), (1, .inr (.inr (some 84))), (2, .inl i), (3, .inr (.inr x))] [] S Q := by
  refine g_145_64_84_sk_0 i x (by omega) (by omega) (zG_T hI) ?_
  have b1 := i_bd i
  refine sp_92_69_sk (ab := (aS W S)) (R := R) (W := W) (y := (y)) (kk := (kC S)) (n0 := n0) (i) (x) (by omega) (by omega) (zJ84_dn hI) hq_x (show xB S R from by first | (exact (xC_o (W := 75) hpre0).2)) (show aS W S = (aS W S) from by first | (exact rfl)) (show xW W from by first | (exact hpre2) | (exact xW88) | (exact xW75)) (show x = zTa R (y) from by first | (exact hpre3)) (by omega) (by omega) (show kC S = (kC S) from by first | (exact rfl)) (show zN0 S = n0 from by first | (exact hpre10)) (fun v2 S1 hL_S1 hq_v2 rp0_S1 rp1_S1 rp2_S1 rp3_S1 rp4_S1 => zo_n ⟨zG_T hL_S1, ?_⟩)
  have hI_S1 := zJ84_up hI hL_S1
  have rp0_S1 : xB S1 R := by
    have z := rp0_S1
    (try rw [show mI S 65 = f 65 from funext (fun k => zG_z hI rfl)] at z)
    (try rw [show mI S 64 1 = f 64 1 from zG_z hI rfl] at z)
    exact z
  have rp1_S1 : aS W S1 = ma_u (aS W S) 72 i.toNatClampNeg (aNm (aS W S) (y)) := by
    have z := rp1_S1
    (try rw [show mI S 65 = f 65 from funext (fun k => zG_z hI rfl)] at z)
    (try rw [show mI S 64 1 = f 64 1 from zG_z hI rfl] at z)
    exact z
  have rp2_S1 : v2 = zTa R ((aS W S) 72 i.toNatClampNeg) := by
    have z := rp2_S1
    (try rw [show mI S 65 = f 65 from funext (fun k => zG_z hI rfl)] at z)
    (try rw [show mI S 64 1 = f 64 1 from zG_z hI rfl] at z)
    exact z
  have rp3_S1 : ∀ n, xAl (aS W S) n → kC S1 n = (kC S) n + Int32.ofNat (cIs (y) n) - Int32.ofNat (cIs ((aS W S) 72 i.toNatClampNeg) n) := by
    have z := rp3_S1
    (try rw [show mI S 65 = f 65 from funext (fun k => zG_z hI rfl)] at z)
    (try rw [show mI S 64 1 = f 64 1 from zG_z hI rfl] at z)
    exact z
  have rp4_S1 : zN0 S1 = n0 := by
    have z := rp4_S1
    (try rw [show mI S 65 = f 65 from funext (fun k => zG_z hI rfl)] at z)
    (try rw [show mI S 64 1 = f 64 1 from zG_z hI rfl] at z)
    exact z
  refine sp_24_84_sk (ab := (aS W S1)) (W := W) (kk := (kC S1)) (y := (((aS W S) 72 i.toNatClampNeg))) (B := B) (fq := (zfP 84 (mI S1))) (n0 := n0) (v2) (by omega) (by omega) hI_S1 hq_v2 (show xB S1 (mR S1 70) from by first | (exact xB_x (xC_o (W := W) rp0_S1).2)) (show aS W S1 = (aS W S1) from by first | (exact rfl)) (show xW W from by first | (exact hpre2) | (exact xW88) | (exact xW75)) (show v2 = zTa (mR S1 70) (((aS W S) 72 i.toNatClampNeg)) from by first | (rw [rp0_S1.1]; exact rp2_S1) | (exact rp2_S1)) (show kC S1 = (kC S1) from by first | (exact rfl)) (show cC (aS W S1) [] (kC S1) B from by first | (rw [rp1_S1, hpre1]; exact C_rt hpre7 (by omega) (fun n hn => by have q := rp3_S1 n (by rw [hpre1]; exact hn); rw [hpre6, hpre1] at q; exact q)) | (rw [rp1_S1, hpre1]; refine C_rt hpre7 (by have h0 : 0 ≤ i.toInt := (by omega); have h1 := tn_cast h0; omega) (fun n hn => ?_); have q := rp3_S1 n (by rw [hpre1]; exact hn); rw [hpre6, hpre1] at q; exact q)) (show cOk (aS W S1) (((aS W S) 72 i.toNatClampNeg)) from by first | (rw [rp1_S1, hpre1]; exact (cOk_cg (u_al (by decide))).mpr ((C0_un hpre7).2.1.1 i.toNatClampNeg (by have h0 : 0 ≤ i.toInt := (by omega); have h1 := tn_cast h0; omega)))) (show B ≤ 1000000 from by first | (exact hpre8)) (show zfP 84 (mI S1) = (zfP 84 (mI S1)) from by first | (exact rfl)) (show zN0 S1 = n0 from by first | (exact rp4_S1)) (fun S3 hI_S3 rp0_S3 rp1_S3 rp2_S3 rp3_S3 => zv_n ⟨zG_T hI_S3, ?_⟩)
  have rp0_S3 : xB S3 (mR S3 70) := rp0_S3
  have rp1_S3 : aS W S3 = cLe (aS W S1) (((aS W S) 72 i.toNatClampNeg)) ∧ cC (aS W S3) [] (kC S3) B := rp1_S3
  have rp2_S3 : zfP 84 (mI S3) = (zfP 84 (mI S1)) := rp2_S3
  have rp3_S3 : zN0 S3 = n0 := rp3_S3
  exact K (v2) _ hI_S3 hq_v2 (show xB S3 (mR S3 70) from by first | (exact xB_x (xC_o (W := W) rp0_S3).2)) (show aS W S3 = cLe (aR0 ab i y) (ab 72 i.toNatClampNeg) from by first | (have np := rp1_S3.1; rw [rp1_S1, hpre1] at np; exact np)) (show v2 = zTa R (ab 72 i.toNatClampNeg) from by first | (rw [← hpre1]; exact rp2_S1) | (exact rp2_S1)) (show cC (aS W S3) [] (kC S3) B from by first | (exact rp1_S3.2)) (show zfP 84 (mI S3) = fq from by first | (exact (rp2_S3.trans ((zf_fr (P := 84) (S₉ := S1) (S := S) (fun _ => zG_z hL_S1 rfl)).trans hpre9)))) (show zN0 S3 = n0 from by first | (exact rp3_S3))
theorem g_149_64_sk_0 {X : Nat × (Nat → Int32)} {d w : Nat} {S : ma_S} {Q : Option ma_V ⊕ Nat → ma_S → Prop} (n : Int32) (hd : 6 ≤ d) (hw : 89 ≤ w) (hS : zT S) (h : ma_wp X (d - 1) (w - 20) 116 0 [(0, .inr (.inr (some 75)))] [] S (zv (fun S1 => zT S1 ∧ (if n < 0 then (Q (.inr 4) (ma_bump S1)) else (if (512 : Int32) ≤ n then (Q (.inr 4) (ma_bump S1)) else ((0 ≤ n ∧ n.toNatClampNeg < 512) ∧ (((mR S1 70 n.toNatClampNeg) = none → Q (.inr 4) (ma_bump S1)) ∧ (∀ c3, (mR S1 70 n.toNatClampNeg) = some c3 → (126 ≤ c3 ∧ c3 < mN S1) ∧ (if (mI S1 c3 4) < (mI S1 75 5) then (Q (.inl (some (.inr (.inr (some c3))))) S1) else ((126 ≤ c3 ∧ c3 < mN S1) ∧ (if (512 : Int32) ≤ (mI S1 c3 0) then (Q (.inr 4) (ma_bump S1)) else ((126 ≤ c3 ∧ c3 < mN S1) ∧ ((0 ≤ (mI S1 c3 0) ∧ (mI S1 c3 0).toNatClampNeg < 512) ∧ (if (mI S1 77 (mI S1 c3 0).toNatClampNeg) = 0 then (Q (.inr 4) (ma_bump S1)) else (Q (.inl (some (.inr (.inr (some c3))))) S1))))))))))))) (fun x S9 => Q (.inr x) S9))) : ma_wp X d w 149 0 [(0, .inr (.inr (some 64))), (1, .inl n)] [] S Q := by
  refine zw_push hm_149 dX11_needReached_0 (v := .inr (.inr (some 64))) rfl ?_
  refine zw_gf hm_149 dX11_needReached_1 (v := .inr (.inr (some 75))) (zT_is hS s_64) (zT_t hS s_64) rfl f_11_35_11 (zT_f hS r_64_9) ?_
  refine zw_cv hm_149 dX11_needReached_4 v_11_358_10 hm_116 [] [] rfl (zT_rt hS s_75 rfl) ⟨by omega, by omega⟩ rfl (zw_mono h (zv_go ?_ ?_))
  · intro S1 hv
    obtain ⟨hS1, h⟩ := hv
    refine zw_push hm_149 dX11_needReached_7 (v := .inr (.inr (some 64))) rfl ?_
    refine zw_gf hm_149 dX11_needReached_8 (v := .inr (.inr (some 69))) (zT_is hS1 s_64) (zT_t hS1 s_64) rfl f_11_26_11 (zT_f hS1 r_64_8) ?_
    refine zw_push hm_149 dX11_needReached_11 (v := .inl n) rfl ?_
    refine zw_cv hm_149 dX11_needReached_12 v_11_176_7 hm_81 [.inl n] [] rfl (zT_rt hS1 s_69 rfl) ⟨by omega, by omega⟩ rfl ?_
    show ma_wp X (d - 1) (w - 21) 81 0 [(0, .inr (.inr (some 69))), (1, .inl n)] [] S1 _
    refine zw_push hm_81 dX7_thingAt_0 (v := .inl n) rfl ?_
    refine zw_if0 hm_81 dX7_thingAt_1 (t := 20) rfl zc0_lt ?_ ?_
    · intro hc
      rw [if_pos hc] at h
      refine zw_push hm_81 dX7_thingAt_20 (v := .inr (.inr none)) rfl ?_
      refine zw_aret hm_81 dX7_thingAt_21 ?_
      show ma_wp X d w 149 15 [(0, .inr (.inr (some 64))), (1, .inl n)] [.inr (.inr none)] S1 _
      refine zw_sto hm_149 dX11_needReached_15 [(2, .inr (.inr none)), (0, .inr (.inr (some 64))), (1, .inl n)] rfl rfl rfl ?_
      refine zw_push hm_149 dX11_needReached_16 (v := .inr (.inr none)) rfl ?_
      refine zw_ifnull hm_149 dX11_needReached_17 (t := 31) rfl (fun _ => ?_) (fun _ z => by cases z)
      exact zw_thr hm_149 dX11_needReached_31 dX11_needReached_34 dX11_needReached_35 dX11_needReached_38 x_11_364_366 n_11_364 (by omega) (by show 0 + 81 ≤ w; omega) h
    · intro hc
      rw [if_neg hc] at h
      refine zw_push hm_81 dX7_thingAt_4 (v := .inl n) rfl ?_
      refine zw_push hm_81 dX7_thingAt_5 (v := .inl (512 : Int32)) rfl ?_
      refine zw_if2 hm_81 dX7_thingAt_8 (t := 20) rfl zc2_ge ?_ ?_
      · intro hc
        rw [if_pos hc] at h
        refine zw_push hm_81 dX7_thingAt_20 (v := .inr (.inr none)) rfl ?_
        refine zw_aret hm_81 dX7_thingAt_21 ?_
        show ma_wp X d w 149 15 [(0, .inr (.inr (some 64))), (1, .inl n)] [.inr (.inr none)] S1 _
        refine zw_sto hm_149 dX11_needReached_15 [(2, .inr (.inr none)), (0, .inr (.inr (some 64))), (1, .inl n)] rfl rfl rfl ?_
        refine zw_push hm_149 dX11_needReached_16 (v := .inr (.inr none)) rfl ?_
        refine zw_ifnull hm_149 dX11_needReached_17 (t := 31) rfl (fun _ => ?_) (fun _ z => by cases z)
        exact zw_thr hm_149 dX11_needReached_31 dX11_needReached_34 dX11_needReached_35 dX11_needReached_38 x_11_364_366 n_11_364 (by omega) (by show 0 + 81 ≤ w; omega) h
      · intro hc
        rw [if_neg hc] at h
        refine zw_push hm_81 dX7_thingAt_11 (v := .inr (.inr (some 69))) rfl ?_
        refine zw_gf hm_81 dX7_thingAt_12 (v := .inr (.inr (some 70))) (zT_is hS1 s_69) (zT_t hS1 s_69) rfl f_7_11_7 (zT_f hS1 r_69_0) ?_
        refine zw_push hm_81 dX7_thingAt_15 (v := .inl n) rfl ?_
        obtain ⟨hg, h⟩ := h
        refine zw_aa hm_81 dX7_thingAt_16 (zT_is hS1 s_70) (zT_h hS1 s_70) rfl rfl hg rfl ?_
        show ma_wp X (d - 1) (w - 21) 81 17 [(0, .inr (.inr (some 69))), (1, .inl n)] [.inr (.inr (mR S1 70 n.toNatClampNeg))] S1 _
        refine zw_goto hm_81 dX7_thingAt_17 (t := 21) rfl ?_
        refine zw_aret hm_81 dX7_thingAt_21 ?_
        show ma_wp X d w 149 15 [(0, .inr (.inr (some 64))), (1, .inl n)] [.inr (.inr (mR S1 70 n.toNatClampNeg))] S1 _
        refine zw_sto hm_149 dX11_needReached_15 [(2, .inr (.inr (mR S1 70 n.toNatClampNeg))), (0, .inr (.inr (some 64))), (1, .inl n)] rfl rfl rfl ?_
        refine zw_push hm_149 dX11_needReached_16 (v := .inr (.inr (mR S1 70 n.toNatClampNeg))) rfl ?_
        refine zw_ifnull hm_149 dX11_needReached_17 (t := 31) rfl ?_ ?_
        · intro hc
          have h := h.1 hc
          (try rw [hc])
          show ma_wp X d w 149 31 [(2, .inr (.inr none)), (0, .inr (.inr (some 64))), (1, .inl n)] [] S1 _
          exact zw_thr hm_149 dX11_needReached_31 dX11_needReached_34 dX11_needReached_35 dX11_needReached_38 x_11_364_366 n_11_364 (by omega) (by show 0 + 81 ≤ w; omega) h
        · intro c3 hc
          have h := h.2 c3 hc
          (try rw [hc])
          show ma_wp X d w 149 20 [(2, .inr (.inr (some c3))), (0, .inr (.inr (some 64))), (1, .inl n)] [] S1 _
          refine zw_push hm_149 dX11_needReached_20 (v := .inr (.inr (some 64))) rfl ?_
          refine zw_gf hm_149 dX11_needReached_21 (v := .inr (.inr (some 75))) (zT_is hS1 s_64) (zT_t hS1 s_64) rfl f_11_35_11 (zT_f hS1 r_64_9) ?_
          refine zw_push hm_149 dX11_needReached_24 (v := .inr (.inr (some c3))) rfl ?_
          refine zw_cv hm_149 dX11_needReached_25 v_11_361_10 hm_122 [.inr (.inr (some c3))] [] rfl (zT_rt hS1 s_75 rfl) ⟨by omega, by omega⟩ rfl ?_
          show ma_wp X (d - 1) (w - 21) 122 0 [(0, .inr (.inr (some 75))), (1, .inr (.inr (some c3)))] [] S1 _
          refine zw_push hm_122 dX10_keeps_0 (v := .inr (.inr (some c3))) rfl ?_
          obtain ⟨hg, h⟩ := h
          refine zw_gf hm_122 dX10_keeps_1 (v := .inl (mI S1 c3 4)) (zT_tis hS1 hg) (zT_tt hS1 hg) rfl f_10_49_9 rfl ?_
          refine zw_push hm_122 dX10_keeps_4 (v := .inr (.inr (some 75))) rfl ?_
          refine zw_gf hm_122 dX10_keeps_5 (v := .inl (mI S1 75 5)) (zT_is hS1 s_75) (zT_t hS1 s_75) rfl f_10_35_10 rfl ?_
          refine zw_if2 hm_122 dX10_keeps_8 (t := 19) rfl zc2_lt ?_ ?_
          · intro hc
            rw [if_pos hc] at h
            refine zw_push hm_122 dX10_keeps_19 (v := .inl (1 : Int32)) rfl ?_
            refine zw_goto hm_122 dX10_keeps_20 (t := 24) rfl ?_
            refine zw_bret hm_122 dX10_keeps_24 (by decide) ?_
            show ma_wp X d w 149 28 [(2, .inr (.inr (some c3))), (0, .inr (.inr (some 64))), (1, .inl n)] [.inl (1 : Int32)] S1 _
            refine zw_if0 hm_149 dX11_needReached_28 (t := 39) rfl zc0_ne (fun _ => ?_) (fun hc => absurd (by decide) hc)
            refine zw_push hm_149 dX11_needReached_39 (v := .inr (.inr (some c3))) rfl ?_
            exact zw_aret hm_149 dX11_needReached_40 h
          · intro hc
            rw [if_neg hc] at h
            refine zw_push hm_122 dX10_keeps_11 (v := .inr (.inr (some 75))) rfl ?_
            refine zw_push hm_122 dX10_keeps_12 (v := .inr (.inr (some c3))) rfl ?_
            refine zw_cv hm_122 dX10_keeps_13 v_10_54_10 hm_123 [.inr (.inr (some c3))] [] rfl (zT_rt hS1 s_75 rfl) ⟨by omega, by omega⟩ rfl ?_
            show ma_wp X ((d - 1) - 1) ((w - 21) - 21) 123 0 [(0, .inr (.inr (some 75))), (1, .inr (.inr (some c3)))] [] S1 _
            refine zw_push hm_123 dX10_colourOf_0 (v := .inr (.inr (some c3))) rfl ?_
            obtain ⟨hg, h⟩ := h
            refine zw_gf hm_123 dX10_colourOf_1 (v := .inl (mI S1 c3 0)) (zT_tis hS1 hg) (zT_tt hS1 hg) rfl f_10_58_9 rfl ?_
            refine zw_push hm_123 dX10_colourOf_4 (v := .inl (512 : Int32)) rfl ?_
            refine zw_if2 hm_123 dX10_colourOf_7 (t := 22) rfl zc2_ge ?_ ?_
            · intro hc
              rw [if_pos hc] at h
              refine zw_push hm_123 dX10_colourOf_22 (v := .inl (0 : Int32)) rfl ?_
              refine zw_iret hm_123 dX10_colourOf_23 ?_
              show ma_wp X (d - 1) (w - 21) 122 16 [(0, .inr (.inr (some 75))), (1, .inr (.inr (some c3)))] [.inl (0 : Int32)] S1 _
              refine zw_if0 hm_122 dX10_keeps_16 (t := 23) rfl zc0_eq (fun _ => ?_) (fun hc => absurd (by decide) hc)
              refine zw_push hm_122 dX10_keeps_23 (v := .inl (0 : Int32)) rfl ?_
              refine zw_bret hm_122 dX10_keeps_24 (by decide) ?_
              show ma_wp X d w 149 28 [(2, .inr (.inr (some c3))), (0, .inr (.inr (some 64))), (1, .inl n)] [.inl (0 : Int32)] S1 _
              refine zw_if0 hm_149 dX11_needReached_28 (t := 39) rfl zc0_ne (fun hc => absurd hc (by decide)) (fun _ => ?_)
              exact zw_thr hm_149 dX11_needReached_31 dX11_needReached_34 dX11_needReached_35 dX11_needReached_38 x_11_364_366 n_11_364 (by omega) (by show 0 + 81 ≤ w; omega) h
            · intro hc
              rw [if_neg hc] at h
              refine zw_push hm_123 dX10_colourOf_10 (v := .inr (.inr (some 75))) rfl ?_
              refine zw_gf hm_123 dX10_colourOf_11 (v := .inr (.inr (some 77))) (zT_is hS1 s_75) (zT_t hS1 s_75) rfl f_10_15_10 (zT_f hS1 r_75_2) ?_
              refine zw_push hm_123 dX10_colourOf_14 (v := .inr (.inr (some c3))) rfl ?_
              obtain ⟨hg, h⟩ := h
              refine zw_gf hm_123 dX10_colourOf_15 (v := .inl (mI S1 c3 0)) (zT_tis hS1 hg) (zT_tt hS1 hg) rfl f_10_58_9 rfl ?_
              obtain ⟨hg, h⟩ := h
              refine zw_ia hm_123 dX10_colourOf_18 (zT_is hS1 s_77) (zT_h hS1 s_77) rfl hg ?_
              show ma_wp X ((d - 1) - 1) ((w - 21) - 21) 123 19 [(0, .inr (.inr (some 75))), (1, .inr (.inr (some c3)))] [.inl (mI S1 77 (mI S1 c3 0).toNatClampNeg)] S1 _
              refine zw_goto hm_123 dX10_colourOf_19 (t := 23) rfl ?_
              refine zw_iret hm_123 dX10_colourOf_23 ?_
              show ma_wp X (d - 1) (w - 21) 122 16 [(0, .inr (.inr (some 75))), (1, .inr (.inr (some c3)))] [.inl (mI S1 77 (mI S1 c3 0).toNatClampNeg)] S1 _
              refine zw_if0 hm_122 dX10_keeps_16 (t := 23) rfl zc0_eq ?_ ?_
              · intro hc
                rw [if_pos hc] at h
                refine zw_push hm_122 dX10_keeps_23 (v := .inl (0 : Int32)) rfl ?_
                refine zw_bret hm_122 dX10_keeps_24 (by decide) ?_
                show ma_wp X d w 149 28 [(2, .inr (.inr (some c3))), (0, .inr (.inr (some 64))), (1, .inl n)] [.inl (0 : Int32)] S1 _
                refine zw_if0 hm_149 dX11_needReached_28 (t := 39) rfl zc0_ne (fun hc => absurd hc (by decide)) (fun _ => ?_)
                exact zw_thr hm_149 dX11_needReached_31 dX11_needReached_34 dX11_needReached_35 dX11_needReached_38 x_11_364_366 n_11_364 (by omega) (by show 0 + 81 ≤ w; omega) h
              · intro hc
                rw [if_neg hc] at h
                refine zw_push hm_122 dX10_keeps_19 (v := .inl (1 : Int32)) rfl ?_
                refine zw_goto hm_122 dX10_keeps_20 (t := 24) rfl ?_
                refine zw_bret hm_122 dX10_keeps_24 (by decide) ?_
                show ma_wp X d w 149 28 [(2, .inr (.inr (some c3))), (0, .inr (.inr (some 64))), (1, .inl n)] [.inl (1 : Int32)] S1 _
                refine zw_if0 hm_149 dX11_needReached_28 (t := 39) rfl zc0_ne (fun _ => ?_) (fun hc => absurd (by decide) hc)
                refine zw_push hm_149 dX11_needReached_39 (v := .inr (.inr (some c3))) rfl ?_
                exact zw_aret hm_149 dX11_needReached_40 h
  · intro x S9 hx
    exact ⟨by decide, hx⟩
theorem sp_149_64_sk {X : Nat × (Nat → Int32)} {d w : Nat} {f : Nat → Nat → Int32} {r : Nat → Nat → Option Nat} {C Z N : Nat} {Q : Option ma_V ⊕ Nat → ma_S → Prop} {R : zRT} {a7 : Nat→Nat→Int32} {a8 : Nat→Nat→Int32} {kk : Nat→Int32} {S : ma_S} (n : Int32) (hd : 6 ≤ d) (hw : 89 ≤ w) (hI : zI f r C Z N S) (hpre0 : xB S R) (hpre1 : aS 75 S = a7) (hpre2 : aS 88 S = a8) (hpre3 : kC S = kk) (K : ∀ v S₉, zI f r C Z N S₉ → (∃ c, v = some c ∧ 126 ≤ c ∧ c < N) → (xB S₉ R) → (aS 88 S₉ = a8) → (v = zTa R n) → (zRq a7 n) → (kC S₉ = kk) → Q (.inl (some (.inr (.inr v)))) S₉) (KX : ∀ x S₉, (x = 4) → zI f r C Z N S₉ → (xB S₉ R) → (aS 88 S₉ = a8) → (kC S₉ = kk) → (x = 4 ∧ ¬ zRq a7 n) → Q (.inr x) (ma_bump S₉)) : ma_wp X d w 149 0 [(0, .inr (.inr (some 64))), (1, .inl n)] [] S Q := by
  refine g_149_64_sk_0 n (by omega) (by omega) (zG_T hI) ?_
  refine sp_116_75_sk (ab := (aS 75 S)) (R := R) (a8 := a8) (kk := kk) (by omega) (by omega) hI (show xB S R from by first | (exact (xC_o (W := 75) hpre0).2)) (show aS 75 S = (aS 75 S) from by first | (exact rfl)) (show aS 88 S = a8 from by first | (exact (xC_o (W := 88) hpre0).1.trans hpre2)) (show kC S = kk from by first | (exact (xK_o (W := 88) hpre0 hpre3).2)) (fun S1 hI_S1 rp0_S1 rp1_S1 rp2_S1 rp3_S1 => zv_n ⟨zG_T hI_S1, ?_⟩)
  have rp0_S1 : xB S1 R := rp0_S1
  have rp1_S1 : aS 75 S1 = aSp 512 (aRo (aWh (aS 75 S) 0) 0) := rp1_S1
  have rp2_S1 : aS 88 S1 = a8 := rp2_S1
  have rp3_S1 : kC S1 = kk := rp3_S1
  have b1 := i_bd n
  have li2 : (0 : Int32).toInt = 0 := rfl
  refine zd (fun h3 => ?_) (fun h3 => ?_)
  · skip
    have g4 := i_lt h3
    exact KX 4 _ (by decide) hI_S1 (show xB S1 R from by first | (exact (xC_o (W := 75) rp0_S1).2)) (show aS 88 S1 = a8 from by first | (exact (xC_o (W := 88) rp0_S1).1.trans rp2_S1)) (show kC S1 = kk from by first | (exact (xK_o (W := 88) rp0_S1 rp3_S1).2)) (show 4 = 4 ∧ ¬ zRq a7 n from by first | (refine ⟨rfl, ?_⟩; intro w; have w1 := w.1; have w2 := w.2.1; omega))
  · skip
    have g5 := i_nlt h3
    have li6 : (512 : Int32).toInt = 512 := rfl
    refine zd (fun h7 => ?_) (fun h7 => ?_)
    · skip
      have g8 := i_le h7
      exact KX 4 _ (by decide) hI_S1 (show xB S1 R from by first | (exact (xC_o (W := 75) rp0_S1).2)) (show aS 88 S1 = a8 from by first | (exact (xC_o (W := 88) rp0_S1).1.trans rp2_S1)) (show kC S1 = kk from by first | (exact (xK_o (W := 88) rp0_S1 rp3_S1).2)) (show 4 = 4 ∧ ¬ zRq a7 n from by first | (refine ⟨rfl, ?_⟩; intro w; have w1 := w.1; have w2 := w.2.1; omega))
    · skip
      have g9 := i_nle h7
      refine ⟨i_ix (by omega) (by omega), ?_⟩
      refine ⟨fun hc => ?_, fun c3 hc => ?_⟩
      · skip
        have rn_c3 : zTa R n = none := (ta_rd (y := n) rp0_S1 (by omega) (by omega)).symm.trans hc
        exact KX 4 _ (by decide) hI_S1 (show xB S1 R from by first | (exact (xC_o (W := 75) rp0_S1).2)) (show aS 88 S1 = a8 from by first | (exact (xC_o (W := 88) rp0_S1).1.trans rp2_S1)) (show kC S1 = kk from by first | (exact (xK_o (W := 88) rp0_S1 rp3_S1).2)) (show 4 = 4 ∧ ¬ zRq a7 n from by first | (refine ⟨rfl, ?_⟩; intro w; refine xB_nt (W := 75) hpre0 rn_c3 ?_; rw [hpre1]; exact ⟨w.1, w.2.1, w.2.2.1⟩))
      · skip
        have th_c3 := (fun _ z => zG_70 hI_S1 (c := 70) (by decide) z) c3 hc
        have rg_c3 : zTa R n = some c3 := (ta_rd (y := n) rp0_S1 (by omega) (by omega)).symm.trans hc
        refine ⟨zG_n hI_S1 th_c3, ?_⟩
        have f10 := zG_th hI_S1 th_c3
        have b11 := i_bd (mI S1 75 5)
        refine zd (fun h12 => ?_) (fun h12 => ?_)
        · skip
          have g13 := i_lt h12
          exact K ((some c3)) _ hI_S1 ⟨c3, rfl, th_c3⟩ (show xB S1 R from by first | (exact (xC_o (W := 75) rp0_S1).2)) (show aS 88 S1 = a8 from by first | (exact (xC_o (W := 88) rp0_S1).1.trans rp2_S1)) (show (some c3) = zTa R n from by first | (exact rg_c3.symm)) (show zRq a7 n from by first | (have ty := xB_th (W := 75) hpre0 rg_c3; have t1 := xB_th (W := 75) rp0_S1 rg_c3; have k5 : mI S1 75 5 = 0 := (aS_I (W := 75) (S := S1) (c := 75) (c₉ := 75) (k := 5) rfl rfl).symm.trans ((congrFun (congrFun rp1_S1 75) 5).trans aRA_5); have k5i := congrArg Int32.toInt k5; have k7 : mI S1 77 (mI S1 c3 0).toNatClampNeg = aRA a7 77 n.toNatClampNeg := (by rw [t1.2.2.1, ← hpre1]; exact (aS_I (W := 75) (S := S1) (c := 77) (c₉ := 77) (k := n.toNatClampNeg) rfl rfl).symm.trans (congrFun (congrFun rp1_S1 77) n.toNatClampNeg)); have k7i := congrArg Int32.toInt k7; have l5 : (0 : Int32).toInt = 0 := rfl; have a6 : a7 126 n.toNatClampNeg ≠ 0 := (by rw [← hpre1, ty.2.2.2.2.2.2.2.2]; decide); first | (exfalso; omega) | exact ⟨ty.1, ty.2.1, a6, fun w => by have w2 := congrArg Int32.toInt w; omega⟩)) (show kC S1 = kk from by first | (exact (xK_o (W := 88) rp0_S1 rp3_S1).2))
        · skip
          have g14 := i_nlt h12
          refine ⟨zG_n hI_S1 th_c3, ?_⟩
          have f15 := zG_th hI_S1 th_c3
          refine zd (fun h16 => ?_) (fun h16 => ?_)
          · skip
            have g17 := i_le h16
            exact KX 4 _ (by decide) hI_S1 (show xB S1 R from by first | (exact (xC_o (W := 75) rp0_S1).2)) (show aS 88 S1 = a8 from by first | (exact (xC_o (W := 88) rp0_S1).1.trans rp2_S1)) (show kC S1 = kk from by first | (exact (xK_o (W := 88) rp0_S1 rp3_S1).2)) (show 4 = 4 ∧ ¬ zRq a7 n from by first | (refine ⟨rfl, ?_⟩; have ty := xB_th (W := 75) hpre0 rg_c3; have t1 := xB_th (W := 75) rp0_S1 rg_c3; have k5 : mI S1 75 5 = 0 := (aS_I (W := 75) (S := S1) (c := 75) (c₉ := 75) (k := 5) rfl rfl).symm.trans ((congrFun (congrFun rp1_S1 75) 5).trans aRA_5); have k5i := congrArg Int32.toInt k5; have k7 : mI S1 77 (mI S1 c3 0).toNatClampNeg = aRA a7 77 n.toNatClampNeg := (by rw [t1.2.2.1, ← hpre1]; exact (aS_I (W := 75) (S := S1) (c := 77) (c₉ := 77) (k := n.toNatClampNeg) rfl rfl).symm.trans (congrFun (congrFun rp1_S1 77) n.toNatClampNeg)); have k7i := congrArg Int32.toInt k7; have l5 : (0 : Int32).toInt = 0 := rfl; have a6 : a7 126 n.toNatClampNeg ≠ 0 := (by rw [← hpre1, ty.2.2.2.2.2.2.2.2]; decide); first | (exfalso; omega) | (intro w; exact w.2.2.2 (Int32.toInt_inj.mp (by omega)))))
          · skip
            have g18 := i_nle h16
            refine ⟨zG_n hI_S1 th_c3, ?_⟩
            refine ⟨i_ix (by omega) (by omega), ?_⟩
            have b19 := i_bd (mI S1 77 (mI S1 c3 0).toNatClampNeg)
            refine zd (fun h20 => ?_) (fun h20 => ?_)
            · skip
              have g21 := i_eq h20
              exact KX 4 _ (by decide) hI_S1 (show xB S1 R from by first | (exact (xC_o (W := 75) rp0_S1).2)) (show aS 88 S1 = a8 from by first | (exact (xC_o (W := 88) rp0_S1).1.trans rp2_S1)) (show kC S1 = kk from by first | (exact (xK_o (W := 88) rp0_S1 rp3_S1).2)) (show 4 = 4 ∧ ¬ zRq a7 n from by first | (refine ⟨rfl, ?_⟩; have ty := xB_th (W := 75) hpre0 rg_c3; have t1 := xB_th (W := 75) rp0_S1 rg_c3; have k5 : mI S1 75 5 = 0 := (aS_I (W := 75) (S := S1) (c := 75) (c₉ := 75) (k := 5) rfl rfl).symm.trans ((congrFun (congrFun rp1_S1 75) 5).trans aRA_5); have k5i := congrArg Int32.toInt k5; have k7 : mI S1 77 (mI S1 c3 0).toNatClampNeg = aRA a7 77 n.toNatClampNeg := (by rw [t1.2.2.1, ← hpre1]; exact (aS_I (W := 75) (S := S1) (c := 77) (c₉ := 77) (k := n.toNatClampNeg) rfl rfl).symm.trans (congrFun (congrFun rp1_S1 77) n.toNatClampNeg)); have k7i := congrArg Int32.toInt k7; have l5 : (0 : Int32).toInt = 0 := rfl; have a6 : a7 126 n.toNatClampNeg ≠ 0 := (by rw [← hpre1, ty.2.2.2.2.2.2.2.2]; decide); first | (exfalso; omega) | (intro w; exact w.2.2.2 (Int32.toInt_inj.mp (by omega)))))
            · skip
              have g22 := i_ne h20
              exact K ((some c3)) _ hI_S1 ⟨c3, rfl, th_c3⟩ (show xB S1 R from by first | (exact (xC_o (W := 75) rp0_S1).2)) (show aS 88 S1 = a8 from by first | (exact (xC_o (W := 88) rp0_S1).1.trans rp2_S1)) (show (some c3) = zTa R n from by first | (exact rg_c3.symm)) (show zRq a7 n from by first | (have ty := xB_th (W := 75) hpre0 rg_c3; have t1 := xB_th (W := 75) rp0_S1 rg_c3; have k5 : mI S1 75 5 = 0 := (aS_I (W := 75) (S := S1) (c := 75) (c₉ := 75) (k := 5) rfl rfl).symm.trans ((congrFun (congrFun rp1_S1 75) 5).trans aRA_5); have k5i := congrArg Int32.toInt k5; have k7 : mI S1 77 (mI S1 c3 0).toNatClampNeg = aRA a7 77 n.toNatClampNeg := (by rw [t1.2.2.1, ← hpre1]; exact (aS_I (W := 75) (S := S1) (c := 77) (c₉ := 77) (k := n.toNatClampNeg) rfl rfl).symm.trans (congrFun (congrFun rp1_S1 77) n.toNatClampNeg)); have k7i := congrArg Int32.toInt k7; have l5 : (0 : Int32).toInt = 0 := rfl; have a6 : a7 126 n.toNatClampNeg ≠ 0 := (by rw [← hpre1, ty.2.2.2.2.2.2.2.2]; decide); first | (exfalso; omega) | exact ⟨ty.1, ty.2.1, a6, fun w => by have w2 := congrArg Int32.toInt w; omega⟩)) (show kC S1 = kk from by first | (exact (xK_o (W := 88) rp0_S1 rp3_S1).2))

/-! from 95.m30 -/
/-! COUNTS, the class (written by wip/tools/gen20k.py) -/
theorem g_151_64_sk_0 {X : Nat × (Nat → Int32)} {d w : Nat} {S : ma_S} {Q : Option ma_V ⊕ Nat → ma_S → Prop} (n : Int32) (hd : 7 ≤ d) (hw : 111 ≤ w) (hS : zT S) (h : if n = (-1 : Int32) then (Q (.inl (some (.inr (.inr none)))) S) else (ma_wp X (d - 1) (w - 22) 149 0 [(0, .inr (.inr (some 64))), (1, .inl n)] [] S (zo (fun v2 S1 => zT S1 ∧ ((∃ c3, v2 = some c3 ∧ (Q (.inl (some (.inr (.inr (some c3))))) S1)))) (fun x S9 => Q (.inr x) S9)))) : ma_wp X d w 151 0 [(0, .inr (.inr (some 64))), (1, .inl n)] [] S Q := by
  refine zw_push hm_151 dX11_needReachedOrNothing_0 (v := .inl n) rfl ?_
  refine zw_push hm_151 dX11_needReachedOrNothing_1 (v := .inl (-1 : Int32)) rfl ?_
  refine zw_if2 hm_151 dX11_needReachedOrNothing_2 (t := 9) rfl zc2_ne ?_ ?_
  · intro hc
    rw [if_neg hc] at h
    refine zw_push hm_151 dX11_needReachedOrNothing_9 (v := .inr (.inr (some 64))) rfl ?_
    refine zw_push hm_151 dX11_needReachedOrNothing_10 (v := .inl n) rfl ?_
    refine zw_cv hm_151 dX11_needReachedOrNothing_11 v_11_123_11 hm_149 [.inl n] [] rfl (zT_rt hS s_64 rfl) ⟨by omega, by omega⟩ rfl (zw_mono h (zo_go ?_ ?_))
    · intro v2 S1 hv
      obtain ⟨hS1, h⟩ := hv
      obtain ⟨c3, hc, h⟩ := h
      subst hc
      show ma_wp X d w 151 14 [(0, .inr (.inr (some 64))), (1, .inl n)] [.inr (.inr (some c3))] S1 _
      exact zw_aret hm_151 dX11_needReachedOrNothing_14 h
    · intro x S9 hx
      exact ⟨by decide, hx⟩
  · intro hc
    rw [if_pos (Classical.not_not.mp hc)] at h
    refine zw_push hm_151 dX11_needReachedOrNothing_5 (v := .inr (.inr none)) rfl ?_
    refine zw_goto hm_151 dX11_needReachedOrNothing_6 (t := 14) rfl ?_
    exact zw_aret hm_151 dX11_needReachedOrNothing_14 h
theorem sp_151_64_sk {X : Nat × (Nat → Int32)} {d w : Nat} {f : Nat → Nat → Int32} {r : Nat → Nat → Option Nat} {C Z N : Nat} {Q : Option ma_V ⊕ Nat → ma_S → Prop} {R : zRT} {a7 : Nat→Nat→Int32} {a8 : Nat→Nat→Int32} {kk : Nat→Int32} {S : ma_S} (n : Int32) (hd : 7 ≤ d) (hw : 111 ≤ w) (hI : zI f r C Z N S) (hpre0 : xB S R) (hpre1 : aS 75 S = a7) (hpre2 : aS 88 S = a8) (hpre3 : kC S = kk) (K : ∀ v S₉, zI f r C Z N S₉ → (∀ c, v = some c → 126 ≤ c ∧ c < N) → (xB S₉ R) → (aS 88 S₉ = a8) → (v = zTa R n) → (n = -1 ∨ zRq a7 n) → (kC S₉ = kk) → Q (.inl (some (.inr (.inr v)))) S₉) (KX : ∀ x S₉, (x = 4) → zI f r C Z N S₉ → (xB S₉ R) → (aS 88 S₉ = a8) → (kC S₉ = kk) → (x = 4 ∧ n ≠ -1 ∧ ¬ zRq a7 n) → Q (.inr x) (ma_bump S₉)) : ma_wp X d w 151 0 [(0, .inr (.inr (some 64))), (1, .inl n)] [] S Q := by
  refine g_151_64_sk_0 n (by omega) (by omega) (zG_T hI) ?_
  have b1 := i_bd n
  have li2 : (-1 : Int32).toInt = -1 := rfl
  refine zd (fun h3 => ?_) (fun h3 => ?_)
  · skip
    have g4 := i_eq h3
    exact K (none) _ hI (fun _ z => by cases z) (show xB S R from by first | (exact (xC_o (W := 75) hpre0).2)) (show aS 88 S = a8 from by first | (exact (xC_o (W := 88) hpre0).1.trans hpre2)) (show none = zTa R n from by first | (rw [show n = -1 from by assumption]; exact ta_m1)) (show n = -1 ∨ zRq a7 n from by first | (exact Or.inl (by assumption))) (show kC S = kk from by first | (exact (xK_o (W := 88) hpre0 hpre3).2))
  · skip
    have g5 := i_ne h3
    refine sp_149_64_sk (R := R) (a7 := (aS 75 S)) (a8 := a8) (kk := kk) (n) (by omega) (by omega) hI (show xB S R from by first | (exact (xC_o (W := 75) hpre0).2)) (show aS 75 S = (aS 75 S) from by first | (exact rfl)) (show aS 88 S = a8 from by first | (exact (xC_o (W := 88) hpre0).1.trans hpre2)) (show kC S = kk from by first | (exact (xK_o (W := 88) hpre0 hpre3).2)) (fun v2 S1 hI_S1 hq_v2 rp0_S1 rp1_S1 rp2_S1 rp3_S1 rp4_S1 => zo_n ⟨zG_T hI_S1, ?_⟩) (fun x S9 hx h9 rx0 rx1 rx2 rx3 => by have h9u := h9; exact zo_x (KX x S9 (by omega) h9u (show xB S9 R from by first | (exact (xC_o (W := 75) rx0).2)) (show aS 88 S9 = a8 from by first | (exact (xC_o (W := 88) rx0).1.trans rx1)) (show kC S9 = kk from by first | (exact (xK_o (W := 88) rx0 rx2).2)) (show x = 4 ∧ n ≠ -1 ∧ ¬ zRq a7 n from by first | (exact ⟨rx3.1, by assumption, hpre1 ▸ rx3.2⟩))))
    have rp0_S1 : xB S1 R := rp0_S1
    have rp1_S1 : aS 88 S1 = a8 := rp1_S1
    have rp2_S1 : v2 = zTa R n := rp2_S1
    have rp3_S1 : zRq (aS 75 S) n := rp3_S1
    have rp4_S1 : kC S1 = kk := rp4_S1
    obtain ⟨c3, hc, th_c3⟩ := hq_v2
    have rg_c3 : zTa R n = some c3 := rp2_S1.symm.trans hc
    refine ⟨c3, hc, ?_⟩
    exact K ((some c3)) _ hI_S1 (fun _ z => by cases z; exact th_c3) (show xB S1 R from by first | (exact (xC_o (W := 75) rp0_S1).2)) (show aS 88 S1 = a8 from by first | (exact (xC_o (W := 88) rp0_S1).1.trans rp1_S1)) (show (some c3) = zTa R n from by first | (exact rg_c3.symm)) (show n = -1 ∨ zRq a7 n from by first | (rw [hpre1] at *; exact Or.inr rp3_S1) | (exact Or.inr (hpre1 ▸ rp3_S1))) (show kC S1 = kk from by first | (exact (xK_o (W := 88) rp0_S1 rp4_S1).2))

