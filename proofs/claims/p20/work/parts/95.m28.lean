/-! COUNTS, the class (written by wip/tools/gen20k.py) -/
theorem g_145_64_84_sk_0 {X : Nat × (Nat → Int32)} {d w : Nat} {S : ma_S} {Q : Option ma_V ⊕ Nat → ma_S → Prop} (i : Int32) (x : Option Nat) (hd : 5 ≤ d) (hw : 110 ≤ w) (hS : zT S) (h : ma_wp X (d - 1) (w - 23) 92 0 [(0, .inr (.inr (some 69))), (1, .inl i), (2, .inr (.inr x))] [] S (zo (fun v2 S1 => zT S1 ∧ (ma_wp X (d - 1) (w - 24) 24 0 [(0, .inr (.inr (some 84))), (1, .inr (.inr v2))] [] S1 (zv (fun S3 => zT S3 ∧ (Q (.inl (some (.inr (.inr v2)))) S3)) (fun _ _ => False)))) (fun x S9 => Q (.inr x) S9))) : ma_wp X d w 145 0 [(0, .inr (.inr (some 64))), (1, .inr (.inr (some 84))), (2, .inl i), (3, .inr (.inr x))] [] S Q := by
  refine zw_push hm_145 dX11_changeRoot_0 (v := .inr (.inr (some 64))) rfl ?_
  refine zw_gf hm_145 dX11_changeRoot_1 (v := .inr (.inr (some 69))) (zT_is hS s_64) (zT_t hS s_64) rfl f_11_26_11 (zT_f hS r_64_8) ?_
  refine zw_push hm_145 dX11_changeRoot_4 (v := .inl i) rfl ?_
  refine zw_push hm_145 dX11_changeRoot_5 (v := .inr (.inr x)) rfl ?_
  refine zw_cv hm_145 dX11_changeRoot_6 v_11_379_7 hm_92 [.inr (.inr x), .inl i] [] rfl (zT_rt hS s_69 rfl) ⟨by omega, by omega⟩ rfl (zw_mono h (zo_go ?_ ?_))
  · intro v2 S1 hv
    obtain ⟨hS1, h⟩ := hv
    refine zw_sto hm_145 dX11_changeRoot_9 [(4, .inr (.inr v2)), (0, .inr (.inr (some 64))), (1, .inr (.inr (some 84))), (2, .inl i), (3, .inr (.inr x))] rfl rfl rfl ?_
    refine zw_push hm_145 dX11_changeRoot_11 (v := .inr (.inr (some 84))) rfl ?_
    refine zw_push hm_145 dX11_changeRoot_12 (v := .inr (.inr v2)) rfl ?_
    refine zw_push hm_145 dX11_changeRoot_14 (v := .inr (.inr x)) rfl ?_
    refine zw_cv hm_145 dX11_changeRoot_15 v_11_153_2 hm_265 [.inr (.inr x), .inr (.inr v2)] [] rfl (zT_rt hS1 s_84 rfl) ⟨by omega, by omega⟩ rfl ?_
    show ma_wp X (d - 1) (w - 22) 265 0 [(0, .inr (.inr (some 84))), (1, .inr (.inr v2)), (2, .inr (.inr x))] [] S1 _
    refine zw_vret hm_265 dX1_noteChange_0 ?_
    show ma_wp X d w 145 18 [(4, .inr (.inr v2)), (0, .inr (.inr (some 64))), (1, .inr (.inr (some 84))), (2, .inl i), (3, .inr (.inr x))] [] S1 _
    refine zw_push hm_145 dX11_changeRoot_18 (v := .inr (.inr (some 84))) rfl ?_
    refine zw_push hm_145 dX11_changeRoot_19 (v := .inr (.inr v2)) rfl ?_
    refine zw_cv hm_145 dX11_changeRoot_21 v_11_157_2 hm_24 [.inr (.inr v2)] [] rfl (zT_rt hS1 s_84 rfl) ⟨by omega, by omega⟩ rfl (zw_mono h (zv_go ?_ ?_))
    · intro S3 hv
      obtain ⟨hS3, h⟩ := hv
      refine zw_push hm_145 dX11_changeRoot_24 (v := .inr (.inr v2)) rfl ?_
      exact zw_aret hm_145 dX11_changeRoot_26 h
    · intro x S9 hx
      exact hx.elim
  · intro x S9 hx
    exact ⟨by decide, hx⟩
theorem sp_145_64_84_sk {X : Nat × (Nat → Int32)} {d w : Nat} {f : Nat → Nat → Int32} {r : Nat → Nat → Option Nat} {C Z N : Nat} {Q : Option ma_V ⊕ Nat → ma_S → Prop} {ab : Nat→Nat→Int32} {R : zRT} {W : Nat} {kk : Nat→Int32} {y : Int32} {B : Int} {n0 : Nat→Nat→Int32} {S : ma_S} (i : Int32) (x : Option Nat) (hd : 5 ≤ d) (hw : 110 ≤ w) (hI : zJ84 f r C Z N S) (hq_x : ∀ c, x = some c → 126 ≤ c ∧ c < N) (hpre0 : xB S R) (hpre1 : aS W S = ab) (hpre2 : xW W) (hpre3 : x = zTa R y) (hpre4 : 0 ≤ i.toInt) (hpre5 : i.toInt ≤ 15) (hpre6 : kC S = kk) (hpre7 : cC ab [] kk B) (hpre8 : B ≤ 1000000) (hpre9 : zN0 S = n0) (K : ∀ v S', zJ84 f r C Z N S' → (∀ c, v = some c → 126 ≤ c ∧ c < N) → (xB S' (mR S' 70)) → (aS W S' = cLe (aR0 ab i y) (ab 72 i.toNatClampNeg)) → (v = zTa R (ab 72 i.toNatClampNeg)) → (cC (aS W S') [] (kC S') B) → (zN0 S' = n0) → Q (.inl (some (.inr (.inr v)))) S') : ma_wp X d w 145 0 [(0, .inr (.inr (some 64))), (1, .inr (.inr (some 84))), (2, .inl i), (3, .inr (.inr x))] [] S Q := by
  refine g_145_64_84_sk_0 i x (by omega) (by omega) (zG_T hI) ?_
  have b1 := i_bd i
  refine sp_92_69_sk (ab := (aS W S)) (R := R) (W := W) (y := (y)) (kk := (kC S)) (n0 := n0) (i) (x) (by omega) (by omega) (zJ84_dn hI) hq_x (show xB S R from by first | (exact (xC_o (W := 75) hpre0).2)) (show aS W S = (aS W S) from by first | (exact rfl)) (show xW W from by first | (exact hpre2) | (exact xW88) | (exact xW75)) (show x = zTa R (y) from by first | (exact hpre3)) (by omega) (by omega) (show kC S = (kC S) from by first | (exact rfl)) (show zN0 S = n0 from by first | (exact hpre9)) (fun v2 S1 hL_S1 hq_v2 rp0_S1 rp1_S1 rp2_S1 rp3_S1 rp4_S1 => zo_n ⟨zG_T hL_S1, ?_⟩)
  have hI_S1 := zJ84_up hI hL_S1
  have rp0_S1 : xB S1 R := by
    have z := rp0_S1
    (try rw [show mI S 65 = f 65 from funext (fun k => zG_z hI rfl)] at z)
    (try rw [show mI S 64 1 = f 64 1 from zG_z hI rfl] at z)
    exact z
  have rp1_S1 : aS W S1 = ma_u (aS W S) 72 i.toNatClampNeg (aNm (aS W S) (y)) := by
    have z := rp1_S1
    (try rw [show mI S 65 = f 65 from funext (fun k => zG_z hI rfl)] at z)
    (try rw [show mI S 64 1 = f 64 1 from zG_z hI rfl] at z)
    exact z
  have rp2_S1 : v2 = zTa R ((aS W S) 72 i.toNatClampNeg) := by
    have z := rp2_S1
    (try rw [show mI S 65 = f 65 from funext (fun k => zG_z hI rfl)] at z)
    (try rw [show mI S 64 1 = f 64 1 from zG_z hI rfl] at z)
    exact z
  have rp3_S1 : ∀ n, xAl (aS W S) n → kC S1 n = (kC S) n + Int32.ofNat (cIs (y) n) - Int32.ofNat (cIs ((aS W S) 72 i.toNatClampNeg) n) := by
    have z := rp3_S1
    (try rw [show mI S 65 = f 65 from funext (fun k => zG_z hI rfl)] at z)
    (try rw [show mI S 64 1 = f 64 1 from zG_z hI rfl] at z)
    exact z
  have rp4_S1 : zN0 S1 = n0 := by
    have z := rp4_S1
    (try rw [show mI S 65 = f 65 from funext (fun k => zG_z hI rfl)] at z)
    (try rw [show mI S 64 1 = f 64 1 from zG_z hI rfl] at z)
    exact z
  refine sp_24_84_sk (ab := (aS W S1)) (W := W) (kk := (kC S1)) (y := (((aS W S) 72 i.toNatClampNeg))) (B := B) (n0 := n0) (v2) (by omega) (by omega) hI_S1 hq_v2 (show xB S1 (mR S1 70) from by first | (exact xB_x (xC_o (W := W) rp0_S1).2)) (show aS W S1 = (aS W S1) from by first | (exact rfl)) (show xW W from by first | (exact hpre2) | (exact xW88) | (exact xW75)) (show v2 = zTa (mR S1 70) (((aS W S) 72 i.toNatClampNeg)) from by first | (rw [rp0_S1.1]; exact rp2_S1) | (exact rp2_S1)) (show kC S1 = (kC S1) from by first | (exact rfl)) (show cC (aS W S1) [] (kC S1) B from by first | (rw [rp1_S1, hpre1]; exact C_rt hpre7 (by omega) (fun n hn => by have q := rp3_S1 n (by rw [hpre1]; exact hn); rw [hpre6, hpre1] at q; exact q)) | (rw [rp1_S1, hpre1]; refine C_rt hpre7 (by have h0 : 0 ≤ i.toInt := (by omega); have h1 := tn_cast h0; omega) (fun n hn => ?_); have q := rp3_S1 n (by rw [hpre1]; exact hn); rw [hpre6, hpre1] at q; exact q)) (show cOk (aS W S1) (((aS W S) 72 i.toNatClampNeg)) from by first | (rw [rp1_S1, hpre1]; exact (cOk_cg (u_al (by decide))).mpr ((C0_un hpre7).2.1.1 i.toNatClampNeg (by have h0 : 0 ≤ i.toInt := (by omega); have h1 := tn_cast h0; omega)))) (show B ≤ 1000000 from by first | (exact hpre8)) (show zN0 S1 = n0 from by first | (exact rp4_S1)) (fun S3 hI_S3 rp0_S3 rp1_S3 rp2_S3 => zv_n ⟨zG_T hI_S3, ?_⟩)
  have rp0_S3 : xB S3 (mR S3 70) := rp0_S3
  have rp1_S3 : aS W S3 = cLe (aS W S1) (((aS W S) 72 i.toNatClampNeg)) ∧ cC (aS W S3) [] (kC S3) B := rp1_S3
  have rp2_S3 : zN0 S3 = n0 := rp2_S3
  exact K (v2) _ hI_S3 hq_v2 (show xB S3 (mR S3 70) from by first | (exact xB_x (xC_o (W := W) rp0_S3).2)) (show aS W S3 = cLe (aR0 ab i y) (ab 72 i.toNatClampNeg) from by first | (have np := rp1_S3.1; rw [rp1_S1, hpre1] at np; exact np)) (show v2 = zTa R (ab 72 i.toNatClampNeg) from by first | (rw [← hpre1]; exact rp2_S1) | (exact rp2_S1)) (show cC (aS W S3) [] (kC S3) B from by first | (exact rp1_S3.2)) (show zN0 S3 = n0 from by first | (exact rp2_S3))
