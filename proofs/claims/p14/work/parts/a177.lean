/-! from 95.m26 -/
/-! COUNTS, the class (written by wip/tools/gen20k.py) -/
theorem ci_al {a : Nat → Nat → Int32} {n m : Nat} {i x : Int32} : xAl (aCi a m i x) n ↔ xAl a n := by
  unfold aCi xAl
  split
  · rw [xu_o (by omega)]
  · exact Iff.rfl
theorem g_94_69_sk_0 {X : Nat × (Nat → Int32)} {d w : Nat} {S : ma_S} {Q : Option ma_V ⊕ Nat → ma_S → Prop} (t : Nat) (i : Int32) (x : Option Nat) (hd : 1 ≤ d) (hw : 25 ≤ w) (hS : zT S) (h : ma_wp X (d - 1) (w - 25) 82 0 [(0, .inr (.inr (some 69))), (1, .inr (.inr (some t))), (2, .inl i)] [] S (zo (fun v2 S1 => zT S1 ∧ ((x = none → ma_wp X (d - 1) (w - 25) 95 0 [(0, .inr (.inr (some 69))), (1, .inr (.inr (some t))), (2, .inl i), (3, .inl (-1 : Int32))] [] S1 (zi (fun v5 S4 => zT S4 ∧ (ma_wp X (d - 1) (w - 21) 93 0 [(0, .inr (.inr v2)), (1, .inr (.inr none))] [] S4 (zv (fun S6 => zT S6 ∧ (Q (.inl (some (.inr (.inr v2)))) S6)) (fun _ _ => False)))) (fun x S9 => Q (.inr x) S9))) ∧ (∀ c3, x = some c3 → (126 ≤ c3 ∧ c3 < mN S1) ∧ (ma_wp X (d - 1) (w - 25) 95 0 [(0, .inr (.inr (some 69))), (1, .inr (.inr (some t))), (2, .inl i), (3, .inl (mI S1 c3 0))] [] S1 (zi (fun v9 S8 => zT S8 ∧ (ma_wp X (d - 1) (w - 21) 93 0 [(0, .inr (.inr v2)), (1, .inr (.inr (some c3)))] [] S8 (zv (fun S10 => zT S10 ∧ (Q (.inl (some (.inr (.inr v2)))) S10)) (fun _ _ => False)))) (fun x S9 => Q (.inr x) S9)))))) (fun x S9 => Q (.inr x) S9))) : ma_wp X d w 94 0 [(0, .inr (.inr (some 69))), (1, .inr (.inr (some t))), (2, .inl i), (3, .inr (.inr x))] [] S Q := by
  refine zw_push hm_94 dX7_changeReference_0 (v := .inr (.inr (some 69))) rfl ?_
  refine zw_push hm_94 dX7_changeReference_1 (v := .inr (.inr (some t))) rfl ?_
  refine zw_push hm_94 dX7_changeReference_2 (v := .inl i) rfl ?_
  refine zw_cv hm_94 dX7_changeReference_3 v_7_78_7 hm_82 [.inl i, .inr (.inr (some t))] [] rfl (zT_rt hS s_69 rfl) ⟨by omega, by omega⟩ rfl (zw_mono h (zo_go ?_ ?_))
  · intro v2 S1 hv
    obtain ⟨hS1, h⟩ := hv
    refine zw_sto hm_94 dX7_changeReference_6 [(4, .inr (.inr v2)), (0, .inr (.inr (some 69))), (1, .inr (.inr (some t))), (2, .inl i), (3, .inr (.inr x))] rfl rfl rfl ?_
    refine zw_push hm_94 dX7_changeReference_8 (v := .inr (.inr (some 69))) rfl ?_
    refine zw_push hm_94 dX7_changeReference_9 (v := .inr (.inr (some t))) rfl ?_
    refine zw_push hm_94 dX7_changeReference_10 (v := .inl i) rfl ?_
    refine zw_push hm_94 dX7_changeReference_11 (v := .inr (.inr x)) rfl ?_
    refine zw_cs hm_94 dX7_changeReference_12 pn_7_82 sl_7_82 hm_146 [.inr (.inr x)] [.inl i, .inr (.inr (some t)), .inr (.inr (some 69))] rfl ⟨by omega, by omega⟩ rfl ?_
    show ma_wp X (d - 1) (w - 20) 146 0 [(0, .inr (.inr x))] [] S1 _
    refine zw_push hm_146 dX11_numberOf_0 (v := .inr (.inr x)) rfl ?_
    refine zw_ifnonnull hm_146 dX11_numberOf_1 (t := 8) rfl ?_ ?_
    · intro hc
      have h := h.1 hc
      (try rw [hc])
      show ma_wp X (d - 1) (w - 20) 146 4 [(0, .inr (.inr none))] [] S1 _
      refine zw_push hm_146 dX11_numberOf_4 (v := .inl (-1 : Int32)) rfl ?_
      refine zw_goto hm_146 dX11_numberOf_5 (t := 12) rfl ?_
      refine zw_iret hm_146 dX11_numberOf_12 ?_
      show ma_wp X d w 94 15 [(4, .inr (.inr v2)), (0, .inr (.inr (some 69))), (1, .inr (.inr (some t))), (2, .inl i), (3, .inr (.inr none))] [.inl (-1 : Int32), .inl i, .inr (.inr (some t)), .inr (.inr (some 69))] S1 _
      refine zw_cv hm_94 dX7_changeReference_15 v_7_86_7 hm_95 [.inl (-1 : Int32), .inl i, .inr (.inr (some t))] [] rfl (zT_rt hS1 s_69 rfl) ⟨by omega, by omega⟩ rfl (zw_mono h (zi_go ?_ ?_))
      · intro v5 S4 hv
        obtain ⟨hS4, h⟩ := hv
        refine zw_stk hm_94 dX7_changeReference_18 (st₉ := []) rfl rfl ?_
        refine zw_push hm_94 dX7_changeReference_19 (v := .inr (.inr v2)) rfl ?_
        refine zw_push hm_94 dX7_changeReference_21 (v := .inr (.inr none)) rfl ?_
        refine zw_cs hm_94 dX7_changeReference_22 pn_7_90 sl_7_90 hm_93 [.inr (.inr none), .inr (.inr v2)] [] rfl ⟨by omega, by omega⟩ rfl (zw_mono h (zv_go ?_ ?_))
        · intro S6 hv
          obtain ⟨hS6, h⟩ := hv
          refine zw_push hm_94 dX7_changeReference_25 (v := .inr (.inr v2)) rfl ?_
          exact zw_aret hm_94 dX7_changeReference_27 h
        · intro x S9 hx
          exact hx.elim
      · intro x S9 hx
        exact ⟨by decide, hx⟩
    · intro c3 hc
      have h := h.2 c3 hc
      (try rw [hc])
      show ma_wp X (d - 1) (w - 20) 146 8 [(0, .inr (.inr (some c3)))] [] S1 _
      refine zw_push hm_146 dX11_numberOf_8 (v := .inr (.inr (some c3))) rfl ?_
      obtain ⟨hg, h⟩ := h
      refine zw_gf hm_146 dX11_numberOf_9 (v := .inl (mI S1 c3 0)) (zT_tis hS1 hg) (zT_tt hS1 hg) rfl f_11_182_9 rfl ?_
      refine zw_iret hm_146 dX11_numberOf_12 ?_
      show ma_wp X d w 94 15 [(4, .inr (.inr v2)), (0, .inr (.inr (some 69))), (1, .inr (.inr (some t))), (2, .inl i), (3, .inr (.inr (some c3)))] [.inl (mI S1 c3 0), .inl i, .inr (.inr (some t)), .inr (.inr (some 69))] S1 _
      refine zw_cv hm_94 dX7_changeReference_15 v_7_86_7 hm_95 [.inl (mI S1 c3 0), .inl i, .inr (.inr (some t))] [] rfl (zT_rt hS1 s_69 rfl) ⟨by omega, by omega⟩ rfl (zw_mono h (zi_go ?_ ?_))
      · intro v9 S8 hv
        obtain ⟨hS8, h⟩ := hv
        refine zw_stk hm_94 dX7_changeReference_18 (st₉ := []) rfl rfl ?_
        refine zw_push hm_94 dX7_changeReference_19 (v := .inr (.inr v2)) rfl ?_
        refine zw_push hm_94 dX7_changeReference_21 (v := .inr (.inr (some c3))) rfl ?_
        refine zw_cs hm_94 dX7_changeReference_22 pn_7_90 sl_7_90 hm_93 [.inr (.inr (some c3)), .inr (.inr v2)] [] rfl ⟨by omega, by omega⟩ rfl (zw_mono h (zv_go ?_ ?_))
        · intro S10 hv
          obtain ⟨hS10, h⟩ := hv
          refine zw_push hm_94 dX7_changeReference_25 (v := .inr (.inr v2)) rfl ?_
          exact zw_aret hm_94 dX7_changeReference_27 h
        · intro x S9 hx
          exact hx.elim
      · intro x S9 hx
        exact ⟨by decide, hx⟩
  · intro x S9 hx
    exact ⟨by decide, hx⟩
theorem sp_94_69_sk {X : Nat × (Nat → Int32)} {d w : Nat} {f : Nat → Nat → Int32} {r : Nat → Nat → Option Nat} {C Z N : Nat} {Q : Option ma_V ⊕ Nat → ma_S → Prop} {ab : Nat→Nat→Int32} {R : zRT} {W : Nat} {kk : Nat→Int32} {yt : Int32} {y : Int32} {n0 : Nat→Nat→Int32} {S : ma_S} (t : Nat) (i : Int32) (x : Option Nat) (hd : 1 ≤ d) (hw : 25 ≤ w) (hI : zI f r C Z N S) (th_t : 126 ≤ t ∧ t < N) (hq_x : ∀ c, x = some c → 126 ≤ c ∧ c < N) (hpre0 : xB S R) (hpre1 : aS W S = ab) (hpre2 : xW W) (hpre3 : zTa R yt = some t) (hpre4 : x = zTa R y) (hpre5 : 0 ≤ i.toInt) (hpre6 : kC S = kk) (hpre7 : zN0 S = n0) (K : ∀ v S₉, zI f r C Z N S₉ → (∀ c, v = some c → 126 ≤ c ∧ c < N) → (xB S₉ R) → (aS W S₉ = aCi ab yt.toNatClampNeg i (aNm ab y)) → (v = zTa R (aRef ab yt.toNatClampNeg i)) → (∀ n, xAl ab n → kC S₉ n = kk n + Int32.ofNat (cIs y n) - Int32.ofNat (cIs (aRef ab yt.toNatClampNeg i) n)) → (zN0 S₉ = n0) → Q (.inl (some (.inr (.inr v)))) S₉) : ma_wp X d w 94 0 [(0, .inr (.inr (some 69))), (1, .inr (.inr (some t))), (2, .inl i), (3, .inr (.inr x))] [] S Q := by
  refine g_94_69_sk_0 t i x (by omega) (by omega) (zG_T hI) ?_
  have b1 := i_bd i
  refine sp_82_69_s (R := R) (W := W) (y := yt) t (i) (by omega) (by omega) hI th_t (show xB S R from by first | (exact (xC_o (W := 75) hpre0).2)) (show zTa R yt = some t from by first | (exact hpre3)) (by omega) (fun v2 S1 eS_S1 hq_v2 rp0_S1 => zo_n ⟨(by rw [eS_S1]; exact zG_T hI), ?_⟩)
  replace eS_S1 := eS_S1.symm; subst eS_S1
  have rp0_S1 : v2 = zTa R (aRef (aS W S) yt.toNatClampNeg i) := rp0_S1
  refine ⟨fun hc => ?_, fun c3 hc => ?_⟩
  · skip
    have rn_c3 : zTa R y = none := hpre4.symm.trans hc
    have li2 : (-1 : Int32).toInt = -1 := rfl
    refine sp_95_69_sk (ab := (aS W S)) (R := R) (W := W) (y := (yt)) (kk := (kC S)) (n0 := n0) t (i) ((-1 : Int32)) (by omega) (by omega) hI th_t (show xB S R from by first | (exact (xC_o (W := 75) hpre0).2)) (show aS W S = (aS W S) from by first | (exact rfl)) (show xW W from by first | (exact hpre2) | (exact xW88) | (exact xW75)) (show zTa R (yt) = some t from by first | (exact hpre3)) (show kC S = (kC S) from by first | (exact rfl)) (show zN0 S = n0 from by first | (exact hpre7)) (fun v5 S4 hI_S4 hp_v5 rp0_S4 rp1_S4 rp2_S4 rp3_S4 => zi_n ⟨zG_T hI_S4, ?_⟩)
    have rp0_S4 : xB S4 R := rp0_S4
    have rp1_S4 : aS W S4 = aCi (aS W S) (yt).toNatClampNeg i (-1 : Int32) ∧ v5 = aWo (aS W S) (yt).toNatClampNeg i := rp1_S4
    have rp2_S4 : kC S4 = (kC S) := rp2_S4
    have rp3_S4 : zN0 S4 = n0 := rp3_S4
    refine sp_93_sk (ab := (aS W S4)) (R := R) (W := W) (y1 := ((aRef (aS W S) yt.toNatClampNeg i))) (y2 := ((-1 : Int32))) (kk := (kC S4)) (n0 := n0) (v2) (none) (by omega) (by omega) hI_S4 hq_v2 (fun _ z => by cases z) (show xB S4 R from by first | (exact (xC_o (W := 75) rp0_S4).2)) (show aS W S4 = (aS W S4) from by first | (exact rfl)) (show xW W from by first | (exact hpre2) | (exact xW88) | (exact xW75)) (show v2 = zTa R ((aRef (aS W S) yt.toNatClampNeg i)) from by first | (exact rp0_S1)) (show none = zTa R ((-1 : Int32)) from by first | (exact ta_m1) | (exact ta_no (by omega))) (show kC S4 = (kC S4) from by first | (exact rfl)) (show zN0 S4 = n0 from by first | (exact rp3_S4)) (fun S6 hI_S6 rp0_S6 rp1_S6 rp2_S6 rp3_S6 => zv_n ⟨zG_T hI_S6, ?_⟩)
    have rp0_S6 : xB S6 R := rp0_S6
    have rp1_S6 : aS W S6 = (aS W S4) := rp1_S6
    have rp2_S6 : ∀ n, xAl (aS W S4) n → kC S6 n = (kC S4) n + Int32.ofNat (cIs ((-1 : Int32)) n) - Int32.ofNat (cIs ((aRef (aS W S) yt.toNatClampNeg i)) n) := rp2_S6
    have rp3_S6 : zN0 S6 = n0 := rp3_S6
    exact K (v2) _ hI_S6 hq_v2 (show xB S6 R from by first | (exact (xC_o (W := 75) rp0_S6).2)) (show aS W S6 = aCi ab yt.toNatClampNeg i (aNm ab y) from by first | (have nn := (nm_n (W := W) hpre0 rn_c3); rw [hpre1] at nn; have ci := rp1_S4.1; skip; refine rp1_S6.trans (ci.trans ?_); rw [hpre1, nn])) (show v2 = zTa R (aRef ab yt.toNatClampNeg i) from by first | (rw [← hpre1]; exact rp0_S1)) (show ∀ n, xAl ab n → kC S6 n = kk n + Int32.ofNat (cIs y n) - Int32.ofNat (cIs (aRef ab yt.toNatClampNeg i) n) from by first | (intro n hn; have q := rp2_S6 n (by rw [rp1_S4.1, hpre1]; exact ci_al.mpr hn); rw [congrFun (rp2_S4.trans hpre6) n] at q; (try rw [hpre1] at q); rw [cIs_n (x := -1) (by decide) hn.1] at q; have h2 : cIs y n = 0 := is_no (W := W) hpre0 rn_c3 (by rw [hpre1]; exact hn); rw [h2]; exact q)) (show zN0 S6 = n0 from by first | (exact rp3_S6))
  · skip
    have th_c3 := hq_x c3 hc
    have rg_c3 : zTa R y = some c3 := hpre4.symm.trans hc
    subst hc
    refine ⟨zG_n hI th_c3, ?_⟩
    have f3 := zG_th hI th_c3
    refine sp_95_69_sk (ab := (aS W S)) (R := R) (W := W) (y := (yt)) (kk := (kC S)) (n0 := n0) t (i) ((mI S c3 0)) (by omega) (by omega) hI th_t (show xB S R from by first | (exact (xC_o (W := 75) hpre0).2)) (show aS W S = (aS W S) from by first | (exact rfl)) (show xW W from by first | (exact hpre2) | (exact xW88) | (exact xW75)) (show zTa R (yt) = some t from by first | (exact hpre3)) (show kC S = (kC S) from by first | (exact rfl)) (show zN0 S = n0 from by first | (exact hpre7)) (fun v9 S8 hI_S8 hp_v9 rp0_S8 rp1_S8 rp2_S8 rp3_S8 => zi_n ⟨zG_T hI_S8, ?_⟩)
    have rp0_S8 : xB S8 R := rp0_S8
    have rp1_S8 : aS W S8 = aCi (aS W S) (yt).toNatClampNeg i (mI S c3 0) ∧ v9 = aWo (aS W S) (yt).toNatClampNeg i := rp1_S8
    have rp2_S8 : kC S8 = (kC S) := rp2_S8
    have rp3_S8 : zN0 S8 = n0 := rp3_S8
    refine sp_93_sk (ab := (aS W S8)) (R := R) (W := W) (y1 := ((aRef (aS W S) yt.toNatClampNeg i))) (y2 := (y)) (kk := (kC S8)) (n0 := n0) (v2) ((some c3)) (by omega) (by omega) hI_S8 hq_v2 (fun _ z => by cases z; exact th_c3) (show xB S8 R from by first | (exact (xC_o (W := 75) rp0_S8).2)) (show aS W S8 = (aS W S8) from by first | (exact rfl)) (show xW W from by first | (exact hpre2) | (exact xW88) | (exact xW75)) (show v2 = zTa R ((aRef (aS W S) yt.toNatClampNeg i)) from by first | (exact rp0_S1)) (show (some c3) = zTa R (y) from by first | (exact rg_c3.symm)) (show kC S8 = (kC S8) from by first | (exact rfl)) (show zN0 S8 = n0 from by first | (exact rp3_S8)) (fun S10 hI_S10 rp0_S10 rp1_S10 rp2_S10 rp3_S10 => zv_n ⟨zG_T hI_S10, ?_⟩)
    have rp0_S10 : xB S10 R := rp0_S10
    have rp1_S10 : aS W S10 = (aS W S8) := rp1_S10
    have rp2_S10 : ∀ n, xAl (aS W S8) n → kC S10 n = (kC S8) n + Int32.ofNat (cIs (y) n) - Int32.ofNat (cIs ((aRef (aS W S) yt.toNatClampNeg i)) n) := rp2_S10
    have rp3_S10 : zN0 S10 = n0 := rp3_S10
    exact K (v2) _ hI_S10 hq_v2 (show xB S10 R from by first | (exact (xC_o (W := 75) rp0_S10).2)) (show aS W S10 = aCi ab yt.toNatClampNeg i (aNm ab y) from by first | (have nn := (nm_y (W := W) hpre0 rg_c3); rw [hpre1] at nn; have ci := rp1_S8.1; rw [(xB_th (W := W) hpre0 rg_c3).2.2.1] at ci; refine rp1_S10.trans (ci.trans ?_); rw [hpre1, nn])) (show v2 = zTa R (aRef ab yt.toNatClampNeg i) from by first | (rw [← hpre1]; exact rp0_S1)) (show ∀ n, xAl ab n → kC S10 n = kk n + Int32.ofNat (cIs y n) - Int32.ofNat (cIs (aRef ab yt.toNatClampNeg i) n) from by first | (intro n hn; have q := rp2_S10 n (by rw [rp1_S8.1, hpre1]; exact ci_al.mpr hn); rw [congrFun (rp2_S8.trans hpre6) n] at q; (try rw [hpre1] at q); exact q)) (show zN0 S10 = n0 from by first | (exact rp3_S10))
theorem g_25_84_sk_0 {X : Nat × (Nat → Int32)} {d w : Nat} {S : ma_S} {Q : Option ma_V ⊕ Nat → ma_S → Prop} (t : Option Nat) (hd : 2 ≤ d) (hw : 43 ≤ w) (hS : zT S) (h : (t = none → Q (.inl none) S) ∧ (∀ c1, t = some c1 → (126 ≤ c1 ∧ c1 < mN S) ∧ (if (mI S c1 6) ≤ 0 then ((126 ≤ c1 ∧ c1 < mN S) ∧ (if (mI S c1 8) = 0 then (if (512 : Int32) ≤ (mI S 84 7) then (Q (.inl none) S) else ((0 ≤ (mI S 84 7) ∧ (mI S 84 7).toNatClampNeg < 512) ∧ ((126 ≤ c1 ∧ c1 < mN S) ∧ ((0 ≤ (mI S 84 7) ∧ (mI S 84 7).toNatClampNeg < 512) ∧ (Q (.inl none) (ma_put (ma_put (ma_put S 85 (mI S 84 7).toNatClampNeg (.inr (.inr (some c1)))) 86 (mI S 84 7).toNatClampNeg (.inl (0 : Int32))) 84 7 (.inl ((mI S 84 7) + (1 : Int32))))))))) else (ma_wp X (d - 1) (w - 21) 84 0 [(0, .inr (.inr (some 69))), (1, .inr (.inr (some c1)))] [] S (zv (fun S2 => zT S2 ∧ (Q (.inl none) S2)) (fun x S9 => Q (.inr x) S9))))) else (Q (.inl none) S)))) : ma_wp X d w 25 0 [(0, .inr (.inr (some 84))), (1, .inr (.inr t))] [] S Q := by
  refine zw_push hm_25 dX2_fallIfUncounted_0 (v := .inr (.inr t)) rfl ?_
  refine zw_ifnull hm_25 dX2_fallIfUncounted_1 (t := 11) rfl ?_ ?_
  · intro hc
    have h := h.1 hc
    (try rw [hc])
    show ma_wp X d w 25 11 [(0, .inr (.inr (some 84))), (1, .inr (.inr none))] [] S _
    exact zw_vret hm_25 dX2_fallIfUncounted_11 h
  · intro c1 hc
    have h := h.2 c1 hc
    (try rw [hc])
    show ma_wp X d w 25 4 [(0, .inr (.inr (some 84))), (1, .inr (.inr (some c1)))] [] S _
    refine zw_push hm_25 dX2_fallIfUncounted_4 (v := .inr (.inr (some c1))) rfl ?_
    obtain ⟨hg, h⟩ := h
    refine zw_gf hm_25 dX2_fallIfUncounted_5 (v := .inl (mI S c1 6)) (zT_tis hS hg) (zT_tt hS hg) rfl f_2_21_9 rfl ?_
    refine zw_if0 hm_25 dX2_fallIfUncounted_8 (t := 12) rfl zc0_le ?_ ?_
    · intro hc
      rw [if_pos hc] at h
      refine zw_push hm_25 dX2_fallIfUncounted_12 (v := .inr (.inr (some c1))) rfl ?_
      obtain ⟨hg, h⟩ := h
      refine zw_gf hm_25 dX2_fallIfUncounted_13 (v := .inl (mI S c1 8)) (zT_tis hS hg) (zT_tt hS hg) rfl f_2_57_9 rfl ?_
      refine zw_if0 hm_25 dX2_fallIfUncounted_16 (t := 30) rfl zc0_eq ?_ ?_
      · intro hc
        rw [if_pos hc] at h
        refine zw_push hm_25 dX2_fallIfUncounted_30 (v := .inr (.inr (some 84))) rfl ?_
        refine zw_gf hm_25 dX2_fallIfUncounted_31 (v := .inl (mI S 84 7)) (zT_is hS s_84) (zT_t hS s_84) rfl f_2_25_2 rfl ?_
        refine zw_push hm_25 dX2_fallIfUncounted_34 (v := .inl (512 : Int32)) rfl ?_
        refine zw_if2 hm_25 dX2_fallIfUncounted_37 (t := 70) rfl zc2_ge ?_ ?_
        · intro hc
          rw [if_pos hc] at h
          exact zw_vret hm_25 dX2_fallIfUncounted_70 h
        · intro hc
          rw [if_neg hc] at h
          refine zw_push hm_25 dX2_fallIfUncounted_40 (v := .inr (.inr (some 84))) rfl ?_
          refine zw_gf hm_25 dX2_fallIfUncounted_41 (v := .inr (.inr (some 85))) (zT_is hS s_84) (zT_t hS s_84) rfl f_2_11_2 (zT_f hS r_84_5) ?_
          refine zw_push hm_25 dX2_fallIfUncounted_44 (v := .inr (.inr (some 84))) rfl ?_
          refine zw_gf hm_25 dX2_fallIfUncounted_45 (v := .inl (mI S 84 7)) (zT_is hS s_84) (zT_t hS s_84) rfl f_2_25_2 rfl ?_
          refine zw_push hm_25 dX2_fallIfUncounted_48 (v := .inr (.inr (some c1))) rfl ?_
          obtain ⟨hg, h⟩ := h
          obtain ⟨hg2, h⟩ := h
          refine zw_aas hm_25 dX2_fallIfUncounted_49 (zT_is hS s_85) (zT_h hS s_85) rfl hg (fun b z => by cases z; exact ⟨zT_tis hS hg2, zT_tt hS hg2⟩) ?_
          refine zw_push hm_25 dX2_fallIfUncounted_50 (v := .inr (.inr (some 84))) rfl ?_
          refine zw_gf hm_25 dX2_fallIfUncounted_51 (v := .inr (.inr (some 86))) (zT_is (zT_pr hS (zfi_row (by decide +kernel))) s_84) (zT_t (zT_pr hS (zfi_row (by decide +kernel))) s_84) rfl f_2_17_2 (zT_f (zT_pr hS (zfi_row (by decide +kernel))) r_84_6) ?_
          refine zw_push hm_25 dX2_fallIfUncounted_54 (v := .inr (.inr (some 84))) rfl ?_
          refine zw_gf hm_25 dX2_fallIfUncounted_55 (v := .inl (mI S 84 7)) (zT_is (zT_pr hS (zfi_row (by decide +kernel))) s_84) (zT_t (zT_pr hS (zfi_row (by decide +kernel))) s_84) rfl f_2_25_2 rfl ?_
          refine zw_push hm_25 dX2_fallIfUncounted_58 (v := .inl (0 : Int32)) rfl ?_
          obtain ⟨hg, h⟩ := h
          refine zw_ias hm_25 dX2_fallIfUncounted_59 (zT_is (zT_pr hS (zfi_row (by decide +kernel))) s_86) (zT_h (zT_pr hS (zfi_row (by decide +kernel))) s_86) rfl hg ?_
          refine zw_push hm_25 dX2_fallIfUncounted_60 (v := .inr (.inr (some 84))) rfl ?_
          refine zw_stk hm_25 dX2_fallIfUncounted_61 (st₉ := [.inr (.inr (some 84)), .inr (.inr (some 84))]) rfl rfl ?_
          refine zw_gf hm_25 dX2_fallIfUncounted_62 (v := .inl (mI S 84 7)) (zT_is (zT_pi (zT_pr hS (zfi_row (by decide +kernel)))) s_84) (zT_t (zT_pi (zT_pr hS (zfi_row (by decide +kernel)))) s_84) rfl f_2_25_2 rfl ?_
          refine zw_push hm_25 dX2_fallIfUncounted_65 (v := .inl (1 : Int32)) rfl ?_
          refine zw_stk hm_25 dX2_fallIfUncounted_66 (st₉ := [.inl ((mI S 84 7) + (1 : Int32)), .inr (.inr (some 84))]) rfl rfl ?_
          refine zw_pf hm_25 dX2_fallIfUncounted_67 (zT_is (zT_pi (zT_pr hS (zfi_row (by decide +kernel)))) s_84) (zT_t (zT_pi (zT_pr hS (zfi_row (by decide +kernel)))) s_84) p_2_25_2 zk_int ?_
          exact zw_vret hm_25 dX2_fallIfUncounted_70 h
      · intro hc
        rw [if_neg hc] at h
        refine zw_push hm_25 dX2_fallIfUncounted_19 (v := .inr (.inr (some 84))) rfl ?_
        refine zw_gf hm_25 dX2_fallIfUncounted_20 (v := .inr (.inr (some 69))) (zT_is hS s_84) (zT_t hS s_84) rfl f_2_41_2 (zT_f hS r_84_3) ?_
        refine zw_push hm_25 dX2_fallIfUncounted_23 (v := .inr (.inr (some c1))) rfl ?_
        refine zw_cv hm_25 dX2_fallIfUncounted_24 v_2_61_7 hm_84 [.inr (.inr (some c1))] [] rfl (zT_rt hS s_69 rfl) ⟨by omega, by omega⟩ rfl (zw_mono h (zv_go ?_ ?_))
        · intro S2 hv
          obtain ⟨hS2, h⟩ := hv
          refine zw_goto hm_25 dX2_fallIfUncounted_27 (t := 70) rfl ?_
          exact zw_vret hm_25 dX2_fallIfUncounted_70 h
        · intro x S9 hx
          exact ⟨by decide, hx⟩
    · intro hc
      rw [if_neg hc] at h
      exact zw_vret hm_25 dX2_fallIfUncounted_11 h
theorem sp_25_84_sk {X : Nat × (Nat → Int32)} {d w : Nat} {f : Nat → Nat → Int32} {r : Nat → Nat → Option Nat} {C Z N : Nat} {Q : Option ma_V ⊕ Nat → ma_S → Prop} {ab : Nat→Nat→Int32} {R : zRT} {W : Nat} {kk : Nat→Int32} {y : Int32} {l : zLS} {B : Int} {fq : Nat→Int32} {n0 : Nat→Nat→Int32} {S : ma_S} (t : Option Nat) (hd : 2 ≤ d) (hw : 43 ≤ w) (hI : zJ84 f r C Z N S) (hq_t : ∀ c, t = some c → 126 ≤ c ∧ c < N) (hpre0 : xB S R) (hpre1 : aS W S = ab) (hpre2 : xW W) (hpre3 : t = zTa R y) (hpre4 : kC S = kk) (hpre5 : zSt S R l) (hpre6 : cC ab l kk B) (hpre7 : cOk (cRa ab l) y) (hpre8 : B ≤ 1000000) (hpre9 : zfP 84 (mI S) = fq) (hpre10 : zN0 S = n0) (K : ∀ S₉, zJ84 f r C Z N S₉ → (xB S₉ R) → (zFo W S₉ R B (cF1 (cPr ab l) y)) → (zfP 84 (mI S₉) = fq) → (zN0 S₉ = n0) → Q (.inl none) S₉) : ma_wp X d w 25 0 [(0, .inr (.inr (some 84))), (1, .inr (.inr t))] [] S Q := by
  refine g_25_84_sk_0 t (by omega) (by omega) (zG_T hI) ?_
  refine ⟨fun hc => ?_, fun c1 hc => ?_⟩
  · skip
    have rn_c1 : zTa R y = none := hpre3.symm.trans hc
    exact K _ hI (show xB S R from by first | (exact (xC_o (W := W) hpre0).2)) (show zFo W S R B (cF1 (cPr ab l) y) from by first | (exact FO_n hpre5 hpre1 hpre4 hpre6 (fo_y hpre6 hpre7 hpre0 hpre1 rn_c1))) (show zfP 84 (mI S) = fq from by first | (exact hpre9)) (show zN0 S = n0 from by first | (exact hpre10))
  · skip
    have th_c1 := hq_t c1 hc
    have rg_c1 : zTa R y = some c1 := hpre3.symm.trans hc
    subst hc
    refine ⟨zG_n hI th_c1, ?_⟩
    have b1 := i_bd (mI S c1 6)
    have li2 : (0 : Int32).toInt = 0 := rfl
    refine zd (fun h3 => ?_) (fun h3 => ?_)
    · skip
      have g4 := i_le h3
      refine ⟨zG_n hI th_c1, ?_⟩
      have b5 := i_bd (mI S c1 8)
      refine zd (fun h6 => ?_) (fun h6 => ?_)
      · skip
        have g7 := i_eq h6
        have li8 : (512 : Int32).toInt = 512 := rfl
        have f9 := zG_s hI (0) (512) (c := 84) (k := 7) (by decide)
        refine zd (fun h10 => ?_) (fun h10 => ?_)
        · skip
          have g11 := i_le h10
          exact K _ hI (show xB S R from by first | (exact (xC_o (W := W) hpre0).2)) (show zFo W S R B (cF1 (cPr ab l) y) from by first | (have ty := xB_th (W := W) hpre0 rg_c1; have k6 := congrArg Int32.toInt ((kC_y hpre0 rg_c1).trans (congrFun hpre4 _)); have w8 := ty.2.2.2.2.2.2.2.1; rw [hpre1] at w8; have w8i := congrArg Int32.toInt w8; exact FO_p hpre5 hpre1 hpre4 hpre6 hpre8 hpre7 ty.1 (by rw [← k6]; omega)) | (exfalso; have ty := xB_th (W := W) hpre0 rg_c1; have l5 := C_rm5 hpre6 (fo_al hpre7 ty.1); have l6 := hpre5.2; omega)) (show zfP 84 (mI S) = fq from by first | (exact hpre9)) (show zN0 S = n0 from by first | (exact hpre10))
        · skip
          have g12 := i_nle h10
          refine ⟨i_ix (by omega) (by omega), ?_⟩
          refine ⟨zG_n hI th_c1, ?_⟩
          refine ⟨i_ix (by omega) (by omega), ?_⟩
          have hI13 : zJ84 f r C Z N (ma_put S 85 (mI S 84 7).toNatClampNeg (.inr (.inr (some c1)))) := zG_rf hI (by decide) (by decide +kernel) (fun _ z => by cases z; exact th_c1)
          have hI14 : zJ84 f r C Z N (ma_put (ma_put S 85 (mI S 84 7).toNatClampNeg (.inr (.inr (some c1)))) 86 (mI S 84 7).toNatClampNeg (.inl (0 : Int32))) := zG_fa hI13 rfl (by decide) (by decide) (by decide) trivial
          first | have e16 : ((mI S 84 7) + (1 : Int32)).toInt = (mI S 84 7).toInt + (1) := i_addk rfl (by omega) (by omega) | have b17 := i_bd ((mI S 84 7) + (1 : Int32))
          have hI15 : zJ84 f r C Z N (ma_put (ma_put (ma_put S 85 (mI S 84 7).toNatClampNeg (.inr (.inr (some c1)))) 86 (mI S 84 7).toNatClampNeg (.inl (0 : Int32))) 84 7 (.inl ((mI S 84 7) + (1 : Int32)))) := zG_sp hI14 (0) (512) rfl (by decide) (by decide) (by decide) trivial (by omega) (by omega)
          exact K _ hI15 (show xB (ma_put (ma_put (ma_put S 85 (mI S 84 7).toNatClampNeg (.inr (.inr (some c1)))) 86 (mI S 84 7).toNatClampNeg (.inl (0 : Int32))) 84 7 (.inl ((mI S 84 7) + (1 : Int32)))) R from by first | (exact (xC_n (c := 84) (k := 7) (x := ((mI S 84 7) + (1 : Int32))) (xC_n (c := 86) (k := (mI S 84 7).toNatClampNeg) (x := (0 : Int32)) (xC_85 (n := (mI S 84 7).toNatClampNeg) (xC_o (W := W) hpre0)) (zir_W hpre2 rfl (by decide))) (zir_W hpre2 rfl (by decide))).2)) (show zFo W (ma_put (ma_put (ma_put S 85 (mI S 84 7).toNatClampNeg (.inr (.inr (some c1)))) 86 (mI S 84 7).toNatClampNeg (.inl (0 : Int32))) 84 7 (.inl ((mI S 84 7) + (1 : Int32)))) R B (cF1 (cPr ab l) y) from by first | (have ty := xB_th (W := W) hpre0 rg_c1; have k6 := congrArg Int32.toInt ((kC_y hpre0 rg_c1).trans (congrFun hpre4 _)); have w8 := ty.2.2.2.2.2.2.2.1; rw [hpre1] at w8; have w8i := congrArg Int32.toInt w8; have l5 := C_rm5 hpre6 (fo_al hpre7 ty.1); exact FO_r (St_ps hpre5 rg_c1 l5 rfl rfl) (by rw [(xC_n (c := 84) (k := 7) (x := ((mI S 84 7) + (1 : Int32))) (xC_n (c := 86) (k := (mI S 84 7).toNatClampNeg) (x := (0 : Int32)) (xC_85 (n := (mI S 84 7).toNatClampNeg) (xC_o (W := W) hpre0)) (zir_W hpre2 rfl (by decide))) (zir_W hpre2 rfl (by decide))).1]; exact hpre1) (by rw [(xK_n (c := 84) (k := 7) (x := ((mI S 84 7) + (1 : Int32))) (xK_n (c := 86) (k := (mI S 84 7).toNatClampNeg) (x := (0 : Int32)) (xK_85 (n := (mI S 84 7).toNatClampNeg) (xK_o (W := W) hpre0 rfl)) (zir_W hpre2 rfl (by decide))) (zir_W hpre2 rfl (by decide))).2]; exact hpre4) hpre6 hpre8 hpre7 ty.1 (by rw [← k6]; omega) (Int32.toInt_inj.mp (by rw [← w8i]; show _ = (0 : Int); omega)))) (show zfP 84 (mI (ma_put (ma_put (ma_put S 85 (mI S 84 7).toNatClampNeg (.inr (.inr (some c1)))) 86 (mI S 84 7).toNatClampNeg (.inl (0 : Int32))) 84 7 (.inl ((mI S 84 7) + (1 : Int32))))) = fq from by first | (exact (zf_7.trans ((zf_n (P := 84) (c := 86) (by decide)).trans ((zf_r (P := 84)).trans hpre9))))) (show zN0 (ma_put (ma_put (ma_put S 85 (mI S 84 7).toNatClampNeg (.inr (.inr (some c1)))) 86 (mI S 84 7).toNatClampNeg (.inl (0 : Int32))) 84 7 (.inl ((mI S 84 7) + (1 : Int32)))) = n0 from by first | (exact ((n0_p (c := 84) (by decide)).trans ((n0_p (c := 86) (by decide)).trans (n0_r.trans hpre10)))))
      · skip
        have g18 := i_ne h6
        refine sp_84_69_sk (ab := (aS W S)) (R := R) (W := W) (y := y) (kk := (kC S)) (n0 := n0) c1 (by omega) (by omega) (zJ84_dn hI) th_c1 (show xB S R from by first | (exact (xC_o (W := 75) hpre0).2)) (show aS W S = (aS W S) from by first | (exact rfl)) (show xW W from by first | (exact hpre2) | (exact xW88) | (exact xW75)) (show zTa R y = some c1 from by first | (exact rg_c1)) (show kC S = (kC S) from by first | (exact rfl)) (show zN0 S = n0 from by first | (exact hpre10)) (fun S2 hL_S2 rp0_S2 rp1_S2 rp2_S2 rp3_S2 => zv_n ⟨zG_T hL_S2, ?_⟩)
        have hI_S2 := zJ84_up hI hL_S2
        have rp0_S2 : xB S2 R := by
          have z := rp0_S2
          (try rw [show mI S 65 = f 65 from funext (fun k => zG_z hI rfl)] at z)
          (try rw [show mI S 64 1 = f 64 1 from zG_z hI rfl] at z)
          exact z
        have rp1_S2 : aS W S2 = aGr (aS W S) y := by
          have z := rp1_S2
          (try rw [show mI S 65 = f 65 from funext (fun k => zG_z hI rfl)] at z)
          (try rw [show mI S 64 1 = f 64 1 from zG_z hI rfl] at z)
          exact z
        have rp2_S2 : ∀ n, xAl (aS W S) n → kC S2 n = (kC S) n + (if ((aS W S) 69 5).toInt < 512 then Int32.ofNat (cIs y n) else 0) := by
          have z := rp2_S2
          (try rw [show mI S 65 = f 65 from funext (fun k => zG_z hI rfl)] at z)
          (try rw [show mI S 64 1 = f 64 1 from zG_z hI rfl] at z)
          exact z
        have rp3_S2 : zN0 S2 = n0 := by
          have z := rp3_S2
          (try rw [show mI S 65 = f 65 from funext (fun k => zG_z hI rfl)] at z)
          (try rw [show mI S 64 1 = f 64 1 from zG_z hI rfl] at z)
          exact z
        exact K _ hI_S2 (show xB S2 R from by first | (exact (xC_o (W := W) rp0_S2).2)) (show zFo W S2 R B (cF1 (cPr ab l) y) from by first | (have ty := xB_th (W := W) hpre0 rg_c1; have k6 := congrArg Int32.toInt ((kC_y hpre0 rg_c1).trans (congrFun hpre4 _)); have w8 := ty.2.2.2.2.2.2.2.1; rw [hpre1] at w8; have w8i := congrArg Int32.toInt w8; exact FO_g (St_fr hpre5 (funext (fun k => zG_r hL_S2 (by decide))) (funext (fun k => zG_z hL_S2 rfl)) (zG_z hL_S2 rfl)) (by have q := rp1_S2; rw [hpre1] at q; exact q) hpre6 hpre8 hpre7 ty.1 (by rw [← k6]; omega) (fun z => by rw [z] at w8i; have z0 : (0 : Int32).toInt = 0 := rfl; omega) (fun n hn => by have q := rp2_S2 n (by rw [hpre1]; exact hn); rw [hpre4, hpre1] at q; exact q))) (show zfP 84 (mI S2) = fq from by first | (exact ((zf_fr (P := 84) (S₉ := S2) (S := S) (fun _ => zG_z hL_S2 rfl)).trans hpre9))) (show zN0 S2 = n0 from by first | (exact rp3_S2))
    · skip
      have g19 := i_nle h3
      exact K _ hI (show xB S R from by first | (exact (xC_o (W := W) hpre0).2)) (show zFo W S R B (cF1 (cPr ab l) y) from by first | (have ty := xB_th (W := W) hpre0 rg_c1; have k6 := congrArg Int32.toInt ((kC_y hpre0 rg_c1).trans (congrFun hpre4 _)); have w8 := ty.2.2.2.2.2.2.2.1; rw [hpre1] at w8; have w8i := congrArg Int32.toInt w8; exact FO_p hpre5 hpre1 hpre4 hpre6 hpre8 hpre7 ty.1 (by rw [← k6]; omega)) | (exfalso; have ty := xB_th (W := W) hpre0 rg_c1; have l5 := C_rm5 hpre6 (fo_al hpre7 ty.1); have l6 := hpre5.2; omega)) (show zfP 84 (mI S) = fq from by first | (exact hpre9)) (show zN0 S = n0 from by first | (exact hpre10))

/-! from 95.m27 -/
/-! COUNTS, the class (written by wip/tools/gen20k.py) -/
theorem g_26_84_sk_0 {X : Nat × (Nat → Int32)} {d w : Nat} {S : ma_S} {Q : Option ma_V ⊕ Nat → ma_S → Prop} (t : Nat) (i : Int32) (hd : 3 ≤ d) (hw : 64 ≤ w) (hS : zT S) (h : (126 ≤ t ∧ t < mN S) ∧ ((126 ≤ t ∧ t < mN S) ∧ (if i < 0 then (Q (.inl none) S) else ((126 ≤ t ∧ t < mN S) ∧ (if ((mI S t 2) - (1 : Int32)) ≤ i then (Q (.inl none) S) else ((126 ≤ t ∧ t < mN S) ∧ (if (lg_cmp ((((mL S t 3).toUInt64 >>> (i.toInt64.toUInt64 &&& Int64.toUInt64 63)).toInt64) &&& (1 : Int64)) (0 : Int64)) = 0 then (Q (.inl none) S) else (ma_wp X (d - 1) (w - 24) 94 0 [(0, .inr (.inr (some 69))), (1, .inr (.inr (some t))), (2, .inl i), (3, .inr (.inr none))] [] S (zo (fun v2 S1 => zT S1 ∧ (ma_wp X (d - 1) (w - 21) 25 0 [(0, .inr (.inr (some 84))), (1, .inr (.inr v2))] [] S1 (zv (fun S3 => zT S3 ∧ (Q (.inl none) S3)) (fun x S9 => Q (.inr x) S9)))) (fun x S9 => Q (.inr x) S9)))))))))) : ma_wp X d w 26 0 [(0, .inr (.inr (some 84))), (1, .inr (.inr (some t))), (2, .inl i)] [] S Q := by
  refine zw_push hm_26 dX2_dropWord_0 (v := .inr (.inr (some t))) rfl ?_
  refine zw_push hm_26 dX2_dropWord_1 (v := .inl i) rfl ?_
  obtain ⟨hg, h⟩ := h
  refine zw_cv hm_26 dX2_dropWord_2 v_2_50_9 hm_113 [.inl i] [] rfl (zT_trt hS hg) ⟨by omega, by omega⟩ rfl ?_
  show ma_wp X (d - 1) (w - 21) 113 0 [(0, .inr (.inr (some t))), (1, .inl i)] [] S _
  refine zw_push hm_113 dX9_isReference_0 (v := .inr (.inr (some t))) rfl ?_
  refine zw_push hm_113 dX9_isReference_1 (v := .inl i) rfl ?_
  obtain ⟨hg, h⟩ := h
  refine zw_cv hm_113 dX9_isReference_2 v_9_26_9 hm_114 [.inl i] [] rfl (zT_trt hS hg) ⟨by omega, by omega⟩ rfl ?_
  show ma_wp X ((d - 1) - 1) ((w - 21) - 21) 114 0 [(0, .inr (.inr (some t))), (1, .inl i)] [] S _
  refine zw_push hm_114 dX9_hasWord_0 (v := .inl i) rfl ?_
  refine zw_if0 hm_114 dX9_hasWord_1 (t := 18) rfl zc0_lt ?_ ?_
  · intro hc
    rw [if_pos hc] at h
    refine zw_push hm_114 dX9_hasWord_18 (v := .inl (0 : Int32)) rfl ?_
    refine zw_bret hm_114 dX9_hasWord_19 (by decide) ?_
    show ma_wp X (d - 1) (w - 21) 113 5 [(0, .inr (.inr (some t))), (1, .inl i)] [.inl (0 : Int32)] S _
    refine zw_if0 hm_113 dX9_isReference_5 (t := 25) rfl zc0_eq (fun _ => ?_) (fun hc => absurd (by decide) hc)
    refine zw_push hm_113 dX9_isReference_25 (v := .inl (0 : Int32)) rfl ?_
    refine zw_bret hm_113 dX9_isReference_26 (by decide) ?_
    show ma_wp X d w 26 5 [(0, .inr (.inr (some 84))), (1, .inr (.inr (some t))), (2, .inl i)] [.inl (0 : Int32)] S _
    refine zw_if0 hm_26 dX2_dropWord_5 (t := 22) rfl zc0_eq (fun _ => ?_) (fun hc => absurd (by decide) hc)
    exact zw_vret hm_26 dX2_dropWord_22 h
  · intro hc
    rw [if_neg hc] at h
    refine zw_push hm_114 dX9_hasWord_4 (v := .inl i) rfl ?_
    refine zw_push hm_114 dX9_hasWord_5 (v := .inr (.inr (some t))) rfl ?_
    obtain ⟨hg, h⟩ := h
    refine zw_gf hm_114 dX9_hasWord_6 (v := .inl (mI S t 2)) (zT_tis hS hg) (zT_tt hS hg) rfl f_9_16_9 rfl ?_
    refine zw_push hm_114 dX9_hasWord_9 (v := .inl (1 : Int32)) rfl ?_
    refine zw_stk hm_114 dX9_hasWord_10 (st₉ := [.inl ((mI S t 2) - (1 : Int32)), .inl i]) rfl rfl ?_
    refine zw_if2 hm_114 dX9_hasWord_11 (t := 18) rfl zc2_ge ?_ ?_
    · intro hc
      rw [if_pos hc] at h
      refine zw_push hm_114 dX9_hasWord_18 (v := .inl (0 : Int32)) rfl ?_
      refine zw_bret hm_114 dX9_hasWord_19 (by decide) ?_
      show ma_wp X (d - 1) (w - 21) 113 5 [(0, .inr (.inr (some t))), (1, .inl i)] [.inl (0 : Int32)] S _
      refine zw_if0 hm_113 dX9_isReference_5 (t := 25) rfl zc0_eq (fun _ => ?_) (fun hc => absurd (by decide) hc)
      refine zw_push hm_113 dX9_isReference_25 (v := .inl (0 : Int32)) rfl ?_
      refine zw_bret hm_113 dX9_isReference_26 (by decide) ?_
      show ma_wp X d w 26 5 [(0, .inr (.inr (some 84))), (1, .inr (.inr (some t))), (2, .inl i)] [.inl (0 : Int32)] S _
      refine zw_if0 hm_26 dX2_dropWord_5 (t := 22) rfl zc0_eq (fun _ => ?_) (fun hc => absurd (by decide) hc)
      exact zw_vret hm_26 dX2_dropWord_22 h
    · intro hc
      rw [if_neg hc] at h
      refine zw_push hm_114 dX9_hasWord_14 (v := .inl (1 : Int32)) rfl ?_
      refine zw_goto hm_114 dX9_hasWord_15 (t := 19) rfl ?_
      refine zw_bret hm_114 dX9_hasWord_19 (by decide) ?_
      show ma_wp X (d - 1) (w - 21) 113 5 [(0, .inr (.inr (some t))), (1, .inl i)] [.inl (1 : Int32)] S _
      refine zw_if0 hm_113 dX9_isReference_5 (t := 25) rfl zc0_eq (fun hc => absurd hc (by decide)) (fun _ => ?_)
      refine zw_push hm_113 dX9_isReference_8 (v := .inr (.inr (some t))) rfl ?_
      obtain ⟨hg, h⟩ := h
      refine zw_gf hm_113 dX9_isReference_9 (v := .inr (.inl (mL S t 3))) (zT_tis hS hg) (zT_tt hS hg) rfl f_9_19_9 rfl ?_
      refine zw_push hm_113 dX9_isReference_12 (v := .inl i) rfl ?_
      refine zw_stk hm_113 dX9_isReference_13 (st₉ := [.inr (.inl (((mL S t 3).toUInt64 >>> (i.toInt64.toUInt64 &&& Int64.toUInt64 63)).toInt64))]) rfl rfl ?_
      refine zw_push hm_113 dX9_isReference_14 (v := .inr (.inl (1 : Int64))) rfl ?_
      refine zw_stk hm_113 dX9_isReference_15 (st₉ := [.inr (.inl ((((mL S t 3).toUInt64 >>> (i.toInt64.toUInt64 &&& Int64.toUInt64 63)).toInt64) &&& (1 : Int64)))]) rfl rfl ?_
      refine zw_push hm_113 dX9_isReference_16 (v := .inr (.inl (0 : Int64))) rfl ?_
      refine zw_stk hm_113 dX9_isReference_17 (st₉ := [.inl (lg_cmp ((((mL S t 3).toUInt64 >>> (i.toInt64.toUInt64 &&& Int64.toUInt64 63)).toInt64) &&& (1 : Int64)) (0 : Int64))]) rfl rfl ?_
      refine zw_if0 hm_113 dX9_isReference_18 (t := 25) rfl zc0_eq ?_ ?_
      · intro hc
        rw [if_pos hc] at h
        refine zw_push hm_113 dX9_isReference_25 (v := .inl (0 : Int32)) rfl ?_
        refine zw_bret hm_113 dX9_isReference_26 (by decide) ?_
        show ma_wp X d w 26 5 [(0, .inr (.inr (some 84))), (1, .inr (.inr (some t))), (2, .inl i)] [.inl (0 : Int32)] S _
        refine zw_if0 hm_26 dX2_dropWord_5 (t := 22) rfl zc0_eq (fun _ => ?_) (fun hc => absurd (by decide) hc)
        exact zw_vret hm_26 dX2_dropWord_22 h
      · intro hc
        rw [if_neg hc] at h
        refine zw_push hm_113 dX9_isReference_21 (v := .inl (1 : Int32)) rfl ?_
        refine zw_goto hm_113 dX9_isReference_22 (t := 26) rfl ?_
        refine zw_bret hm_113 dX9_isReference_26 (by decide) ?_
        show ma_wp X d w 26 5 [(0, .inr (.inr (some 84))), (1, .inr (.inr (some t))), (2, .inl i)] [.inl (1 : Int32)] S _
        refine zw_if0 hm_26 dX2_dropWord_5 (t := 22) rfl zc0_eq (fun hc => absurd hc (by decide)) (fun _ => ?_)
        refine zw_push hm_26 dX2_dropWord_8 (v := .inr (.inr (some 84))) rfl ?_
        refine zw_push hm_26 dX2_dropWord_9 (v := .inr (.inr (some 84))) rfl ?_
        refine zw_gf hm_26 dX2_dropWord_10 (v := .inr (.inr (some 69))) (zT_is hS s_84) (zT_t hS s_84) rfl f_2_41_2 (zT_f hS r_84_3) ?_
        refine zw_push hm_26 dX2_dropWord_13 (v := .inr (.inr (some t))) rfl ?_
        refine zw_push hm_26 dX2_dropWord_14 (v := .inl i) rfl ?_
        refine zw_push hm_26 dX2_dropWord_15 (v := .inr (.inr none)) rfl ?_
        refine zw_cv hm_26 dX2_dropWord_16 v_2_53_7 hm_94 [.inr (.inr none), .inl i, .inr (.inr (some t))] [.inr (.inr (some 84))] rfl (zT_rt hS s_69 rfl) ⟨by omega, by omega⟩ rfl (zw_mono h (zo_go ?_ ?_))
        · intro v2 S1 hv
          obtain ⟨hS1, h⟩ := hv
          refine zw_cv hm_26 dX2_dropWord_19 v_2_28_2 hm_25 [.inr (.inr v2)] [] rfl (zT_rt hS1 s_84 rfl) ⟨by omega, by omega⟩ rfl (zw_mono h (zv_go ?_ ?_))
          · intro S3 hv
            obtain ⟨hS3, h⟩ := hv
            exact zw_vret hm_26 dX2_dropWord_22 h
          · intro x S9 hx
            exact ⟨by decide, hx⟩
        · intro x S9 hx
          exact ⟨by decide, hx⟩
theorem sp_26_84_sk {X : Nat × (Nat → Int32)} {d w : Nat} {f : Nat → Nat → Int32} {r : Nat → Nat → Option Nat} {C Z N : Nat} {Q : Option ma_V ⊕ Nat → ma_S → Prop} {ab : Nat→Nat→Int32} {R : zRT} {W : Nat} {kk : Nat→Int32} {y : Int32} {l : zLS} {B : Int} {fq : Nat→Int32} {n0 : Nat→Nat→Int32} {S : ma_S} (t : Nat) (i : Int32) (hd : 3 ≤ d) (hw : 64 ≤ w) (hI : zJ84 f r C Z N S) (th_t : 126 ≤ t ∧ t < N) (hpre0 : xB S R) (hpre1 : aS W S = ab) (hpre2 : xW W) (hpre3 : zTa R y = some t) (hpre4 : kC S = kk) (hpre5 : zSt S R ((y, i + 1) :: l)) (hpre6 : cC ab ((y, i) :: l) kk B) (hpre7 : B ≤ 1000000) (hpre8 : 0 ≤ i.toInt) (hpre9 : i.toInt < (ab 128 y.toNatClampNeg).toInt - 1) (hpre10 : zfP 84 (mI S) = fq) (hpre11 : zN0 S = n0) (K : ∀ S₉, zJ84 f r C Z N S₉ → (xB S₉ R) → (zFo W S₉ R B (cSt (cPr ab ((y, i) :: l)))) → (zfP 84 (mI S₉) = fq) → (zN0 S₉ = n0) → Q (.inl none) S₉) : ma_wp X d w 26 0 [(0, .inr (.inr (some 84))), (1, .inr (.inr (some t))), (2, .inl i)] [] S Q := by
  refine g_26_84_sk_0 t i (by omega) (by omega) (zG_T hI) ?_
  refine ⟨zG_n hI th_t, ?_⟩
  refine ⟨zG_n hI th_t, ?_⟩
  have b1 := i_bd i
  have li2 : (0 : Int32).toInt = 0 := rfl
  refine zd (fun h3 => ?_) (fun h3 => ?_)
  · skip
    have g4 := i_lt h3
    exact K _ hI (show xB S R from by first | (exact (xC_o (W := W) hpre0).2)) (show zFo W S R B (cSt (cPr ab ((y, i) :: l))) from by first | (have ty := xB_th (W := W) hpre0 hpre3; have z2 := congrArg Int32.toInt ty.2.2.2.2.1; rw [hpre1] at z2; have il := hpre9; exact FD_0 hpre5 hpre1 hpre4 hpre6 hpre9 (irw_n hpre0 hpre3 hpre1 (by omega) (by assumption))) | (exfalso; have ty := xB_th (W := W) hpre0 hpre3; have z2 := congrArg Int32.toInt ty.2.2.2.2.1; rw [hpre1] at z2; have il := hpre9; omega)) (show zfP 84 (mI S) = fq from by first | (exact hpre10)) (show zN0 S = n0 from by first | (exact hpre11))
  · skip
    have g5 := i_nlt h3
    refine ⟨zG_n hI th_t, ?_⟩
    have f6 := zG_th hI th_t
    first | have e7 : ((mI S t 2) - (1 : Int32)).toInt = (mI S t 2).toInt - (1) := i_subk rfl (by omega) (by omega) | have b8 := i_bd ((mI S t 2) - (1 : Int32))
    refine zd (fun h9 => ?_) (fun h9 => ?_)
    · skip
      have g10 := i_le h9
      exact K _ hI (show xB S R from by first | (exact (xC_o (W := W) hpre0).2)) (show zFo W S R B (cSt (cPr ab ((y, i) :: l))) from by first | (have ty := xB_th (W := W) hpre0 hpre3; have z2 := congrArg Int32.toInt ty.2.2.2.2.1; rw [hpre1] at z2; have il := hpre9; exact FD_0 hpre5 hpre1 hpre4 hpre6 hpre9 (irw_n hpre0 hpre3 hpre1 (by omega) (by assumption))) | (exfalso; have ty := xB_th (W := W) hpre0 hpre3; have z2 := congrArg Int32.toInt ty.2.2.2.2.1; rw [hpre1] at z2; have il := hpre9; omega)) (show zfP 84 (mI S) = fq from by first | (exact hpre10)) (show zN0 S = n0 from by first | (exact hpre11))
    · skip
      have g11 := i_nle h9
      refine ⟨zG_n hI th_t, ?_⟩
      have b12 := i_bd (lg_cmp ((((mL S t 3).toUInt64 >>> (i.toInt64.toUInt64 &&& Int64.toUInt64 63)).toInt64) &&& (1 : Int64)) (0 : Int64))
      refine zd (fun h13 => ?_) (fun h13 => ?_)
      · skip
        have g14 := i_eq h13
        exact K _ hI (show xB S R from by first | (exact (xC_o (W := W) hpre0).2)) (show zFo W S R B (cSt (cPr ab ((y, i) :: l))) from by first | (have ty := xB_th (W := W) hpre0 hpre3; have z2 := congrArg Int32.toInt ty.2.2.2.2.1; rw [hpre1] at z2; have il := hpre9; exact FD_0 hpre5 hpre1 hpre4 hpre6 hpre9 (irw_n hpre0 hpre3 hpre1 (by omega) (by assumption))) | (exfalso; have ty := xB_th (W := W) hpre0 hpre3; have z2 := congrArg Int32.toInt ty.2.2.2.2.1; rw [hpre1] at z2; have il := hpre9; omega)) (show zfP 84 (mI S) = fq from by first | (exact hpre10)) (show zN0 S = n0 from by first | (exact hpre11))
      · skip
        have g15 := i_ne h13
        refine sp_94_69_sk (ab := (aS W S)) (R := R) (W := W) (y := ((-1 : Int32))) (yt := (y)) (kk := (kC S)) (n0 := n0) t (i) (none) (by omega) (by omega) (zJ84_dn hI) th_t (fun _ z => by cases z) (show xB S R from by first | (exact (xC_o (W := 75) hpre0).2)) (show aS W S = (aS W S) from by first | (exact rfl)) (show xW W from by first | (exact hpre2) | (exact xW88) | (exact xW75)) (show zTa R (y) = some t from by first | (exact hpre3)) (show none = zTa R ((-1 : Int32)) from by first | (exact ta_m1) | (exact ta_no (by omega))) (by omega) (show kC S = (kC S) from by first | (exact rfl)) (show zN0 S = n0 from by first | (exact hpre11)) (fun v2 S1 hL_S1 hq_v2 rp0_S1 rp1_S1 rp2_S1 rp3_S1 rp4_S1 => zo_n ⟨zG_T hL_S1, ?_⟩)
        have hI_S1 := zJ84_up hI hL_S1
        have rp0_S1 : xB S1 R := by
          have z := rp0_S1
          (try rw [show mI S 65 = f 65 from funext (fun k => zG_z hI rfl)] at z)
          (try rw [show mI S 64 1 = f 64 1 from zG_z hI rfl] at z)
          exact z
        have rp1_S1 : aS W S1 = aCi (aS W S) (y).toNatClampNeg i (aNm (aS W S) ((-1 : Int32))) := by
          have z := rp1_S1
          (try rw [show mI S 65 = f 65 from funext (fun k => zG_z hI rfl)] at z)
          (try rw [show mI S 64 1 = f 64 1 from zG_z hI rfl] at z)
          exact z
        have rp2_S1 : v2 = zTa R (aRef (aS W S) (y).toNatClampNeg i) := by
          have z := rp2_S1
          (try rw [show mI S 65 = f 65 from funext (fun k => zG_z hI rfl)] at z)
          (try rw [show mI S 64 1 = f 64 1 from zG_z hI rfl] at z)
          exact z
        have rp3_S1 : ∀ n, xAl (aS W S) n → kC S1 n = (kC S) n + Int32.ofNat (cIs ((-1 : Int32)) n) - Int32.ofNat (cIs (aRef (aS W S) (y).toNatClampNeg i) n) := by
          have z := rp3_S1
          (try rw [show mI S 65 = f 65 from funext (fun k => zG_z hI rfl)] at z)
          (try rw [show mI S 64 1 = f 64 1 from zG_z hI rfl] at z)
          exact z
        have rp4_S1 : zN0 S1 = n0 := by
          have z := rp4_S1
          (try rw [show mI S 65 = f 65 from funext (fun k => zG_z hI rfl)] at z)
          (try rw [show mI S 64 1 = f 64 1 from zG_z hI rfl] at z)
          exact z
        refine sp_25_84_sk (ab := (aS W S1)) (R := R) (W := W) (kk := (kC S1)) (y := ((aRef (aS W S) (y).toNatClampNeg i))) (l := ((y, i + 1) :: l)) (B := B) (fq := (zfP 84 (mI S1))) (n0 := n0) (v2) (by omega) (by omega) hI_S1 hq_v2 (show xB S1 R from by first | (exact (xC_o (W := W) rp0_S1).2)) (show aS W S1 = (aS W S1) from by first | (exact rfl)) (show xW W from by first | (exact hpre2) | (exact xW88) | (exact xW75)) (show v2 = zTa R ((aRef (aS W S) (y).toNatClampNeg i)) from by first | (exact rp2_S1)) (show kC S1 = (kC S1) from by first | (exact rfl)) (show zSt S1 R ((y, i + 1) :: l) from by first | (exact St_fr hpre5 (funext (fun k => zG_r hL_S1 (by decide))) (funext (fun k => zG_z hL_S1 rfl)) (zG_z hL_S1 rfl))) (show cC (aS W S1) ((y, i + 1) :: l) (kC S1) B from by first | (have dr := DR (b := aS W S1) (K₉ := kC S1) hpre6 hpre9 (irw_y hpre0 hpre3 hpre1 (by omega) (by assumption)) (fun n hn => by have q := rp3_S1 n (by rw [hpre1]; exact hn); rw [hpre4, hpre1] at q; exact q) (by have q := rp1_S1; rw [hpre1] at q; exact q); exact dr.1)) (show cOk (cRa (aS W S1) ((y, i + 1) :: l)) ((aRef (aS W S) (y).toNatClampNeg i)) from by first | (have dr := DR (b := aS W S1) (K₉ := kC S1) hpre6 hpre9 (irw_y hpre0 hpre3 hpre1 (by omega) (by assumption)) (fun n hn => by have q := rp3_S1 n (by rw [hpre1]; exact hn); rw [hpre4, hpre1] at q; exact q) (by have q := rp1_S1; rw [hpre1] at q; exact q); (try rw [hpre1]); exact dr.2.1)) (show B ≤ 1000000 from by first | (exact hpre7)) (show zfP 84 (mI S1) = (zfP 84 (mI S1)) from by first | (exact rfl)) (show zN0 S1 = n0 from by first | (exact rp4_S1)) (fun S3 hI_S3 rp0_S3 rp1_S3 rp2_S3 rp3_S3 => zv_n ⟨zG_T hI_S3, ?_⟩)
        have rp0_S3 : xB S3 R := rp0_S3
        have rp1_S3 : zFo W S3 R B (cF1 (cPr (aS W S1) ((y, i + 1) :: l)) ((aRef (aS W S) (y).toNatClampNeg i))) := rp1_S3
        have rp2_S3 : zfP 84 (mI S3) = (zfP 84 (mI S1)) := rp2_S3
        have rp3_S3 : zN0 S3 = n0 := rp3_S3
        exact K _ hI_S3 (show xB S3 R from by first | (exact (xC_o (W := W) rp0_S3).2)) (show zFo W S3 R B (cSt (cPr ab ((y, i) :: l))) from by first | (have dr := DR (b := aS W S1) (K₉ := kC S1) hpre6 hpre9 (irw_y hpre0 hpre3 hpre1 (by omega) (by assumption)) (fun n hn => by have q := rp3_S1 n (by rw [hpre1]; exact hn); rw [hpre4, hpre1] at q; exact q) (by have q := rp1_S1; rw [hpre1] at q; exact q); have q := rp1_S3; (try rw [hpre1] at q); rw [dr.2.2] at q; exact q)) (show zfP 84 (mI S3) = fq from by first | (exact (rp2_S3.trans ((zf_fr (P := 84) (S₉ := S1) (S := S) (fun _ => zG_z hL_S1 rfl)).trans hpre10)))) (show zN0 S3 = n0 from by first | (exact rp3_S3))

