/-! AGES, the class (written by wip/tools/gen15y.py) -/
/-! AGES: a link and its card -/
section F30
variable {S S0 S1 : ma_S} {a b ab ag : Nat → Nat → Int32} {n m : Nat} {i z y x : Int32} {j : Int}
theorem Nr_83 (h83 : b 83 = a 83) (h87 : b 87 = a 87) (h126 : b 126 = a 126) (h130 : b 130 = a 130) : gNr b m j y 83 = gNr a m j y 83 := by
  have e : gCx b m j = gCx a m j := by
    unfold gCx
    rw [h130, h87]
  funext k
  unfold gNr
  rw [e, h87, h126, h130]
  split
  · by_cases w : k = (gCx a m j).toNat
    · rw [w, xu_s, xu_s]
    · rw [xu_o (fun z => w z.2), xu_o (fun z => w z.2), h83]
  · rw [h83]
theorem Nr_li (h0 : aS 88 S = ab) (h : aS 88 S0 = aCi ab n i z) (e1 : mI S0 82 = mI S 82) (e2 : mI S0 83 = mI S 83) (hg : aG S = ag) : gNr (aG S0) m j y 83 = gNr ag m j y 83 := by
  have r : ∀ c, c ≠ 71 → c ≠ 75 → c ≠ 76 → c ≠ 77 → c ≠ 87 → c ≠ 83 → aG S0 c = ag c := fun c h1 h5 h6 h7 h8 h3 => by
    funext k
    rw [aG_o h8 h3, aS_W ⟨h5, h6, h7⟩, h, show aCi ab n i z c = ab c from (by unfold aCi; split; (exact ma_u_ne _ _ _ h1); rfl), ← h0, ← aS_W ⟨h5, h6, h7⟩, ← aG_o h8 h3, hg]
  refine Nr_83 ?_ ?_ (r 126 (by decide) (by decide) (by decide) (by decide) (by decide) (by decide)) (r 130 (by decide) (by decide) (by decide) (by decide) (by decide) (by decide))
  · funext k
    rw [aG_8, e2, ← aG_8, hg]
  · funext k
    rw [← hg, aG_7, aG_7]
    unfold zfG
    rw [e1]
theorem Nr_row (h : aG S1 = gNr (aG S0) m j y) (h2 : gNr (aG S0) m j y 83 = gNr ag m j y 83) : mI S1 83 = gNr ag m j y 83 := by
  rw [← h2, ← h]
  funext k
  exact aG_8.symm
end F30
theorem g_20_82_s_0 {X : Nat × (Nat → Int32)} {d w : Nat} {S : ma_S} {Q : Option ma_V ⊕ Nat → ma_S → Prop}  (hd : 0 ≤ d) (hw : 0 ≤ w) (hS : zT S) (h : ma_wp X d w 20 4 [(0, .inr (.inr (some 82))), (1, .inl (0 : Int32)), (2, .inl (0 : Int32))] [] S Q) : ma_wp X d w 20 0 [(0, .inr (.inr (some 82)))] [] S Q := by
  refine zw_push hm_20 dX0_specials_0 (v := .inl (0 : Int32)) rfl ?_
  refine zw_sto hm_20 dX0_specials_1 [(1, .inl (0 : Int32)), (0, .inr (.inr (some 82)))] rfl rfl rfl ?_
  refine zw_push hm_20 dX0_specials_2 (v := .inl (0 : Int32)) rfl ?_
  refine zw_sto hm_20 dX0_specials_3 [(2, .inl (0 : Int32)), (1, .inl (0 : Int32)), (0, .inr (.inr (some 82)))] rfl rfl rfl ?_
  exact zw_sub (ma_nd_of (ks := [0, 1, 2]) rfl (by decide)) (ma_nd_of (ks := [2, 1, 0]) rfl (by decide)) (ma_le_cons rfl (ma_le_cons rfl (ma_le_cons rfl (ma_le_nil _)))) h
theorem g_20_82_s_4 {X : Nat × (Nat → Int32)} {d w : Nat} {S : ma_S} {Q : Option ma_V ⊕ Nat → ma_S → Prop} (l1 : Int32) (l2 : Int32) (hd : 0 ≤ d) (hw : 0 ≤ w) (hS : zT S) (h : if (375 : Int32) ≤ l2 then (Q (.inl (some (.inl l1))) S) else ((0 ≤ l2 ∧ l2.toNatClampNeg < 375) ∧ (ma_wp X d w 20 4 [(0, .inr (.inr (some 82))), (1, .inl (l1 + (mI S 83 l2.toNatClampNeg))), (2, .inl (l2 + (1 : Int32)))] [] S Q))) : ma_wp X d w 20 4 [(0, .inr (.inr (some 82))), (1, .inl l1), (2, .inl l2)] [] S Q := by
  refine zw_push hm_20 dX0_specials_4 (v := .inl l2) rfl ?_
  refine zw_push hm_20 dX0_specials_5 (v := .inl (375 : Int32)) rfl ?_
  refine zw_if2 hm_20 dX0_specials_8 (t := 26) rfl zc2_ge ?_ ?_
  · intro hc
    rw [if_pos hc] at h
    refine zw_push hm_20 dX0_specials_26 (v := .inl l1) rfl ?_
    exact zw_iret hm_20 dX0_specials_27 h
  · intro hc
    rw [if_neg hc] at h
    refine zw_push hm_20 dX0_specials_11 (v := .inl l1) rfl ?_
    refine zw_push hm_20 dX0_specials_12 (v := .inr (.inr (some 82))) rfl ?_
    refine zw_gf hm_20 dX0_specials_13 (v := .inr (.inr (some 83))) (zT_is hS s_82) (zT_t hS s_82) rfl f_1_9_1 (zT_f hS r_82_9) ?_
    refine zw_push hm_20 dX0_specials_16 (v := .inl l2) rfl ?_
    obtain ⟨hg, h⟩ := h
    refine zw_ia hm_20 dX0_specials_17 (zT_is hS s_83) (zT_h hS s_83) rfl hg ?_
    show ma_wp X d w 20 18 [(0, .inr (.inr (some 82))), (1, .inl l1), (2, .inl l2)] [.inl (mI S 83 l2.toNatClampNeg), .inl l1] S _
    refine zw_stk hm_20 dX0_specials_18 (st' := [.inl (l1 + (mI S 83 l2.toNatClampNeg))]) rfl rfl ?_
    refine zw_sto hm_20 dX0_specials_19 [(1, .inl (l1 + (mI S 83 l2.toNatClampNeg))), (0, .inr (.inr (some 82))), (2, .inl l2)] rfl rfl rfl ?_
    refine zw_sto hm_20 dX0_specials_20 [(2, .inl (l2 + (1 : Int32))), (1, .inl (l1 + (mI S 83 l2.toNatClampNeg))), (0, .inr (.inr (some 82)))] rfl rfl rfl ?_
    refine zw_goto hm_20 dX0_specials_23 (t := 4) rfl ?_
    exact zw_sub (ma_nd_of (ks := [0, 1, 2]) rfl (by decide)) (ma_nd_of (ks := [2, 1, 0]) rfl (by decide)) (ma_le_cons rfl (ma_le_cons rfl (ma_le_cons rfl (ma_le_nil _)))) h
theorem lp_20_82_s_4 {X : Nat × (Nat → Int32)} {d w : Nat} {f : Nat → Nat → Int32} {r : Nat → Nat → Option Nat} {C Z N : Nat} {Q : Option ma_V ⊕ Nat → ma_S → Prop} {S : ma_S} (hd : 0 ≤ d) (hw : 0 ≤ w) (K : ∀ v S', S' = S → (True) → Q (.inl (some (.inl v))) S') : ∀ (n : Nat) (l1 : Int32) (l2 : Int32), (375 - l2.toInt).toNat = n → zJ82 f r C Z N S → (0 ≤ l2.toInt) → ma_wp X d w 20 4 [(0, .inr (.inr (some 82))), (1, .inl l1), (2, .inl l2)] [] S Q := by
  intro n
  induction n using Nat.strongRecOn with
  | _ n IH =>
    intro l1 l2 hmu hI  hi0
    refine g_20_82_s_4 l1 l2 (by omega) (by omega) (zG_T hI) ?_
    have li1 : (375 : Int32).toInt = 375 := rfl
    have b2 := i_bd l2
    refine zd (fun h3 => ?_) (fun h3 => ?_)
    · skip
      have g4 := i_le h3
      have b5 := i_bd l1
      exact K (l1) _ rfl trivial
    · skip
      have g6 := i_nle h3
      refine ⟨i_ix (by omega) (by omega), ?_⟩
      have b7 := i_bd l1
      have b8 := i_bd (mI S 83 l2.toNatClampNeg)
      first | have e9 : (l1 + (mI S 83 l2.toNatClampNeg)).toInt = l1.toInt + (mI S 83 l2.toNatClampNeg).toInt := i_add (by omega) (by omega) | have b10 := i_bd (l1 + (mI S 83 l2.toNatClampNeg))
      first | have e11 : (l2 + (1 : Int32)).toInt = l2.toInt + (1) := i_addk rfl (by omega) (by omega) | have b12 := i_bd (l2 + (1 : Int32))
      exact IH _ (by omega) ((l1 + (mI S 83 l2.toNatClampNeg))) ((l2 + (1 : Int32))) rfl hI (by omega)
theorem sp_20_82_s {X : Nat × (Nat → Int32)} {d w : Nat} {f : Nat → Nat → Int32} {r : Nat → Nat → Option Nat} {C Z N : Nat} {Q : Option ma_V ⊕ Nat → ma_S → Prop} {S : ma_S}  (hd : 0 ≤ d) (hw : 0 ≤ w) (hI : zJ82 f r C Z N S)  (K : ∀ v S', S' = S → (True) → Q (.inl (some (.inl v))) S') : ma_wp X d w 20 0 [(0, .inr (.inr (some 82)))] [] S Q := by
  refine g_20_82_s_0  (by omega) (by omega) (zG_T hI) ?_
  have li1 : (0 : Int32).toInt = 0 := rfl
  exact lp_20_82_s_4 (by omega) (by omega) K _ ((0 : Int32)) ((0 : Int32)) rfl hI (by omega)
theorem g_21_82_s_0 {X : Nat × (Nat → Int32)} {d w : Nat} {S : ma_S} {Q : Option ma_V ⊕ Nat → ma_S → Prop}  (hd : 0 ≤ d) (hw : 0 ≤ w) (hS : zT S) (h : Q (.inl (some (.inl (mI S 82 8)))) S) : ma_wp X d w 21 0 [(0, .inr (.inr (some 82)))] [] S Q := by
  refine zw_push hm_21 dX0_topPlace_0 (v := .inr (.inr (some 82))) rfl ?_
  refine zw_gf hm_21 dX0_topPlace_1 (v := .inl (mI S 82 8)) (zT_is hS s_82) (zT_t hS s_82) rfl f_1_34_1 rfl ?_
  exact zw_iret hm_21 dX0_topPlace_4 h
theorem sp_21_82_s {X : Nat × (Nat → Int32)} {d w : Nat} {f : Nat → Nat → Int32} {r : Nat → Nat → Option Nat} {C Z N : Nat} {Q : Option ma_V ⊕ Nat → ma_S → Prop} {S : ma_S}  (hd : 0 ≤ d) (hw : 0 ≤ w) (hI : zJ82 f r C Z N S)  (K : ∀ v S', S' = S → (True) → Q (.inl (some (.inl v))) S') : ma_wp X d w 21 0 [(0, .inr (.inr (some 82)))] [] S Q := by
  refine g_21_82_s_0  (by omega) (by omega) (zG_T hI) ?_
  have f1 := zG_s hI (0) (400000) (c := 82) (k := 8) (by decide)
  exact K ((mI S 82 8)) _ rfl trivial
theorem g_22_82_s_0 {X : Nat × (Nat → Int32)} {d w : Nat} {S : ma_S} {Q : Option ma_V ⊕ Nat → ma_S → Prop}  (hd : 0 ≤ d) (hw : 0 ≤ w) (hS : zT S) (h : Q (.inl (some (.inl (mI S 82 6)))) S) : ma_wp X d w 22 0 [(0, .inr (.inr (some 82)))] [] S Q := by
  refine zw_push hm_22 dX0_oldTopOrRegion_0 (v := .inr (.inr (some 82))) rfl ?_
  refine zw_gf hm_22 dX0_oldTopOrRegion_1 (v := .inl (mI S 82 6)) (zT_is hS s_82) (zT_t hS s_82) rfl f_1_28_1 rfl ?_
  exact zw_iret hm_22 dX0_oldTopOrRegion_4 h
theorem sp_22_82_s {X : Nat × (Nat → Int32)} {d w : Nat} {f : Nat → Nat → Int32} {r : Nat → Nat → Option Nat} {C Z N : Nat} {Q : Option ma_V ⊕ Nat → ma_S → Prop} {S : ma_S}  (hd : 0 ≤ d) (hw : 0 ≤ w) (hI : zJ82 f r C Z N S)  (K : ∀ v S', S' = S → (True) → Q (.inl (some (.inl v))) S') : ma_wp X d w 22 0 [(0, .inr (.inr (some 82)))] [] S Q := by
  refine g_22_82_s_0  (by omega) (by omega) (zG_T hI) ?_
  have f1 := zG_s hI (0) (400000) (c := 82) (k := 6) (by decide)
  exact K ((mI S 82 6)) _ rfl trivial
theorem g_145_64_82_sm_0 {X : Nat × (Nat → Int32)} {d w : Nat} {S : ma_S} {Q : Option ma_V ⊕ Nat → ma_S → Prop} (i : Int32) (x : Option Nat) (hd : 5 ≤ d) (hw : 110 ≤ w) (hS : zT S) (h : ma_wp X (d - 1) (w - 23) 92 0 [(0, .inr (.inr (some 69))), (1, .inl i), (2, .inr (.inr x))] [] S (zo (fun v2 S1 => zT S1 ∧ (Q (.inl (some (.inr (.inr v2)))) S1)) (fun x S9 => Q (.inr x) S9))) : ma_wp X d w 145 0 [(0, .inr (.inr (some 64))), (1, .inr (.inr (some 82))), (2, .inl i), (3, .inr (.inr x))] [] S Q := by
  refine zw_push hm_145 dX11_changeRoot_0 (v := .inr (.inr (some 64))) rfl ?_
  refine zw_gf hm_145 dX11_changeRoot_1 (v := .inr (.inr (some 69))) (zT_is hS s_64) (zT_t hS s_64) rfl f_11_26_11 (zT_f hS r_64_8) ?_
  refine zw_push hm_145 dX11_changeRoot_4 (v := .inl i) rfl ?_
  refine zw_push hm_145 dX11_changeRoot_5 (v := .inr (.inr x)) rfl ?_
  refine zw_cv hm_145 dX11_changeRoot_6 v_11_379_7 hm_92 [.inr (.inr x), .inl i] [] rfl (zT_rt hS s_69 rfl) ⟨by omega, by omega⟩ rfl (zw_mono h (zo_go ?_ ?_))
  · intro v2 S1 hv
    obtain ⟨hS1, h⟩ := hv
    refine zw_sto hm_145 dX11_changeRoot_9 [(4, .inr (.inr v2)), (0, .inr (.inr (some 64))), (1, .inr (.inr (some 82))), (2, .inl i), (3, .inr (.inr x))] rfl rfl rfl ?_
    refine zw_push hm_145 dX11_changeRoot_11 (v := .inr (.inr (some 82))) rfl ?_
    refine zw_push hm_145 dX11_changeRoot_12 (v := .inr (.inr v2)) rfl ?_
    refine zw_push hm_145 dX11_changeRoot_14 (v := .inr (.inr x)) rfl ?_
    refine zw_cv hm_145 dX11_changeRoot_15 v_11_153_1 hm_265 [.inr (.inr x), .inr (.inr v2)] [] rfl (zT_rt hS1 s_82 rfl) ⟨by omega, by omega⟩ rfl ?_
    show ma_wp X (d - 1) (w - 22) 265 0 [(0, .inr (.inr (some 82))), (1, .inr (.inr v2)), (2, .inr (.inr x))] [] S1 _
    refine zw_vret hm_265 dX1_noteChange_0 ?_
    show ma_wp X d w 145 18 [(4, .inr (.inr v2)), (0, .inr (.inr (some 64))), (1, .inr (.inr (some 82))), (2, .inl i), (3, .inr (.inr x))] [] S1 _
    refine zw_push hm_145 dX11_changeRoot_18 (v := .inr (.inr (some 82))) rfl ?_
    refine zw_push hm_145 dX11_changeRoot_19 (v := .inr (.inr v2)) rfl ?_
    refine zw_cv hm_145 dX11_changeRoot_21 v_11_157_1 hm_266 [.inr (.inr v2)] [] rfl (zT_rt hS1 s_82 rfl) ⟨by omega, by omega⟩ rfl ?_
    show ma_wp X (d - 1) (w - 21) 266 0 [(0, .inr (.inr (some 82))), (1, .inr (.inr v2))] [] S1 _
    refine zw_vret hm_266 dX1_noteFewer_0 ?_
    show ma_wp X d w 145 24 [(4, .inr (.inr v2)), (0, .inr (.inr (some 64))), (1, .inr (.inr (some 82))), (2, .inl i), (3, .inr (.inr x))] [] S1 _
    refine zw_push hm_145 dX11_changeRoot_24 (v := .inr (.inr v2)) rfl ?_
    exact zw_aret hm_145 dX11_changeRoot_26 h
  · intro x S9 hx
    exact ⟨by decide, hx⟩
theorem sp_145_64_82_sm {X : Nat × (Nat → Int32)} {d w : Nat} {f : Nat → Nat → Int32} {r : Nat → Nat → Option Nat} {C Z N : Nat} {Q : Option ma_V ⊕ Nat → ma_S → Prop} {ab : Nat→Nat→Int32} {R : zRT} {y : Int32} {fp82 : Nat→Int32} {fp83 : Nat→Int32} {S : ma_S} (i : Int32) (x : Option Nat) (hd : 5 ≤ d) (hw : 110 ≤ w) (hI : zJ82 f r C Z N S) (hq_x : ∀ c, x = some c → 126 ≤ c ∧ c < N) (hpre0 : xB S R) (hpre1 : aS 88 S = ab) (hpre2 : x = zTa R y) (hpre3 : 0 ≤ i.toInt) (hpre4 : i.toInt ≤ 15) (hpre5 : (mI S 82) = fp82) (hpre6 : (mI S 83) = fp83) (K : ∀ v S', zJ82 f r C Z N S' → (∀ c, v = some c → 126 ≤ c ∧ c < N) → (xB S' R) → (aS 88 S' = aR0 ab i y) → (v = zTa R (ab 72 i.toNatClampNeg)) → ((mI S' 82) = fp82) → ((mI S' 83) = fp83) → Q (.inl (some (.inr (.inr v)))) S') : ma_wp X d w 145 0 [(0, .inr (.inr (some 64))), (1, .inr (.inr (some 82))), (2, .inl i), (3, .inr (.inr x))] [] S Q := by
  refine g_145_64_82_sm_0 i x (by omega) (by omega) (zG_T hI) ?_
  have b1 := i_bd i
  refine sp_92_69_s (ab := (aS 88 S)) (R := R) (W := 88) (y := (y)) (i) (x) (by omega) (by omega) (zJ82_dn hI) hq_x (show xB S R from by first | (exact (xC_o (W := 75) hpre0).2)) (show aS 88 S = (aS 88 S) from by first | (exact rfl)) (show xW 88 from by first | (exact xW88) | (exact xW75)) (show x = zTa R (y) from by first | (exact hpre2)) (by omega) (by omega) (fun v2 S1 hL_S1 hq_v2 rp0_S1 rp1_S1 rp2_S1 => zo_n ⟨zG_T hL_S1, ?_⟩)
  have hI_S1 := zJ82_up hI hL_S1
  have rp0_S1 : xB S1 R := by
    have z := rp0_S1
    (try rw [show mI S 65 = f 65 from funext (fun k => zG_z hI rfl)] at z)
    (try rw [show mI S 64 1 = f 64 1 from zG_z hI rfl] at z)
    exact z
  have rp1_S1 : aS 88 S1 = ma_u (aS 88 S) 72 i.toNatClampNeg (aNm (aS 88 S) (y)) := by
    have z := rp1_S1
    (try rw [show mI S 65 = f 65 from funext (fun k => zG_z hI rfl)] at z)
    (try rw [show mI S 64 1 = f 64 1 from zG_z hI rfl] at z)
    exact z
  have rp2_S1 : v2 = zTa R ((aS 88 S) 72 i.toNatClampNeg) := by
    have z := rp2_S1
    (try rw [show mI S 65 = f 65 from funext (fun k => zG_z hI rfl)] at z)
    (try rw [show mI S 64 1 = f 64 1 from zG_z hI rfl] at z)
    exact z
  exact K (v2) _ hI_S1 hq_v2 (show xB S1 R from by first | (exact (xC_o (W := 75) rp0_S1).2)) (show aS 88 S1 = aR0 ab i y from by first | (rw [rp1_S1, hpre1]; rfl)) (show v2 = zTa R (ab 72 i.toNatClampNeg) from by first | (rw [← hpre1]; exact rp2_S1)) (show (mI S1 82) = fp82 from by first | (exact ((show mI S1 82 = mI S 82 from funext (fun _ => zG_z hL_S1 rfl)).trans hpre5))) (show (mI S1 83) = fp83 from by first | (exact ((show mI S1 83 = mI S 83 from funext (fun _ => zG_z hL_S1 rfl)).trans hpre6)))
