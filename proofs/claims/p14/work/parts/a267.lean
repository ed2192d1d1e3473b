/-! from 95.u17 -/
/-! AGES, the class (written by wip/tools/gen15y.py) -/
/-! AGES: the class's cleaning -/
def gM9 (a : Nat → Nat → Int32) : Nat → Nat → Int32 := ma_u (ma_u a 87 3 (a 87 9 + a 87 5 + a 87 9 - a 87 3)) 87 4 (a 87 9 + a 87 5 + a 87 9 - a 87 3)
section F27
variable {a b ab : Nat → Nat → Int32} {S S₉ S1 S2 S3 S4 : ma_S} {R : Nat → Option Nat} {x y to v : Int32} {c k n j f : Nat} {lim p e st ot o0 : Int} {P N : Nat → Int}
theorem M9_e : gMk1 a = gM9 (gMk0 a) := by
  unfold gMk1 gM9
  rw [show gMk0 a 87 = a 87 from Mi_8 (by decide)]
theorem Mo_cg (h : ∀ c, c ≠ 83 → a c = b c) : (∀ c, c ≠ 83 → aMo a n to c = aMo b n to c) ∧ aMo a n to 83 = a 83 := by
  refine ⟨fun c hc => funext (fun k => ?_), Mo_c (by decide) (by decide)⟩
  unfold aMo
  rw [h 128 (by decide), h 130 (by decide), h 71 (by decide), h c hc]
theorem Sd_cg : ∀ (k : Nat) (a b : Nat → Nat → Int32) (p e : Int), (lim - p).toNat ≤ k → (∀ c, c ≠ 83 → a c = b c) → zS1 a → (zSd a lim p e).2 = (zSd b lim p e).2 ∧ (∀ c, c ≠ 83 → (zSd a lim p e).1 c = (zSd b lim p e).1 c) ∧ (zSd a lim p e).1 83 = a 83 := by
  intro k
  induction k with
  | zero =>
    intro a b p e hk h s1
    rw [Sd_n (by omega), Sd_n (by omega)]
    exact ⟨rfl, h, rfl⟩
  | succ k ih =>
    intro a b p e hk h s1
    have s2 : zS1 b := fun n hn => by
      unfold xAl at hn
      rw [← h 126 (by decide)] at hn
      rw [← h 128 (by decide)]
      exact s1 n hn
    by_cases c : p < lim
    · have ob : zOb b p = zOb a p := gOb_cg (h 71 (by decide)).symm (h 126 (by decide)).symm
      by_cases d : (zOb a p).toInt < 0
      · rw [Sd_fr s1 c d, Sd_fr s2 c (by rw [ob]; exact d)]
        exact ih a b _ _ (by omega) h s1
      · have sz := s1 _ (Ob_xl (a := a) (p := p) (by omega))
        by_cases hh : a 133 (zOb a p).toNatClampNeg = 0
        · rw [Sd_mv s1 c (by omega) hh, Sd_mv s2 c (by rw [ob]; omega) (by rw [ob, ← h 133 (by decide)]; exact hh), ob, ← h 128 (by decide)]
          have m := Mo_cg (n := (zOb a p).toNatClampNeg) (to := Int32.ofInt e) h
          have q := ih _ _ (p + (a 128 (zOb a p).toNatClampNeg).toInt) (e + (a 128 (zOb a p).toNatClampNeg).toInt) (by omega) m.1 (fun n hn => by
            rw [Mo_r (by decide) (by decide)]
            exact s1 n (Mo_al.mp hn))
          exact ⟨q.1, q.2.1, q.2.2.trans m.2⟩
        · rw [Sd_ho s1 c (by omega) hh, Sd_ho s2 c (by rw [ob]; omega) (by rw [ob, ← h 133 (by decide)]; exact hh), ob, ← h 128 (by decide)]
          exact ih a b _ _ (by omega) h s1
    · rw [Sd_n c, Sd_n c]
      exact ⟨rfl, h, rfl⟩
theorem G_aM (hc : c ≠ 83) : aG S c = aM (zfG (mI S)) S c := funext (fun _ => if_neg hc)
theorem G_sd (h : aM (zfG (mI S)) S₉ = (zSd (aM (zfG (mI S)) S) lim 0 0).1) (s1 : zS1 (aG S)) (e1 : mI S₉ 82 = mI S 82) (e2 : mI S₉ 83 = mI S 83) : aG S₉ = (zSd (aG S) lim 0 0).1 ∧ (zSd (aM (zfG (mI S)) S) lim 0 0).2 = (zSd (aG S) lim 0 0).2 := by
  have q := Sd_cg (lim := lim) (lim - 0).toNat (aG S) (aM (zfG (mI S)) S) 0 0 (Nat.le_refl _) (fun c hc => G_aM hc) s1
  have z : zfG (mI S₉) = zfG (mI S) := by
    funext k
    unfold zfG
    rw [e1]
  refine ⟨?_, q.1.symm⟩
  funext c k
  by_cases w : c = 83
  · rw [w, q.2.2, aG_8, aG_8, e2]
  · rw [q.2.1 c w, ← h, G_aM w, z]
/-! one moves -/
theorem Jg_q (h : qJg (aG S) st ot o0 P N x.toNatClampNeg) (h0 : 0 ≤ x.toInt) (hl : x.toInt < (mI S 75 4).toInt) : (x.toNatClampNeg : Int) < (aG S 75 4).toInt ∧ aG S 76 x.toNatClampNeg = mI S 76 x.toNatClampNeg ∧ aG S 75 4 = mI S 75 4 := by
  have c := tn_cast h0
  have e4 : aG S 75 4 = mI S 75 4 := (aG_o (by decide) (by decide)).trans rfl
  refine ⟨by rw [e4]; omega, (aG_o (by decide) (by decide)).trans (aS_I rfl rfl), e4⟩
theorem Jg_no (h : qJg (aG S) st ot o0 P N x.toNatClampNeg) (h0 : 0 ≤ x.toInt) (hl : x.toInt < (mI S 75 4).toInt) (hC : xB S R) (rn : zTa R (mI S 76 x.toNatClampNeg) = none) : False := by
  have q := Jg_q h h0 hl
  have nx := (Jg_nx h q.1).1
  unfold hQc at nx
  rw [q.2.1, aG_o (c := 126) (by decide) (by decide)] at nx
  exact xB_nt (W := 75) hC rn nx
theorem sz_k (hC : xB S R) (hC2 : xB S2 R) (rg : zTa R y = some c) (h : aG S2 128 y.toNatClampNeg = aG S 128 y.toNatClampNeg) : mI S2 c 2 = mI S c 2 := by
  have t := (xB_th (W := 75) hC rg).2.2.2.2.1
  have t2 := (xB_th (W := 75) hC2 rg).2.2.2.2.1
  rw [aG_o (by decide) (by decide), aG_o (by decide) (by decide)] at h
  rw [t, t2, h]
theorem M1_y (hC : xB S R) (rg : zTa R y = some c) (hp : (mI S 82 4).toInt ≤ (mI S c 5 + 1).toInt) (h1 : aG S1 = ma_u (aG S) 131 y.toNatClampNeg (mI S c 5 + 1)) (h2 : aG S2 = aMo (aG S1) y.toNatClampNeg (mI S 82 6)) (hC2 : xB S2 R) (h3 : x = mI S2 82 6 + mI S2 c 2) : ma_u (aG S2) 87 10 x = gM1 (aG S) y.toNatClampNeg := by
  have e5 := xB_5 hC rg
  have za : aG S2 128 y.toNatClampNeg = aG S 128 y.toNatClampNeg := by rw [h2, Mo_r (by decide) (by decide), h1, xu_o (by omega)]
  have zb : aG S2 87 10 = aG S 87 10 := by rw [h2, Mo_r (by decide) (by decide), h1, xu_o (by omega)]
  have e2 : mI S2 c 2 = aG S 128 y.toNatClampNeg := by rw [sz_k hC hC2 rg za, aG_o (by decide) (by decide), ← (xB_th (W := 75) hC rg).2.2.2.2.1]
  have e11 : aG S 87 11 = mI S 82 4 := rfl
  have e10 : aG S 87 10 = mI S 82 6 := rfl
  have e10b : mI S2 82 6 = aG S2 87 10 := rfl
  unfold gM1
  rw [e11, ← e5, if_pos hp, h3, e10b, zb, e2, h2, h1, e10]
theorem M1_n (hC : xB S R) (rg : zTa R y = some c) (hp : ¬ (mI S 82 4).toInt ≤ (mI S c 5 + 1).toInt) (h1 : aG S1 = ma_u (aG S) 131 y.toNatClampNeg (mI S c 5 + 1)) (h2 : aG S2 = aMo (aG S1) y.toNatClampNeg (mI S 82 8)) (hC2 : xB S2 R) (h3 : x = mI S2 82 8 + mI S2 c 2) : ma_u (aG S2) 87 4 x = gM1 (aG S) y.toNatClampNeg := by
  have e5 := xB_5 hC rg
  have za : aG S2 128 y.toNatClampNeg = aG S 128 y.toNatClampNeg := by rw [h2, Mo_r (by decide) (by decide), h1, xu_o (by omega)]
  have zb : aG S2 87 4 = aG S 87 4 := by rw [h2, Mo_r (by decide) (by decide), h1, xu_o (by omega)]
  have e2 : mI S2 c 2 = aG S 128 y.toNatClampNeg := by rw [sz_k hC hC2 rg za, aG_o (by decide) (by decide), ← (xB_th (W := 75) hC rg).2.2.2.2.1]
  have e11 : aG S 87 11 = mI S 82 4 := rfl
  have e4 : aG S 87 4 = mI S 82 8 := rfl
  have e4b : mI S2 82 8 = aG S2 87 4 := rfl
  unfold gM1
  rw [e11, ← e5, if_neg hp, h3, e4b, zb, e2, h2, h1, e4]
theorem To_gy (hC : xB S R) (rg : zTa R y = some c) : gTo (aG S) y.toNatClampNeg = if (mI S 82 4).toInt ≤ (mI S c 5 + 1).toInt then mI S 82 6 else mI S 82 8 := by
  have e5 := xB_5 hC rg
  unfold gTo
  rw [← e5]
  rfl
theorem Qm_g (hJ : qJg (aG S) st ot o0 P N x.toNatClampNeg) (h0 : 0 ≤ x.toInt) (hl : x.toInt < (mI S 75 4).toInt) (hC : xB S R) (rg : zTa R (mI S 76 x.toNatClampNeg) = some c) (h1 : aG S1 = ma_u (aG S) 131 (mI S 76 x.toNatClampNeg).toNatClampNeg (mI S c 5 + 1)) (ht : (if (mI S 82 4).toInt ≤ (mI S c 5 + 1).toInt then mI S 82 6 else mI S 82 8) = to) : qMv (aS 75 S1) (mI S 76 x.toNatClampNeg).toNatClampNeg to := by
  have q := Jg_q hJ h0 hl
  have nx := (Jg_nx hJ q.1).2.1
  rw [q.2.1, To_gy hC rg, ht] at nx
  have r : ∀ k n, k ≠ 131 → k ≠ 87 → k ≠ 83 → aS 75 S1 k n = aG S k n := fun k n h3 h4 h5 => by
    rw [← aG_o h4 h5, h1, xu_o (fun w => h3 w.1)]
  unfold qMv at nx ⊢
  rw [r 130 _ (by decide) (by decide) (by decide), r 128 _ (by decide) (by decide) (by decide)]
  exact nx
theorem Mf_st (h : gMf ((mI S 75 4).toInt - x.toInt).toNat x.toNatClampNeg (aG S) = b) (hJ : qJg (aG S) st ot o0 P N x.toNatClampNeg) (h0 : 0 ≤ x.toInt) (hl : x.toInt < (mI S 75 4).toInt) (he : aG S₉ = gM1 (aG S) (mI S 76 x.toNatClampNeg).toNatClampNeg) (hy : y.toInt = x.toInt + 1) : gMf ((mI S₉ 75 4).toInt - y.toInt).toNat y.toNatClampNeg (aG S₉) = b ∧ qJg (aG S₉) st ot o0 P N y.toNatClampNeg := by
  have q := Jg_q hJ h0 hl
  have nx := (Jg_nx hJ q.1).1
  have go := Jg_go hJ q.1
  have t := tn_cast h0
  have t2 := tn_cast (x := y) (by omega)
  have e4 : mI S₉ 75 4 = mI S 75 4 := by
    have g : aG S₉ 75 4 = aG S 75 4 := by rw [he, gM1_r (by decide) (by decide) (by decide) (by decide)]
    rw [q.2.2] at g
    exact ((aG_o (by decide) (by decide)).trans rfl : aG S₉ 75 4 = mI S₉ 75 4).symm.trans g
  rw [q.2.1] at go
  rw [show ((mI S 75 4).toInt - x.toInt).toNat = ((mI S 75 4).toInt - y.toInt).toNat + 1 from by omega, gMf_y nx, q.2.1] at h
  rw [e4, he, show y.toNatClampNeg = x.toNatClampNeg + 1 from by omega]
  exact ⟨h, go⟩
end F27
theorem g_12_82_sy_0 {X : Nat × (Nat → Int32)} {d w : Nat} {S : ma_S} {Q : Option ma_V ⊕ Nat → ma_S → Prop}  (hd : 1 ≤ d) (hw : 21 ≤ w) (hS : zT S) (h : ma_wp X d w 12 4 [(0, .inr (.inr (some 82))), (1, .inl (0 : Int32)), (2, .inl (0 : Int32))] [] S Q) : ma_wp X d w 12 0 [(0, .inr (.inr (some 82)))] [] S Q := by
  refine zw_push hm_12 dX0_wordsGrowingOld_0 (v := .inl (0 : Int32)) rfl ?_
  refine zw_sto hm_12 dX0_wordsGrowingOld_1 [(1, .inl (0 : Int32)), (0, .inr (.inr (some 82)))] rfl rfl rfl ?_
  refine zw_push hm_12 dX0_wordsGrowingOld_2 (v := .inl (0 : Int32)) rfl ?_
  refine zw_sto hm_12 dX0_wordsGrowingOld_3 [(2, .inl (0 : Int32)), (1, .inl (0 : Int32)), (0, .inr (.inr (some 82)))] rfl rfl rfl ?_
  exact zw_sub (ma_nd_of (ks := [0, 1, 2]) rfl (by decide)) (ma_nd_of (ks := [2, 1, 0]) rfl (by decide)) (ma_le_cons rfl (ma_le_cons rfl (ma_le_cons rfl (ma_le_nil _)))) h
theorem g_12_82_sy_4 {X : Nat × (Nat → Int32)} {d w : Nat} {S : ma_S} {Q : Option ma_V ⊕ Nat → ma_S → Prop} (l1 : Int32) (l2 : Int32) (hd : 1 ≤ d) (hw : 21 ≤ w) (hS : zT S) (h : if (mI S 69 6) ≤ l2 then (Q (.inl (some (.inl l1))) S) else (if l2 < 0 then (ma_wp X d w 12 4 [(0, .inr (.inr (some 82))), (1, .inl l1), (2, .inl (l2 + (1 : Int32)))] [] S Q) else (if (512 : Int32) ≤ l2 then (ma_wp X d w 12 4 [(0, .inr (.inr (some 82))), (1, .inl l1), (2, .inl (l2 + (1 : Int32)))] [] S Q) else ((0 ≤ l2 ∧ l2.toNatClampNeg < 512) ∧ (((mR S 70 l2.toNatClampNeg) = none → ma_wp X d w 12 4 [(0, .inr (.inr (some 82))), (1, .inl l1), (2, .inl (l2 + (1 : Int32)))] [] S Q) ∧ (∀ c1, (mR S 70 l2.toNatClampNeg) = some c1 → (126 ≤ c1 ∧ c1 < mN S) ∧ (if (mI S c1 4) < (mI S 82 3) then (ma_wp X d w 12 4 [(0, .inr (.inr (some 82))), (1, .inl l1), (2, .inl (l2 + (1 : Int32)))] [] S Q) else ((126 ≤ c1 ∧ c1 < mN S) ∧ (if ((mI S c1 5) + (1 : Int32)) < (mI S 82 4) then (ma_wp X d w 12 4 [(0, .inr (.inr (some 82))), (1, .inl l1), (2, .inl (l2 + (1 : Int32)))] [] S Q) else ((126 ≤ c1 ∧ c1 < mN S) ∧ (ma_wp X d w 12 4 [(0, .inr (.inr (some 82))), (1, .inl (l1 + (mI S c1 2))), (2, .inl (l2 + (1 : Int32)))] [] S Q))))))))))) : ma_wp X d w 12 4 [(0, .inr (.inr (some 82))), (1, .inl l1), (2, .inl l2)] [] S Q := by
  refine zw_push hm_12 dX0_wordsGrowingOld_4 (v := .inl l2) rfl ?_
  refine zw_push hm_12 dX0_wordsGrowingOld_5 (v := .inr (.inr (some 82))) rfl ?_
  refine zw_gf hm_12 dX0_wordsGrowingOld_6 (v := .inr (.inr (some 69))) (zT_is hS s_82) (zT_t hS s_82) rfl f_1_80_1 (zT_f hS r_82_0) ?_
  refine zw_gf hm_12 dX0_wordsGrowingOld_9 (v := .inl (mI S 69 6)) (zT_is hS s_69) (zT_t hS s_69) rfl f_1_119_7 rfl ?_
  refine zw_if2 hm_12 dX0_wordsGrowingOld_12 (t := 62) rfl zc2_ge ?_ ?_
  · intro hc
    rw [if_pos hc] at h
    refine zw_push hm_12 dX0_wordsGrowingOld_62 (v := .inl l1) rfl ?_
    exact zw_iret hm_12 dX0_wordsGrowingOld_63 h
  · intro hc
    rw [if_neg hc] at h
    refine zw_push hm_12 dX0_wordsGrowingOld_15 (v := .inr (.inr (some 82))) rfl ?_
    refine zw_gf hm_12 dX0_wordsGrowingOld_16 (v := .inr (.inr (some 69))) (zT_is hS s_82) (zT_t hS s_82) rfl f_1_80_1 (zT_f hS r_82_0) ?_
    refine zw_push hm_12 dX0_wordsGrowingOld_19 (v := .inl l2) rfl ?_
    refine zw_cv hm_12 dX0_wordsGrowingOld_20 v_1_122_7 hm_81 [.inl l2] [] rfl (zT_rt hS s_69 rfl) ⟨by omega, by omega⟩ rfl ?_
    show ma_wp X (d - 1) (w - 21) 81 0 [(0, .inr (.inr (some 69))), (1, .inl l2)] [] S _
    refine zw_push hm_81 dX7_thingAt_0 (v := .inl l2) rfl ?_
    refine zw_if0 hm_81 dX7_thingAt_1 (t := 20) rfl zc0_lt ?_ ?_
    · intro hc
      rw [if_pos hc] at h
      refine zw_push hm_81 dX7_thingAt_20 (v := .inr (.inr none)) rfl ?_
      refine zw_aret hm_81 dX7_thingAt_21 ?_
      show ma_wp X d w 12 23 [(0, .inr (.inr (some 82))), (1, .inl l1), (2, .inl l2)] [.inr (.inr none)] S _
      refine zw_sto hm_12 dX0_wordsGrowingOld_23 [(3, .inr (.inr none)), (0, .inr (.inr (some 82))), (1, .inl l1), (2, .inl l2)] rfl rfl rfl ?_
      refine zw_push hm_12 dX0_wordsGrowingOld_24 (v := .inr (.inr none)) rfl ?_
      refine zw_ifnull hm_12 dX0_wordsGrowingOld_25 (t := 56) rfl (fun _ => ?_) (fun _ z => by cases z)
      refine zw_sto hm_12 dX0_wordsGrowingOld_56 [(2, .inl (l2 + (1 : Int32))), (3, .inr (.inr none)), (0, .inr (.inr (some 82))), (1, .inl l1)] rfl rfl rfl ?_
      refine zw_goto hm_12 dX0_wordsGrowingOld_59 (t := 4) rfl ?_
      exact zw_sub (ma_nd_of (ks := [0, 1, 2]) rfl (by decide)) (ma_nd_of (ks := [2, 3, 0, 1]) rfl (by decide)) (ma_le_cons rfl (ma_le_cons rfl (ma_le_cons rfl (ma_le_nil _)))) h
    · intro hc
      rw [if_neg hc] at h
      refine zw_push hm_81 dX7_thingAt_4 (v := .inl l2) rfl ?_
      refine zw_push hm_81 dX7_thingAt_5 (v := .inl (512 : Int32)) rfl ?_
      refine zw_if2 hm_81 dX7_thingAt_8 (t := 20) rfl zc2_ge ?_ ?_
      · intro hc
        rw [if_pos hc] at h
        refine zw_push hm_81 dX7_thingAt_20 (v := .inr (.inr none)) rfl ?_
        refine zw_aret hm_81 dX7_thingAt_21 ?_
        show ma_wp X d w 12 23 [(0, .inr (.inr (some 82))), (1, .inl l1), (2, .inl l2)] [.inr (.inr none)] S _
        refine zw_sto hm_12 dX0_wordsGrowingOld_23 [(3, .inr (.inr none)), (0, .inr (.inr (some 82))), (1, .inl l1), (2, .inl l2)] rfl rfl rfl ?_
        refine zw_push hm_12 dX0_wordsGrowingOld_24 (v := .inr (.inr none)) rfl ?_
        refine zw_ifnull hm_12 dX0_wordsGrowingOld_25 (t := 56) rfl (fun _ => ?_) (fun _ z => by cases z)
        refine zw_sto hm_12 dX0_wordsGrowingOld_56 [(2, .inl (l2 + (1 : Int32))), (3, .inr (.inr none)), (0, .inr (.inr (some 82))), (1, .inl l1)] rfl rfl rfl ?_
        refine zw_goto hm_12 dX0_wordsGrowingOld_59 (t := 4) rfl ?_
        exact zw_sub (ma_nd_of (ks := [0, 1, 2]) rfl (by decide)) (ma_nd_of (ks := [2, 3, 0, 1]) rfl (by decide)) (ma_le_cons rfl (ma_le_cons rfl (ma_le_cons rfl (ma_le_nil _)))) h
      · intro hc
        rw [if_neg hc] at h
        refine zw_push hm_81 dX7_thingAt_11 (v := .inr (.inr (some 69))) rfl ?_
        refine zw_gf hm_81 dX7_thingAt_12 (v := .inr (.inr (some 70))) (zT_is hS s_69) (zT_t hS s_69) rfl f_7_11_7 (zT_f hS r_69_0) ?_
        refine zw_push hm_81 dX7_thingAt_15 (v := .inl l2) rfl ?_
        obtain ⟨hg, h⟩ := h
        refine zw_aa hm_81 dX7_thingAt_16 (zT_is hS s_70) (zT_h hS s_70) rfl rfl hg rfl ?_
        show ma_wp X (d - 1) (w - 21) 81 17 [(0, .inr (.inr (some 69))), (1, .inl l2)] [.inr (.inr (mR S 70 l2.toNatClampNeg))] S _
        refine zw_goto hm_81 dX7_thingAt_17 (t := 21) rfl ?_
        refine zw_aret hm_81 dX7_thingAt_21 ?_
        show ma_wp X d w 12 23 [(0, .inr (.inr (some 82))), (1, .inl l1), (2, .inl l2)] [.inr (.inr (mR S 70 l2.toNatClampNeg))] S _
        refine zw_sto hm_12 dX0_wordsGrowingOld_23 [(3, .inr (.inr (mR S 70 l2.toNatClampNeg))), (0, .inr (.inr (some 82))), (1, .inl l1), (2, .inl l2)] rfl rfl rfl ?_
        refine zw_push hm_12 dX0_wordsGrowingOld_24 (v := .inr (.inr (mR S 70 l2.toNatClampNeg))) rfl ?_
        refine zw_ifnull hm_12 dX0_wordsGrowingOld_25 (t := 56) rfl ?_ ?_
        · intro hc
          have h := h.1 hc
          (try rw [hc])
          show ma_wp X d w 12 56 [(3, .inr (.inr none)), (0, .inr (.inr (some 82))), (1, .inl l1), (2, .inl l2)] [] S _
          refine zw_sto hm_12 dX0_wordsGrowingOld_56 [(2, .inl (l2 + (1 : Int32))), (3, .inr (.inr none)), (0, .inr (.inr (some 82))), (1, .inl l1)] rfl rfl rfl ?_
          refine zw_goto hm_12 dX0_wordsGrowingOld_59 (t := 4) rfl ?_
          exact zw_sub (ma_nd_of (ks := [0, 1, 2]) rfl (by decide)) (ma_nd_of (ks := [2, 3, 0, 1]) rfl (by decide)) (ma_le_cons rfl (ma_le_cons rfl (ma_le_cons rfl (ma_le_nil _)))) h
        · intro c1 hc
          have h := h.2 c1 hc
          (try rw [hc])
          show ma_wp X d w 12 28 [(3, .inr (.inr (some c1))), (0, .inr (.inr (some 82))), (1, .inl l1), (2, .inl l2)] [] S _
          refine zw_push hm_12 dX0_wordsGrowingOld_28 (v := .inr (.inr (some 82))) rfl ?_
          refine zw_push hm_12 dX0_wordsGrowingOld_29 (v := .inr (.inr (some c1))) rfl ?_
          refine zw_cv hm_12 dX0_wordsGrowingOld_30 v_1_58_1 hm_7 [.inr (.inr (some c1))] [] rfl (zT_rt hS s_82 rfl) ⟨by omega, by omega⟩ rfl ?_
          show ma_wp X (d - 1) (w - 21) 7 0 [(0, .inr (.inr (some 82))), (1, .inr (.inr (some c1)))] [] S _
          refine zw_push hm_7 dX0_isYoung_0 (v := .inr (.inr (some c1))) rfl ?_
          obtain ⟨hg, h⟩ := h
          refine zw_gf hm_7 dX0_isYoung_1 (v := .inl (mI S c1 4)) (zT_tis hS hg) (zT_tt hS hg) rfl f_1_62_9 rfl ?_
          refine zw_push hm_7 dX0_isYoung_4 (v := .inr (.inr (some 82))) rfl ?_
          refine zw_gf hm_7 dX0_isYoung_5 (v := .inl (mI S 82 3)) (zT_is hS s_82) (zT_t hS s_82) rfl f_1_19_1 rfl ?_
          refine zw_if2 hm_7 dX0_isYoung_8 (t := 15) rfl zc2_lt ?_ ?_
          · intro hc
            rw [if_pos hc] at h
            refine zw_push hm_7 dX0_isYoung_15 (v := .inl (0 : Int32)) rfl ?_
            refine zw_bret hm_7 dX0_isYoung_16 (by decide) ?_
            show ma_wp X d w 12 33 [(3, .inr (.inr (some c1))), (0, .inr (.inr (some 82))), (1, .inl l1), (2, .inl l2)] [.inl (0 : Int32)] S _
            refine zw_if0 hm_12 dX0_wordsGrowingOld_33 (t := 56) rfl zc0_eq (fun _ => ?_) (fun hc => absurd (by decide) hc)
            refine zw_sto hm_12 dX0_wordsGrowingOld_56 [(2, .inl (l2 + (1 : Int32))), (3, .inr (.inr (some c1))), (0, .inr (.inr (some 82))), (1, .inl l1)] rfl rfl rfl ?_
            refine zw_goto hm_12 dX0_wordsGrowingOld_59 (t := 4) rfl ?_
            exact zw_sub (ma_nd_of (ks := [0, 1, 2]) rfl (by decide)) (ma_nd_of (ks := [2, 3, 0, 1]) rfl (by decide)) (ma_le_cons rfl (ma_le_cons rfl (ma_le_cons rfl (ma_le_nil _)))) h
          · intro hc
            rw [if_neg hc] at h
            refine zw_push hm_7 dX0_isYoung_11 (v := .inl (1 : Int32)) rfl ?_
            refine zw_goto hm_7 dX0_isYoung_12 (t := 16) rfl ?_
            refine zw_bret hm_7 dX0_isYoung_16 (by decide) ?_
            show ma_wp X d w 12 33 [(3, .inr (.inr (some c1))), (0, .inr (.inr (some 82))), (1, .inl l1), (2, .inl l2)] [.inl (1 : Int32)] S _
            refine zw_if0 hm_12 dX0_wordsGrowingOld_33 (t := 56) rfl zc0_eq (fun hc => absurd hc (by decide)) (fun _ => ?_)
            refine zw_push hm_12 dX0_wordsGrowingOld_36 (v := .inr (.inr (some c1))) rfl ?_
            obtain ⟨hg, h⟩ := h
            refine zw_gf hm_12 dX0_wordsGrowingOld_37 (v := .inl (mI S c1 5)) (zT_tis hS hg) (zT_tt hS hg) rfl f_1_126_9 rfl ?_
            refine zw_push hm_12 dX0_wordsGrowingOld_40 (v := .inl (1 : Int32)) rfl ?_
            refine zw_stk hm_12 dX0_wordsGrowingOld_41 (st₉ := [.inl ((mI S c1 5) + (1 : Int32))]) rfl rfl ?_
            refine zw_push hm_12 dX0_wordsGrowingOld_42 (v := .inr (.inr (some 82))) rfl ?_
            refine zw_gf hm_12 dX0_wordsGrowingOld_43 (v := .inl (mI S 82 4)) (zT_is hS s_82) (zT_t hS s_82) rfl f_1_22_1 rfl ?_
            refine zw_if2 hm_12 dX0_wordsGrowingOld_46 (t := 56) rfl zc2_lt ?_ ?_
            · intro hc
              rw [if_pos hc] at h
              refine zw_sto hm_12 dX0_wordsGrowingOld_56 [(2, .inl (l2 + (1 : Int32))), (3, .inr (.inr (some c1))), (0, .inr (.inr (some 82))), (1, .inl l1)] rfl rfl rfl ?_
              refine zw_goto hm_12 dX0_wordsGrowingOld_59 (t := 4) rfl ?_
              exact zw_sub (ma_nd_of (ks := [0, 1, 2]) rfl (by decide)) (ma_nd_of (ks := [2, 3, 0, 1]) rfl (by decide)) (ma_le_cons rfl (ma_le_cons rfl (ma_le_cons rfl (ma_le_nil _)))) h
            · intro hc
              rw [if_neg hc] at h
              refine zw_push hm_12 dX0_wordsGrowingOld_49 (v := .inl l1) rfl ?_
              refine zw_push hm_12 dX0_wordsGrowingOld_50 (v := .inr (.inr (some c1))) rfl ?_
              obtain ⟨hg, h⟩ := h
              refine zw_gf hm_12 dX0_wordsGrowingOld_51 (v := .inl (mI S c1 2)) (zT_tis hS hg) (zT_tt hS hg) rfl f_1_67_9 rfl ?_
              refine zw_stk hm_12 dX0_wordsGrowingOld_54 (st₉ := [.inl (l1 + (mI S c1 2))]) rfl rfl ?_
              refine zw_sto hm_12 dX0_wordsGrowingOld_55 [(1, .inl (l1 + (mI S c1 2))), (3, .inr (.inr (some c1))), (0, .inr (.inr (some 82))), (2, .inl l2)] rfl rfl rfl ?_
              refine zw_sto hm_12 dX0_wordsGrowingOld_56 [(2, .inl (l2 + (1 : Int32))), (1, .inl (l1 + (mI S c1 2))), (3, .inr (.inr (some c1))), (0, .inr (.inr (some 82)))] rfl rfl rfl ?_
              refine zw_goto hm_12 dX0_wordsGrowingOld_59 (t := 4) rfl ?_
              exact zw_sub (ma_nd_of (ks := [0, 1, 2]) rfl (by decide)) (ma_nd_of (ks := [2, 1, 3, 0]) rfl (by decide)) (ma_le_cons rfl (ma_le_cons rfl (ma_le_cons rfl (ma_le_nil _)))) h
theorem lp_12_82_sy_4 {X : Nat × (Nat → Int32)} {d w : Nat} {f : Nat → Nat → Int32} {r : Nat → Nat → Option Nat} {C Z N : Nat} {Q : Option ma_V ⊕ Nat → ma_S → Prop} {S : ma_S} (hd : 1 ≤ d) (hw : 21 ≤ w) (K : ∀ v S₉, S₉ = S → (0 ≤ v.toInt ∧ v.toInt ≤ 40000) → (v.toInt = gGr (aG S) 512) → Q (.inl (some (.inl v))) S₉) : ∀ (n : Nat) (l1 : Int32) (l2 : Int32), (512 - l2.toInt).toNat = n → zJ82 f r C Z N S → (0 ≤ l2.toInt) → (l2.toInt ≤ 512) → (0 ≤ l1.toInt) → (l1.toInt ≤ 61 * l2.toInt) → (xB S (mR S 70)) → (qAv (aG S)) → (l1.toInt = gGr (aG S) l2.toNatClampNeg) → ma_wp X d w 12 4 [(0, .inr (.inr (some 82))), (1, .inl l1), (2, .inl l2)] [] S Q := by
  intro n
  induction n using Nat.strongRecOn with
  | _ n IH =>
    intro l1 l2 hmu hI  hi0 hi1 hi2 hi3 hi4 hi5 hi6
    refine g_12_82_sy_4 l1 l2 (by omega) (by omega) (zG_T hI) ?_
    have f1 := zG_s hI (0) (512) (c := 69) (k := 6) (by decide)
    have b2 := i_bd l2
    refine zd (fun h3 => ?_) (fun h3 => ?_)
    · skip
      have g4 := i_le h3
      have b5 := i_bd l1
      exact K (l1) _ rfl (by omega) (show l1.toInt = gGr (aG S) 512 from by first | (have r6 := congrArg Int32.toInt (show aG S 69 6 = mI S 69 6 from (aG_o (by decide) (by decide)).trans (aS_I rfl rfl)); have tc := tn_cast (x := l2) (by omega); rw [hi6]; exact (Gr_g hi5.1 _ _ (by omega) (by omega) (by omega)).symm))
    · skip
      have g6 := i_nle h3
      have li7 : (0 : Int32).toInt = 0 := rfl
      refine zd (fun h8 => ?_) (fun h8 => ?_)
      · skip
        have g9 := i_lt h8
        have b10 := i_bd l1
        first | have e11 : (l2 + (1 : Int32)).toInt = l2.toInt + (1) := i_addk rfl (by omega) (by omega) | have b12 := i_bd (l2 + (1 : Int32))
        exact IH _ (by omega) (l1) ((l2 + (1 : Int32))) rfl hI (by omega) (by omega) (by omega) (by omega) (show xB S (mR S 70) from by first | (exact xB_x (xC_o (W := 75) hi4).2)) (show qAv (aG S) from by first | (exact hi5)) (show (l1).toInt = gGr (aG S) ((l2 + (1 : Int32))).toNatClampNeg from by first | (exfalso; omega))
      · skip
        have g13 := i_nlt h8
        have li14 : (512 : Int32).toInt = 512 := rfl
        refine zd (fun h15 => ?_) (fun h15 => ?_)
        · skip
          have g16 := i_le h15
          have b17 := i_bd l1
          first | have e18 : (l2 + (1 : Int32)).toInt = l2.toInt + (1) := i_addk rfl (by omega) (by omega) | have b19 := i_bd (l2 + (1 : Int32))
          exact IH _ (by omega) (l1) ((l2 + (1 : Int32))) rfl hI (by omega) (by omega) (by omega) (by omega) (show xB S (mR S 70) from by first | (exact xB_x (xC_o (W := 75) hi4).2)) (show qAv (aG S) from by first | (exact hi5)) (show (l1).toInt = gGr (aG S) ((l2 + (1 : Int32))).toNatClampNeg from by first | (exfalso; omega))
        · skip
          have g20 := i_nle h15
          refine ⟨i_ix (by omega) (by omega), ?_⟩
          refine ⟨fun hc => ?_, fun c1 hc => ?_⟩
          · skip
            have rn_c1 : zTa (mR S 70) l2 = none := (ta_rd (y := l2) hi4 (by omega) (by omega)).symm.trans hc
            have b21 := i_bd l1
            first | have e22 : (l2 + (1 : Int32)).toInt = l2.toInt + (1) := i_addk rfl (by omega) (by omega) | have b23 := i_bd (l2 + (1 : Int32))
            exact IH _ (by omega) (l1) ((l2 + (1 : Int32))) rfl hI (by omega) (by omega) (by omega) (by omega) (show xB S (mR S 70) from by first | (exact xB_x (xC_o (W := 75) hi4).2)) (show qAv (aG S) from by first | (exact hi5)) (show (l1).toInt = gGr (aG S) ((l2 + (1 : Int32))).toNatClampNeg from by first | (exact Gr_no hi6 hi4 rn_c1 (by omega) (by omega) (by omega)))
          · skip
            have th_c1 := (fun _ z => zG_70 hI (c := 70) (by decide) z) c1 hc
            have rg_c1 : zTa (mR S 70) l2 = some c1 := (ta_rd (y := l2) hi4 (by omega) (by omega)).symm.trans hc
            refine ⟨zG_n hI th_c1, ?_⟩
            have f24 := zG_th hI th_c1
            have x25 : (mI S 82 3).toInt ≤ (mI S 82 7).toInt ∧ (mI S 82 7).toInt ≤ (mI S 82 3).toInt + (mI S 82 2).toInt := zG_x hI
            have f26 := zG_s hI (0) (1500) (c := 82) (k := 3) (by decide)
            refine zd (fun h27 => ?_) (fun h27 => ?_)
            · skip
              have g28 := i_lt h27
              have b29 := i_bd l1
              first | have e30 : (l2 + (1 : Int32)).toInt = l2.toInt + (1) := i_addk rfl (by omega) (by omega) | have b31 := i_bd (l2 + (1 : Int32))
              exact IH _ (by omega) (l1) ((l2 + (1 : Int32))) rfl hI (by omega) (by omega) (by omega) (by omega) (show xB S (mR S 70) from by first | (exact xB_x (xC_o (W := 75) hi4).2)) (show qAv (aG S) from by first | (exact hi5)) (show (l1).toInt = gGr (aG S) ((l2 + (1 : Int32))).toNatClampNeg from by first | (exact Gr_n1 hi6 hi4 rg_c1 (by omega) (by omega)) | (have a5 := AV_5 hi5 hi4 rg_c1; have e5 : (mI S c1 5 + (1 : Int32)).toInt = (mI S c1 5).toInt + 1 := i_p1 (by omega); exact Gr_n2 hi6 hi4 rg_c1 (by omega) (by omega)) | (have a5 := AV_5 hi5 hi4 rg_c1; have e5 : (mI S c1 5 + (1 : Int32)).toInt = (mI S c1 5).toInt + 1 := i_p1 (by omega); exact gGr_y hi6 hi4 rg_c1 (by omega) (by omega) (by omega) (by omega)))
            · skip
              have g32 := i_nlt h27
              refine ⟨zG_n hI th_c1, ?_⟩
              have b33 := i_bd (mI S c1 5)
              first | have e34 : ((mI S c1 5) + (1 : Int32)).toInt = (mI S c1 5).toInt + (1) := i_addk rfl (by omega) (by omega) | have b35 := i_bd ((mI S c1 5) + (1 : Int32))
              have b36 := i_bd (mI S 82 4)
              refine zd (fun h37 => ?_) (fun h37 => ?_)
              · skip
                have g38 := i_lt h37
                have b39 := i_bd l1
                first | have e40 : (l2 + (1 : Int32)).toInt = l2.toInt + (1) := i_addk rfl (by omega) (by omega) | have b41 := i_bd (l2 + (1 : Int32))
                exact IH _ (by omega) (l1) ((l2 + (1 : Int32))) rfl hI (by omega) (by omega) (by omega) (by omega) (show xB S (mR S 70) from by first | (exact xB_x (xC_o (W := 75) hi4).2)) (show qAv (aG S) from by first | (exact hi5)) (show (l1).toInt = gGr (aG S) ((l2 + (1 : Int32))).toNatClampNeg from by first | (exact Gr_n1 hi6 hi4 rg_c1 (by omega) (by omega)) | (have a5 := AV_5 hi5 hi4 rg_c1; have e5 : (mI S c1 5 + (1 : Int32)).toInt = (mI S c1 5).toInt + 1 := i_p1 (by omega); exact Gr_n2 hi6 hi4 rg_c1 (by omega) (by omega)) | (have a5 := AV_5 hi5 hi4 rg_c1; have e5 : (mI S c1 5 + (1 : Int32)).toInt = (mI S c1 5).toInt + 1 := i_p1 (by omega); exact gGr_y hi6 hi4 rg_c1 (by omega) (by omega) (by omega) (by omega)))
              · skip
                have g42 := i_nlt h37
                refine ⟨zG_n hI th_c1, ?_⟩
                have b43 := i_bd l1
                have f44 := zG_th hI th_c1
                first | have e45 : (l1 + (mI S c1 2)).toInt = l1.toInt + (mI S c1 2).toInt := i_add (by omega) (by omega) | have b46 := i_bd (l1 + (mI S c1 2))
                first | have e47 : (l2 + (1 : Int32)).toInt = l2.toInt + (1) := i_addk rfl (by omega) (by omega) | have b48 := i_bd (l2 + (1 : Int32))
                exact IH _ (by omega) ((l1 + (mI S c1 2))) ((l2 + (1 : Int32))) rfl hI (by omega) (by omega) (by omega) (by omega) (show xB S (mR S 70) from by first | (exact xB_x (xC_o (W := 75) hi4).2)) (show qAv (aG S) from by first | (exact hi5)) (show ((l1 + (mI S c1 2))).toInt = gGr (aG S) ((l2 + (1 : Int32))).toNatClampNeg from by first | (exact Gr_n1 hi6 hi4 rg_c1 (by omega) (by omega)) | (have a5 := AV_5 hi5 hi4 rg_c1; have e5 : (mI S c1 5 + (1 : Int32)).toInt = (mI S c1 5).toInt + 1 := i_p1 (by omega); exact Gr_n2 hi6 hi4 rg_c1 (by omega) (by omega)) | (have a5 := AV_5 hi5 hi4 rg_c1; have e5 : (mI S c1 5 + (1 : Int32)).toInt = (mI S c1 5).toInt + 1 := i_p1 (by omega); exact gGr_y hi6 hi4 rg_c1 (by omega) (by omega) (by omega) (by omega)))
theorem sp_12_82_sy {X : Nat × (Nat → Int32)} {d w : Nat} {f : Nat → Nat → Int32} {r : Nat → Nat → Option Nat} {C Z N : Nat} {Q : Option ma_V ⊕ Nat → ma_S → Prop} {S : ma_S}  (hd : 1 ≤ d) (hw : 21 ≤ w) (hI : zJ82 f r C Z N S) (hpre0 : xB S (mR S 70)) (hpre1 : qAv (aG S)) (K : ∀ v S₉, S₉ = S → (0 ≤ v.toInt ∧ v.toInt ≤ 40000) → (v.toInt = gGr (aG S) 512) → Q (.inl (some (.inl v))) S₉) : ma_wp X d w 12 0 [(0, .inr (.inr (some 82)))] [] S Q := by
  refine g_12_82_sy_0  (by omega) (by omega) (zG_T hI) ?_
  have li1 : (0 : Int32).toInt = 0 := rfl
  exact lp_12_82_sy_4 (by omega) (by omega) K _ ((0 : Int32)) ((0 : Int32)) rfl hI (by omega) (by omega) (by omega) (by omega) (show xB S (mR S 70) from by first | (exact xB_x (xC_o (W := 75) hpre0).2)) (show qAv (aG S) from by first | (exact hpre1)) (show ((0 : Int32)).toInt = gGr (aG S) ((0 : Int32)).toNatClampNeg from by first | (exact rfl))

/-! from 95.u18 -/
/-! AGES, the class (written by wip/tools/gen15y.py) -/
theorem g_14_82_sy_0 {X : Nat × (Nat → Int32)} {d w : Nat} {S : ma_S} {Q : Option ma_V ⊕ Nat → ma_S → Prop} (t : Nat) (hd : 1 ≤ d) (hw : 25 ≤ w) (hS : zT S) (h : ma_wp X d w 14 2 [(0, .inr (.inr (some 82))), (1, .inr (.inr (some t))), (2, .inl (0 : Int32))] [] S Q) : ma_wp X d w 14 0 [(0, .inr (.inr (some 82))), (1, .inr (.inr (some t)))] [] S Q := by
  refine zw_push hm_14 dX0_comeFromDirtyWords_0 (v := .inl (0 : Int32)) rfl ?_
  refine zw_sto hm_14 dX0_comeFromDirtyWords_1 [(2, .inl (0 : Int32)), (0, .inr (.inr (some 82))), (1, .inr (.inr (some t)))] rfl rfl rfl ?_
  exact zw_sub (ma_nd_of (ks := [0, 1, 2]) rfl (by decide)) (ma_nd_of (ks := [2, 0, 1]) rfl (by decide)) (ma_le_cons rfl (ma_le_cons rfl (ma_le_cons rfl (ma_le_nil _)))) h
theorem g_14_82_sy_2 {X : Nat × (Nat → Int32)} {d w : Nat} {S : ma_S} {Q : Option ma_V ⊕ Nat → ma_S → Prop} (l1 : Nat) (l2 : Int32) (hd : 1 ≤ d) (hw : 25 ≤ w) (hS : zT S) (h : (126 ≤ l1 ∧ l1 < mN S) ∧ (if ((mI S l1 2) - (1 : Int32)) ≤ l2 then (Q (.inl none) S) else (if (mI S 82 5) ≤ 0 then (ma_wp X d w 14 2 [(0, .inr (.inr (some 82))), (1, .inr (.inr (some l1))), (2, .inl (l2 + (1 : Int32)))] [] S Q) else ((126 ≤ l1 ∧ l1 < mN S) ∧ ((mI S 82 5) ≠ 0 ∧ (if ((((mI S l1 4) + (1 : Int32)) + l2) / (mI S 82 5)) < 0 then (ma_wp X d w 14 2 [(0, .inr (.inr (some 82))), (1, .inr (.inr (some l1))), (2, .inl (l2 + (1 : Int32)))] [] S Q) else (if (375 : Int32) ≤ ((((mI S l1 4) + (1 : Int32)) + l2) / (mI S 82 5)) then (ma_wp X d w 14 2 [(0, .inr (.inr (some 82))), (1, .inr (.inr (some l1))), (2, .inl (l2 + (1 : Int32)))] [] S Q) else ((0 ≤ ((((mI S l1 4) + (1 : Int32)) + l2) / (mI S 82 5)) ∧ ((((mI S l1 4) + (1 : Int32)) + l2) / (mI S 82 5)).toNatClampNeg < 375) ∧ (if (mI S 83 ((((mI S l1 4) + (1 : Int32)) + l2) / (mI S 82 5)).toNatClampNeg) = 0 then (ma_wp X d w 14 2 [(0, .inr (.inr (some 82))), (1, .inr (.inr (some l1))), (2, .inl (l2 + (1 : Int32)))] [] S Q) else (ma_wp X (d - 1) (w - 25) 82 0 [(0, .inr (.inr (some 69))), (1, .inr (.inr (some l1))), (2, .inl l2)] [] S (zo (fun v2 S1 => zT S1 ∧ (ma_wp X (d - 1) (w - 21) 119 0 [(0, .inr (.inr (some 75))), (1, .inr (.inr v2))] [] S1 (zv (fun S3 => zT S3 ∧ (ma_wp X d w 14 2 [(0, .inr (.inr (some 82))), (1, .inr (.inr (some l1))), (2, .inl (l2 + (1 : Int32)))] [] S3 Q)) (fun x S9 => Q (.inr x) S9)))) (fun x S9 => Q (.inr x) S9)))))))))))) : ma_wp X d w 14 2 [(0, .inr (.inr (some 82))), (1, .inr (.inr (some l1))), (2, .inl l2)] [] S Q := by
  refine zw_push hm_14 dX0_comeFromDirtyWords_2 (v := .inl l2) rfl ?_
  refine zw_push hm_14 dX0_comeFromDirtyWords_3 (v := .inr (.inr (some l1))) rfl ?_
  obtain ⟨hg, h⟩ := h
  refine zw_gf hm_14 dX0_comeFromDirtyWords_4 (v := .inl (mI S l1 2)) (zT_tis hS hg) (zT_tt hS hg) rfl f_1_67_9 rfl ?_
  refine zw_push hm_14 dX0_comeFromDirtyWords_7 (v := .inl (1 : Int32)) rfl ?_
  refine zw_stk hm_14 dX0_comeFromDirtyWords_8 (st₉ := [.inl ((mI S l1 2) - (1 : Int32)), .inl l2]) rfl rfl ?_
  refine zw_if2 hm_14 dX0_comeFromDirtyWords_9 (t := 61) rfl zc2_ge ?_ ?_
  · intro hc
    rw [if_pos hc] at h
    exact zw_vret hm_14 dX0_comeFromDirtyWords_61 h
  · intro hc
    rw [if_neg hc] at h
    refine zw_push hm_14 dX0_comeFromDirtyWords_12 (v := .inr (.inr (some 82))) rfl ?_
    refine zw_push hm_14 dX0_comeFromDirtyWords_13 (v := .inr (.inr (some l1))) rfl ?_
    refine zw_push hm_14 dX0_comeFromDirtyWords_14 (v := .inl l2) rfl ?_
    refine zw_cv hm_14 dX0_comeFromDirtyWords_15 v_1_136_1 hm_9 [.inl l2, .inr (.inr (some l1))] [] rfl (zT_rt hS s_82 rfl) ⟨by omega, by omega⟩ rfl ?_
    show ma_wp X (d - 1) (w - 22) 9 0 [(0, .inr (.inr (some 82))), (1, .inr (.inr (some l1))), (2, .inl l2)] [] S _
    refine zw_push hm_9 dX0_cardOf_0 (v := .inr (.inr (some 82))) rfl ?_
    refine zw_gf hm_9 dX0_cardOf_1 (v := .inl (mI S 82 5)) (zT_is hS s_82) (zT_t hS s_82) rfl f_1_25_1 rfl ?_
    refine zw_if0 hm_9 dX0_cardOf_4 (t := 23) rfl zc0_le ?_ ?_
    · intro hc
      rw [if_pos hc] at h
      refine zw_push hm_9 dX0_cardOf_23 (v := .inl (-1 : Int32)) rfl ?_
      refine zw_iret hm_9 dX0_cardOf_24 ?_
      show ma_wp X d w 14 18 [(0, .inr (.inr (some 82))), (1, .inr (.inr (some l1))), (2, .inl l2)] [.inl (-1 : Int32)] S _
      refine zw_sto hm_14 dX0_comeFromDirtyWords_18 [(3, .inl (-1 : Int32)), (0, .inr (.inr (some 82))), (1, .inr (.inr (some l1))), (2, .inl l2)] rfl rfl rfl ?_
      refine zw_push hm_14 dX0_comeFromDirtyWords_19 (v := .inl (-1 : Int32)) rfl ?_
      refine zw_if0 hm_14 dX0_comeFromDirtyWords_20 (t := 55) rfl zc0_lt (fun _ => ?_) (fun hc => absurd (by decide) hc)
      refine zw_sto hm_14 dX0_comeFromDirtyWords_55 [(2, .inl (l2 + (1 : Int32))), (3, .inl (-1 : Int32)), (0, .inr (.inr (some 82))), (1, .inr (.inr (some l1)))] rfl rfl rfl ?_
      refine zw_goto hm_14 dX0_comeFromDirtyWords_58 (t := 2) rfl ?_
      exact zw_sub (ma_nd_of (ks := [0, 1, 2]) rfl (by decide)) (ma_nd_of (ks := [2, 3, 0, 1]) rfl (by decide)) (ma_le_cons rfl (ma_le_cons rfl (ma_le_cons rfl (ma_le_nil _)))) h
    · intro hc
      rw [if_neg hc] at h
      refine zw_push hm_9 dX0_cardOf_7 (v := .inr (.inr (some l1))) rfl ?_
      obtain ⟨hg, h⟩ := h
      refine zw_gf hm_9 dX0_cardOf_8 (v := .inl (mI S l1 4)) (zT_tis hS hg) (zT_tt hS hg) rfl f_1_62_9 rfl ?_
      refine zw_push hm_9 dX0_cardOf_11 (v := .inl (1 : Int32)) rfl ?_
      refine zw_stk hm_9 dX0_cardOf_12 (st₉ := [.inl ((mI S l1 4) + (1 : Int32))]) rfl rfl ?_
      refine zw_push hm_9 dX0_cardOf_13 (v := .inl l2) rfl ?_
      refine zw_stk hm_9 dX0_cardOf_14 (st₉ := [.inl (((mI S l1 4) + (1 : Int32)) + l2)]) rfl rfl ?_
      refine zw_push hm_9 dX0_cardOf_15 (v := .inr (.inr (some 82))) rfl ?_
      refine zw_gf hm_9 dX0_cardOf_16 (v := .inl (mI S 82 5)) (zT_is hS s_82) (zT_t hS s_82) rfl f_1_25_1 rfl ?_
      obtain ⟨hg, h⟩ := h
      refine zw_stk hm_9 dX0_cardOf_19 (st₉ := [.inl ((((mI S l1 4) + (1 : Int32)) + l2) / (mI S 82 5))]) rfl (if_neg hg) ?_
      refine zw_goto hm_9 dX0_cardOf_20 (t := 24) rfl ?_
      refine zw_iret hm_9 dX0_cardOf_24 ?_
      show ma_wp X d w 14 18 [(0, .inr (.inr (some 82))), (1, .inr (.inr (some l1))), (2, .inl l2)] [.inl ((((mI S l1 4) + (1 : Int32)) + l2) / (mI S 82 5))] S _
      refine zw_sto hm_14 dX0_comeFromDirtyWords_18 [(3, .inl ((((mI S l1 4) + (1 : Int32)) + l2) / (mI S 82 5))), (0, .inr (.inr (some 82))), (1, .inr (.inr (some l1))), (2, .inl l2)] rfl rfl rfl ?_
      refine zw_push hm_14 dX0_comeFromDirtyWords_19 (v := .inl ((((mI S l1 4) + (1 : Int32)) + l2) / (mI S 82 5))) rfl ?_
      refine zw_if0 hm_14 dX0_comeFromDirtyWords_20 (t := 55) rfl zc0_lt ?_ ?_
      · intro hc
        rw [if_pos hc] at h
        refine zw_sto hm_14 dX0_comeFromDirtyWords_55 [(2, .inl (l2 + (1 : Int32))), (3, .inl ((((mI S l1 4) + (1 : Int32)) + l2) / (mI S 82 5))), (0, .inr (.inr (some 82))), (1, .inr (.inr (some l1)))] rfl rfl rfl ?_
        refine zw_goto hm_14 dX0_comeFromDirtyWords_58 (t := 2) rfl ?_
        exact zw_sub (ma_nd_of (ks := [0, 1, 2]) rfl (by decide)) (ma_nd_of (ks := [2, 3, 0, 1]) rfl (by decide)) (ma_le_cons rfl (ma_le_cons rfl (ma_le_cons rfl (ma_le_nil _)))) h
      · intro hc
        rw [if_neg hc] at h
        refine zw_push hm_14 dX0_comeFromDirtyWords_23 (v := .inl ((((mI S l1 4) + (1 : Int32)) + l2) / (mI S 82 5))) rfl ?_
        refine zw_push hm_14 dX0_comeFromDirtyWords_24 (v := .inl (375 : Int32)) rfl ?_
        refine zw_if2 hm_14 dX0_comeFromDirtyWords_27 (t := 55) rfl zc2_ge ?_ ?_
        · intro hc
          rw [if_pos hc] at h
          refine zw_sto hm_14 dX0_comeFromDirtyWords_55 [(2, .inl (l2 + (1 : Int32))), (3, .inl ((((mI S l1 4) + (1 : Int32)) + l2) / (mI S 82 5))), (0, .inr (.inr (some 82))), (1, .inr (.inr (some l1)))] rfl rfl rfl ?_
          refine zw_goto hm_14 dX0_comeFromDirtyWords_58 (t := 2) rfl ?_
          exact zw_sub (ma_nd_of (ks := [0, 1, 2]) rfl (by decide)) (ma_nd_of (ks := [2, 3, 0, 1]) rfl (by decide)) (ma_le_cons rfl (ma_le_cons rfl (ma_le_cons rfl (ma_le_nil _)))) h
        · intro hc
          rw [if_neg hc] at h
          refine zw_push hm_14 dX0_comeFromDirtyWords_30 (v := .inr (.inr (some 82))) rfl ?_
          refine zw_gf hm_14 dX0_comeFromDirtyWords_31 (v := .inr (.inr (some 83))) (zT_is hS s_82) (zT_t hS s_82) rfl f_1_9_1 (zT_f hS r_82_9) ?_
          refine zw_push hm_14 dX0_comeFromDirtyWords_34 (v := .inl ((((mI S l1 4) + (1 : Int32)) + l2) / (mI S 82 5))) rfl ?_
          obtain ⟨hg, h⟩ := h
          refine zw_ia hm_14 dX0_comeFromDirtyWords_35 (zT_is hS s_83) (zT_h hS s_83) rfl hg ?_
          show ma_wp X d w 14 36 [(3, .inl ((((mI S l1 4) + (1 : Int32)) + l2) / (mI S 82 5))), (0, .inr (.inr (some 82))), (1, .inr (.inr (some l1))), (2, .inl l2)] [.inl (mI S 83 ((((mI S l1 4) + (1 : Int32)) + l2) / (mI S 82 5)).toNatClampNeg)] S _
          refine zw_if0 hm_14 dX0_comeFromDirtyWords_36 (t := 55) rfl zc0_eq ?_ ?_
          · intro hc
            rw [if_pos hc] at h
            refine zw_sto hm_14 dX0_comeFromDirtyWords_55 [(2, .inl (l2 + (1 : Int32))), (3, .inl ((((mI S l1 4) + (1 : Int32)) + l2) / (mI S 82 5))), (0, .inr (.inr (some 82))), (1, .inr (.inr (some l1)))] rfl rfl rfl ?_
            refine zw_goto hm_14 dX0_comeFromDirtyWords_58 (t := 2) rfl ?_
            exact zw_sub (ma_nd_of (ks := [0, 1, 2]) rfl (by decide)) (ma_nd_of (ks := [2, 3, 0, 1]) rfl (by decide)) (ma_le_cons rfl (ma_le_cons rfl (ma_le_cons rfl (ma_le_nil _)))) h
          · intro hc
            rw [if_neg hc] at h
            refine zw_push hm_14 dX0_comeFromDirtyWords_39 (v := .inr (.inr (some 82))) rfl ?_
            refine zw_gf hm_14 dX0_comeFromDirtyWords_40 (v := .inr (.inr (some 75))) (zT_is hS s_82) (zT_t hS s_82) rfl f_1_70_1 (zT_f hS r_82_1) ?_
            refine zw_push hm_14 dX0_comeFromDirtyWords_43 (v := .inr (.inr (some 82))) rfl ?_
            refine zw_gf hm_14 dX0_comeFromDirtyWords_44 (v := .inr (.inr (some 69))) (zT_is hS s_82) (zT_t hS s_82) rfl f_1_80_1 (zT_f hS r_82_0) ?_
            refine zw_push hm_14 dX0_comeFromDirtyWords_47 (v := .inr (.inr (some l1))) rfl ?_
            refine zw_push hm_14 dX0_comeFromDirtyWords_48 (v := .inl l2) rfl ?_
            refine zw_cv hm_14 dX0_comeFromDirtyWords_49 v_1_140_7 hm_82 [.inl l2, .inr (.inr (some l1))] [.inr (.inr (some 75))] rfl (zT_rt hS s_69 rfl) ⟨by omega, by omega⟩ rfl (zw_mono h (zo_go ?_ ?_))
            · intro v2 S1 hv
              obtain ⟨hS1, h⟩ := hv
              refine zw_cv hm_14 dX0_comeFromDirtyWords_52 v_1_144_10 hm_119 [.inr (.inr v2)] [] rfl (zT_rt hS1 s_75 rfl) ⟨by omega, by omega⟩ rfl (zw_mono h (zv_go ?_ ?_))
              · intro S3 hv
                obtain ⟨hS3, h⟩ := hv
                refine zw_sto hm_14 dX0_comeFromDirtyWords_55 [(2, .inl (l2 + (1 : Int32))), (3, .inl ((((mI S l1 4) + (1 : Int32)) + l2) / (mI S 82 5))), (0, .inr (.inr (some 82))), (1, .inr (.inr (some l1)))] rfl rfl rfl ?_
                refine zw_goto hm_14 dX0_comeFromDirtyWords_58 (t := 2) rfl ?_
                exact zw_sub (ma_nd_of (ks := [0, 1, 2]) rfl (by decide)) (ma_nd_of (ks := [2, 3, 0, 1]) rfl (by decide)) (ma_le_cons rfl (ma_le_cons rfl (ma_le_cons rfl (ma_le_nil _)))) h
              · intro x S9 hx
                exact ⟨by decide, hx⟩
            · intro x S9 hx
              exact ⟨by decide, hx⟩
theorem lp_14_82_sy_2 {X : Nat × (Nat → Int32)} {d w : Nat} {f : Nat → Nat → Int32} {r : Nat → Nat → Option Nat} {C Z N : Nat} {Q : Option ma_V ⊕ Nat → ma_S → Prop} {ab : Nat→Nat→Int32} {R : zRT} {y : Int32} (hd : 1 ≤ d) (hw : 25 ≤ w) (K : ∀ S₉, zI f r C Z N S₉ → (xB S₉ R) → (aG S₉ = gDw ab y.toNatClampNeg 0) → Q (.inl none) S₉) : ∀ (n : Nat) (S : ma_S) (l1 : Nat) (l2 : Int32), (61 - l2.toInt).toNat = n → zI f r C Z N S → (126 ≤ l1 ∧ l1 < N) → (0 ≤ l2.toInt) → (xB S R) → (zTa R y = some l1) → (gDw (aG S) y.toNatClampNeg l2 = gDw ab y.toNatClampNeg 0) → ma_wp X d w 14 2 [(0, .inr (.inr (some 82))), (1, .inr (.inr (some l1))), (2, .inl l2)] [] S Q := by
  intro n
  induction n using Nat.strongRecOn with
  | _ n IH =>
    intro S l1 l2 hmu hI th_l1 hi0 hi1 hi2 hi3
    refine g_14_82_sy_2 l1 l2 (by omega) (by omega) (zG_T hI) ?_
    refine ⟨zG_n hI th_l1, ?_⟩
    have f1 := zG_th hI th_l1
    first | have e2 : ((mI S l1 2) - (1 : Int32)).toInt = (mI S l1 2).toInt - (1) := i_subk rfl (by omega) (by omega) | have b3 := i_bd ((mI S l1 2) - (1 : Int32))
    have b4 := i_bd l2
    refine zd (fun h5 => ?_) (fun h5 => ?_)
    · skip
      have g6 := i_le h5
      exact K _ hI (show xB S R from by first | (exact (xC_o (W := 75) hi1).2)) (show aG S = gDw ab y.toNatClampNeg 0 from by first | (have ty := xB_th (W := 75) hi1 hi2; have e2 : (aG S 128 y.toNatClampNeg).toInt = (mI S l1 2).toInt := (by rw [aG_o (by decide) (by decide), ← ty.2.2.2.2.1]); exact (gDw_st (by omega)).symm.trans hi3))
    · skip
      have g7 := i_nle h5
      have b8 := i_bd (mI S 82 5)
      have li9 : (0 : Int32).toInt = 0 := rfl
      refine zd (fun h10 => ?_) (fun h10 => ?_)
      · skip
        have g11 := i_le h10
        first | have e12 : (l2 + (1 : Int32)).toInt = l2.toInt + (1) := i_addk rfl (by omega) (by omega) | have b13 := i_bd (l2 + (1 : Int32))
        exact IH _ (by omega) _ l1 ((l2 + (1 : Int32))) rfl hI th_l1 (by omega) (show xB S R from by first | (exact (xC_o (W := 75) hi1).2)) (show zTa R y = some l1 from by first | (exact hi2)) (show gDw (aG S) y.toNatClampNeg ((l2 + (1 : Int32))) = gDw ab y.toNatClampNeg 0 from by first | (have ty := xB_th (W := 75) hi1 hi2; have e2 : (aG S 128 y.toNatClampNeg).toInt = (mI S l1 2).toInt := (by rw [aG_o (by decide) (by decide), ← ty.2.2.2.2.1]); have hx : (l2 + (1 : Int32)).toInt = l2.toInt + 1 := i_p1 (by omega); have d := dy_n hi1 hi2 (by omega) (by omega) (by omega) (Or.inl (by omega)); exact (gDw_n (by omega) hx d).symm.trans hi3) | (have ty := xB_th (W := 75) hi1 hi2; have e2 : (aG S 128 y.toNatClampNeg).toInt = (mI S l1 2).toInt := (by rw [aG_o (by decide) (by decide), ← ty.2.2.2.2.1]); have hx : (l2 + (1 : Int32)).toInt = l2.toInt + 1 := i_p1 (by omega); have d := dy_n hi1 hi2 (by omega) (by omega) (by omega) (Or.inr (Or.inl (by omega))); exact (gDw_n (by omega) hx d).symm.trans hi3) | (have ty := xB_th (W := 75) hi1 hi2; have e2 : (aG S 128 y.toNatClampNeg).toInt = (mI S l1 2).toInt := (by rw [aG_o (by decide) (by decide), ← ty.2.2.2.2.1]); have hx : (l2 + (1 : Int32)).toInt = l2.toInt + 1 := i_p1 (by omega); have d := dy_n hi1 hi2 (by omega) (by omega) (by omega) (Or.inr (Or.inr (by omega))); exact (gDw_n (by omega) hx d).symm.trans hi3) | (exfalso; omega))
      · skip
        have g14 := i_nle h10
        refine ⟨zG_n hI th_l1, ?_⟩
        refine ⟨i_nz (by omega), ?_⟩
        have f15 := zG_th hI th_l1
        first | have e16 : ((mI S l1 4) + (1 : Int32)).toInt = (mI S l1 4).toInt + (1) := i_addk rfl (by omega) (by omega) | have b17 := i_bd ((mI S l1 4) + (1 : Int32))
        first | have e18 : (((mI S l1 4) + (1 : Int32)) + l2).toInt = ((mI S l1 4) + (1 : Int32)).toInt + l2.toInt := i_add (by omega) (by omega) | have b19 := i_bd (((mI S l1 4) + (1 : Int32)) + l2)
        first | have f20 := i_div (x := (((mI S l1 4) + (1 : Int32)) + l2)) (y := (mI S 82 5)) (by omega) (by omega) | have b21 := i_bd ((((mI S l1 4) + (1 : Int32)) + l2) / (mI S 82 5))
        refine zd (fun h22 => ?_) (fun h22 => ?_)
        · skip
          have g23 := i_lt h22
          first | have e24 : (l2 + (1 : Int32)).toInt = l2.toInt + (1) := i_addk rfl (by omega) (by omega) | have b25 := i_bd (l2 + (1 : Int32))
          exact IH _ (by omega) _ l1 ((l2 + (1 : Int32))) rfl hI th_l1 (by omega) (show xB S R from by first | (exact (xC_o (W := 75) hi1).2)) (show zTa R y = some l1 from by first | (exact hi2)) (show gDw (aG S) y.toNatClampNeg ((l2 + (1 : Int32))) = gDw ab y.toNatClampNeg 0 from by first | (have ty := xB_th (W := 75) hi1 hi2; have e2 : (aG S 128 y.toNatClampNeg).toInt = (mI S l1 2).toInt := (by rw [aG_o (by decide) (by decide), ← ty.2.2.2.2.1]); have hx : (l2 + (1 : Int32)).toInt = l2.toInt + 1 := i_p1 (by omega); have d := dy_n hi1 hi2 (by omega) (by omega) (by omega) (Or.inl (by omega)); exact (gDw_n (by omega) hx d).symm.trans hi3) | (have ty := xB_th (W := 75) hi1 hi2; have e2 : (aG S 128 y.toNatClampNeg).toInt = (mI S l1 2).toInt := (by rw [aG_o (by decide) (by decide), ← ty.2.2.2.2.1]); have hx : (l2 + (1 : Int32)).toInt = l2.toInt + 1 := i_p1 (by omega); have d := dy_n hi1 hi2 (by omega) (by omega) (by omega) (Or.inr (Or.inl (by omega))); exact (gDw_n (by omega) hx d).symm.trans hi3) | (have ty := xB_th (W := 75) hi1 hi2; have e2 : (aG S 128 y.toNatClampNeg).toInt = (mI S l1 2).toInt := (by rw [aG_o (by decide) (by decide), ← ty.2.2.2.2.1]); have hx : (l2 + (1 : Int32)).toInt = l2.toInt + 1 := i_p1 (by omega); have d := dy_n hi1 hi2 (by omega) (by omega) (by omega) (Or.inr (Or.inr (by omega))); exact (gDw_n (by omega) hx d).symm.trans hi3) | (exfalso; omega))
        · skip
          have g26 := i_nlt h22
          have li27 : (375 : Int32).toInt = 375 := rfl
          refine zd (fun h28 => ?_) (fun h28 => ?_)
          · skip
            have g29 := i_le h28
            first | have e30 : (l2 + (1 : Int32)).toInt = l2.toInt + (1) := i_addk rfl (by omega) (by omega) | have b31 := i_bd (l2 + (1 : Int32))
            exact IH _ (by omega) _ l1 ((l2 + (1 : Int32))) rfl hI th_l1 (by omega) (show xB S R from by first | (exact (xC_o (W := 75) hi1).2)) (show zTa R y = some l1 from by first | (exact hi2)) (show gDw (aG S) y.toNatClampNeg ((l2 + (1 : Int32))) = gDw ab y.toNatClampNeg 0 from by first | (have ty := xB_th (W := 75) hi1 hi2; have e2 : (aG S 128 y.toNatClampNeg).toInt = (mI S l1 2).toInt := (by rw [aG_o (by decide) (by decide), ← ty.2.2.2.2.1]); have hx : (l2 + (1 : Int32)).toInt = l2.toInt + 1 := i_p1 (by omega); have d := dy_n hi1 hi2 (by omega) (by omega) (by omega) (Or.inl (by omega)); exact (gDw_n (by omega) hx d).symm.trans hi3) | (have ty := xB_th (W := 75) hi1 hi2; have e2 : (aG S 128 y.toNatClampNeg).toInt = (mI S l1 2).toInt := (by rw [aG_o (by decide) (by decide), ← ty.2.2.2.2.1]); have hx : (l2 + (1 : Int32)).toInt = l2.toInt + 1 := i_p1 (by omega); have d := dy_n hi1 hi2 (by omega) (by omega) (by omega) (Or.inr (Or.inl (by omega))); exact (gDw_n (by omega) hx d).symm.trans hi3) | (have ty := xB_th (W := 75) hi1 hi2; have e2 : (aG S 128 y.toNatClampNeg).toInt = (mI S l1 2).toInt := (by rw [aG_o (by decide) (by decide), ← ty.2.2.2.2.1]); have hx : (l2 + (1 : Int32)).toInt = l2.toInt + 1 := i_p1 (by omega); have d := dy_n hi1 hi2 (by omega) (by omega) (by omega) (Or.inr (Or.inr (by omega))); exact (gDw_n (by omega) hx d).symm.trans hi3) | (exfalso; omega))
          · skip
            have g32 := i_nle h28
            refine ⟨i_ix (by omega) (by omega), ?_⟩
            have b33 := i_bd (mI S 83 ((((mI S l1 4) + (1 : Int32)) + l2) / (mI S 82 5)).toNatClampNeg)
            refine zd (fun h34 => ?_) (fun h34 => ?_)
            · skip
              have g35 := i_eq h34
              first | have e36 : (l2 + (1 : Int32)).toInt = l2.toInt + (1) := i_addk rfl (by omega) (by omega) | have b37 := i_bd (l2 + (1 : Int32))
              exact IH _ (by omega) _ l1 ((l2 + (1 : Int32))) rfl hI th_l1 (by omega) (show xB S R from by first | (exact (xC_o (W := 75) hi1).2)) (show zTa R y = some l1 from by first | (exact hi2)) (show gDw (aG S) y.toNatClampNeg ((l2 + (1 : Int32))) = gDw ab y.toNatClampNeg 0 from by first | (have ty := xB_th (W := 75) hi1 hi2; have e2 : (aG S 128 y.toNatClampNeg).toInt = (mI S l1 2).toInt := (by rw [aG_o (by decide) (by decide), ← ty.2.2.2.2.1]); have hx : (l2 + (1 : Int32)).toInt = l2.toInt + 1 := i_p1 (by omega); have d := dy_n hi1 hi2 (by omega) (by omega) (by omega) (Or.inl (by omega)); exact (gDw_n (by omega) hx d).symm.trans hi3) | (have ty := xB_th (W := 75) hi1 hi2; have e2 : (aG S 128 y.toNatClampNeg).toInt = (mI S l1 2).toInt := (by rw [aG_o (by decide) (by decide), ← ty.2.2.2.2.1]); have hx : (l2 + (1 : Int32)).toInt = l2.toInt + 1 := i_p1 (by omega); have d := dy_n hi1 hi2 (by omega) (by omega) (by omega) (Or.inr (Or.inl (by omega))); exact (gDw_n (by omega) hx d).symm.trans hi3) | (have ty := xB_th (W := 75) hi1 hi2; have e2 : (aG S 128 y.toNatClampNeg).toInt = (mI S l1 2).toInt := (by rw [aG_o (by decide) (by decide), ← ty.2.2.2.2.1]); have hx : (l2 + (1 : Int32)).toInt = l2.toInt + 1 := i_p1 (by omega); have d := dy_n hi1 hi2 (by omega) (by omega) (by omega) (Or.inr (Or.inr (by omega))); exact (gDw_n (by omega) hx d).symm.trans hi3) | (exfalso; omega))
            · skip
              have g38 := i_ne h34
              refine sp_82_69_s (R := R) (W := 75) (y := y) l1 (l2) (by omega) (by omega) hI th_l1 (show xB S R from by first | (exact (xC_o (W := 75) hi1).2)) (show zTa R y = some l1 from by first | (exact hi2)) (by omega) (fun v2 S1 eS_S1 hq_v2 rp0_S1 => zo_n ⟨(by rw [eS_S1]; exact zG_T hI), ?_⟩)
              replace eS_S1 := eS_S1.symm; subst eS_S1
              have rp0_S1 : v2 = zTa R (aRef (aS 75 S) y.toNatClampNeg l2) := rp0_S1
              refine sp_119_75_s (ab := (aS 75 S)) (R := R) (y := ((aRef (aS 75 S) y.toNatClampNeg l2))) (a8 := (aS 88 S)) (v2) (by omega) (by omega) hI hq_v2 (show xB S R from by first | (exact (xC_o (W := 75) hi1).2)) (show aS 75 S = (aS 75 S) from by first | (exact rfl)) (show v2 = zTa R ((aRef (aS 75 S) y.toNatClampNeg l2)) from by first | (exact rp0_S1)) (show aS 88 S = (aS 88 S) from by first | (exact rfl)) (fun S3 hI_S3 rp0_S3 rp1_S3 rp2_S3 => zv_n ⟨zG_T hI_S3, ?_⟩)
              have rp0_S3 : xB S3 R := rp0_S3
              have rp1_S3 : aS 75 S3 = aCm (aS 75 S) ((aRef (aS 75 S) y.toNatClampNeg l2)) := rp1_S3
              have rp2_S3 : aS 88 S3 = (aS 88 S) := rp2_S3
              first | have e39 : (l2 + (1 : Int32)).toInt = l2.toInt + (1) := i_addk rfl (by omega) (by omega) | have b40 := i_bd (l2 + (1 : Int32))
              exact IH _ (by omega) _ l1 ((l2 + (1 : Int32))) rfl hI_S3 th_l1 (by omega) (show xB S3 R from by first | (exact (xC_o (W := 75) rp0_S3).2)) (show zTa R y = some l1 from by first | (exact hi2)) (show gDw (aG S3) y.toNatClampNeg ((l2 + (1 : Int32))) = gDw ab y.toNatClampNeg 0 from by first | (have ty := xB_th (W := 75) hi1 hi2; have e2 : (aG S 128 y.toNatClampNeg).toInt = (mI S l1 2).toInt := (by rw [aG_o (by decide) (by decide), ← ty.2.2.2.2.1]); have hx : (l2 + (1 : Int32)).toInt = l2.toInt + 1 := i_p1 (by omega); have d := dy_y hi1 hi2 (by omega) (by omega) (by omega) (by omega) (by omega) (by omega); rw [G_cm rp1_S3 (show mI S3 82 = mI S 82 from funext (fun _ => (zG_z hI_S3 rfl).trans (zG_z hI rfl).symm)) (show mI S3 83 = mI S 83 from funext (fun _ => (zG_z hI_S3 rfl).trans (zG_z hI rfl).symm)), G_rf]; exact (gDw_y (by omega) hx d).symm.trans hi3))
theorem sp_14_82_sy {X : Nat × (Nat → Int32)} {d w : Nat} {f : Nat → Nat → Int32} {r : Nat → Nat → Option Nat} {C Z N : Nat} {Q : Option ma_V ⊕ Nat → ma_S → Prop} {ab : Nat→Nat→Int32} {R : zRT} {y : Int32} {S : ma_S} (t : Nat) (hd : 1 ≤ d) (hw : 25 ≤ w) (hI : zI f r C Z N S) (th_t : 126 ≤ t ∧ t < N) (hpre0 : xB S R) (hpre1 : aG S = ab) (hpre2 : zTa R y = some t) (K : ∀ S₉, zI f r C Z N S₉ → (xB S₉ R) → (aG S₉ = gDw ab y.toNatClampNeg 0) → Q (.inl none) S₉) : ma_wp X d w 14 0 [(0, .inr (.inr (some 82))), (1, .inr (.inr (some t)))] [] S Q := by
  refine g_14_82_sy_0 t (by omega) (by omega) (zG_T hI) ?_
  have li1 : (0 : Int32).toInt = 0 := rfl
  exact lp_14_82_sy_2 (by omega) (by omega) K _ _ t ((0 : Int32)) rfl hI th_t (by omega) (show xB S R from by first | (exact (xC_o (W := 75) hpre0).2)) (show zTa R y = some t from by first | (exact hpre2)) (show gDw (aG S) y.toNatClampNeg ((0 : Int32)) = gDw ab y.toNatClampNeg 0 from by first | (rw [hpre1]))

