/-! from 95.s12 -/
/-! REGIONS, the class (written by wip/tools/gen15z.py) -/
/-! REGIONS: what leaves, kept while regions are emptied -/
def qLv (a : Nat → Nat → Int32) (t : Int) : Prop := (∀ r : Nat, r < 93 → 0 ≤ (a 93 r).toInt) ∧ (∀ r : Nat, r < 93 → 0 < (a 93 r).toInt → (r : Int) < (a 87 4).toInt ∧ (a 92 r).toInt ≠ 0) ∧ (∀ n, xAl a n → 0 < (a 133 n).toInt → (a 93 ((a 130 n).toInt / (a 87 3).toInt).toNat).toInt = 0) ∧ (t = -1 ∨ (0 ≤ t ∧ t < (a 87 4).toInt ∧ (a 93 t.toNat).toInt = 0))
section F14
variable {a b ab : Nat → Nat → Int32} {S S₉ : ma_S} {R : Nat → Option Nat} {x y i : Int32} {c k n : Nat} {p e t q u tg : Int}
theorem Gd_rs (h : qRv a) (h0 : 0 ≤ q) : qGd a (q * (a 87 3).toInt) := fun n hn w => by
  have g := h.2.2.2.2 n hn
  have s := h.2.2.1
  have db := dv_b (p := (a 130 n).toInt) (s := (a 87 3).toInt) (by omega)
  have dn : 0 ≤ (a 130 n).toInt / (a 87 3).toInt := Int.ediv_nonneg (h.1.1 n hn).1.2 (by omega)
  have tm := (h.2.2.2.1 ((a 130 n).toInt / (a 87 3).toInt).toNat (by omega)).1
  generalize (a 130 n).toInt / (a 87 3).toInt = v at *
  by_cases w2 : v < q
  · have z := ml_le (s := (a 87 3).toInt) w2 (by omega)
    omega
  · by_cases w3 : v = q
    · rw [w3] at db
      omega
    · have z := ml_le (s := (a 87 3).toInt) (show q < v by omega) (by omega)
      omega
theorem Lv_J (h : qRv a) (hl : qLv a t) (h0 : 0 ≤ q) (h9 : q < 93) (hq : 0 < (a 93 q.toNat).toInt) : qJr a q (q * (a 87 3).toInt) t := by
  have qn : ((q.toNat : Nat) : Int) = q := by omega
  have g := hl.2.1 q.toNat (by omega) hq
  have s := h.2.2.1
  have tp := (h.2.2.2.1 q.toNat (by omega)).1
  refine ⟨h, ⟨h0, by omega⟩, ⟨Int.le_refl _, by omega⟩, Gd_rs h h0, fun n hn w => ?_, ?_, fun n hn hh w => ?_⟩
  · have db := dv_b (p := (a 130 n).toInt) (s := (a 87 3).toInt) (by omega)
    rw [w] at db
    exact db.1
  · rcases hl.2.2.2 with w | w
    · exact Or.inl w
    · refine Or.inr ⟨w.1, w.2.1, fun z => ?_⟩
      rw [z] at w
      omega
  · have z := hl.2.2.1 n hn hh
    rw [w] at z
    omega
theorem Lv_go (h : qJr a q p t) (hl : qLv a t) (hp : p < q * (a 87 3).toInt + (a 92 q.toNat).toInt) (hf : 0 ≤ (zOb a p).toInt) (hn : rTo a t (a 128 (zOb a p).toNatClampNeg).toInt ≠ -1) : qLv (rM1 a (zOb a p).toNatClampNeg (rTo a t (a 128 (zOb a p).toNatClampNeg).toInt)) (rTo a t (a 128 (zOb a p).toNatClampNeg).toInt) := by
  have j := Jr_to h hp hf hn
  have ty := To_y hn (by have := j.2.2.2.2.2.1; have := (h.1.2.2.2.1 (rTo a t (a 128 (zOb a p).toNatClampNeg).toInt).toNat (by have := j.2.2.2.2.1; have := h.1.2.2.1; omega)).1; omega)
  obtain ⟨hv, hr, hb, hg, hm, ht, hh⟩ := h
  obtain ⟨al, e2, dis, en, ⟨t0, t1, t2⟩, fit, sz1⟩ := j
  generalize (zOb a p).toNatClampNeg = n at *
  generalize rTo a t (a 128 n).toInt = u at *
  have s := hv.2.2.1
  have tu := (hv.2.2.2.1 u.toNat (by omega)).1
  have tq := (hv.2.2.2.1 q.toNat (by omega)).1
  have r7 : ∀ k, rM1 a n u 87 k = a 87 k := fun k => M1_r (by decide) (by decide) (by decide)
  have r93 : ∀ k, rM1 a n u 93 k = a 93 k := fun k => M1_r (by decide) (by decide) (by decide)
  have r33 : ∀ k, rM1 a n u 133 k = a 133 k := fun k => M1_r (by decide) (by decide) (by decide)
  have po : ∀ m, m ≠ n → rM1 a n u 130 m = a 130 m := fun m w => by
    unfold rM1
    rw [xu_o (by omega), Mo_po w]
  have tun : (rM1 a n u 92 u.toNat).toInt = (a 92 u.toNat).toInt + (a 128 n).toInt := by
    unfold rM1
    rw [xu_s]
    exact i_add (by omega) (by omega)
  have tuo : ∀ k, k ≠ u.toNat → rM1 a n u 92 k = a 92 k := fun k w => by
    unfold rM1
    rw [xu_o (fun z => w z.2), Mo_r (by decide) (by decide)]
  have rg : (a 130 n).toInt / (a 87 3).toInt = q := Rg_p hv hr.1 (by omega) (by omega)
  refine ⟨fun r hr2 => by rw [r93]; exact hl.1 r hr2, fun r hr2 w => ?_, fun m hm2 w => ?_, Or.inr ⟨t0, by rw [r7]; exact t1, ?_⟩⟩
  · rw [r93] at w
    have g := hl.2.1 r hr2 w
    rw [r7]
    refine ⟨g.1, ?_⟩
    by_cases z : r = u.toNat
    · rw [z, tun]
      omega
    · rw [tuo r z]
      exact g.2
  · have hm₉ := M1_al.1 hm2
    rw [r33] at w
    have z : m ≠ n := fun z => by
      rw [z] at w
      exact hh n al w rg
    rw [r7, r93, po m z]
    exact hl.2.2.1 m hm₉ w
  · rw [r93]
    rcases ty.2.2.2 with w | w
    · rcases hl.2.2.2 with z | z
      · omega
      · rw [w]
        exact z.2.2
    · by_cases z : 0 < (a 93 u.toNat).toInt
      · exact absurd w.2 (hl.2.1 u.toNat (by omega) z).2
      · have := hl.1 u.toNat (by omega)
        omega
theorem Lv_end (hl : qLv a t) (h0 : 0 ≤ q) : qLv (ma_u (ma_u a 93 q.toNat 0) 92 q.toNat 0) t := by
  have r7 : ∀ k, ma_u (ma_u a 93 q.toNat 0) 92 q.toNat 0 87 k = a 87 k := fun k => by rw [xu_o (by omega), xu_o (by omega)]
  have r9 : ∀ k, ma_u (ma_u a 93 q.toNat 0) 92 q.toNat 0 93 k = if k = q.toNat then 0 else a 93 k := fun k => by
    rw [xu_o (by omega)]
    show (if (93 : Nat) = 93 ∧ k = q.toNat then 0 else a 93 k) = _
    by_cases z : k = q.toNat
    · rw [if_pos ⟨rfl, z⟩, if_pos z]
    · rw [if_neg (fun w => z w.2), if_neg z]
  have r2 : ∀ k, k ≠ q.toNat → ma_u (ma_u a 93 q.toNat 0) 92 q.toNat 0 92 k = a 92 k := fun k z => by rw [xu_o (fun w => z w.2), xu_o (by omega)]
  have ro : ∀ c, c ≠ 92 → c ≠ 93 → ma_u (ma_u a 93 q.toNat 0) 92 q.toNat 0 c = a c := fun c h1 h2 => by rw [ma_u_ne _ _ _ h1, ma_u_ne _ _ _ h2]
  have z0 : (0 : Int32).toInt = 0 := rfl
  refine ⟨fun r hr => ?_, fun r hr w => ?_, fun n hn w => ?_, ?_⟩
  · rw [r9]
    split
    · omega
    · exact hl.1 r hr
  · rw [r9] at w
    by_cases z : r = q.toNat
    · rw [if_pos z] at w
      omega
    · rw [if_neg z] at w
      rw [r7, r2 r z]
      exact hl.2.1 r hr w
  · unfold xAl at hn
    rw [ro 126 (by decide) (by decide)] at hn
    rw [ro 133 (by decide) (by decide)] at w
    rw [r9, r7, ro 130 (by decide) (by decide)]
    split
    · exact z0
    · exact hl.2.2.1 n hn w
  · rcases hl.2.2.2 with w | w
    · exact Or.inl w
    · refine Or.inr ⟨w.1, by rw [r7]; exact w.2.1, ?_⟩
      rw [r9]
      split
      · exact z0
      · exact w.2.2
/-! the class: all of a region -/
theorem zz_n2 (h : (mI S 71 x.toNatClampNeg).toInt < 0 ∨ 512 ≤ (mI S 71 x.toNatClampNeg).toInt) : zOb (aZ S) x.toInt = -1 := by
  rw [zb_e]
  exact ob_n2 h
theorem zz_n3 (hC : xB S R) (rn : zTa R (mI S 71 x.toNatClampNeg) = none) : zOb (aZ S) x.toInt = -1 := by
  rw [zb_e]
  exact ob_n3 hC rn
theorem zz_y (hC : xB S R) (rg : zTa R (mI S 71 x.toNatClampNeg) = some c) (h0 : 0 ≤ x.toInt) (h1 : x.toInt < 4500) : zOb (aZ S) x.toInt = mI S 71 x.toNatClampNeg ∧ aZ S 128 (mI S 71 x.toNatClampNeg).toNatClampNeg = mI S c 2 := by
  rw [zb_e, aZ_o (c := 128) (by decide) (by decide) (by decide)]
  exact ob_y hC rg h0 h1
theorem M2_e (h : e = q * (a 87 3).toInt + (a 92 q.toNat).toInt) (h2 : p = q * (a 87 3).toInt) : rMv a e p t = rM2 a q t := by
  unfold rM2
  rw [h, h2]
/-- the region's end stays while others leave it -/
theorem Jr_e3 (h : qJr a q p t) (hp : p < q * (a 87 3).toInt + (a 92 q.toNat).toInt) (hf : 0 ≤ (zOb a p).toInt) (hn : rTo a t (a 128 (zOb a p).toNatClampNeg).toInt ≠ -1) : q * (rM1 a (zOb a p).toNatClampNeg (rTo a t (a 128 (zOb a p).toNatClampNeg).toInt) 87 3).toInt + (rM1 a (zOb a p).toNatClampNeg (rTo a t (a 128 (zOb a p).toNatClampNeg).toInt) 92 q.toNat).toInt = q * (a 87 3).toInt + (a 92 q.toNat).toInt := by
  have j := Jr_to h hp hf hn
  have hr := h.2.1
  rw [M1_r (by decide) (by decide) (by decide)]
  unfold rM1
  rw [xu_o (fun z => by have := z.2; have := j.2.2.2.2.1; omega), Mo_r (by decide) (by decide)]
theorem Jr_en2 (h : qJr a q p t) (hp : ¬ p < q * (a 87 3).toInt + (a 92 q.toNat).toInt) : qRv (ma_u (ma_u a 93 q.toNat 0) 92 q.toNat 0) := by
  have z := Jr_end h hp
  have e : ma_u (ma_u a 93 q.toNat 0) 92 q.toNat 0 = ma_u (ma_u a 92 q.toNat 0) 93 q.toNat 0 := by
    funext c k
    show (if c = 92 ∧ k = q.toNat then 0 else (if c = 93 ∧ k = q.toNat then 0 else a c k)) = (if c = 93 ∧ k = q.toNat then 0 else (if c = 92 ∧ k = q.toNat then 0 else a c k))
    by_cases w : c = 92 ∧ k = q.toNat
    · rw [if_pos w, if_neg (fun w2 => by omega), if_pos w]
    · rw [if_neg w]
      by_cases w2 : c = 93 ∧ k = q.toNat
      · rw [if_pos w2, if_pos w2]
      · rw [if_neg w2, if_neg w2, if_neg w]
  rw [e]
  obtain ⟨z1, z2, z3, z4, z5⟩ := z
  have r : ∀ c, c ≠ 93 → ma_u (ma_u a 92 q.toNat 0) 93 q.toNat 0 c = ma_u a 92 q.toNat 0 c := fun c hc => ma_u_ne _ _ _ hc
  unfold qRv xAl at *
  rw [r 87 (by decide), r 92 (by decide), r 126 (by decide), r 130 (by decide), r 128 (by decide)]
  exact ⟨I_cg z1 (r _ (by decide)) (r _ (by decide)) (r _ (by decide)) (r _ (by decide)) (r _ (by decide)) (r _ (by decide)) (fun j => r _ (by omega)), z2, z3, z4, z5⟩
end F14
theorem g_52_91_sz_0 {X : Nat × (Nat → Int32)} {d w : Nat} {S : ma_S} {Q : Option ma_V ⊕ Nat → ma_S → Prop}  (hd : 0 ≤ d) (hw : 0 ≤ w) (hS : zT S) (h : ma_wp X d w 52 2 [(0, .inr (.inr (some 91))), (1, .inl (0 : Int32))] [] S Q) : ma_wp X d w 52 0 [(0, .inr (.inr (some 91)))] [] S Q := by
  refine zw_push hm_52 dX4_leastEmpty_0 (v := .inl (0 : Int32)) rfl ?_
  refine zw_sto hm_52 dX4_leastEmpty_1 [(1, .inl (0 : Int32)), (0, .inr (.inr (some 91)))] rfl rfl rfl ?_
  exact zw_sub (ma_nd_of (ks := [0, 1]) rfl (by decide)) (ma_nd_of (ks := [1, 0]) rfl (by decide)) (ma_le_cons rfl (ma_le_cons rfl (ma_le_nil _))) h
theorem g_52_91_sz_2 {X : Nat × (Nat → Int32)} {d w : Nat} {S : ma_S} {Q : Option ma_V ⊕ Nat → ma_S → Prop} (l1 : Int32) (hd : 0 ≤ d) (hw : 0 ≤ w) (hS : zT S) (h : if (mI S 91 3) ≤ l1 then (Q (.inl (some (.inl (-1 : Int32)))) S) else (if (93 : Int32) ≤ l1 then (Q (.inl (some (.inl (-1 : Int32)))) S) else ((0 ≤ l1 ∧ l1.toNatClampNeg < 93) ∧ (if (mI S 92 l1.toNatClampNeg) = 0 then (Q (.inl (some (.inl l1))) S) else (ma_wp X d w 52 2 [(0, .inr (.inr (some 91))), (1, .inl (l1 + (1 : Int32)))] [] S Q))))) : ma_wp X d w 52 2 [(0, .inr (.inr (some 91))), (1, .inl l1)] [] S Q := by
  refine zw_push hm_52 dX4_leastEmpty_2 (v := .inl l1) rfl ?_
  refine zw_push hm_52 dX4_leastEmpty_3 (v := .inr (.inr (some 91))) rfl ?_
  refine zw_gf hm_52 dX4_leastEmpty_4 (v := .inl (mI S 91 3)) (zT_is hS s_91) (zT_t hS s_91) rfl f_4_28_4 rfl ?_
  refine zw_if2 hm_52 dX4_leastEmpty_7 (t := 33) rfl zc2_ge ?_ ?_
  · intro hc
    rw [if_pos hc] at h
    refine zw_push hm_52 dX4_leastEmpty_33 (v := .inl (-1 : Int32)) rfl ?_
    exact zw_iret hm_52 dX4_leastEmpty_34 h
  · intro hc
    rw [if_neg hc] at h
    refine zw_push hm_52 dX4_leastEmpty_10 (v := .inl l1) rfl ?_
    refine zw_push hm_52 dX4_leastEmpty_11 (v := .inl (93 : Int32)) rfl ?_
    refine zw_if2 hm_52 dX4_leastEmpty_13 (t := 33) rfl zc2_ge ?_ ?_
    · intro hc
      rw [if_pos hc] at h
      refine zw_push hm_52 dX4_leastEmpty_33 (v := .inl (-1 : Int32)) rfl ?_
      exact zw_iret hm_52 dX4_leastEmpty_34 h
    · intro hc
      rw [if_neg hc] at h
      refine zw_push hm_52 dX4_leastEmpty_16 (v := .inr (.inr (some 91))) rfl ?_
      refine zw_gf hm_52 dX4_leastEmpty_17 (v := .inr (.inr (some 92))) (zT_is hS s_91) (zT_t hS s_91) rfl f_4_9_4 (zT_f hS r_91_7) ?_
      refine zw_push hm_52 dX4_leastEmpty_20 (v := .inl l1) rfl ?_
      obtain ⟨hg, h⟩ := h
      refine zw_ia hm_52 dX4_leastEmpty_21 (zT_is hS s_92) (zT_h hS s_92) rfl hg ?_
      show ma_wp X d w 52 22 [(0, .inr (.inr (some 91))), (1, .inl l1)] [.inl (mI S 92 l1.toNatClampNeg)] S _
      refine zw_if0 hm_52 dX4_leastEmpty_22 (t := 27) rfl zc0_ne ?_ ?_
      · intro hc
        rw [if_neg hc] at h
        refine zw_sto hm_52 dX4_leastEmpty_27 [(1, .inl (l1 + (1 : Int32))), (0, .inr (.inr (some 91)))] rfl rfl rfl ?_
        refine zw_goto hm_52 dX4_leastEmpty_30 (t := 2) rfl ?_
        exact zw_sub (ma_nd_of (ks := [0, 1]) rfl (by decide)) (ma_nd_of (ks := [1, 0]) rfl (by decide)) (ma_le_cons rfl (ma_le_cons rfl (ma_le_nil _))) h
      · intro hc
        rw [if_pos (Classical.not_not.mp hc)] at h
        refine zw_push hm_52 dX4_leastEmpty_25 (v := .inl l1) rfl ?_
        exact zw_iret hm_52 dX4_leastEmpty_26 h
theorem lp_52_91_sz_2 {X : Nat × (Nat → Int32)} {d w : Nat} {f : Nat → Nat → Int32} {r : Nat → Nat → Option Nat} {C Z N : Nat} {Q : Option ma_V ⊕ Nat → ma_S → Prop} {S : ma_S} (hd : 0 ≤ d) (hw : 0 ≤ w) (K : ∀ v S₉, S₉ = S → (-1 ≤ v.toInt ∧ v.toInt ≤ 92 ∧ (v.toInt < 0 ∨ (mI S 92 v.toNatClampNeg).toInt = 0)) → (v.toInt = rLe (aZ S)) → Q (.inl (some (.inl v))) S₉) : ∀ (n : Nat) (l1 : Int32), (93 - l1.toInt).toNat = n → zL91 f r C Z N S → (0 ≤ l1.toInt) → (rLf (aZ S) (93 - l1.toInt).toNat l1.toNatClampNeg = rLe (aZ S)) → ma_wp X d w 52 2 [(0, .inr (.inr (some 91))), (1, .inl l1)] [] S Q := by
  intro n
  induction n using Nat.strongRecOn with
  | _ n IH =>
    intro l1 hmu hI  hi0 hi1
    refine g_52_91_sz_2 l1 (by omega) (by omega) (zG_T hI) ?_
    have f1 := zG_s hI (0) (93) (c := 91) (k := 3) (by decide)
    have b2 := i_bd l1
    refine zd (fun h3 => ?_) (fun h3 => ?_)
    · skip
      have g4 := i_le h3
      have li5 : (-1 : Int32).toInt = -1 := rfl
      first | have f6 := zG_a hI 93 (0) (3000) (c := 92) (k := (-1 : Int32).toNatClampNeg) (by decide) (i_ix (n := 93) (by omega) (by omega)).2 | have b7 := i_bd (mI S 92 (-1 : Int32).toNatClampNeg)
      exact K ((-1 : Int32)) _ rfl (show -1 ≤ (-1 : Int32).toInt ∧ (-1 : Int32).toInt ≤ 92 ∧ ((-1 : Int32).toInt < 0 ∨ (mI S 92 (-1 : Int32).toNatClampNeg).toInt = 0) from by omega) (show (-1 : Int32).toInt = rLe (aZ S) from by first | (have i4 := congrArg Int32.toInt (show aZ S 87 4 = mI S 91 3 from rfl); have q := hi1; have tc := tn_cast (x := l1) (by omega); rw [show (93 - l1.toInt).toNat = (92 - l1.toInt).toNat + 1 from by omega, Lf_y (by omega) (by rw [aZ_9 (Or.inl rfl)]; omega)] at q; omega) | (have i4 := congrArg Int32.toInt (show aZ S 87 4 = mI S 91 3 from rfl); have q := hi1; have tc := tn_cast (x := l1) (by omega); rw [Lf_e (by omega)] at q; omega) | (have i4 := congrArg Int32.toInt (show aZ S 87 4 = mI S 91 3 from rfl); have q := hi1; have tc := tn_cast (x := l1) (by omega); rw [show (93 - l1.toInt).toNat = 0 from by omega] at q; exact q))
    · skip
      have g8 := i_nle h3
      have li9 : (93 : Int32).toInt = 93 := rfl
      refine zd (fun h10 => ?_) (fun h10 => ?_)
      · skip
        have g11 := i_le h10
        have li12 : (-1 : Int32).toInt = -1 := rfl
        first | have f13 := zG_a hI 93 (0) (3000) (c := 92) (k := (-1 : Int32).toNatClampNeg) (by decide) (i_ix (n := 93) (by omega) (by omega)).2 | have b14 := i_bd (mI S 92 (-1 : Int32).toNatClampNeg)
        exact K ((-1 : Int32)) _ rfl (show -1 ≤ (-1 : Int32).toInt ∧ (-1 : Int32).toInt ≤ 92 ∧ ((-1 : Int32).toInt < 0 ∨ (mI S 92 (-1 : Int32).toNatClampNeg).toInt = 0) from by omega) (show (-1 : Int32).toInt = rLe (aZ S) from by first | (have i4 := congrArg Int32.toInt (show aZ S 87 4 = mI S 91 3 from rfl); have q := hi1; have tc := tn_cast (x := l1) (by omega); rw [show (93 - l1.toInt).toNat = (92 - l1.toInt).toNat + 1 from by omega, Lf_y (by omega) (by rw [aZ_9 (Or.inl rfl)]; omega)] at q; omega) | (have i4 := congrArg Int32.toInt (show aZ S 87 4 = mI S 91 3 from rfl); have q := hi1; have tc := tn_cast (x := l1) (by omega); rw [Lf_e (by omega)] at q; omega) | (have i4 := congrArg Int32.toInt (show aZ S 87 4 = mI S 91 3 from rfl); have q := hi1; have tc := tn_cast (x := l1) (by omega); rw [show (93 - l1.toInt).toNat = 0 from by omega] at q; exact q))
      · skip
        have g15 := i_nle h10
        refine ⟨i_ix (by omega) (by omega), ?_⟩
        first | have f16 := zG_a hI 93 (0) (3000) (c := 92) (k := l1.toNatClampNeg) (by decide) (i_ix (n := 93) (by omega) (by omega)).2 | have b17 := i_bd (mI S 92 l1.toNatClampNeg)
        have li18 : (0 : Int32).toInt = 0 := rfl
        refine zd (fun h19 => ?_) (fun h19 => ?_)
        · skip
          have g20 := i_eq h19
          exact K (l1) _ rfl (show -1 ≤ l1.toInt ∧ l1.toInt ≤ 92 ∧ (l1.toInt < 0 ∨ (mI S 92 l1.toNatClampNeg).toInt = 0) from by omega) (show l1.toInt = rLe (aZ S) from by first | (have i4 := congrArg Int32.toInt (show aZ S 87 4 = mI S 91 3 from rfl); have q := hi1; have tc := tn_cast (x := l1) (by omega); rw [show (93 - l1.toInt).toNat = (92 - l1.toInt).toNat + 1 from by omega, Lf_y (by omega) (by rw [aZ_9 (Or.inl rfl)]; omega)] at q; omega) | (have i4 := congrArg Int32.toInt (show aZ S 87 4 = mI S 91 3 from rfl); have q := hi1; have tc := tn_cast (x := l1) (by omega); rw [Lf_e (by omega)] at q; omega) | (have i4 := congrArg Int32.toInt (show aZ S 87 4 = mI S 91 3 from rfl); have q := hi1; have tc := tn_cast (x := l1) (by omega); rw [show (93 - l1.toInt).toNat = 0 from by omega] at q; exact q))
        · skip
          have g21 := i_ne h19
          first | have e22 : (l1 + (1 : Int32)).toInt = l1.toInt + (1) := i_addk rfl (by omega) (by omega) | have b23 := i_bd (l1 + (1 : Int32))
          exact IH _ (by omega) ((l1 + (1 : Int32))) rfl hI (by omega) (show rLf (aZ S) (93 - ((l1 + (1 : Int32))).toInt).toNat ((l1 + (1 : Int32))).toNatClampNeg = rLe (aZ S) from by first | (have i4 := congrArg Int32.toInt (show aZ S 87 4 = mI S 91 3 from rfl); have q := hi1; rw [show (93 - l1.toInt).toNat = (93 - (l1 + (1 : Int32)).toInt).toNat + 1 from by omega, Lf_n (by rw [tn_cast (x := l1) (by omega)]; omega) (by rw [aZ_9 (Or.inl rfl)]; omega)] at q; rw [show (l1 + (1 : Int32)).toNatClampNeg = l1.toNatClampNeg + 1 from by have := tn_cast (x := l1) (by omega); have := tn_cast (x := (l1 + (1 : Int32))) (by omega); omega]; exact q))
theorem sp_52_91_sz {X : Nat × (Nat → Int32)} {d w : Nat} {f : Nat → Nat → Int32} {r : Nat → Nat → Option Nat} {C Z N : Nat} {Q : Option ma_V ⊕ Nat → ma_S → Prop} {S : ma_S}  (hd : 0 ≤ d) (hw : 0 ≤ w) (hI : zL91 f r C Z N S)  (K : ∀ v S₉, S₉ = S → (-1 ≤ v.toInt ∧ v.toInt ≤ 92 ∧ (v.toInt < 0 ∨ (mI S 92 v.toNatClampNeg).toInt = 0)) → (v.toInt = rLe (aZ S)) → Q (.inl (some (.inl v))) S₉) : ma_wp X d w 52 0 [(0, .inr (.inr (some 91)))] [] S Q := by
  refine g_52_91_sz_0  (by omega) (by omega) (zG_T hI) ?_
  have li1 : (0 : Int32).toInt = 0 := rfl
  exact lp_52_91_sz_2 (by omega) (by omega) K _ ((0 : Int32)) rfl hI (by omega) (show rLf (aZ S) (93 - ((0 : Int32)).toInt).toNat ((0 : Int32)).toNatClampNeg = rLe (aZ S) from by first | (exact rfl))
theorem g_276_93_sz_0 {X : Nat × (Nat → Int32)} {d w : Nat} {S : ma_S} {Q : Option ma_V ⊕ Nat → ma_S → Prop} (x : Int32) (hd : 0 ≤ d) (hw : 0 ≤ w) (hS : zT S) (h : ma_wp X d w 276 5 [(0, .inr (.inr (some 93))), (1, .inl x), (2, .inl (0 : Int32)), (3, .inl (93 : Int32))] [] S Q) : ma_wp X d w 276 0 [(0, .inr (.inr (some 93))), (1, .inl x)] [] S Q := by
  refine zw_push hm_276 dJ7_fill_53178_0 (v := .inl (0 : Int32)) rfl ?_
  refine zw_sto hm_276 dJ7_fill_53178_1 [(2, .inl (0 : Int32)), (0, .inr (.inr (some 93))), (1, .inl x)] rfl rfl rfl ?_
  refine zw_push hm_276 dJ7_fill_53178_2 (v := .inr (.inr (some 93))) rfl ?_
  refine zw_len hm_276 dJ7_fill_53178_3 (zT_is hS s_93) (zT_h hS s_93) rfl rfl ?_
  refine zw_sto hm_276 dJ7_fill_53178_4 [(3, .inl (93 : Int32)), (2, .inl (0 : Int32)), (0, .inr (.inr (some 93))), (1, .inl x)] rfl rfl rfl ?_
  exact zw_sub (ma_nd_of (ks := [0, 1, 2, 3]) rfl (by decide)) (ma_nd_of (ks := [3, 2, 0, 1]) rfl (by decide)) (ma_le_cons rfl (ma_le_cons rfl (ma_le_cons rfl (ma_le_cons rfl (ma_le_nil _))))) h
theorem g_276_93_sz_5 {X : Nat × (Nat → Int32)} {d w : Nat} {S : ma_S} {Q : Option ma_V ⊕ Nat → ma_S → Prop} (l1 : Int32) (l2 : Int32) (l3 : Int32) (hd : 0 ≤ d) (hw : 0 ≤ w) (hS : zT S) (h : if l3 ≤ l2 then (Q (.inl none) S) else ((0 ≤ l2 ∧ l2.toNatClampNeg < 93) ∧ (ma_wp X d w 276 5 [(0, .inr (.inr (some 93))), (1, .inl l1), (2, .inl (l2 + (1 : Int32))), (3, .inl l3)] [] (ma_put S 93 l2.toNatClampNeg (.inl l1)) Q))) : ma_wp X d w 276 5 [(0, .inr (.inr (some 93))), (1, .inl l1), (2, .inl l2), (3, .inl l3)] [] S Q := by
  refine zw_push hm_276 dJ7_fill_53178_5 (v := .inl l2) rfl ?_
  refine zw_push hm_276 dJ7_fill_53178_6 (v := .inl l3) rfl ?_
  refine zw_if2 hm_276 dJ7_fill_53178_7 (t := 20) rfl zc2_ge ?_ ?_
  · intro hc
    rw [if_pos hc] at h
    exact zw_vret hm_276 dJ7_fill_53178_20 h
  · intro hc
    rw [if_neg hc] at h
    refine zw_push hm_276 dJ7_fill_53178_10 (v := .inr (.inr (some 93))) rfl ?_
    refine zw_push hm_276 dJ7_fill_53178_11 (v := .inl l2) rfl ?_
    refine zw_push hm_276 dJ7_fill_53178_12 (v := .inl l1) rfl ?_
    obtain ⟨hg, h⟩ := h
    refine zw_ias hm_276 dJ7_fill_53178_13 (zT_is hS s_93) (zT_h hS s_93) rfl hg ?_
    refine zw_sto hm_276 dJ7_fill_53178_14 [(2, .inl (l2 + (1 : Int32))), (0, .inr (.inr (some 93))), (1, .inl l1), (3, .inl l3)] rfl rfl rfl ?_
    refine zw_goto hm_276 dJ7_fill_53178_17 (t := 5) rfl ?_
    exact zw_sub (ma_nd_of (ks := [0, 1, 2, 3]) rfl (by decide)) (ma_nd_of (ks := [2, 0, 1, 3]) rfl (by decide)) (ma_le_cons rfl (ma_le_cons rfl (ma_le_cons rfl (ma_le_cons rfl (ma_le_nil _))))) h
theorem lp_276_93_sz_5 {X : Nat × (Nat → Int32)} {d w : Nat} {f : Nat → Nat → Int32} {r : Nat → Nat → Option Nat} {C Z N : Nat} {Q : Option ma_V ⊕ Nat → ma_S → Prop} {ab : Nat→Nat→Int32} {x : Int32} (hd : 0 ≤ d) (hw : 0 ≤ w) (K : ∀ S₉, zL91 f r C Z N S₉ → (xB S₉ (mR S₉ 70)) → (aZ S₉ = zFl ab 93 x 93) → Q (.inl none) S₉) : ∀ (n : Nat) (S : ma_S) (l1 : Int32) (l2 : Int32) (l3 : Int32), (l3.toInt - l2.toInt).toNat = n → zL91 f r C Z N S → (0 ≤ l2.toInt) → (l3.toInt = 93) → (l2.toInt ≤ 93) → (xB S (mR S 70)) → (aZ S = zFl ab 93 l1 l2.toInt) → (l1 = x) → ma_wp X d w 276 5 [(0, .inr (.inr (some 93))), (1, .inl l1), (2, .inl l2), (3, .inl l3)] [] S Q := by
  intro n
  induction n using Nat.strongRecOn with
  | _ n IH =>
    intro S l1 l2 l3 hmu hI  hi0 hi1 hi2 hi3 hi4 hi5
    refine g_276_93_sz_5 l1 l2 l3 (by omega) (by omega) (zG_T hI) ?_
    have b1 := i_bd l3
    have b2 := i_bd l2
    refine zd (fun h3 => ?_) (fun h3 => ?_)
    · skip
      have g4 := i_le h3
      exact K _ hI (show xB S (mR S 70) from by first | (exact xB_x (xC_o (W := 75) hi3).2)) (show aZ S = zFl ab 93 x 93 from by first | (rw [hi4, show l2.toInt = 93 from by omega, hi5]))
    · skip
      have g5 := i_nle h3
      refine ⟨i_ix (by omega) (by omega), ?_⟩
      have hI6 : zL91 f r C Z N (ma_put S 93 l2.toNatClampNeg (.inl l1)) := zG_fa hI rfl (by decide) (by decide) (by decide) trivial
      have b7 := i_bd l1
      first | have e8 : (l2 + (1 : Int32)).toInt = l2.toInt + (1) := i_addk rfl (by omega) (by omega) | have b9 := i_bd (l2 + (1 : Int32))
      exact IH _ (by omega) _ (l1) ((l2 + (1 : Int32))) (l3) rfl hI6 (by omega) (by omega) (by omega) (show xB (ma_put S 93 l2.toNatClampNeg (.inl l1)) (mR (ma_put S 93 l2.toNatClampNeg (.inl l1)) 70) from by first | (exact xB_x (xC_n (c := 93) (k := l2.toNatClampNeg) (x := l1) (xC_o (W := 75) hi3) ⟨by decide, Or.inl ⟨rfl, rfl⟩⟩).2)) (show aZ (ma_put S 93 l2.toNatClampNeg (.inl l1)) = zFl ab 93 (l1) ((l2 + (1 : Int32))).toInt from by first | (rw [((Z_p9 (c := 93) (n := l2.toNatClampNeg) (x := l1) (xC_o (W := 75) hi3).2 (by decide)).trans (congrArg (fun q => ma_u q 93 l2.toNatClampNeg l1) (show aZ S = aZ S from rfl))), hi4]; exact zFl_s (by omega) (by omega))) (show (l1) = x from by first | (exact rfl) | (exact hi5))
theorem sp_276_93_sz {X : Nat × (Nat → Int32)} {d w : Nat} {f : Nat → Nat → Int32} {r : Nat → Nat → Option Nat} {C Z N : Nat} {Q : Option ma_V ⊕ Nat → ma_S → Prop} {ab : Nat→Nat→Int32} {S : ma_S} (x : Int32) (hd : 0 ≤ d) (hw : 0 ≤ w) (hI : zL91 f r C Z N S) (hpre0 : xB S (mR S 70)) (hpre1 : aZ S = ab) (K : ∀ S₉, zL91 f r C Z N S₉ → (xB S₉ (mR S₉ 70)) → (aZ S₉ = zFl ab 93 x 93) → Q (.inl none) S₉) : ma_wp X d w 276 0 [(0, .inr (.inr (some 93))), (1, .inl x)] [] S Q := by
  refine g_276_93_sz_0 x (by omega) (by omega) (zG_T hI) ?_
  have b1 := i_bd x
  have li2 : (0 : Int32).toInt = 0 := rfl
  have li3 : (93 : Int32).toInt = 93 := rfl
  exact lp_276_93_sz_5 (by omega) (by omega) K _ _ (x) ((0 : Int32)) ((93 : Int32)) rfl hI (by omega) (by omega) (by omega) (show xB S (mR S 70) from by first | (exact xB_x (xC_o (W := 75) hpre0).2)) (show aZ S = zFl ab 93 (x) ((0 : Int32)).toInt from by first | (rw [hpre1]; exact zFl_0.symm)) (show (x) = x from by first | (exact rfl))

/-! from 95.s13 -/
/-! REGIONS, the class (written by wip/tools/gen15z.py) -/
theorem g_44_91_sz_0 {X : Nat × (Nat → Int32)} {d w : Nat} {S : ma_S} {Q : Option ma_V ⊕ Nat → ma_S → Prop}  (hd : 2 ≤ d) (hw : 89 ≤ w) (hS : zT S) (h : ma_wp X (d - 1) (w - 23) 276 0 [(0, .inr (.inr (some 93))), (1, .inl (0 : Int32))] [] S (zv (fun S1 => zT S1 ∧ (ma_wp X d w 44 10 [(0, .inr (.inr (some 91))), (1, .inl (0 : Int32))] [] S1 Q)) (fun _ _ => False))) : ma_wp X d w 44 0 [(0, .inr (.inr (some 91)))] [] S Q := by
  refine zw_push hm_44 dX4_sumKept_0 (v := .inr (.inr (some 91))) rfl ?_
  refine zw_gf hm_44 dX4_sumKept_1 (v := .inr (.inr (some 93))) (zT_is hS s_91) (zT_t hS s_91) rfl f_4_15_4 (zT_f hS r_91_8) ?_
  refine zw_push hm_44 dX4_sumKept_4 (v := .inl (0 : Int32)) rfl ?_
  refine zw_cs hm_44 dX4_sumKept_5 pn_4_37 sl_4_37 hm_276 [.inl (0 : Int32), .inr (.inr (some 93))] [] rfl ⟨by omega, by omega⟩ rfl (zw_mono h (zv_go ?_ ?_))
  · intro S1 hv
    obtain ⟨hS1, h⟩ := hv
    refine zw_push hm_44 dX4_sumKept_8 (v := .inl (0 : Int32)) rfl ?_
    refine zw_sto hm_44 dX4_sumKept_9 [(1, .inl (0 : Int32)), (0, .inr (.inr (some 91)))] rfl rfl rfl ?_
    exact zw_sub (ma_nd_of (ks := [0, 1]) rfl (by decide)) (ma_nd_of (ks := [1, 0]) rfl (by decide)) (ma_le_cons rfl (ma_le_cons rfl (ma_le_nil _))) h
  · intro x S9 hx
    exact hx.elim
theorem g_44_91_sz_10 {X : Nat × (Nat → Int32)} {d w : Nat} {S : ma_S} {Q : Option ma_V ⊕ Nat → ma_S → Prop} (l1 : Int32) (hd : 2 ≤ d) (hw : 89 ≤ w) (hS : zT S) (h : if (mI S 69 6) ≤ l1 then (Q (.inl none) S) else (if l1 < 0 then (ma_wp X d w 44 10 [(0, .inr (.inr (some 91))), (1, .inl (l1 + (1 : Int32)))] [] S Q) else (if (512 : Int32) ≤ l1 then (ma_wp X d w 44 10 [(0, .inr (.inr (some 91))), (1, .inl (l1 + (1 : Int32)))] [] S Q) else ((0 ≤ l1 ∧ l1.toNatClampNeg < 512) ∧ (((mR S 70 l1.toNatClampNeg) = none → ma_wp X d w 44 10 [(0, .inr (.inr (some 91))), (1, .inl (l1 + (1 : Int32)))] [] S Q) ∧ (∀ c1, (mR S 70 l1.toNatClampNeg) = some c1 → if (mI S 91 2) ≤ 0 then ((126 ≤ c1 ∧ c1 < mN S) ∧ (ma_wp X d w 44 10 [(0, .inr (.inr (some 91))), (1, .inl (l1 + (1 : Int32)))] [] (ma_put S 93 0 (.inl ((mI S 93 0) + (mI S c1 2)))) Q)) else ((126 ≤ c1 ∧ c1 < mN S) ∧ ((mI S 91 2) ≠ 0 ∧ ((0 ≤ (if (92 : Int32) < ((mI S c1 4) / (mI S 91 2)) then (92 : Int32) else ((mI S c1 4) / (mI S 91 2))) ∧ (if (92 : Int32) < ((mI S c1 4) / (mI S 91 2)) then (92 : Int32) else ((mI S c1 4) / (mI S 91 2))).toNatClampNeg < 93) ∧ ((126 ≤ c1 ∧ c1 < mN S) ∧ ((0 ≤ (if (92 : Int32) < ((mI S c1 4) / (mI S 91 2)) then (92 : Int32) else ((mI S c1 4) / (mI S 91 2))) ∧ (if (92 : Int32) < ((mI S c1 4) / (mI S 91 2)) then (92 : Int32) else ((mI S c1 4) / (mI S 91 2))).toNatClampNeg < 93) ∧ (ma_wp X d w 44 10 [(0, .inr (.inr (some 91))), (1, .inl (l1 + (1 : Int32)))] [] (ma_put S 93 (if (92 : Int32) < ((mI S c1 4) / (mI S 91 2)) then (92 : Int32) else ((mI S c1 4) / (mI S 91 2))).toNatClampNeg (.inl ((mI S 93 (if (92 : Int32) < ((mI S c1 4) / (mI S 91 2)) then (92 : Int32) else ((mI S c1 4) / (mI S 91 2))).toNatClampNeg) + (mI S c1 2)))) Q)))))))))))) : ma_wp X d w 44 10 [(0, .inr (.inr (some 91))), (1, .inl l1)] [] S Q := by
  refine zw_push hm_44 dX4_sumKept_10 (v := .inl l1) rfl ?_
  refine zw_push hm_44 dX4_sumKept_11 (v := .inr (.inr (some 91))) rfl ?_
  refine zw_gf hm_44 dX4_sumKept_12 (v := .inr (.inr (some 69))) (zT_is hS s_91) (zT_t hS s_91) rfl f_4_100_4 (zT_f hS r_91_0) ?_
  refine zw_gf hm_44 dX4_sumKept_15 (v := .inl (mI S 69 6)) (zT_is hS s_69) (zT_t hS s_69) rfl f_4_104_7 rfl ?_
  refine zw_if2 hm_44 dX4_sumKept_18 (t := 57) rfl zc2_ge ?_ ?_
  · intro hc
    rw [if_pos hc] at h
    exact zw_vret hm_44 dX4_sumKept_57 h
  · intro hc
    rw [if_neg hc] at h
    refine zw_push hm_44 dX4_sumKept_21 (v := .inr (.inr (some 91))) rfl ?_
    refine zw_gf hm_44 dX4_sumKept_22 (v := .inr (.inr (some 69))) (zT_is hS s_91) (zT_t hS s_91) rfl f_4_100_4 (zT_f hS r_91_0) ?_
    refine zw_push hm_44 dX4_sumKept_25 (v := .inl l1) rfl ?_
    refine zw_cv hm_44 dX4_sumKept_26 v_4_109_7 hm_81 [.inl l1] [] rfl (zT_rt hS s_69 rfl) ⟨by omega, by omega⟩ rfl ?_
    show ma_wp X (d - 1) (w - 21) 81 0 [(0, .inr (.inr (some 69))), (1, .inl l1)] [] S _
    refine zw_push hm_81 dX7_thingAt_0 (v := .inl l1) rfl ?_
    refine zw_if0 hm_81 dX7_thingAt_1 (t := 20) rfl zc0_lt ?_ ?_
    · intro hc
      rw [if_pos hc] at h
      refine zw_push hm_81 dX7_thingAt_20 (v := .inr (.inr none)) rfl ?_
      refine zw_aret hm_81 dX7_thingAt_21 ?_
      show ma_wp X d w 44 29 [(0, .inr (.inr (some 91))), (1, .inl l1)] [.inr (.inr none)] S _
      refine zw_sto hm_44 dX4_sumKept_29 [(2, .inr (.inr none)), (0, .inr (.inr (some 91))), (1, .inl l1)] rfl rfl rfl ?_
      refine zw_push hm_44 dX4_sumKept_30 (v := .inr (.inr none)) rfl ?_
      refine zw_ifnull hm_44 dX4_sumKept_31 (t := 51) rfl (fun _ => ?_) (fun _ z => by cases z)
      refine zw_sto hm_44 dX4_sumKept_51 [(1, .inl (l1 + (1 : Int32))), (2, .inr (.inr none)), (0, .inr (.inr (some 91)))] rfl rfl rfl ?_
      refine zw_goto hm_44 dX4_sumKept_54 (t := 10) rfl ?_
      exact zw_sub (ma_nd_of (ks := [0, 1]) rfl (by decide)) (ma_nd_of (ks := [1, 2, 0]) rfl (by decide)) (ma_le_cons rfl (ma_le_cons rfl (ma_le_nil _))) h
    · intro hc
      rw [if_neg hc] at h
      refine zw_push hm_81 dX7_thingAt_4 (v := .inl l1) rfl ?_
      refine zw_push hm_81 dX7_thingAt_5 (v := .inl (512 : Int32)) rfl ?_
      refine zw_if2 hm_81 dX7_thingAt_8 (t := 20) rfl zc2_ge ?_ ?_
      · intro hc
        rw [if_pos hc] at h
        refine zw_push hm_81 dX7_thingAt_20 (v := .inr (.inr none)) rfl ?_
        refine zw_aret hm_81 dX7_thingAt_21 ?_
        show ma_wp X d w 44 29 [(0, .inr (.inr (some 91))), (1, .inl l1)] [.inr (.inr none)] S _
        refine zw_sto hm_44 dX4_sumKept_29 [(2, .inr (.inr none)), (0, .inr (.inr (some 91))), (1, .inl l1)] rfl rfl rfl ?_
        refine zw_push hm_44 dX4_sumKept_30 (v := .inr (.inr none)) rfl ?_
        refine zw_ifnull hm_44 dX4_sumKept_31 (t := 51) rfl (fun _ => ?_) (fun _ z => by cases z)
        refine zw_sto hm_44 dX4_sumKept_51 [(1, .inl (l1 + (1 : Int32))), (2, .inr (.inr none)), (0, .inr (.inr (some 91)))] rfl rfl rfl ?_
        refine zw_goto hm_44 dX4_sumKept_54 (t := 10) rfl ?_
        exact zw_sub (ma_nd_of (ks := [0, 1]) rfl (by decide)) (ma_nd_of (ks := [1, 2, 0]) rfl (by decide)) (ma_le_cons rfl (ma_le_cons rfl (ma_le_nil _))) h
      · intro hc
        rw [if_neg hc] at h
        refine zw_push hm_81 dX7_thingAt_11 (v := .inr (.inr (some 69))) rfl ?_
        refine zw_gf hm_81 dX7_thingAt_12 (v := .inr (.inr (some 70))) (zT_is hS s_69) (zT_t hS s_69) rfl f_7_11_7 (zT_f hS r_69_0) ?_
        refine zw_push hm_81 dX7_thingAt_15 (v := .inl l1) rfl ?_
        obtain ⟨hg, h⟩ := h
        refine zw_aa hm_81 dX7_thingAt_16 (zT_is hS s_70) (zT_h hS s_70) rfl rfl hg rfl ?_
        show ma_wp X (d - 1) (w - 21) 81 17 [(0, .inr (.inr (some 69))), (1, .inl l1)] [.inr (.inr (mR S 70 l1.toNatClampNeg))] S _
        refine zw_goto hm_81 dX7_thingAt_17 (t := 21) rfl ?_
        refine zw_aret hm_81 dX7_thingAt_21 ?_
        show ma_wp X d w 44 29 [(0, .inr (.inr (some 91))), (1, .inl l1)] [.inr (.inr (mR S 70 l1.toNatClampNeg))] S _
        refine zw_sto hm_44 dX4_sumKept_29 [(2, .inr (.inr (mR S 70 l1.toNatClampNeg))), (0, .inr (.inr (some 91))), (1, .inl l1)] rfl rfl rfl ?_
        refine zw_push hm_44 dX4_sumKept_30 (v := .inr (.inr (mR S 70 l1.toNatClampNeg))) rfl ?_
        refine zw_ifnull hm_44 dX4_sumKept_31 (t := 51) rfl ?_ ?_
        · intro hc
          have h := h.1 hc
          (try rw [hc])
          show ma_wp X d w 44 51 [(2, .inr (.inr none)), (0, .inr (.inr (some 91))), (1, .inl l1)] [] S _
          refine zw_sto hm_44 dX4_sumKept_51 [(1, .inl (l1 + (1 : Int32))), (2, .inr (.inr none)), (0, .inr (.inr (some 91)))] rfl rfl rfl ?_
          refine zw_goto hm_44 dX4_sumKept_54 (t := 10) rfl ?_
          exact zw_sub (ma_nd_of (ks := [0, 1]) rfl (by decide)) (ma_nd_of (ks := [1, 2, 0]) rfl (by decide)) (ma_le_cons rfl (ma_le_cons rfl (ma_le_nil _))) h
        · intro c1 hc
          have h := h.2 c1 hc
          (try rw [hc])
          show ma_wp X d w 44 34 [(2, .inr (.inr (some c1))), (0, .inr (.inr (some 91))), (1, .inl l1)] [] S _
          refine zw_push hm_44 dX4_sumKept_34 (v := .inr (.inr (some 91))) rfl ?_
          refine zw_gf hm_44 dX4_sumKept_35 (v := .inr (.inr (some 93))) (zT_is hS s_91) (zT_t hS s_91) rfl f_4_15_4 (zT_f hS r_91_8) ?_
          refine zw_push hm_44 dX4_sumKept_38 (v := .inr (.inr (some 91))) rfl ?_
          refine zw_push hm_44 dX4_sumKept_39 (v := .inr (.inr (some c1))) rfl ?_
          refine zw_cv hm_44 dX4_sumKept_40 v_4_113_4 hm_45 [.inr (.inr (some c1))] [.inr (.inr (some 93))] rfl (zT_rt hS s_91 rfl) ⟨by omega, by omega⟩ rfl ?_
          show ma_wp X (d - 1) (w - 21) 45 0 [(0, .inr (.inr (some 91))), (1, .inr (.inr (some c1)))] [] S _
          refine zw_push hm_45 dX4_regionOf_0 (v := .inr (.inr (some 91))) rfl ?_
          refine zw_gf hm_45 dX4_regionOf_1 (v := .inl (mI S 91 2)) (zT_is hS s_91) (zT_t hS s_91) rfl f_4_18_4 rfl ?_
          refine zw_if0 hm_45 dX4_regionOf_4 (t := 24) rfl zc0_le ?_ ?_
          · intro hc
            rw [if_pos hc] at h
            refine zw_push hm_45 dX4_regionOf_24 (v := .inl (0 : Int32)) rfl ?_
            refine zw_iret hm_45 dX4_regionOf_25 ?_
            show ma_wp X d w 44 43 [(2, .inr (.inr (some c1))), (0, .inr (.inr (some 91))), (1, .inl l1)] [.inl (0 : Int32), .inr (.inr (some 93))] S _
            refine zw_stk hm_44 dX4_sumKept_43 (st₉ := [.inl (0 : Int32), .inr (.inr (some 93)), .inl (0 : Int32), .inr (.inr (some 93))]) rfl rfl ?_
            refine zw_ia hm_44 dX4_sumKept_44 (zT_is hS s_93) (zT_h hS s_93) rfl ⟨by decide, by decide⟩ ?_
            show ma_wp X d w 44 45 [(2, .inr (.inr (some c1))), (0, .inr (.inr (some 91))), (1, .inl l1)] [.inl (mI S 93 0), .inl (0 : Int32), .inr (.inr (some 93))] S _
            refine zw_push hm_44 dX4_sumKept_45 (v := .inr (.inr (some c1))) rfl ?_
            obtain ⟨hg, h⟩ := h
            refine zw_gf hm_44 dX4_sumKept_46 (v := .inl (mI S c1 2)) (zT_tis hS hg) (zT_tt hS hg) rfl f_4_63_9 rfl ?_
            refine zw_stk hm_44 dX4_sumKept_49 (st₉ := [.inl ((mI S 93 0) + (mI S c1 2)), .inl (0 : Int32), .inr (.inr (some 93))]) rfl rfl ?_
            refine zw_ias hm_44 dX4_sumKept_50 (zT_is hS s_93) (zT_h hS s_93) rfl ⟨by decide, by decide⟩ ?_
            refine zw_sto hm_44 dX4_sumKept_51 [(1, .inl (l1 + (1 : Int32))), (2, .inr (.inr (some c1))), (0, .inr (.inr (some 91)))] rfl rfl rfl ?_
            refine zw_goto hm_44 dX4_sumKept_54 (t := 10) rfl ?_
            exact zw_sub (ma_nd_of (ks := [0, 1]) rfl (by decide)) (ma_nd_of (ks := [1, 2, 0]) rfl (by decide)) (ma_le_cons rfl (ma_le_cons rfl (ma_le_nil _))) h
          · intro hc
            rw [if_neg hc] at h
            refine zw_push hm_45 dX4_regionOf_7 (v := .inr (.inr (some c1))) rfl ?_
            obtain ⟨hg, h⟩ := h
            refine zw_gf hm_45 dX4_regionOf_8 (v := .inl (mI S c1 4)) (zT_tis hS hg) (zT_tt hS hg) rfl f_4_97_9 rfl ?_
            refine zw_push hm_45 dX4_regionOf_11 (v := .inr (.inr (some 91))) rfl ?_
            refine zw_gf hm_45 dX4_regionOf_12 (v := .inl (mI S 91 2)) (zT_is hS s_91) (zT_t hS s_91) rfl f_4_18_4 rfl ?_
            obtain ⟨hg, h⟩ := h
            refine zw_stk hm_45 dX4_regionOf_15 (st₉ := [.inl ((mI S c1 4) / (mI S 91 2))]) rfl (if_neg hg) ?_
            refine zw_push hm_45 dX4_regionOf_16 (v := .inl (92 : Int32)) rfl ?_
            refine zw_min hm_45 dX4_regionOf_18 pr_4_22 (by omega) (by show 0 + 13 ≤ (w - 21); omega) (fun _ _ _ _ z => by cases z) ?_
            refine zw_goto hm_45 dX4_regionOf_21 (t := 25) rfl ?_
            refine zw_iret hm_45 dX4_regionOf_25 ?_
            show ma_wp X d w 44 43 [(2, .inr (.inr (some c1))), (0, .inr (.inr (some 91))), (1, .inl l1)] [.inl (if (92 : Int32) < ((mI S c1 4) / (mI S 91 2)) then (92 : Int32) else ((mI S c1 4) / (mI S 91 2))), .inr (.inr (some 93))] S _
            refine zw_stk hm_44 dX4_sumKept_43 (st₉ := [.inl (if (92 : Int32) < ((mI S c1 4) / (mI S 91 2)) then (92 : Int32) else ((mI S c1 4) / (mI S 91 2))), .inr (.inr (some 93)), .inl (if (92 : Int32) < ((mI S c1 4) / (mI S 91 2)) then (92 : Int32) else ((mI S c1 4) / (mI S 91 2))), .inr (.inr (some 93))]) rfl rfl ?_
            obtain ⟨hg, h⟩ := h
            refine zw_ia hm_44 dX4_sumKept_44 (zT_is hS s_93) (zT_h hS s_93) rfl hg ?_
            show ma_wp X d w 44 45 [(2, .inr (.inr (some c1))), (0, .inr (.inr (some 91))), (1, .inl l1)] [.inl (mI S 93 (if (92 : Int32) < ((mI S c1 4) / (mI S 91 2)) then (92 : Int32) else ((mI S c1 4) / (mI S 91 2))).toNatClampNeg), .inl (if (92 : Int32) < ((mI S c1 4) / (mI S 91 2)) then (92 : Int32) else ((mI S c1 4) / (mI S 91 2))), .inr (.inr (some 93))] S _
            refine zw_push hm_44 dX4_sumKept_45 (v := .inr (.inr (some c1))) rfl ?_
            obtain ⟨hg, h⟩ := h
            refine zw_gf hm_44 dX4_sumKept_46 (v := .inl (mI S c1 2)) (zT_tis hS hg) (zT_tt hS hg) rfl f_4_63_9 rfl ?_
            refine zw_stk hm_44 dX4_sumKept_49 (st₉ := [.inl ((mI S 93 (if (92 : Int32) < ((mI S c1 4) / (mI S 91 2)) then (92 : Int32) else ((mI S c1 4) / (mI S 91 2))).toNatClampNeg) + (mI S c1 2)), .inl (if (92 : Int32) < ((mI S c1 4) / (mI S 91 2)) then (92 : Int32) else ((mI S c1 4) / (mI S 91 2))), .inr (.inr (some 93))]) rfl rfl ?_
            obtain ⟨hg, h⟩ := h
            refine zw_ias hm_44 dX4_sumKept_50 (zT_is hS s_93) (zT_h hS s_93) rfl hg ?_
            refine zw_sto hm_44 dX4_sumKept_51 [(1, .inl (l1 + (1 : Int32))), (2, .inr (.inr (some c1))), (0, .inr (.inr (some 91)))] rfl rfl rfl ?_
            refine zw_goto hm_44 dX4_sumKept_54 (t := 10) rfl ?_
            exact zw_sub (ma_nd_of (ks := [0, 1]) rfl (by decide)) (ma_nd_of (ks := [1, 2, 0]) rfl (by decide)) (ma_le_cons rfl (ma_le_cons rfl (ma_le_nil _))) h
theorem lp_44_91_sz_10 {X : Nat × (Nat → Int32)} {d w : Nat} {f : Nat → Nat → Int32} {r : Nat → Nat → Option Nat} {C Z N : Nat} {Q : Option ma_V ⊕ Nat → ma_S → Prop} {ab : Nat→Nat→Int32} (hd : 2 ≤ d) (hw : 89 ≤ w) (K : ∀ S₉, zL91 f r C Z N S₉ → (xB S₉ (mR S₉ 70)) → (aZ S₉ = rSk ab 512) → Q (.inl none) S₉) : ∀ (n : Nat) (S : ma_S) (l1 : Int32), (512 - l1.toInt).toNat = n → zL91 f r C Z N S → (0 ≤ l1.toInt) → (l1.toInt ≤ 512) → (xB S (mR S 70)) → (qRv ab) → (aZ S = rSk ab l1.toNatClampNeg) → ma_wp X d w 44 10 [(0, .inr (.inr (some 91))), (1, .inl l1)] [] S Q := by
  intro n
  induction n using Nat.strongRecOn with
  | _ n IH =>
    intro S l1 hmu hI  hi0 hi1 hi2 hi3 hi4
    refine g_44_91_sz_10 l1 (by omega) (by omega) (zG_T hI) ?_
    have f1 := zG_s hI (0) (512) (c := 69) (k := 6) (by decide)
    have b2 := i_bd l1
    refine zd (fun h3 => ?_) (fun h3 => ?_)
    · skip
      have g4 := i_le h3
      exact K _ hI (show xB S (mR S 70) from by first | (exact xB_x (xC_o (W := 75) hi2).2)) (show aZ S = rSk ab 512 from by first | (rw [hi4]; have r6 := congrArg Int32.toInt (show ab 69 6 = mI S 69 6 from ((Sk_r hi4 (by decide) (by decide) (by decide)).symm.trans (aS_I rfl rfl))); have tc := tn_cast (x := l1) (by omega); exact Sk_g hi3.1 (by omega) (by omega)))
    · skip
      have g5 := i_nle h3
      have li6 : (0 : Int32).toInt = 0 := rfl
      refine zd (fun h7 => ?_) (fun h7 => ?_)
      · skip
        have g8 := i_lt h7
        first | have e9 : (l1 + (1 : Int32)).toInt = l1.toInt + (1) := i_addk rfl (by omega) (by omega) | have b10 := i_bd (l1 + (1 : Int32))
        exact IH _ (by omega) _ ((l1 + (1 : Int32))) rfl hI (by omega) (by omega) (show xB S (mR S 70) from by first | (exact xB_x (xC_o (W := 75) hi2).2)) (show qRv ab from by first | (exact hi3)) (show aZ S = rSk ab ((l1 + (1 : Int32))).toNatClampNeg from by first | (exfalso; omega))
      · skip
        have g11 := i_nlt h7
        have li12 : (512 : Int32).toInt = 512 := rfl
        refine zd (fun h13 => ?_) (fun h13 => ?_)
        · skip
          have g14 := i_le h13
          first | have e15 : (l1 + (1 : Int32)).toInt = l1.toInt + (1) := i_addk rfl (by omega) (by omega) | have b16 := i_bd (l1 + (1 : Int32))
          exact IH _ (by omega) _ ((l1 + (1 : Int32))) rfl hI (by omega) (by omega) (show xB S (mR S 70) from by first | (exact xB_x (xC_o (W := 75) hi2).2)) (show qRv ab from by first | (exact hi3)) (show aZ S = rSk ab ((l1 + (1 : Int32))).toNatClampNeg from by first | (exfalso; omega))
        · skip
          have g17 := i_nle h13
          refine ⟨i_ix (by omega) (by omega), ?_⟩
          refine ⟨fun hc => ?_, fun c1 hc => ?_⟩
          · skip
            have rn_c1 : zTa (mR S 70) l1 = none := (ta_rd (y := l1) hi2 (by omega) (by omega)).symm.trans hc
            first | have e18 : (l1 + (1 : Int32)).toInt = l1.toInt + (1) := i_addk rfl (by omega) (by omega) | have b19 := i_bd (l1 + (1 : Int32))
            exact IH _ (by omega) _ ((l1 + (1 : Int32))) rfl hI (by omega) (by omega) (show xB S (mR S 70) from by first | (exact xB_x (xC_o (W := 75) hi2).2)) (show qRv ab from by first | (exact hi3)) (show aZ S = rSk ab ((l1 + (1 : Int32))).toNatClampNeg from by first | (exact Sk_no hi4 hi2 rn_c1 (by omega) (by omega) (by omega)))
          · skip
            have th_c1 := (fun _ z => zG_70 hI (c := 70) (by decide) z) c1 hc
            have rg_c1 : zTa (mR S 70) l1 = some c1 := (ta_rd (y := l1) hi2 (by omega) (by omega)).symm.trans hc
            have f20 := zG_s hI (0) (1500) (c := 91) (k := 2) (by decide)
            refine zd (fun h21 => ?_) (fun h21 => ?_)
            · skip
              have g22 := i_le h21
              refine ⟨zG_n hI th_c1, ?_⟩
              have hI23 : zL91 f r C Z N (ma_put S 93 0 (.inl ((mI S 93 0) + (mI S c1 2)))) := zG_fr hI rfl (by decide) (by decide) (by decide) trivial
              first | have e24 : (l1 + (1 : Int32)).toInt = l1.toInt + (1) := i_addk rfl (by omega) (by omega) | have b25 := i_bd (l1 + (1 : Int32))
              exact IH _ (by omega) _ ((l1 + (1 : Int32))) rfl hI23 (by omega) (by omega) (show xB (ma_put S 93 0 (.inl ((mI S 93 0) + (mI S c1 2)))) (mR (ma_put S 93 0 (.inl ((mI S 93 0) + (mI S c1 2)))) 70) from by first | (exact xB_x (xC_n (c := 93) (k := 0) (x := ((mI S 93 0) + (mI S c1 2))) (xC_o (W := 75) hi2) ⟨by decide, Or.inl ⟨rfl, rfl⟩⟩).2)) (show qRv ab from by first | (exact hi3)) (show aZ (ma_put S 93 0 (.inl ((mI S 93 0) + (mI S c1 2)))) = rSk ab ((l1 + (1 : Int32))).toNatClampNeg from by first | (rw [((Z_p9 (c := 93) (n := 0) (x := ((mI S 93 0) + (mI S c1 2))) (xC_o (W := 75) hi2).2 (by decide)).trans (congrArg (fun q => ma_u q 93 0 ((mI S 93 0) + (mI S c1 2))) (show aZ S = aZ S from rfl)))]; exact Sk_go hi4 hi3 hi2 rg_c1 (by omega)) | (exfalso; have e3 := congrArg Int32.toInt (show mI S 91 2 = ab 87 3 from (congrFun (congrFun hi4 87) 3).trans (if_neg (by decide))); have r3 := hi3.2.2.1.1; omega))
            · skip
              have g26 := i_nle h21
              refine ⟨zG_n hI th_c1, ?_⟩
              refine ⟨i_nz (by omega), ?_⟩
              have f27 := zG_th hI th_c1
              first | have f28 := i_div (x := (mI S c1 4)) (y := (mI S 91 2)) (by omega) (by omega) | have b29 := i_bd ((mI S c1 4) / (mI S 91 2))
              have li30 : (92 : Int32).toInt = 92 := rfl
              have f31 := i_min ((mI S c1 4) / (mI S 91 2)) (92 : Int32)
              refine ⟨i_ix (by omega) (by omega), ?_⟩
              refine ⟨zG_n hI th_c1, ?_⟩
              refine ⟨i_ix (by omega) (by omega), ?_⟩
              have hI32 : zL91 f r C Z N (ma_put S 93 (if (92 : Int32) < ((mI S c1 4) / (mI S 91 2)) then (92 : Int32) else ((mI S c1 4) / (mI S 91 2))).toNatClampNeg (.inl ((mI S 93 (if (92 : Int32) < ((mI S c1 4) / (mI S 91 2)) then (92 : Int32) else ((mI S c1 4) / (mI S 91 2))).toNatClampNeg) + (mI S c1 2)))) := zG_fa hI rfl (by decide) (by decide) (by decide) trivial
              first | have e33 : (l1 + (1 : Int32)).toInt = l1.toInt + (1) := i_addk rfl (by omega) (by omega) | have b34 := i_bd (l1 + (1 : Int32))
              exact IH _ (by omega) _ ((l1 + (1 : Int32))) rfl hI32 (by omega) (by omega) (show xB (ma_put S 93 (if (92 : Int32) < ((mI S c1 4) / (mI S 91 2)) then (92 : Int32) else ((mI S c1 4) / (mI S 91 2))).toNatClampNeg (.inl ((mI S 93 (if (92 : Int32) < ((mI S c1 4) / (mI S 91 2)) then (92 : Int32) else ((mI S c1 4) / (mI S 91 2))).toNatClampNeg) + (mI S c1 2)))) (mR (ma_put S 93 (if (92 : Int32) < ((mI S c1 4) / (mI S 91 2)) then (92 : Int32) else ((mI S c1 4) / (mI S 91 2))).toNatClampNeg (.inl ((mI S 93 (if (92 : Int32) < ((mI S c1 4) / (mI S 91 2)) then (92 : Int32) else ((mI S c1 4) / (mI S 91 2))).toNatClampNeg) + (mI S c1 2)))) 70) from by first | (exact xB_x (xC_n (c := 93) (k := (if (92 : Int32) < ((mI S c1 4) / (mI S 91 2)) then (92 : Int32) else ((mI S c1 4) / (mI S 91 2))).toNatClampNeg) (x := ((mI S 93 (if (92 : Int32) < ((mI S c1 4) / (mI S 91 2)) then (92 : Int32) else ((mI S c1 4) / (mI S 91 2))).toNatClampNeg) + (mI S c1 2))) (xC_o (W := 75) hi2) ⟨by decide, Or.inl ⟨rfl, rfl⟩⟩).2)) (show qRv ab from by first | (exact hi3)) (show aZ (ma_put S 93 (if (92 : Int32) < ((mI S c1 4) / (mI S 91 2)) then (92 : Int32) else ((mI S c1 4) / (mI S 91 2))).toNatClampNeg (.inl ((mI S 93 (if (92 : Int32) < ((mI S c1 4) / (mI S 91 2)) then (92 : Int32) else ((mI S c1 4) / (mI S 91 2))).toNatClampNeg) + (mI S c1 2)))) = rSk ab ((l1 + (1 : Int32))).toNatClampNeg from by first | (rw [((Z_p9 (c := 93) (n := (if (92 : Int32) < ((mI S c1 4) / (mI S 91 2)) then (92 : Int32) else ((mI S c1 4) / (mI S 91 2))).toNatClampNeg) (x := ((mI S 93 (if (92 : Int32) < ((mI S c1 4) / (mI S 91 2)) then (92 : Int32) else ((mI S c1 4) / (mI S 91 2))).toNatClampNeg) + (mI S c1 2))) (xC_o (W := 75) hi2).2 (by decide)).trans (congrArg (fun q => ma_u q 93 (if (92 : Int32) < ((mI S c1 4) / (mI S 91 2)) then (92 : Int32) else ((mI S c1 4) / (mI S 91 2))).toNatClampNeg ((mI S 93 (if (92 : Int32) < ((mI S c1 4) / (mI S 91 2)) then (92 : Int32) else ((mI S c1 4) / (mI S 91 2))).toNatClampNeg) + (mI S c1 2))) (show aZ S = aZ S from rfl)))]; exact Sk_go hi4 hi3 hi2 rg_c1 (by omega)) | (exfalso; have e3 := congrArg Int32.toInt (show mI S 91 2 = ab 87 3 from (congrFun (congrFun hi4 87) 3).trans (if_neg (by decide))); have r3 := hi3.2.2.1.1; omega))
theorem sp_44_91_sz {X : Nat × (Nat → Int32)} {d w : Nat} {f : Nat → Nat → Int32} {r : Nat → Nat → Option Nat} {C Z N : Nat} {Q : Option ma_V ⊕ Nat → ma_S → Prop} {ab : Nat→Nat→Int32} {S : ma_S}  (hd : 2 ≤ d) (hw : 89 ≤ w) (hI : zL91 f r C Z N S) (hpre0 : xB S (mR S 70)) (hpre1 : aZ S = ab) (hpre2 : qRv ab) (K : ∀ S₉, zL91 f r C Z N S₉ → (xB S₉ (mR S₉ 70)) → (aZ S₉ = rSk ab 512) → Q (.inl none) S₉) : ma_wp X d w 44 0 [(0, .inr (.inr (some 91)))] [] S Q := by
  refine g_44_91_sz_0  (by omega) (by omega) (zG_T hI) ?_
  have li1 : (0 : Int32).toInt = 0 := rfl
  refine sp_276_93_sz (ab := (aZ S)) ((0 : Int32)) (by omega) (by omega) hI (show xB S (mR S 70) from by first | (exact xB_x (xC_o (W := 75) hpre0).2)) (show aZ S = (aZ S) from by first | (exact rfl)) (fun S1 hI_S1 rp0_S1 rp1_S1 => zv_n ⟨zG_T hI_S1, ?_⟩)
  have rp0_S1 : xB S1 (mR S1 70) := rp0_S1
  have rp1_S1 : aZ S1 = zFl (aZ S) 93 (0 : Int32) 93 := rp1_S1
  exact lp_44_91_sz_10 (by omega) (by omega) K _ _ ((0 : Int32)) rfl hI_S1 (by omega) (by omega) (show xB S1 (mR S1 70) from by first | (exact xB_x (xC_o (W := 75) rp0_S1).2)) (show qRv ab from by first | (exact hpre2) | (rw [hpre1]; exact hpre2)) (show aZ S1 = rSk ab ((0 : Int32)).toNatClampNeg from by first | (rw [rp1_S1]; refine Sk_0 (fun k hk => ?_) (fun c k w => ?_); (unfold zFl; rw [if_pos ⟨rfl, by omega⟩]); (unfold zFl; rw [if_neg (fun z => w ⟨z.1, by omega⟩), hpre1])))

/-! from 95.s14 -/
/-! REGIONS, the class (written by wip/tools/gen15z.py) -/
theorem g_46_91_sz_0 {X : Nat × (Nat → Int32)} {d w : Nat} {S : ma_S} {Q : Option ma_V ⊕ Nat → ma_S → Prop}  (hd : 0 ≤ d) (hw : 0 ≤ w) (hS : zT S) (h : ma_wp X d w 46 2 [(0, .inr (.inr (some 91))), (1, .inl (0 : Int32))] [] S Q) : ma_wp X d w 46 0 [(0, .inr (.inr (some 91)))] [] S Q := by
  refine zw_push hm_46 dX4_emptyWhereNothingIsLeft_0 (v := .inl (0 : Int32)) rfl ?_
  refine zw_sto hm_46 dX4_emptyWhereNothingIsLeft_1 [(1, .inl (0 : Int32)), (0, .inr (.inr (some 91)))] rfl rfl rfl ?_
  exact zw_sub (ma_nd_of (ks := [0, 1]) rfl (by decide)) (ma_nd_of (ks := [1, 0]) rfl (by decide)) (ma_le_cons rfl (ma_le_cons rfl (ma_le_nil _))) h
theorem g_46_91_sz_2 {X : Nat × (Nat → Int32)} {d w : Nat} {S : ma_S} {Q : Option ma_V ⊕ Nat → ma_S → Prop} (l1 : Int32) (hd : 0 ≤ d) (hw : 0 ≤ w) (hS : zT S) (h : if (93 : Int32) ≤ l1 then (Q (.inl none) S) else ((0 ≤ l1 ∧ l1.toNatClampNeg < 93) ∧ (if (mI S 93 l1.toNatClampNeg) = 0 then ((0 ≤ l1 ∧ l1.toNatClampNeg < 93) ∧ (ma_wp X d w 46 2 [(0, .inr (.inr (some 91))), (1, .inl (l1 + (1 : Int32)))] [] (ma_put S 92 l1.toNatClampNeg (.inl (0 : Int32))) Q)) else (ma_wp X d w 46 2 [(0, .inr (.inr (some 91))), (1, .inl (l1 + (1 : Int32)))] [] S Q)))) : ma_wp X d w 46 2 [(0, .inr (.inr (some 91))), (1, .inl l1)] [] S Q := by
  refine zw_push hm_46 dX4_emptyWhereNothingIsLeft_2 (v := .inl l1) rfl ?_
  refine zw_push hm_46 dX4_emptyWhereNothingIsLeft_3 (v := .inl (93 : Int32)) rfl ?_
  refine zw_if2 hm_46 dX4_emptyWhereNothingIsLeft_5 (t := 30) rfl zc2_ge ?_ ?_
  · intro hc
    rw [if_pos hc] at h
    exact zw_vret hm_46 dX4_emptyWhereNothingIsLeft_30 h
  · intro hc
    rw [if_neg hc] at h
    refine zw_push hm_46 dX4_emptyWhereNothingIsLeft_8 (v := .inr (.inr (some 91))) rfl ?_
    refine zw_gf hm_46 dX4_emptyWhereNothingIsLeft_9 (v := .inr (.inr (some 93))) (zT_is hS s_91) (zT_t hS s_91) rfl f_4_15_4 (zT_f hS r_91_8) ?_
    refine zw_push hm_46 dX4_emptyWhereNothingIsLeft_12 (v := .inl l1) rfl ?_
    obtain ⟨hg, h⟩ := h
    refine zw_ia hm_46 dX4_emptyWhereNothingIsLeft_13 (zT_is hS s_93) (zT_h hS s_93) rfl hg ?_
    show ma_wp X d w 46 14 [(0, .inr (.inr (some 91))), (1, .inl l1)] [.inl (mI S 93 l1.toNatClampNeg)] S _
    refine zw_if0 hm_46 dX4_emptyWhereNothingIsLeft_14 (t := 24) rfl zc0_ne ?_ ?_
    · intro hc
      rw [if_neg hc] at h
      refine zw_sto hm_46 dX4_emptyWhereNothingIsLeft_24 [(1, .inl (l1 + (1 : Int32))), (0, .inr (.inr (some 91)))] rfl rfl rfl ?_
      refine zw_goto hm_46 dX4_emptyWhereNothingIsLeft_27 (t := 2) rfl ?_
      exact zw_sub (ma_nd_of (ks := [0, 1]) rfl (by decide)) (ma_nd_of (ks := [1, 0]) rfl (by decide)) (ma_le_cons rfl (ma_le_cons rfl (ma_le_nil _))) h
    · intro hc
      rw [if_pos (Classical.not_not.mp hc)] at h
      refine zw_push hm_46 dX4_emptyWhereNothingIsLeft_17 (v := .inr (.inr (some 91))) rfl ?_
      refine zw_gf hm_46 dX4_emptyWhereNothingIsLeft_18 (v := .inr (.inr (some 92))) (zT_is hS s_91) (zT_t hS s_91) rfl f_4_9_4 (zT_f hS r_91_7) ?_
      refine zw_push hm_46 dX4_emptyWhereNothingIsLeft_21 (v := .inl l1) rfl ?_
      refine zw_push hm_46 dX4_emptyWhereNothingIsLeft_22 (v := .inl (0 : Int32)) rfl ?_
      obtain ⟨hg, h⟩ := h
      refine zw_ias hm_46 dX4_emptyWhereNothingIsLeft_23 (zT_is hS s_92) (zT_h hS s_92) rfl hg ?_
      refine zw_sto hm_46 dX4_emptyWhereNothingIsLeft_24 [(1, .inl (l1 + (1 : Int32))), (0, .inr (.inr (some 91)))] rfl rfl rfl ?_
      refine zw_goto hm_46 dX4_emptyWhereNothingIsLeft_27 (t := 2) rfl ?_
      exact zw_sub (ma_nd_of (ks := [0, 1]) rfl (by decide)) (ma_nd_of (ks := [1, 0]) rfl (by decide)) (ma_le_cons rfl (ma_le_cons rfl (ma_le_nil _))) h
theorem lp_46_91_sz_2 {X : Nat × (Nat → Int32)} {d w : Nat} {f : Nat → Nat → Int32} {r : Nat → Nat → Option Nat} {C Z N : Nat} {Q : Option ma_V ⊕ Nat → ma_S → Prop} {ab : Nat→Nat→Int32} (hd : 0 ≤ d) (hw : 0 ≤ w) (K : ∀ S₉, zL91 f r C Z N S₉ → (xB S₉ (mR S₉ 70)) → (aZ S₉ = rEm ab 93) → Q (.inl none) S₉) : ∀ (n : Nat) (S : ma_S) (l1 : Int32), (93 - l1.toInt).toNat = n → zL91 f r C Z N S → (0 ≤ l1.toInt) → (l1.toInt ≤ 93) → (xB S (mR S 70)) → (aZ S = rEm ab l1.toNatClampNeg) → ma_wp X d w 46 2 [(0, .inr (.inr (some 91))), (1, .inl l1)] [] S Q := by
  intro n
  induction n using Nat.strongRecOn with
  | _ n IH =>
    intro S l1 hmu hI  hi0 hi1 hi2 hi3
    refine g_46_91_sz_2 l1 (by omega) (by omega) (zG_T hI) ?_
    have li1 : (93 : Int32).toInt = 93 := rfl
    have b2 := i_bd l1
    refine zd (fun h3 => ?_) (fun h3 => ?_)
    · skip
      have g4 := i_le h3
      exact K _ hI (show xB S (mR S 70) from by first | (exact xB_x (xC_o (W := 75) hi2).2)) (show aZ S = rEm ab 93 from by first | (rw [hi3, show l1.toNatClampNeg = 93 from by have := tn_cast (x := l1) (by omega); omega]))
    · skip
      have g5 := i_nle h3
      refine ⟨i_ix (by omega) (by omega), ?_⟩
      have b6 := i_bd (mI S 93 l1.toNatClampNeg)
      have li7 : (0 : Int32).toInt = 0 := rfl
      refine zd (fun h8 => ?_) (fun h8 => ?_)
      · skip
        have g9 := i_eq h8
        refine ⟨i_ix (by omega) (by omega), ?_⟩
        have hI10 : zL91 f r C Z N (ma_put S 92 l1.toNatClampNeg (.inl (0 : Int32))) := zG_sa hI (0) (3000) rfl (by decide) (by decide) (by decide) trivial (by omega) (by omega)
        first | have e11 : (l1 + (1 : Int32)).toInt = l1.toInt + (1) := i_addk rfl (by omega) (by omega) | have b12 := i_bd (l1 + (1 : Int32))
        exact IH _ (by omega) _ ((l1 + (1 : Int32))) rfl hI10 (by omega) (by omega) (show xB (ma_put S 92 l1.toNatClampNeg (.inl (0 : Int32))) (mR (ma_put S 92 l1.toNatClampNeg (.inl (0 : Int32))) 70) from by first | (exact xB_x (xC_n (c := 92) (k := l1.toNatClampNeg) (x := (0 : Int32)) (xC_o (W := 75) hi2) ⟨by decide, Or.inl ⟨rfl, rfl⟩⟩).2)) (show aZ (ma_put S 92 l1.toNatClampNeg (.inl (0 : Int32))) = rEm ab ((l1 + (1 : Int32))).toNatClampNeg from by first | (rw [((Z_p9 (c := 92) (n := l1.toNatClampNeg) (x := (0 : Int32)) (xC_o (W := 75) hi2).2 (by decide)).trans (congrArg (fun q => ma_u q 92 l1.toNatClampNeg (0 : Int32)) (show aZ S = aZ S from rfl)))]; exact Em_go hi3 (by omega) (by omega) (by omega)))
      · skip
        have g13 := i_ne h8
        first | have e14 : (l1 + (1 : Int32)).toInt = l1.toInt + (1) := i_addk rfl (by omega) (by omega) | have b15 := i_bd (l1 + (1 : Int32))
        exact IH _ (by omega) _ ((l1 + (1 : Int32))) rfl hI (by omega) (by omega) (show xB S (mR S 70) from by first | (exact xB_x (xC_o (W := 75) hi2).2)) (show aZ S = rEm ab ((l1 + (1 : Int32))).toNatClampNeg from by first | (exact Em_no hi3 (by omega) (by omega) (by omega)))
theorem sp_46_91_sz {X : Nat × (Nat → Int32)} {d w : Nat} {f : Nat → Nat → Int32} {r : Nat → Nat → Option Nat} {C Z N : Nat} {Q : Option ma_V ⊕ Nat → ma_S → Prop} {ab : Nat→Nat→Int32} {S : ma_S}  (hd : 0 ≤ d) (hw : 0 ≤ w) (hI : zL91 f r C Z N S) (hpre0 : xB S (mR S 70)) (hpre1 : aZ S = ab) (K : ∀ S₉, zL91 f r C Z N S₉ → (xB S₉ (mR S₉ 70)) → (aZ S₉ = rEm ab 93) → Q (.inl none) S₉) : ma_wp X d w 46 0 [(0, .inr (.inr (some 91)))] [] S Q := by
  refine g_46_91_sz_0  (by omega) (by omega) (zG_T hI) ?_
  have li1 : (0 : Int32).toInt = 0 := rfl
  exact lp_46_91_sz_2 (by omega) (by omega) K _ _ ((0 : Int32)) rfl hI (by omega) (by omega) (show xB S (mR S 70) from by first | (exact xB_x (xC_o (W := 75) hpre0).2)) (show aZ S = rEm ab ((0 : Int32)).toNatClampNeg from by first | (rw [hpre1]; exact Em_0.symm))

