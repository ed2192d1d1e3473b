/-! COUNTS, the class (written by wip/tools/gen20k.py) -/
theorem g_151_64_sk_0 {X : Nat × (Nat → Int32)} {d w : Nat} {S : ma_S} {Q : Option ma_V ⊕ Nat → ma_S → Prop} (n : Int32) (hd : 7 ≤ d) (hw : 111 ≤ w) (hS : zT S) (h : if n = (-1 : Int32) then (Q (.inl (some (.inr (.inr none)))) S) else (ma_wp X (d - 1) (w - 22) 149 0 [(0, .inr (.inr (some 64))), (1, .inl n)] [] S (zo (fun v2 S1 => zT S1 ∧ ((∃ c3, v2 = some c3 ∧ (Q (.inl (some (.inr (.inr (some c3))))) S1)))) (fun x S9 => Q (.inr x) S9)))) : ma_wp X d w 151 0 [(0, .inr (.inr (some 64))), (1, .inl n)] [] S Q := by
  refine zw_push hm_151 dX11_needReachedOrNothing_0 (v := .inl n) rfl ?_
  refine zw_push hm_151 dX11_needReachedOrNothing_1 (v := .inl (-1 : Int32)) rfl ?_
  refine zw_if2 hm_151 dX11_needReachedOrNothing_2 (t := 9) rfl zc2_ne ?_ ?_
  · intro hc
    rw [if_neg hc] at h
    refine zw_push hm_151 dX11_needReachedOrNothing_9 (v := .inr (.inr (some 64))) rfl ?_
    refine zw_push hm_151 dX11_needReachedOrNothing_10 (v := .inl n) rfl ?_
    refine zw_cv hm_151 dX11_needReachedOrNothing_11 v_11_123_11 hm_149 [.inl n] [] rfl (zT_rt hS s_64 rfl) ⟨by omega, by omega⟩ rfl (zw_mono h (zo_go ?_ ?_))
    · intro v2 S1 hv
      obtain ⟨hS1, h⟩ := hv
      obtain ⟨c3, hc, h⟩ := h
      subst hc
      show ma_wp X d w 151 14 [(0, .inr (.inr (some 64))), (1, .inl n)] [.inr (.inr (some c3))] S1 _
      exact zw_aret hm_151 dX11_needReachedOrNothing_14 h
    · intro x S9 hx
      exact ⟨by decide, hx⟩
  · intro hc
    rw [if_pos (Classical.not_not.mp hc)] at h
    refine zw_push hm_151 dX11_needReachedOrNothing_5 (v := .inr (.inr none)) rfl ?_
    refine zw_goto hm_151 dX11_needReachedOrNothing_6 (t := 14) rfl ?_
    exact zw_aret hm_151 dX11_needReachedOrNothing_14 h
theorem sp_151_64_sk {X : Nat × (Nat → Int32)} {d w : Nat} {f : Nat → Nat → Int32} {r : Nat → Nat → Option Nat} {C Z N : Nat} {Q : Option ma_V ⊕ Nat → ma_S → Prop} {R : zRT} {a7 : Nat→Nat→Int32} {a8 : Nat→Nat→Int32} {kk : Nat→Int32} {S : ma_S} (n : Int32) (hd : 7 ≤ d) (hw : 111 ≤ w) (hI : zI f r C Z N S) (hpre0 : xB S R) (hpre1 : aS 75 S = a7) (hpre2 : aS 88 S = a8) (hpre3 : kC S = kk) (K : ∀ v S', zI f r C Z N S' → (∀ c, v = some c → 126 ≤ c ∧ c < N) → (xB S' R) → (aS 88 S' = a8) → (v = zTa R n) → (n = -1 ∨ zRq a7 n) → (kC S' = kk) → Q (.inl (some (.inr (.inr v)))) S') (KX : ∀ x S', (x = 4) → zI f r C Z N S' → (xB S' R) → (aS 88 S' = a8) → (kC S' = kk) → (x = 4 ∧ n ≠ -1 ∧ ¬ zRq a7 n) → Q (.inr x) (ma_bump S')) : ma_wp X d w 151 0 [(0, .inr (.inr (some 64))), (1, .inl n)] [] S Q := by
  refine g_151_64_sk_0 n (by omega) (by omega) (zG_T hI) ?_
  have b1 := i_bd n
  have li2 : (-1 : Int32).toInt = -1 := rfl
  refine zd (fun h3 => ?_) (fun h3 => ?_)
  · skip
    have g4 := i_eq h3
    exact K (none) _ hI (fun _ z => by cases z) (show xB S R from by first | (exact (xC_o (W := 75) hpre0).2)) (show aS 88 S = a8 from by first | (exact (xC_o (W := 88) hpre0).1.trans hpre2)) (show none = zTa R n from by first | (rw [show n = -1 from by assumption]; exact ta_m1)) (show n = -1 ∨ zRq a7 n from by first | (exact Or.inl (by assumption))) (show kC S = kk from by first | (exact (xK_o (W := 88) hpre0 hpre3).2))
  · skip
    have g5 := i_ne h3
    refine sp_149_64_sk (R := R) (a7 := (aS 75 S)) (a8 := a8) (kk := kk) (n) (by omega) (by omega) hI (show xB S R from by first | (exact (xC_o (W := 75) hpre0).2)) (show aS 75 S = (aS 75 S) from by first | (exact rfl)) (show aS 88 S = a8 from by first | (exact (xC_o (W := 88) hpre0).1.trans hpre2)) (show kC S = kk from by first | (exact (xK_o (W := 88) hpre0 hpre3).2)) (fun v2 S1 hI_S1 hq_v2 rp0_S1 rp1_S1 rp2_S1 rp3_S1 rp4_S1 => zo_n ⟨zG_T hI_S1, ?_⟩) (fun x S9 hx h9 rx0 rx1 rx2 rx3 => by have h9u := h9; exact zo_x (KX x S9 (by omega) h9u (show xB S9 R from by first | (exact (xC_o (W := 75) rx0).2)) (show aS 88 S9 = a8 from by first | (exact (xC_o (W := 88) rx0).1.trans rx1)) (show kC S9 = kk from by first | (exact (xK_o (W := 88) rx0 rx2).2)) (show x = 4 ∧ n ≠ -1 ∧ ¬ zRq a7 n from by first | (exact ⟨rx3.1, by assumption, hpre1 ▸ rx3.2⟩))))
    have rp0_S1 : xB S1 R := rp0_S1
    have rp1_S1 : aS 88 S1 = a8 := rp1_S1
    have rp2_S1 : v2 = zTa R n := rp2_S1
    have rp3_S1 : zRq (aS 75 S) n := rp3_S1
    have rp4_S1 : kC S1 = kk := rp4_S1
    obtain ⟨c3, hc, th_c3⟩ := hq_v2
    have rg_c3 : zTa R n = some c3 := rp2_S1.symm.trans hc
    refine ⟨c3, hc, ?_⟩
    exact K ((some c3)) _ hI_S1 (fun _ z => by cases z; exact th_c3) (show xB S1 R from by first | (exact (xC_o (W := 75) rp0_S1).2)) (show aS 88 S1 = a8 from by first | (exact (xC_o (W := 88) rp0_S1).1.trans rp1_S1)) (show (some c3) = zTa R n from by first | (exact rg_c3.symm)) (show n = -1 ∨ zRq a7 n from by first | (rw [hpre1] at *; exact Or.inr rp3_S1) | (exact Or.inr (hpre1 ▸ rp3_S1))) (show kC S1 = kk from by first | (exact (xK_o (W := 88) rp0_S1 rp4_S1).2))
