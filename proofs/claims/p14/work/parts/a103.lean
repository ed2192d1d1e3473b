/-! from 95.g43 -/
/-! the heap by numbers, the class (written by wip/tools/gen18.py) -/
theorem g_162_64_s_p87_0 {X : Nat × (Nat → Int32)} {d w : Nat} {S : ma_S} {Q : Option ma_V ⊕ Nat → ma_S → Prop} (i : Int32) (pa : Int32) (hd : 7 ≤ d) (hw : 109 ≤ w) (hS : zT S) (h : if pa < 0 then (Q (.inr 2) (ma_bump S)) else (if pa ≤ (1 : Int32) then (mR S 64 11 = some 87 ∧ (mR S 64 11 = some 87 ∧ (ma_wp X (d - 1) (w - 23) 111 0 [(0, .inr (.inr (some 87))), (1, .inl i)] [] S (zi (fun v2 S1 => zT S1 ∧ (if v2 = (-1 : Int32) then (Q (.inr 1) (ma_bump S1)) else (if pa = 0 then (Q (.inl (some (.inl v2))) S1) else (ma_wp X (d - 1) (w - 22) 106 0 [(0, .inr (.inr (some 87))), (1, .inl v2)] [] S1 (zi (fun v4 S3 => zT S3 ∧ (Q (.inl (some (.inl (v4 - v2)))) S3)) (fun x S9 => Q (.inr x) S9)))))) (fun x S9 => Q (.inr x) S9))))) else (Q (.inr 2) (ma_bump S)))) : ma_wp X d w 162 0 [(0, .inr (.inr (some 64))), (1, .inl i), (2, .inl pa)] [] S Q := by
  refine zw_push hm_162 dX11_block_0 (v := .inl pa) rfl ?_
  refine zw_if0 hm_162 dX11_block_1 (t := 9) rfl zc0_lt ?_ ?_
  · intro hc
    rw [if_pos hc] at h
    exact zw_thr hm_162 dX11_block_9 dX11_block_12 dX11_block_13 dX11_block_16 x_11_79_81 n_11_79 (by omega) (by show 0 + 81 ≤ w; omega) h
  · intro hc
    rw [if_neg hc] at h
    refine zw_push hm_162 dX11_block_4 (v := .inl pa) rfl ?_
    refine zw_push hm_162 dX11_block_5 (v := .inl (1 : Int32)) rfl ?_
    refine zw_if2 hm_162 dX11_block_6 (t := 17) rfl zc2_le ?_ ?_
    · intro hc
      rw [if_pos hc] at h
      refine zw_push hm_162 dX11_block_17 (v := .inr (.inr (some 64))) rfl ?_
      refine zw_cv hm_162 dX11_block_18 v_11_119_11 hm_144 [] [] rfl (zT_rt hS s_64 rfl) ⟨by omega, by omega⟩ rfl ?_
      show ma_wp X (d - 1) (w - 20) 144 0 [(0, .inr (.inr (some 64)))] [] S _
      refine zw_push hm_144 dX11_needCollector_0 (v := .inr (.inr (some 64))) rfl ?_
      obtain ⟨hg, h⟩ := h
      refine zw_gf hm_144 dX11_needCollector_1 (v := .inr (.inr (some 87))) (zT_is hS s_64) (zT_t hS s_64) rfl f_11_98_11 (congrArg (fun z => Sum.inr (Sum.inr z)) hg) ?_
      refine zw_ifnonnull hm_144 dX11_needCollector_4 (t := 15) rfl (fun z => by cases z) (fun _ _ => ?_)
      refine zw_push hm_144 dX11_needCollector_15 (v := .inr (.inr (some 64))) rfl ?_
      obtain ⟨hg, h⟩ := h
      refine zw_gf hm_144 dX11_needCollector_16 (v := .inr (.inr (some 87))) (zT_is hS s_64) (zT_t hS s_64) rfl f_11_98_11 (congrArg (fun z => Sum.inr (Sum.inr z)) hg) ?_
      refine zw_aret hm_144 dX11_needCollector_19 ?_
      show ma_wp X d w 162 21 [(0, .inr (.inr (some 64))), (1, .inl i), (2, .inl pa)] [.inr (.inr (some 87))] S _
      refine zw_sto hm_162 dX11_block_21 [(4, .inr (.inr (some 87))), (0, .inr (.inr (some 64))), (1, .inl i), (2, .inl pa)] rfl rfl rfl ?_
      refine zw_push hm_162 dX11_block_23 (v := .inr (.inr (some 87))) rfl ?_
      refine zw_iof hm_162 dX11_block_25 (zT_is hS s_87) (zT_t hS s_87) rfl ct_11_41_6 (v := (1 : Int32)) rfl ?_
      refine zw_if0 hm_162 dX11_block_28 (t := 77) rfl zc0_eq (fun hc => absurd hc (by decide)) (fun _ => ?_)
      refine zw_push hm_162 dX11_block_31 (v := .inr (.inr (some 87))) rfl ?_
      refine zw_cast hm_162 dX11_block_33 (zT_is hS s_87) (zT_t hS s_87) rfl ct_11_41_6 ?_
      refine zw_sto hm_162 dX11_block_36 [(3, .inr (.inr (some 87))), (4, .inr (.inr (some 87))), (0, .inr (.inr (some 64))), (1, .inl i), (2, .inl pa)] rfl rfl rfl ?_
      refine zw_push hm_162 dX11_block_37 (v := .inr (.inr (some 87))) rfl ?_
      refine zw_push hm_162 dX11_block_38 (v := .inl i) rfl ?_
      refine zw_cv hm_162 dX11_block_39 v_11_232_6 hm_111 [.inl i] [] rfl (zT_rt hS s_87 rfl) ⟨by omega, by omega⟩ rfl (zw_mono h (zi_go ?_ ?_))
      · intro v2 S1 hv
        obtain ⟨hS1, h⟩ := hv
        refine zw_sto hm_162 dX11_block_42 [(4, .inl v2), (3, .inr (.inr (some 87))), (0, .inr (.inr (some 64))), (1, .inl i), (2, .inl pa)] rfl rfl rfl ?_
        refine zw_push hm_162 dX11_block_44 (v := .inl v2) rfl ?_
        refine zw_push hm_162 dX11_block_46 (v := .inl (-1 : Int32)) rfl ?_
        refine zw_if2 hm_162 dX11_block_47 (t := 58) rfl zc2_ne ?_ ?_
        · intro hc
          rw [if_neg hc] at h
          refine zw_push hm_162 dX11_block_58 (v := .inl pa) rfl ?_
          refine zw_if0 hm_162 dX11_block_59 (t := 67) rfl zc0_ne ?_ ?_
          · intro hc
            rw [if_neg hc] at h
            refine zw_push hm_162 dX11_block_67 (v := .inr (.inr (some 87))) rfl ?_
            refine zw_push hm_162 dX11_block_68 (v := .inl v2) rfl ?_
            refine zw_cv hm_162 dX11_block_70 v_11_235_6 hm_106 [.inl v2] [] rfl (zT_rt hS1 s_87 rfl) ⟨by omega, by omega⟩ rfl (zw_mono h (zi_go ?_ ?_))
            · intro v4 S3 hv
              obtain ⟨hS3, h⟩ := hv
              refine zw_push hm_162 dX11_block_73 (v := .inl v2) rfl ?_
              refine zw_stk hm_162 dX11_block_75 (st₉ := [.inl (v4 - v2)]) rfl rfl ?_
              exact zw_iret hm_162 dX11_block_76 h
            · intro x S9 hx
              exact ⟨by decide, hx⟩
          · intro hc
            rw [if_pos (Classical.not_not.mp hc)] at h
            refine zw_push hm_162 dX11_block_62 (v := .inl v2) rfl ?_
            refine zw_goto hm_162 dX11_block_64 (t := 76) rfl ?_
            exact zw_iret hm_162 dX11_block_76 h
        · intro hc
          rw [if_pos (Classical.not_not.mp hc)] at h
          exact zw_thr hm_162 dX11_block_50 dX11_block_53 dX11_block_54 dX11_block_57 x_11_72_74 n_11_72 (by omega) (by show 0 + 81 ≤ w; omega) h
      · intro x S9 hx
        exact ⟨by decide, hx⟩
    · intro hc
      rw [if_neg hc] at h
      exact zw_thr hm_162 dX11_block_9 dX11_block_12 dX11_block_13 dX11_block_16 x_11_79_81 n_11_79 (by omega) (by show 0 + 81 ≤ w; omega) h
theorem sp_162_64_s_p87 {X : Nat × (Nat → Int32)} {d w : Nat} {f : Nat → Nat → Int32} {r : Nat → Nat → Option Nat} {C Z N : Nat} {Q : Option ma_V ⊕ Nat → ma_S → Prop} {ab : Nat→Nat→Int32} {S : ma_S} (i : Int32) (pa : Int32) (hd : 7 ≤ d) (hw : 109 ≤ w) (hI : zB f r C Z N S) (hr : r 64 11 = some 87) (hpre0 : xB S (mR S 70)) (hpre1 : aS 88 S = ab) (K : ∀ v S₉, zB f r C Z N S₉ → (True) → (xB S₉ (mR S₉ 70)) → (aS 88 S₉ = ab) → ((0 ≤ pa.toInt ∧ pa.toInt ≤ 1) ∧ (if i.toInt < 0 then -1 else aBk ab i.toInt.toNat (aN ab 0)) ≠ -1 ∧ ((pa.toInt = 0 ∧ v.toInt = (if i.toInt < 0 then -1 else aBk ab i.toInt.toNat (aN ab 0))) ∨ (pa.toInt = 1 ∧ v.toInt = aE ab (if i.toInt < 0 then -1 else aBk ab i.toInt.toNat (aN ab 0)) - (if i.toInt < 0 then -1 else aBk ab i.toInt.toNat (aN ab 0))))) → Q (.inl (some (.inl v))) S₉) (KX : ∀ x S₉, (x = 1 ∨ x = 2) → zB f r C Z N S₉ → (xB S₉ (mR S₉ 70)) → (aS 88 S₉ = ab) → ((x = 2 ∧ ¬ (0 ≤ pa.toInt ∧ pa.toInt ≤ 1)) ∨ (x = 1 ∧ (0 ≤ pa.toInt ∧ pa.toInt ≤ 1) ∧ (if i.toInt < 0 then -1 else aBk ab i.toInt.toNat (aN ab 0)) = -1)) → Q (.inr x) (ma_bump S₉)) : ma_wp X d w 162 0 [(0, .inr (.inr (some 64))), (1, .inl i), (2, .inl pa)] [] S Q := by
  refine g_162_64_s_p87_0 i pa (by omega) (by omega) (zG_T hI) ?_
  have li1 : (0 : Int32).toInt = 0 := rfl
  refine zd (fun h2 => ?_) (fun h2 => ?_)
  · skip
    have g3 := i_lt h2
    exact KX 2 _ (by decide) hI (show xB S (mR S 70) from by first | (exact xB_x (xC_o (W := 75) hpre0).2)) (show aS 88 S = ab from by first | (exact (xC_o (W := 88) hpre0).1.trans hpre1)) (show (2 = 2 ∧ ¬ (0 ≤ pa.toInt ∧ pa.toInt ≤ 1)) ∨ (2 = 1 ∧ (0 ≤ pa.toInt ∧ pa.toInt ≤ 1) ∧ (if i.toInt < 0 then -1 else aBk ab i.toInt.toNat (aN ab 0)) = -1) from by first | (exact Or.inl ⟨rfl, by omega⟩))
  · skip
    have g4 := i_nlt h2
    have li5 : (1 : Int32).toInt = 1 := rfl
    refine zd (fun h6 => ?_) (fun h6 => ?_)
    · skip
      have g7 := i_le h6
      refine ⟨((zG_r hI (by decide)).trans hr), ?_⟩
      refine ⟨((zG_r hI (by decide)).trans hr), ?_⟩
      refine sp_111_87_s (ab := (aS 88 S)) (i) (by omega) (by omega) (zB_dn_zJ87 hI) (show xB S (mR S 70) from by first | (exact xB_x (xC_o (W := 75) hpre0).2)) (show aS 88 S = (aS 88 S) from by first | (exact rfl) | (exact hpre1)) (fun v2 S1 eS_S1 hp_v2 rp0_S1 => zi_n ⟨(by rw [eS_S1]; exact zG_T hI), ?_⟩)
      replace eS_S1 := eS_S1.symm; subst eS_S1
      have rp0_S1 : v2.toInt = (if i.toInt < 0 then -1 else aBk (aS 88 S) i.toInt.toNat (aN (aS 88 S) 0)) := rp0_S1
      have li8 : (-1 : Int32).toInt = -1 := rfl
      refine zd (fun h9 => ?_) (fun h9 => ?_)
      · skip
        have g10 := i_eq h9
        exact KX 1 _ (by decide) hI (show xB S (mR S 70) from by first | (exact xB_x (xC_o (W := 75) hpre0).2)) (show aS 88 S = ab from by first | (exact (xC_o (W := 88) hpre0).1.trans hpre1)) (show (1 = 2 ∧ ¬ (0 ≤ pa.toInt ∧ pa.toInt ≤ 1)) ∨ (1 = 1 ∧ (0 ≤ pa.toInt ∧ pa.toInt ≤ 1) ∧ (if i.toInt < 0 then -1 else aBk ab i.toInt.toNat (aN ab 0)) = -1) from by first | (have bp := rp0_S1; rw [hpre1] at bp; rw [← bp]; exact Or.inr ⟨rfl, ⟨by omega, by omega⟩, by omega⟩))
      · skip
        have g11 := i_ne h9
        refine zd (fun h12 => ?_) (fun h12 => ?_)
        · skip
          have g13 := i_eq h12
          exact K (v2) _ hI trivial (show xB S (mR S 70) from by first | (exact xB_x (xC_o (W := 75) hpre0).2)) (show aS 88 S = ab from by first | (exact (xC_o (W := 88) hpre0).1.trans hpre1)) (show (0 ≤ pa.toInt ∧ pa.toInt ≤ 1) ∧ (if i.toInt < 0 then -1 else aBk ab i.toInt.toNat (aN ab 0)) ≠ -1 ∧ ((pa.toInt = 0 ∧ v2.toInt = (if i.toInt < 0 then -1 else aBk ab i.toInt.toNat (aN ab 0))) ∨ (pa.toInt = 1 ∧ v2.toInt = aE ab (if i.toInt < 0 then -1 else aBk ab i.toInt.toNat (aN ab 0)) - (if i.toInt < 0 then -1 else aBk ab i.toInt.toNat (aN ab 0)))) from by first | (have bp := rp0_S1; rw [hpre1] at bp; rw [← bp]; exact ⟨⟨by omega, by omega⟩, by omega, Or.inl ⟨by omega, rfl⟩⟩))
        · skip
          have g14 := i_ne h12
          refine sp_106_87_s (ab := (aS 88 S)) (v2) (by omega) (by omega) (zB_dn_zJ87 hI) (show xB S (mR S 70) from by first | (exact xB_x (xC_o (W := 75) hpre0).2)) (show aS 88 S = (aS 88 S) from by first | (exact rfl) | (exact hpre1)) (by omega) (by omega) (fun v4 S3 eS_S3 hp_v4 rp0_S3 => zi_n ⟨(by rw [eS_S3]; exact zG_T hI), ?_⟩)
          replace eS_S3 := eS_S3.symm; subst eS_S3
          have rp0_S3 : v4.toInt = aE (aS 88 S) v2.toInt := rp0_S3
          first | have e15 : (v4 - v2).toInt = v4.toInt - v2.toInt := i_sub (by omega) (by omega) | have b16 := i_bd (v4 - v2)
          exact K ((v4 - v2)) _ hI trivial (show xB S (mR S 70) from by first | (exact xB_x (xC_o (W := 75) hpre0).2)) (show aS 88 S = ab from by first | (exact (xC_o (W := 88) hpre0).1.trans hpre1)) (show (0 ≤ pa.toInt ∧ pa.toInt ≤ 1) ∧ (if i.toInt < 0 then -1 else aBk ab i.toInt.toNat (aN ab 0)) ≠ -1 ∧ ((pa.toInt = 0 ∧ (v4 - v2).toInt = (if i.toInt < 0 then -1 else aBk ab i.toInt.toNat (aN ab 0))) ∨ (pa.toInt = 1 ∧ (v4 - v2).toInt = aE ab (if i.toInt < 0 then -1 else aBk ab i.toInt.toNat (aN ab 0)) - (if i.toInt < 0 then -1 else aBk ab i.toInt.toNat (aN ab 0)))) from by first | (have bp := rp0_S1; rw [hpre1] at bp; rw [← bp]; have ef := rp0_S3; rw [hpre1] at ef; exact ⟨⟨by omega, by omega⟩, by omega, Or.inr ⟨by omega, by omega⟩⟩))
    · skip
      have g17 := i_nle h6
      exact KX 2 _ (by decide) hI (show xB S (mR S 70) from by first | (exact xB_x (xC_o (W := 75) hpre0).2)) (show aS 88 S = ab from by first | (exact (xC_o (W := 88) hpre0).1.trans hpre1)) (show (2 = 2 ∧ ¬ (0 ≤ pa.toInt ∧ pa.toInt ≤ 1)) ∨ (2 = 1 ∧ (0 ≤ pa.toInt ∧ pa.toInt ≤ 1) ∧ (if i.toInt < 0 then -1 else aBk ab i.toInt.toNat (aN ab 0)) = -1) from by first | (exact Or.inl ⟨rfl, by omega⟩))

/-! from 95.g45 -/
/-! the heap by numbers, the class (written by wip/tools/gen18.py) -/
def zUp (r : Nat → Int32) (k : Nat) (x : Int32) : Nat → Int32 := fun j => if j = k then x else r j
theorem up_67 {S : ma_S} {k k₉ : Nat} {x y v : Int32} : mI (ma_put (ma_put (ma_put S 67 k (.inl x)) 68 k₉ (.inl y)) 64 7 (.inl v)) 67 = zUp (mI S 67) k x := by
  funext j
  show (if 67 = 64 ∧ j = 7 then v else if 67 = 68 ∧ j = k₉ then y else if 67 = 67 ∧ j = k then x else mI S 67 j) = if j = k then x else mI S 67 j
  rw [if_neg (by omega), if_neg (by omega)]
  by_cases h : j = k
  · rw [if_pos ⟨rfl, h⟩, if_pos h]
  · rw [if_neg (fun z => h z.2), if_neg h]
theorem up_68 {S : ma_S} {k k₉ : Nat} {x y v : Int32} : mI (ma_put (ma_put (ma_put S 67 k (.inl x)) 68 k₉ (.inl y)) 64 7 (.inl v)) 68 = zUp (mI S 68) k₉ y := by
  funext j
  show (if 68 = 64 ∧ j = 7 then v else if 68 = 68 ∧ j = k₉ then y else if 68 = 67 ∧ j = k then x else mI S 68 j) = if j = k₉ then y else mI S 68 j
  rw [if_neg (by omega)]
  by_cases h : j = k₉
  · rw [if_pos ⟨rfl, h⟩, if_pos h]
  · rw [if_neg (fun z => h z.2), if_neg (by omega), if_neg h]

/-! from 95.g46 -/
/-! the heap by numbers, the class (written by wip/tools/gen18.py) -/
/-! tokens, by their number -/
def zte (t : Nat → Int32) (n : Int) : Nat → Int
  | 0 => tk false t n (tk true t n 0)
  | k + 1 => tk false t n (tk true t n (zte t n k))
def zts (t : Nat → Int32) (n : Int) : Nat → Int
  | 0 => tk true t n 0
  | k + 1 => tk true t n (zte t n k)
def zVal (t : Nat → Int32) (n : Int) (c k : Nat) : Int := zPart c t (zts t n k) (zte t n k) 0
theorem zt_s {t : Nat → Int32} {n s p p₉ : Int} {k : Nat} (hs : s = tk true t n p₉) (hp : p₉ = p) (hk : p = zte t n k) : s = zts t n (k + 1) := by
  rw [hs, hp, hk]
  rfl
theorem zt_e {t : Nat → Int32} {n s e : Int} {k : Nat} (he : e = tk false t n s) (hs : s = zts t n k) : e = zte t n k := by
  rw [he, hs]
  cases k <;> rfl

/-! from 95.g63 -/
/-! the heap by numbers, the class (written by wip/tools/gen18.py) -/
theorem zt_p {t : Nat → Int32} {n e v : Int} {s : Int32} (hs : s.toInt = tk true t n 0) (he : e = tk false t n s.toInt) (h : v = zPol t s (e - s.toInt)) : v = zPol t (Int32.ofInt (zts t n 0)) (zte t n 0 - zts t n 0) := by
  have a : zts t n 0 = s.toInt := hs.symm
  have b : zte t n 0 = e := by
    rw [he, hs]
    rfl
  rw [a, b, Int32.ofInt_toInt]
  exact h

/-! from 95.g65 -/
/-! the heap by numbers, the class (written by wip/tools/gen18.py) -/
/-! nobody below n -/
def zDe (a : Nat → Nat → Int32) (n : Int) : Nat → Nat → Int32 := fun c k => if (126 ≤ c ∧ c < 1000 ∧ (k : Int) < n) ∨ (1000 ≤ c ∧ (c : Int) - 1000 < n) then 0 else a c k
theorem zDe_0 {a : Nat → Nat → Int32} : zDe a 0 = a := by
  funext c k
  exact if_neg (by omega)
theorem zDe_s {a : Nat → Nat → Int32} {j : Int32} (h0 : 0 ≤ j.toInt) (h1 : j.toInt < 2147483647) : zNo (zDe a j.toInt) j.toNatClampNeg = zDe a (j + 1).toInt := by
  have e := i_p1 h1
  have e2 := tn_cast h0
  funext c k
  show (if (126 ≤ c ∧ c < 1000 ∧ k = j.toNatClampNeg) ∨ c = 1000 + j.toNatClampNeg then 0 else if (126 ≤ c ∧ c < 1000 ∧ (k : Int) < j.toInt) ∨ (1000 ≤ c ∧ (c : Int) - 1000 < j.toInt) then 0 else a c k) = if (126 ≤ c ∧ c < 1000 ∧ (k : Int) < (j + 1).toInt) ∨ (1000 ≤ c ∧ (c : Int) - 1000 < (j + 1).toInt) then 0 else a c k
  by_cases h : (126 ≤ c ∧ c < 1000 ∧ (k : Int) < (j + 1).toInt) ∨ (1000 ≤ c ∧ (c : Int) - 1000 < (j + 1).toInt)
  · rw [if_pos h]
    by_cases h2 : (126 ≤ c ∧ c < 1000 ∧ k = j.toNatClampNeg) ∨ c = 1000 + j.toNatClampNeg
    · rw [if_pos h2]
    · rw [if_neg h2, if_pos (by omega)]
  · rw [if_neg h, if_neg (by omega), if_neg (by omega)]
def aFg (a : Nat → Nat → Int32) : Nat → Nat → Int32 := ma_u (ma_u (ma_u (ma_u (zFl (zFl (zFl (zDe a 512) 71 (-1) 4500) 72 (-1) 16) 73 (-1) 16) 69 5 0) 69 6 0) 69 8 0) 69 11 0
theorem g_276_71_s_0 {X : Nat × (Nat → Int32)} {d w : Nat} {S : ma_S} {Q : Option ma_V ⊕ Nat → ma_S → Prop} (x : Int32) (hd : 0 ≤ d) (hw : 0 ≤ w) (hS : zT S) (h : ma_wp X d w 276 5 [(0, .inr (.inr (some 71))), (1, .inl x), (2, .inl (0 : Int32)), (3, .inl (4500 : Int32))] [] S Q) : ma_wp X d w 276 0 [(0, .inr (.inr (some 71))), (1, .inl x)] [] S Q := by
  refine zw_push hm_276 dJ7_fill_53178_0 (v := .inl (0 : Int32)) rfl ?_
  refine zw_sto hm_276 dJ7_fill_53178_1 [(2, .inl (0 : Int32)), (0, .inr (.inr (some 71))), (1, .inl x)] rfl rfl rfl ?_
  refine zw_push hm_276 dJ7_fill_53178_2 (v := .inr (.inr (some 71))) rfl ?_
  refine zw_len hm_276 dJ7_fill_53178_3 (zT_is hS s_71) (zT_h hS s_71) rfl rfl ?_
  refine zw_sto hm_276 dJ7_fill_53178_4 [(3, .inl (4500 : Int32)), (2, .inl (0 : Int32)), (0, .inr (.inr (some 71))), (1, .inl x)] rfl rfl rfl ?_
  exact zw_sub (ma_nd_of (ks := [0, 1, 2, 3]) rfl (by decide)) (ma_nd_of (ks := [3, 2, 0, 1]) rfl (by decide)) (ma_le_cons rfl (ma_le_cons rfl (ma_le_cons rfl (ma_le_cons rfl (ma_le_nil _))))) h
theorem g_276_71_s_5 {X : Nat × (Nat → Int32)} {d w : Nat} {S : ma_S} {Q : Option ma_V ⊕ Nat → ma_S → Prop} (l1 : Int32) (l2 : Int32) (l3 : Int32) (hd : 0 ≤ d) (hw : 0 ≤ w) (hS : zT S) (h : if l3 ≤ l2 then (Q (.inl none) S) else ((0 ≤ l2 ∧ l2.toNatClampNeg < 4500) ∧ (ma_wp X d w 276 5 [(0, .inr (.inr (some 71))), (1, .inl l1), (2, .inl (l2 + (1 : Int32))), (3, .inl l3)] [] (ma_put S 71 l2.toNatClampNeg (.inl l1)) Q))) : ma_wp X d w 276 5 [(0, .inr (.inr (some 71))), (1, .inl l1), (2, .inl l2), (3, .inl l3)] [] S Q := by
  refine zw_push hm_276 dJ7_fill_53178_5 (v := .inl l2) rfl ?_
  refine zw_push hm_276 dJ7_fill_53178_6 (v := .inl l3) rfl ?_
  refine zw_if2 hm_276 dJ7_fill_53178_7 (t := 20) rfl zc2_ge ?_ ?_
  · intro hc
    rw [if_pos hc] at h
    exact zw_vret hm_276 dJ7_fill_53178_20 h
  · intro hc
    rw [if_neg hc] at h
    refine zw_push hm_276 dJ7_fill_53178_10 (v := .inr (.inr (some 71))) rfl ?_
    refine zw_push hm_276 dJ7_fill_53178_11 (v := .inl l2) rfl ?_
    refine zw_push hm_276 dJ7_fill_53178_12 (v := .inl l1) rfl ?_
    obtain ⟨hg, h⟩ := h
    refine zw_ias hm_276 dJ7_fill_53178_13 (zT_is hS s_71) (zT_h hS s_71) rfl hg ?_
    refine zw_sto hm_276 dJ7_fill_53178_14 [(2, .inl (l2 + (1 : Int32))), (0, .inr (.inr (some 71))), (1, .inl l1), (3, .inl l3)] rfl rfl rfl ?_
    refine zw_goto hm_276 dJ7_fill_53178_17 (t := 5) rfl ?_
    exact zw_sub (ma_nd_of (ks := [0, 1, 2, 3]) rfl (by decide)) (ma_nd_of (ks := [2, 0, 1, 3]) rfl (by decide)) (ma_le_cons rfl (ma_le_cons rfl (ma_le_cons rfl (ma_le_cons rfl (ma_le_nil _))))) h
theorem lp_276_71_s_5 {X : Nat × (Nat → Int32)} {d w : Nat} {f : Nat → Nat → Int32} {r : Nat → Nat → Option Nat} {C Z N : Nat} {Q : Option ma_V ⊕ Nat → ma_S → Prop} {ab : Nat→Nat→Int32} {x : Int32} (hd : 0 ≤ d) (hw : 0 ≤ w) (K : ∀ S₉, zI f r C Z N S₉ → (xB S₉ (mR S₉ 70)) → (aS 88 S₉ = zFl ab 71 x 4500) → Q (.inl none) S₉) : ∀ (n : Nat) (S : ma_S) (l1 : Int32) (l2 : Int32) (l3 : Int32), (l3.toInt - l2.toInt).toNat = n → zI f r C Z N S → (0 ≤ l2.toInt) → (l3.toInt = 4500) → (l2.toInt ≤ 4500) → (xB S (mR S 70)) → (aS 88 S = zFl ab 71 l1 l2.toInt) → (l1 = x) → ma_wp X d w 276 5 [(0, .inr (.inr (some 71))), (1, .inl l1), (2, .inl l2), (3, .inl l3)] [] S Q := by
  intro n
  induction n using Nat.strongRecOn with
  | _ n IH =>
    intro S l1 l2 l3 hmu hI  hi0 hi1 hi2 hi3 hi4 hi5
    refine g_276_71_s_5 l1 l2 l3 (by omega) (by omega) (zG_T hI) ?_
    have b1 := i_bd l3
    have b2 := i_bd l2
    refine zd (fun h3 => ?_) (fun h3 => ?_)
    · skip
      have g4 := i_le h3
      exact K _ hI (show xB S (mR S 70) from by first | (exact xB_x (xC_o (W := 75) hi3).2)) (show aS 88 S = zFl ab 71 x 4500 from by first | (rw [hi4, show l2.toInt = 4500 from by omega, hi5]))
    · skip
      have g5 := i_nle h3
      refine ⟨i_ix (by omega) (by omega), ?_⟩
      have hI6 : zI f r C Z N (ma_put S 71 l2.toNatClampNeg (.inl l1)) := zG_fa hI rfl (by decide) (by decide) (by decide) trivial
      have b7 := i_bd l1
      first | have e8 : (l2 + (1 : Int32)).toInt = l2.toInt + (1) := i_addk rfl (by omega) (by omega) | have b9 := i_bd (l2 + (1 : Int32))
      exact IH _ (by omega) _ (l1) ((l2 + (1 : Int32))) (l3) rfl hI6 (by omega) (by omega) (by omega) (show xB (ma_put S 71 l2.toNatClampNeg (.inl l1)) (mR (ma_put S 71 l2.toNatClampNeg (.inl l1)) 70) from by first | (exact xB_x (xC_p (c := 71) (k := l2.toNatClampNeg) (x := l1) (xC_o (W := 75) hi3) 71 xW75 rfl rfl).2)) (show aS 88 (ma_put S 71 l2.toNatClampNeg (.inl l1)) = zFl ab 71 (l1) ((l2 + (1 : Int32))).toInt from by first | (refine (xC_p (c := 71) (k := l2.toNatClampNeg) (x := l1) (xC_o (W := 88) hi3) 71 xW88 rfl rfl).1.trans ?_; skip; rw [hi4]; exact zFl_s (by omega) (by omega))) (show (l1) = x from by first | (exact rfl) | (exact hi5))
theorem sp_276_71_s {X : Nat × (Nat → Int32)} {d w : Nat} {f : Nat → Nat → Int32} {r : Nat → Nat → Option Nat} {C Z N : Nat} {Q : Option ma_V ⊕ Nat → ma_S → Prop} {ab : Nat→Nat→Int32} {S : ma_S} (x : Int32) (hd : 0 ≤ d) (hw : 0 ≤ w) (hI : zI f r C Z N S) (hpre0 : xB S (mR S 70)) (hpre1 : aS 88 S = ab) (K : ∀ S₉, zI f r C Z N S₉ → (xB S₉ (mR S₉ 70)) → (aS 88 S₉ = zFl ab 71 x 4500) → Q (.inl none) S₉) : ma_wp X d w 276 0 [(0, .inr (.inr (some 71))), (1, .inl x)] [] S Q := by
  refine g_276_71_s_0 x (by omega) (by omega) (zG_T hI) ?_
  have b1 := i_bd x
  have li2 : (0 : Int32).toInt = 0 := rfl
  have li3 : (4500 : Int32).toInt = 4500 := rfl
  exact lp_276_71_s_5 (by omega) (by omega) K _ _ (x) ((0 : Int32)) ((4500 : Int32)) rfl hI (by omega) (by omega) (by omega) (show xB S (mR S 70) from by first | (exact xB_x (xC_o (W := 75) hpre0).2)) (show aS 88 S = zFl ab 71 (x) ((0 : Int32)).toInt from by first | (rw [hpre1]; exact zFl_0.symm)) (show (x) = x from by first | (exact rfl))
theorem g_276_72_s_0 {X : Nat × (Nat → Int32)} {d w : Nat} {S : ma_S} {Q : Option ma_V ⊕ Nat → ma_S → Prop} (x : Int32) (hd : 0 ≤ d) (hw : 0 ≤ w) (hS : zT S) (h : ma_wp X d w 276 5 [(0, .inr (.inr (some 72))), (1, .inl x), (2, .inl (0 : Int32)), (3, .inl (16 : Int32))] [] S Q) : ma_wp X d w 276 0 [(0, .inr (.inr (some 72))), (1, .inl x)] [] S Q := by
  refine zw_push hm_276 dJ7_fill_53178_0 (v := .inl (0 : Int32)) rfl ?_
  refine zw_sto hm_276 dJ7_fill_53178_1 [(2, .inl (0 : Int32)), (0, .inr (.inr (some 72))), (1, .inl x)] rfl rfl rfl ?_
  refine zw_push hm_276 dJ7_fill_53178_2 (v := .inr (.inr (some 72))) rfl ?_
  refine zw_len hm_276 dJ7_fill_53178_3 (zT_is hS s_72) (zT_h hS s_72) rfl rfl ?_
  refine zw_sto hm_276 dJ7_fill_53178_4 [(3, .inl (16 : Int32)), (2, .inl (0 : Int32)), (0, .inr (.inr (some 72))), (1, .inl x)] rfl rfl rfl ?_
  exact zw_sub (ma_nd_of (ks := [0, 1, 2, 3]) rfl (by decide)) (ma_nd_of (ks := [3, 2, 0, 1]) rfl (by decide)) (ma_le_cons rfl (ma_le_cons rfl (ma_le_cons rfl (ma_le_cons rfl (ma_le_nil _))))) h
theorem g_276_72_s_5 {X : Nat × (Nat → Int32)} {d w : Nat} {S : ma_S} {Q : Option ma_V ⊕ Nat → ma_S → Prop} (l1 : Int32) (l2 : Int32) (l3 : Int32) (hd : 0 ≤ d) (hw : 0 ≤ w) (hS : zT S) (h : if l3 ≤ l2 then (Q (.inl none) S) else ((0 ≤ l2 ∧ l2.toNatClampNeg < 16) ∧ (ma_wp X d w 276 5 [(0, .inr (.inr (some 72))), (1, .inl l1), (2, .inl (l2 + (1 : Int32))), (3, .inl l3)] [] (ma_put S 72 l2.toNatClampNeg (.inl l1)) Q))) : ma_wp X d w 276 5 [(0, .inr (.inr (some 72))), (1, .inl l1), (2, .inl l2), (3, .inl l3)] [] S Q := by
  refine zw_push hm_276 dJ7_fill_53178_5 (v := .inl l2) rfl ?_
  refine zw_push hm_276 dJ7_fill_53178_6 (v := .inl l3) rfl ?_
  refine zw_if2 hm_276 dJ7_fill_53178_7 (t := 20) rfl zc2_ge ?_ ?_
  · intro hc
    rw [if_pos hc] at h
    exact zw_vret hm_276 dJ7_fill_53178_20 h
  · intro hc
    rw [if_neg hc] at h
    refine zw_push hm_276 dJ7_fill_53178_10 (v := .inr (.inr (some 72))) rfl ?_
    refine zw_push hm_276 dJ7_fill_53178_11 (v := .inl l2) rfl ?_
    refine zw_push hm_276 dJ7_fill_53178_12 (v := .inl l1) rfl ?_
    obtain ⟨hg, h⟩ := h
    refine zw_ias hm_276 dJ7_fill_53178_13 (zT_is hS s_72) (zT_h hS s_72) rfl hg ?_
    refine zw_sto hm_276 dJ7_fill_53178_14 [(2, .inl (l2 + (1 : Int32))), (0, .inr (.inr (some 72))), (1, .inl l1), (3, .inl l3)] rfl rfl rfl ?_
    refine zw_goto hm_276 dJ7_fill_53178_17 (t := 5) rfl ?_
    exact zw_sub (ma_nd_of (ks := [0, 1, 2, 3]) rfl (by decide)) (ma_nd_of (ks := [2, 0, 1, 3]) rfl (by decide)) (ma_le_cons rfl (ma_le_cons rfl (ma_le_cons rfl (ma_le_cons rfl (ma_le_nil _))))) h
theorem lp_276_72_s_5 {X : Nat × (Nat → Int32)} {d w : Nat} {f : Nat → Nat → Int32} {r : Nat → Nat → Option Nat} {C Z N : Nat} {Q : Option ma_V ⊕ Nat → ma_S → Prop} {ab : Nat→Nat→Int32} {x : Int32} (hd : 0 ≤ d) (hw : 0 ≤ w) (K : ∀ S₉, zI f r C Z N S₉ → (xB S₉ (mR S₉ 70)) → (aS 88 S₉ = zFl ab 72 x 16) → Q (.inl none) S₉) : ∀ (n : Nat) (S : ma_S) (l1 : Int32) (l2 : Int32) (l3 : Int32), (l3.toInt - l2.toInt).toNat = n → zI f r C Z N S → (0 ≤ l2.toInt) → (l3.toInt = 16) → (l2.toInt ≤ 16) → (xB S (mR S 70)) → (aS 88 S = zFl ab 72 l1 l2.toInt) → (l1 = x) → ma_wp X d w 276 5 [(0, .inr (.inr (some 72))), (1, .inl l1), (2, .inl l2), (3, .inl l3)] [] S Q := by
  intro n
  induction n using Nat.strongRecOn with
  | _ n IH =>
    intro S l1 l2 l3 hmu hI  hi0 hi1 hi2 hi3 hi4 hi5
    refine g_276_72_s_5 l1 l2 l3 (by omega) (by omega) (zG_T hI) ?_
    have b1 := i_bd l3
    have b2 := i_bd l2
    refine zd (fun h3 => ?_) (fun h3 => ?_)
    · skip
      have g4 := i_le h3
      exact K _ hI (show xB S (mR S 70) from by first | (exact xB_x (xC_o (W := 75) hi3).2)) (show aS 88 S = zFl ab 72 x 16 from by first | (rw [hi4, show l2.toInt = 16 from by omega, hi5]))
    · skip
      have g5 := i_nle h3
      refine ⟨i_ix (by omega) (by omega), ?_⟩
      have hI6 : zI f r C Z N (ma_put S 72 l2.toNatClampNeg (.inl l1)) := zG_fa hI rfl (by decide) (by decide) (by decide) trivial
      have b7 := i_bd l1
      first | have e8 : (l2 + (1 : Int32)).toInt = l2.toInt + (1) := i_addk rfl (by omega) (by omega) | have b9 := i_bd (l2 + (1 : Int32))
      exact IH _ (by omega) _ (l1) ((l2 + (1 : Int32))) (l3) rfl hI6 (by omega) (by omega) (by omega) (show xB (ma_put S 72 l2.toNatClampNeg (.inl l1)) (mR (ma_put S 72 l2.toNatClampNeg (.inl l1)) 70) from by first | (exact xB_x (xC_p (c := 72) (k := l2.toNatClampNeg) (x := l1) (xC_o (W := 75) hi3) 72 xW75 rfl rfl).2)) (show aS 88 (ma_put S 72 l2.toNatClampNeg (.inl l1)) = zFl ab 72 (l1) ((l2 + (1 : Int32))).toInt from by first | (refine (xC_p (c := 72) (k := l2.toNatClampNeg) (x := l1) (xC_o (W := 88) hi3) 72 xW88 rfl rfl).1.trans ?_; skip; rw [hi4]; exact zFl_s (by omega) (by omega))) (show (l1) = x from by first | (exact rfl) | (exact hi5))
theorem sp_276_72_s {X : Nat × (Nat → Int32)} {d w : Nat} {f : Nat → Nat → Int32} {r : Nat → Nat → Option Nat} {C Z N : Nat} {Q : Option ma_V ⊕ Nat → ma_S → Prop} {ab : Nat→Nat→Int32} {S : ma_S} (x : Int32) (hd : 0 ≤ d) (hw : 0 ≤ w) (hI : zI f r C Z N S) (hpre0 : xB S (mR S 70)) (hpre1 : aS 88 S = ab) (K : ∀ S₉, zI f r C Z N S₉ → (xB S₉ (mR S₉ 70)) → (aS 88 S₉ = zFl ab 72 x 16) → Q (.inl none) S₉) : ma_wp X d w 276 0 [(0, .inr (.inr (some 72))), (1, .inl x)] [] S Q := by
  refine g_276_72_s_0 x (by omega) (by omega) (zG_T hI) ?_
  have b1 := i_bd x
  have li2 : (0 : Int32).toInt = 0 := rfl
  have li3 : (16 : Int32).toInt = 16 := rfl
  exact lp_276_72_s_5 (by omega) (by omega) K _ _ (x) ((0 : Int32)) ((16 : Int32)) rfl hI (by omega) (by omega) (by omega) (show xB S (mR S 70) from by first | (exact xB_x (xC_o (W := 75) hpre0).2)) (show aS 88 S = zFl ab 72 (x) ((0 : Int32)).toInt from by first | (rw [hpre1]; exact zFl_0.symm)) (show (x) = x from by first | (exact rfl))
theorem g_276_73_s_0 {X : Nat × (Nat → Int32)} {d w : Nat} {S : ma_S} {Q : Option ma_V ⊕ Nat → ma_S → Prop} (x : Int32) (hd : 0 ≤ d) (hw : 0 ≤ w) (hS : zT S) (h : ma_wp X d w 276 5 [(0, .inr (.inr (some 73))), (1, .inl x), (2, .inl (0 : Int32)), (3, .inl (16 : Int32))] [] S Q) : ma_wp X d w 276 0 [(0, .inr (.inr (some 73))), (1, .inl x)] [] S Q := by
  refine zw_push hm_276 dJ7_fill_53178_0 (v := .inl (0 : Int32)) rfl ?_
  refine zw_sto hm_276 dJ7_fill_53178_1 [(2, .inl (0 : Int32)), (0, .inr (.inr (some 73))), (1, .inl x)] rfl rfl rfl ?_
  refine zw_push hm_276 dJ7_fill_53178_2 (v := .inr (.inr (some 73))) rfl ?_
  refine zw_len hm_276 dJ7_fill_53178_3 (zT_is hS s_73) (zT_h hS s_73) rfl rfl ?_
  refine zw_sto hm_276 dJ7_fill_53178_4 [(3, .inl (16 : Int32)), (2, .inl (0 : Int32)), (0, .inr (.inr (some 73))), (1, .inl x)] rfl rfl rfl ?_
  exact zw_sub (ma_nd_of (ks := [0, 1, 2, 3]) rfl (by decide)) (ma_nd_of (ks := [3, 2, 0, 1]) rfl (by decide)) (ma_le_cons rfl (ma_le_cons rfl (ma_le_cons rfl (ma_le_cons rfl (ma_le_nil _))))) h
theorem g_276_73_s_5 {X : Nat × (Nat → Int32)} {d w : Nat} {S : ma_S} {Q : Option ma_V ⊕ Nat → ma_S → Prop} (l1 : Int32) (l2 : Int32) (l3 : Int32) (hd : 0 ≤ d) (hw : 0 ≤ w) (hS : zT S) (h : if l3 ≤ l2 then (Q (.inl none) S) else ((0 ≤ l2 ∧ l2.toNatClampNeg < 16) ∧ (ma_wp X d w 276 5 [(0, .inr (.inr (some 73))), (1, .inl l1), (2, .inl (l2 + (1 : Int32))), (3, .inl l3)] [] (ma_put S 73 l2.toNatClampNeg (.inl l1)) Q))) : ma_wp X d w 276 5 [(0, .inr (.inr (some 73))), (1, .inl l1), (2, .inl l2), (3, .inl l3)] [] S Q := by
  refine zw_push hm_276 dJ7_fill_53178_5 (v := .inl l2) rfl ?_
  refine zw_push hm_276 dJ7_fill_53178_6 (v := .inl l3) rfl ?_
  refine zw_if2 hm_276 dJ7_fill_53178_7 (t := 20) rfl zc2_ge ?_ ?_
  · intro hc
    rw [if_pos hc] at h
    exact zw_vret hm_276 dJ7_fill_53178_20 h
  · intro hc
    rw [if_neg hc] at h
    refine zw_push hm_276 dJ7_fill_53178_10 (v := .inr (.inr (some 73))) rfl ?_
    refine zw_push hm_276 dJ7_fill_53178_11 (v := .inl l2) rfl ?_
    refine zw_push hm_276 dJ7_fill_53178_12 (v := .inl l1) rfl ?_
    obtain ⟨hg, h⟩ := h
    refine zw_ias hm_276 dJ7_fill_53178_13 (zT_is hS s_73) (zT_h hS s_73) rfl hg ?_
    refine zw_sto hm_276 dJ7_fill_53178_14 [(2, .inl (l2 + (1 : Int32))), (0, .inr (.inr (some 73))), (1, .inl l1), (3, .inl l3)] rfl rfl rfl ?_
    refine zw_goto hm_276 dJ7_fill_53178_17 (t := 5) rfl ?_
    exact zw_sub (ma_nd_of (ks := [0, 1, 2, 3]) rfl (by decide)) (ma_nd_of (ks := [2, 0, 1, 3]) rfl (by decide)) (ma_le_cons rfl (ma_le_cons rfl (ma_le_cons rfl (ma_le_cons rfl (ma_le_nil _))))) h
theorem lp_276_73_s_5 {X : Nat × (Nat → Int32)} {d w : Nat} {f : Nat → Nat → Int32} {r : Nat → Nat → Option Nat} {C Z N : Nat} {Q : Option ma_V ⊕ Nat → ma_S → Prop} {ab : Nat→Nat→Int32} {x : Int32} (hd : 0 ≤ d) (hw : 0 ≤ w) (K : ∀ S₉, zI f r C Z N S₉ → (xB S₉ (mR S₉ 70)) → (aS 88 S₉ = zFl ab 73 x 16) → Q (.inl none) S₉) : ∀ (n : Nat) (S : ma_S) (l1 : Int32) (l2 : Int32) (l3 : Int32), (l3.toInt - l2.toInt).toNat = n → zI f r C Z N S → (0 ≤ l2.toInt) → (l3.toInt = 16) → (l2.toInt ≤ 16) → (xB S (mR S 70)) → (aS 88 S = zFl ab 73 l1 l2.toInt) → (l1 = x) → ma_wp X d w 276 5 [(0, .inr (.inr (some 73))), (1, .inl l1), (2, .inl l2), (3, .inl l3)] [] S Q := by
  intro n
  induction n using Nat.strongRecOn with
  | _ n IH =>
    intro S l1 l2 l3 hmu hI  hi0 hi1 hi2 hi3 hi4 hi5
    refine g_276_73_s_5 l1 l2 l3 (by omega) (by omega) (zG_T hI) ?_
    have b1 := i_bd l3
    have b2 := i_bd l2
    refine zd (fun h3 => ?_) (fun h3 => ?_)
    · skip
      have g4 := i_le h3
      exact K _ hI (show xB S (mR S 70) from by first | (exact xB_x (xC_o (W := 75) hi3).2)) (show aS 88 S = zFl ab 73 x 16 from by first | (rw [hi4, show l2.toInt = 16 from by omega, hi5]))
    · skip
      have g5 := i_nle h3
      refine ⟨i_ix (by omega) (by omega), ?_⟩
      have hI6 : zI f r C Z N (ma_put S 73 l2.toNatClampNeg (.inl l1)) := zG_fa hI rfl (by decide) (by decide) (by decide) trivial
      have b7 := i_bd l1
      first | have e8 : (l2 + (1 : Int32)).toInt = l2.toInt + (1) := i_addk rfl (by omega) (by omega) | have b9 := i_bd (l2 + (1 : Int32))
      exact IH _ (by omega) _ (l1) ((l2 + (1 : Int32))) (l3) rfl hI6 (by omega) (by omega) (by omega) (show xB (ma_put S 73 l2.toNatClampNeg (.inl l1)) (mR (ma_put S 73 l2.toNatClampNeg (.inl l1)) 70) from by first | (exact xB_x (xC_p (c := 73) (k := l2.toNatClampNeg) (x := l1) (xC_o (W := 75) hi3) 73 xW75 rfl rfl).2)) (show aS 88 (ma_put S 73 l2.toNatClampNeg (.inl l1)) = zFl ab 73 (l1) ((l2 + (1 : Int32))).toInt from by first | (refine (xC_p (c := 73) (k := l2.toNatClampNeg) (x := l1) (xC_o (W := 88) hi3) 73 xW88 rfl rfl).1.trans ?_; skip; rw [hi4]; exact zFl_s (by omega) (by omega))) (show (l1) = x from by first | (exact rfl) | (exact hi5))
theorem sp_276_73_s {X : Nat × (Nat → Int32)} {d w : Nat} {f : Nat → Nat → Int32} {r : Nat → Nat → Option Nat} {C Z N : Nat} {Q : Option ma_V ⊕ Nat → ma_S → Prop} {ab : Nat→Nat→Int32} {S : ma_S} (x : Int32) (hd : 0 ≤ d) (hw : 0 ≤ w) (hI : zI f r C Z N S) (hpre0 : xB S (mR S 70)) (hpre1 : aS 88 S = ab) (K : ∀ S₉, zI f r C Z N S₉ → (xB S₉ (mR S₉ 70)) → (aS 88 S₉ = zFl ab 73 x 16) → Q (.inl none) S₉) : ma_wp X d w 276 0 [(0, .inr (.inr (some 73))), (1, .inl x)] [] S Q := by
  refine g_276_73_s_0 x (by omega) (by omega) (zG_T hI) ?_
  have b1 := i_bd x
  have li2 : (0 : Int32).toInt = 0 := rfl
  have li3 : (16 : Int32).toInt = 16 := rfl
  exact lp_276_73_s_5 (by omega) (by omega) K _ _ (x) ((0 : Int32)) ((16 : Int32)) rfl hI (by omega) (by omega) (by omega) (show xB S (mR S 70) from by first | (exact xB_x (xC_o (W := 75) hpre0).2)) (show aS 88 S = zFl ab 73 (x) ((0 : Int32)).toInt from by first | (rw [hpre1]; exact zFl_0.symm)) (show (x) = x from by first | (exact rfl))

/-! from 95.g66 -/
/-! the heap by numbers, the class (written by wip/tools/gen18.py) -/
def aO1 (a : Nat → Nat → Int32) (t : Nat → Int32) : Nat → Nat → Int32 := ma_u (ma_u (ma_u a 87 0 (t 0)) 87 1 (t 1)) 87 2 0
def aO2 (a : Nat → Nat → Int32) (t : Nat → Int32) : Nat → Nat → Int32 := ma_u (ma_u (ma_u (aO1 a t) 87 6 (t 2)) 87 7 (t 3)) 87 8 0
theorem g_100_87_66_s_0 {X : Nat × (Nat → Int32)} {d w : Nat} {S : ma_S} {Q : Option ma_V ⊕ Nat → ma_S → Prop}  (hd : 0 ≤ d) (hw : 0 ≤ w) (hS : zT S) (h : Q (.inl none) (ma_put (ma_put (ma_put S 87 0 (.inl (mI S 66 0))) 87 1 (.inl (mI S 66 1))) 87 2 (.inl (0 : Int32)))) : ma_wp X d w 100 0 [(0, .inr (.inr (some 87))), (1, .inr (.inr (some 66)))] [] S Q := by
  refine zw_push hm_100 dX8_open_0 (v := .inr (.inr (some 87))) rfl ?_
  refine zw_push hm_100 dX8_open_1 (v := .inr (.inr (some 66))) rfl ?_
  refine zw_push hm_100 dX8_open_2 (v := .inl (0 : Int32)) rfl ?_
  refine zw_ia hm_100 dX8_open_3 (zT_is hS s_66) (zT_h hS s_66) rfl ⟨by decide, by decide⟩ ?_
  show ma_wp X d w 100 4 [(0, .inr (.inr (some 87))), (1, .inr (.inr (some 66)))] [.inl (mI S 66 0), .inr (.inr (some 87))] S _
  refine zw_pf hm_100 dX8_open_4 (zT_is hS s_87) (zT_t hS s_87) p_8_9_6 zk_int ?_
  refine zw_push hm_100 dX8_open_7 (v := .inr (.inr (some 87))) rfl ?_
  refine zw_push hm_100 dX8_open_8 (v := .inr (.inr (some 66))) rfl ?_
  refine zw_push hm_100 dX8_open_9 (v := .inl (1 : Int32)) rfl ?_
  refine zw_ia hm_100 dX8_open_10 (zT_is (zT_pi hS) s_66) (zT_h (zT_pi hS) s_66) rfl ⟨by decide, by decide⟩ ?_
  show ma_wp X d w 100 11 [(0, .inr (.inr (some 87))), (1, .inr (.inr (some 66)))] [.inl (mI S 66 1), .inr (.inr (some 87))] (ma_put S 87 0 (.inl (mI S 66 0))) _
  refine zw_pf hm_100 dX8_open_11 (zT_is (zT_pi hS) s_87) (zT_t (zT_pi hS) s_87) p_8_15_6 zk_int ?_
  refine zw_push hm_100 dX8_open_14 (v := .inr (.inr (some 87))) rfl ?_
  refine zw_push hm_100 dX8_open_15 (v := .inl (0 : Int32)) rfl ?_
  refine zw_pf hm_100 dX8_open_16 (zT_is (zT_pi (zT_pi hS)) s_87) (zT_t (zT_pi (zT_pi hS)) s_87) p_8_18_6 zk_int ?_
  exact zw_vret hm_100 dX8_open_19 h
theorem sp_100_87_66_s {X : Nat × (Nat → Int32)} {d w : Nat} {f : Nat → Nat → Int32} {r : Nat → Nat → Option Nat} {C Z N : Nat} {Q : Option ma_V ⊕ Nat → ma_S → Prop} {ab : Nat→Nat→Int32} {S : ma_S}  (hd : 0 ≤ d) (hw : 0 ≤ w) (hI : zJ87 f r C Z N S) (hpre0 : 0 ≤ (mI S 66 0).toInt ∧ (mI S 66 0).toInt ≤ 1500) (hpre1 : xB S (mR S 70)) (hpre2 : aS 88 S = ab) (K : ∀ S₉, zJ87 f r C Z N S₉ → (xB S₉ (mR S₉ 70)) → (aS 88 S₉ = aO1 ab (f 66)) → Q (.inl none) S₉) : ma_wp X d w 100 0 [(0, .inr (.inr (some 87))), (1, .inr (.inr (some 66)))] [] S Q := by
  refine g_100_87_66_s_0  (by omega) (by omega) (zG_T hI) ?_
  have q1 : (mI S 66 0).toInt = (f 66 0).toInt := zG_zi hI rfl
  have b2 := i_bd (mI S 66 0)
  have hI3 : zJ87 f r C Z N (ma_put S 87 0 (.inl (mI S 66 0))) := zG_sp hI (0) (1500) rfl (by decide) (by decide) (by decide) trivial (by omega) (by omega)
  have hI4 : zJ87 f r C Z N (ma_put (ma_put S 87 0 (.inl (mI S 66 0))) 87 1 (.inl (mI S 66 1))) := zG_fr hI3 rfl (by decide) (by decide) (by decide) trivial
  have li6 : (0 : Int32).toInt = 0 := rfl
  have hI5 : zJ87 f r C Z N (ma_put (ma_put (ma_put S 87 0 (.inl (mI S 66 0))) 87 1 (.inl (mI S 66 1))) 87 2 (.inl (0 : Int32))) := zG_sp hI4 (0) (400000) rfl (by decide) (by decide) (by decide) trivial (by omega) (by omega)
  exact K _ hI5 (show xB (ma_put (ma_put (ma_put S 87 0 (.inl (mI S 66 0))) 87 1 (.inl (mI S 66 1))) 87 2 (.inl (0 : Int32))) (mR (ma_put (ma_put (ma_put S 87 0 (.inl (mI S 66 0))) 87 1 (.inl (mI S 66 1))) 87 2 (.inl (0 : Int32))) 70) from by first | (exact xB_x (xC_p (c := 87) (k := 2) (x := (0 : Int32)) (xC_p (c := 87) (k := 1) (x := (mI S 66 1)) (xC_p (c := 87) (k := 0) (x := (mI S 66 0)) (xC_o (W := 75) hpre1) 87 xW75 rfl rfl) 87 xW75 rfl rfl) 87 xW75 rfl rfl).2)) (show aS 88 (ma_put (ma_put (ma_put S 87 0 (.inl (mI S 66 0))) 87 1 (.inl (mI S 66 1))) 87 2 (.inl (0 : Int32))) = aO1 ab (f 66) from by first | (refine (xC_p (c := 87) (k := 2) (x := (0 : Int32)) (xC_p (c := 87) (k := 1) (x := (mI S 66 1)) (xC_p (c := 87) (k := 0) (x := (mI S 66 0)) (xC_o (W := 88) hpre1) 87 xW88 rfl rfl) 87 xW88 rfl rfl) 87 xW88 rfl rfl).1.trans ?_; rw [hpre2, show mI S 66 0 = f 66 0 from zG_z hI rfl, show mI S 66 1 = f 66 1 from zG_z hI rfl]; rfl))
theorem g_66_87_66_s_0 {X : Nat × (Nat → Int32)} {d w : Nat} {S : ma_S} {Q : Option ma_V ⊕ Nat → ma_S → Prop}  (hd : 1 ≤ d) (hw : 21 ≤ w) (hS : zT S) (h : ma_wp X (d - 1) (w - 21) 100 0 [(0, .inr (.inr (some 87))), (1, .inr (.inr (some 66)))] [] S (zv (fun S1 => zT S1 ∧ (Q (.inl none) (ma_put (ma_put (ma_put S1 87 6 (.inl (mI S1 66 2))) 87 7 (.inl (mI S1 66 3))) 87 8 (.inl (0 : Int32))))) (fun _ _ => False))) : ma_wp X d w 66 0 [(0, .inr (.inr (some 87))), (1, .inr (.inr (some 66)))] [] S Q := by
  refine zw_push hm_66 dX6_open_0 (v := .inr (.inr (some 87))) rfl ?_
  refine zw_push hm_66 dX6_open_1 (v := .inr (.inr (some 66))) rfl ?_
  refine zw_csp hm_66 dX6_open_2 ip_6_20 il_6_20 hm_100 [.inr (.inr (some 66))] [] rfl (zT_is hS s_87) (by rw [(zT_t hS s_87)]; decide) ⟨by omega, by omega⟩ rfl (zw_mono h (zv_go ?_ ?_))
  · intro S1 hv
    obtain ⟨hS1, h⟩ := hv
    refine zw_push hm_66 dX6_open_5 (v := .inr (.inr (some 87))) rfl ?_
    refine zw_push hm_66 dX6_open_6 (v := .inr (.inr (some 66))) rfl ?_
    refine zw_push hm_66 dX6_open_7 (v := .inl (2 : Int32)) rfl ?_
    refine zw_ia hm_66 dX6_open_8 (zT_is hS1 s_66) (zT_h hS1 s_66) rfl ⟨by decide, by decide⟩ ?_
    show ma_wp X d w 66 9 [(0, .inr (.inr (some 87))), (1, .inr (.inr (some 66)))] [.inl (mI S1 66 2), .inr (.inr (some 87))] S1 _
    refine zw_pf hm_66 dX6_open_9 (zT_is hS1 s_87) (zT_t hS1 s_87) p_6_24_6 zk_int ?_
    refine zw_push hm_66 dX6_open_12 (v := .inr (.inr (some 87))) rfl ?_
    refine zw_push hm_66 dX6_open_13 (v := .inr (.inr (some 66))) rfl ?_
    refine zw_push hm_66 dX6_open_14 (v := .inl (3 : Int32)) rfl ?_
    refine zw_ia hm_66 dX6_open_15 (zT_is (zT_pi hS1) s_66) (zT_h (zT_pi hS1) s_66) rfl ⟨by decide, by decide⟩ ?_
    show ma_wp X d w 66 16 [(0, .inr (.inr (some 87))), (1, .inr (.inr (some 66)))] [.inl (mI S1 66 3), .inr (.inr (some 87))] (ma_put S1 87 6 (.inl (mI S1 66 2))) _
    refine zw_pf hm_66 dX6_open_16 (zT_is (zT_pi hS1) s_87) (zT_t (zT_pi hS1) s_87) p_6_28_6 zk_int ?_
    refine zw_push hm_66 dX6_open_19 (v := .inr (.inr (some 87))) rfl ?_
    refine zw_push hm_66 dX6_open_20 (v := .inl (0 : Int32)) rfl ?_
    refine zw_pf hm_66 dX6_open_21 (zT_is (zT_pi (zT_pi hS1)) s_87) (zT_t (zT_pi (zT_pi hS1)) s_87) p_6_31_6 (zk_bool (by decide)) ?_
    exact zw_vret hm_66 dX6_open_24 h
  · intro x S9 hx
    exact hx.elim
theorem sp_66_87_66_s {X : Nat × (Nat → Int32)} {d w : Nat} {f : Nat → Nat → Int32} {r : Nat → Nat → Option Nat} {C Z N : Nat} {Q : Option ma_V ⊕ Nat → ma_S → Prop} {ab : Nat→Nat→Int32} {S : ma_S}  (hd : 1 ≤ d) (hw : 21 ≤ w) (hI : zJ87 f r C Z N S) (hpre0 : 0 ≤ (mI S 66 0).toInt ∧ (mI S 66 0).toInt ≤ 1500 ∧ -1 ≤ (mI S 66 2).toInt ∧ (mI S 66 2).toInt ≤ 1500) (hpre1 : xB S (mR S 70)) (hpre2 : aS 88 S = ab) (K : ∀ S₉, zJ87 f r C Z N S₉ → (xB S₉ (mR S₉ 70)) → (aS 88 S₉ = aO2 ab (f 66)) → Q (.inl none) S₉) : ma_wp X d w 66 0 [(0, .inr (.inr (some 87))), (1, .inr (.inr (some 66)))] [] S Q := by
  refine g_66_87_66_s_0  (by omega) (by omega) (zG_T hI) ?_
  have q1 : (mI S 66 0).toInt = (f 66 0).toInt := zG_zi hI rfl
  have b2 := i_bd (mI S 66 0)
  have q3 : (mI S 66 2).toInt = (f 66 2).toInt := zG_zi hI rfl
  have b4 := i_bd (mI S 66 2)
  refine sp_100_87_66_s (ab := (aS 88 S)) (by omega) (by omega) hI (show 0 ≤ (mI S 66 0).toInt ∧ (mI S 66 0).toInt ≤ 1500 from by omega) (show xB S (mR S 70) from by first | (exact xB_x (xC_o (W := 75) hpre1).2)) (show aS 88 S = (aS 88 S) from by first | (exact rfl)) (fun S1 hI_S1 rp0_S1 rp1_S1 => zv_n ⟨zG_T hI_S1, ?_⟩)
  have rp0_S1 : xB S1 (mR S1 70) := rp0_S1
  have rp1_S1 : aS 88 S1 = aO1 (aS 88 S) (f 66) := rp1_S1
  have q6 : (mI S1 66 2).toInt = (f 66 2).toInt := zG_zi hI_S1 rfl
  have b7 := i_bd (mI S1 66 2)
  have hI5 : zJ87 f r C Z N (ma_put S1 87 6 (.inl (mI S1 66 2))) := zG_sp hI_S1 (-1) (1500) rfl (by decide) (by decide) (by decide) trivial (by omega) (by omega)
  have hI8 : zJ87 f r C Z N (ma_put (ma_put S1 87 6 (.inl (mI S1 66 2))) 87 7 (.inl (mI S1 66 3))) := zG_fr hI5 rfl (by decide) (by decide) (by decide) trivial
  have li10 : (0 : Int32).toInt = 0 := rfl
  have hI9 : zJ87 f r C Z N (ma_put (ma_put (ma_put S1 87 6 (.inl (mI S1 66 2))) 87 7 (.inl (mI S1 66 3))) 87 8 (.inl (0 : Int32))) := zG_sp hI8 (0) (1) rfl (by decide) (by decide) (by decide) trivial (by omega) (by omega)
  exact K _ hI9 (show xB (ma_put (ma_put (ma_put S1 87 6 (.inl (mI S1 66 2))) 87 7 (.inl (mI S1 66 3))) 87 8 (.inl (0 : Int32))) (mR (ma_put (ma_put (ma_put S1 87 6 (.inl (mI S1 66 2))) 87 7 (.inl (mI S1 66 3))) 87 8 (.inl (0 : Int32))) 70) from by first | (exact xB_x (xC_p (c := 87) (k := 8) (x := (0 : Int32)) (xC_p (c := 87) (k := 7) (x := (mI S1 66 3)) (xC_p (c := 87) (k := 6) (x := (mI S1 66 2)) (xC_o (W := 75) rp0_S1) 87 xW75 rfl rfl) 87 xW75 rfl rfl) 87 xW75 rfl rfl).2)) (show aS 88 (ma_put (ma_put (ma_put S1 87 6 (.inl (mI S1 66 2))) 87 7 (.inl (mI S1 66 3))) 87 8 (.inl (0 : Int32))) = aO2 ab (f 66) from by first | (refine (xC_p (c := 87) (k := 8) (x := (0 : Int32)) (xC_p (c := 87) (k := 7) (x := (mI S1 66 3)) (xC_p (c := 87) (k := 6) (x := (mI S1 66 2)) (xC_o (W := 88) rp0_S1) 87 xW88 rfl rfl) 87 xW88 rfl rfl) 87 xW88 rfl rfl).1.trans ?_; rw [rp1_S1, hpre2, show mI S1 66 2 = f 66 2 from zG_z hI_S1 rfl, show mI S1 66 3 = f 66 3 from zG_z hI_S1 rfl]; rfl))

/-! from 95.g67 -/
/-! the heap by numbers, the class (written by wip/tools/gen18.py) -/
/-! PICTURE: two walks in another order, alike in what they will have come to -/
section PP
variable {a b : Nat → Nat → Int32} {y : Int32} {N D : Nat → Prop} {E : Nat → Nat → Prop} {x k z : Nat}
/-- one more comes: told by what would come anyhow -/
theorem zM_gy {T : Nat → Prop} (hd : ∀ u, D u → N u) : zM (fun u => N u ∨ T u) D E x ↔ zM (fun u => zM N D E u ∨ T u) (zM N D E) E x := by
  constructor
  · intro h
    refine h _ (fun g w => zM_in (w.elim (fun q => Or.inl (zM_in q)) Or.inr)) (fun u y hu hn e => ?_)
    by_cases w : zM N D E u
    · exact zM_in (Or.inl (zM_cl w hn e))
    · exact zM_cl hu w e
  · intro h
    refine h _ (fun g w => ?_) (fun u y hu hn e => zM_cl hu (fun q => hn (zM_in (hd u q))) e)
    rcases w with w | w
    · exact w _ (fun u q => zM_in (Or.inl q)) (fun u y hu hn e => zM_cl hu hn e)
    · exact zM_in (Or.inr w)
theorem Dn_Nn {u : Nat} (h : zDn a u) : zNn a u := ⟨h.1, by rw [h.2]; decide⟩
theorem Mk_cm (h : zWQ a) : zMk (aCm a y) x ↔ zM (fun u => zMk a u ∨ (xAl a u ∧ y = Int32.ofNat u)) (zMk a) (zEd a) x := by
  have g := gr_cm (y := y) h
  exact (zM_cg g.2.2.2.1 g.2.2.1 (fun u y => Of_ed g.2.1)).trans (zM_gy (fun u w => Dn_Nn w))
def cD (a : Nat → Nat → Int32) : Nat := cnt (fun x => if a 77 x = 2 then 1 else 0) 512
theorem cD_0 {j : Nat} : (if a 77 j = 2 then (1 : Int32) else 0) = 0 ↔ ¬ a 77 j = 2 := by
  by_cases h : a 77 j = 2
  · rw [if_pos h]
    exact ⟨fun w => absurd w (by decide), fun w => absurd h w⟩
  · rw [if_neg h]
    exact ⟨fun _ => h, fun _ => rfl⟩
theorem cD_cg (h : ∀ u, zDn a u ↔ zDn b u) : cD a = cD b := by
  refine cnt_congr (fun j hj => ?_)
  rw [cD_0, cD_0]
  have q := h j
  unfold zDn at q
  constructor
  · intro w w2
    exact w (q.mpr ⟨hj, w2⟩).2
  · intro w w2
    exact w (q.mp ⟨hj, w2⟩).2
theorem cD_up (hz : z < 512) (hn : ¬ zDn a z) (h : ∀ u, zDn b u ↔ zDn a u ∨ u = z) : cD b = cD a + 1 := by
  have q := cnt_up (m := fun _ x => if a 77 x = 2 then (1 : Int32) else 0) (c := 0) (k := z) (x := 1) (n := 512) hz (cD_0.mpr (fun w => hn ⟨hz, w⟩)) (by decide)
  have q2 : cD b = cnt (ma_u (fun _ x => if a 77 x = 2 then (1 : Int32) else 0) 0 z 1 0) 512 := by
    refine cnt_congr (fun j hj => ?_)
    rw [cD_0]
    by_cases w : j = z
    · rw [w, xu_s]
      exact ⟨fun w2 => absurd ((h z).mpr (Or.inr rfl)).2 w2, fun w2 => absurd w2 (by decide)⟩
    · rw [xu_o (fun w2 => w w2.2), cD_0]
      have p := h j
      constructor
      · intro w2 w3
        exact w2 (p.mpr (Or.inl ⟨hj, w3⟩)).2
      · intro w2 w3
        rcases p.mp ⟨hj, w3⟩ with w4 | w4
        · exact w2 w4.2
        · exact w w4
  rw [q2, q]
  rfl
theorem cD_lt (h : ∀ u, zDn b u → zDn a u) (h1 : zDn a z) (h2 : ¬ zDn b z) : cD b < cD a := by
  have q := cnt_up (m := fun _ x => if b 77 x = 2 then (1 : Int32) else 0) (c := 0) (k := z) (x := 1) (n := 512) h1.1 (cD_0.mpr (fun w => h2 ⟨h1.1, w⟩)) (by decide)
  have q2 : cnt (ma_u (fun _ x => if b 77 x = 2 then (1 : Int32) else 0) 0 z 1 0) 512 ≤ cD a := by
    refine cnt_mono (fun j hj w => ?_)
    intro w3
    rw [cD_0] at w3
    by_cases w2 : j = z
    · rw [w2] at w3
      exact w3 h1.2
    · rw [xu_o (fun w4 => w2 w4.2)] at w
      apply w
      rw [cD_0]
      exact fun w5 => w3 (h j ⟨hj, w5⟩).2
  have e : cnt (fun x => if b 77 x = 2 then (1 : Int32) else 0) 512 = cD b := rfl
  have q3 : cnt (ma_u (fun _ x => if b 77 x = 2 then (1 : Int32) else 0) 0 z 1 0) 512 = cD b + 1 := q
  omega
def zPP (a b : Nat → Nat → Int32) : Prop := zOf a b ∧ zWQ a ∧ zWQ b ∧ a 75 3 = b 75 3 ∧ (∀ x, zMk a x ↔ zMk b x) ∧ cD a = cD b
theorem Of_sy (h : zOf a b) : zOf b a := fun c k w1 w2 w3 => (h c k w1 w2 w3).symm
theorem PP_sy (h : zPP a b) : zPP b a := ⟨Of_sy h.1, h.2.2.1, h.2.1, h.2.2.2.1.symm, fun x => (h.2.2.2.2.1 x).symm, h.2.2.2.2.2.symm⟩
theorem PP_cm (h : zPP a b) : zPP (aCm a y) (aCm b y) := by
  refine ⟨Of_tr (Of_sy cm_of) (Of_tr h.1 cm_of), WQ_cm h.2.1, WQ_cm h.2.2.1, ?_, fun x => ?_, ?_⟩
  · rw [cm_3, cm_3]
    exact h.2.2.2.1
  · rw [Mk_cm h.2.1, Mk_cm h.2.2.1]
    refine zM_cg (fun u => ?_) h.2.2.2.2.1 (fun u y => (Of_ed h.1).symm)
    rw [h.2.2.2.2.1 u, Of_al h.1]
  · rw [cD_cg (fun u => Dn_cm (a := a) (y := y) (u := u)), cD_cg (fun u => Dn_cm (a := b) (y := y) (u := u))]
    exact h.2.2.2.2.2
theorem PP_em1 (h : zPP a b) (he : ¬ (a 75 3).toInt < (a 75 4).toInt) : ¬ (b 75 3).toInt < (b 75 4).toInt := by
  intro hl
  have wb := h.2.2.1
  have ch := tn_cast wb.1.1
  have p := wb.2.1 (b 75 3).toNatClampNeg (by omega) (by omega)
  have cq := tn_cast p.1
  generalize b 76 (b 75 3).toNatClampNeg = q at *
  have hz : q.toNatClampNeg < 512 := by
    have := p.2.1
    omega
  have nb : zNn b q.toNatClampNeg := ⟨hz, by rw [p.2.2.2]; decide⟩
  have ma : ∀ u, zNn b u → zDn a u := fun u w => by
    have w1 := (h.2.2.2.2.1 u).mpr (zM_in w)
    have w2 := (Nn_end h.2.1 he).mp w1
    refine ⟨w2.1, ?_⟩
    rcases h.2.1.2.2.2.2.1 u w2.1 with w3 | w3 | w3
    · exact absurd w3 w2.2
    · obtain ⟨j, j1, j2, _⟩ := h.2.1.2.2.2.1 u w2.1 w3
      omega
    · exact w3
  have := cD_lt (a := a) (b := b) (z := q.toNatClampNeg) (fun u w => ma u (Dn_Nn w)) (ma _ nb) (fun w => by
    have := w.2
    rw [p.2.2.2] at this
    exact absurd this (by decide))
  have := h.2.2.2.2.2
  omega
theorem PP_em (h : zPP a b) : (a 75 3).toInt < (a 75 4).toInt ↔ (b 75 3).toInt < (b 75 4).toInt := by
  constructor
  · intro w
    exact Classical.byContradiction (fun q => PP_em1 (PP_sy h) q w)
  · intro w
    exact Classical.byContradiction (fun q => PP_em1 h q w)
theorem PP_pop (h : zPP a b) (hl : (a 75 3).toInt < (a 75 4).toInt) : zPP (aPop a) (aPop b) := by
  have pa := pop_all h.2.1 hl
  have pb := pop_all h.2.2.1 ((PP_em h).mp hl)
  obtain ⟨z1, z2, z3, z4⟩ := pa.2.2.2.2
  obtain ⟨y1, y2, y3, y4⟩ := pb.2.2.2.2
  refine ⟨Of_tr (Of_sy pa.2.1) (Of_tr h.1 pb.2.1), pa.1, pb.1, ?_, fun x => ?_, ?_⟩
  · apply Int32.toInt_inj.mp
    rw [pa.2.2.2.1, pb.2.2.2.1, h.2.2.2.1]
  · rw [pa.2.2.1 x, pb.2.2.1 x]
    exact h.2.2.2.2.1 x
  · rw [cD_up z2 z3 z4, cD_up y2 y3 y4, h.2.2.2.2.2]
theorem PP_sp : ∀ (k : Nat) (a b : Nat → Nat → Int32), zPP a b → zPP (aSp k a) (aSp k b) ∧ aSn k a = aSn k b := by
  intro k
  induction k with
  | zero => intro a b h; exact ⟨h, rfl⟩
  | succ k ih =>
    intro a b h
    by_cases hl : (a 75 3).toInt < (a 75 4).toInt
    · have hb := (PP_em h).mp hl
      rw [aSp_go hl, aSp_go hb, aSn_go hl, aSn_go hb]
      have q := ih _ _ (PP_pop h hl)
      exact ⟨q.1, by rw [q.2]⟩
    · have hb : ¬ (b 75 3).toInt < (b 75 4).toInt := fun w => hl ((PP_em h).mpr w)
      rw [aSp_st (Or.inr hl), aSp_st (Or.inr hb), aSn_st (Or.inr hl), aSn_st (Or.inr hb)]
      exact ⟨h, rfl⟩
end PP

/-! from 95.h00 -/
/-! the reference by numbers (written by wip/tools/gen18r.py) -/
theorem i_nz2 {x : Int32} (h : x.toInt ≠ 0) : x ≠ 0 := fun w => h (by rw [w]; rfl)
theorem i_one {x : Int32} (h : x.toInt = 1) : (1 : Int32) = x := Int32.toInt_inj.mp (by rw [h]; rfl)
theorem i_zer {x : Int32} (h : x.toInt = 0) : x = 0 := Int32.toInt_inj.mp (by rw [h]; rfl)

