/-! the collectors that sweep, the class (written by wip/tools/gen20.py) -/
/-! ROW 87 IS NO MATTER OF A CLEANING -/
section O7
variable {a b c : Nat → Nat → Int32} {x y z i : Int32} {n k m : Nat} {p q : Int}
def zO7 (a b : Nat → Nat → Int32) : Prop := ∀ c k, c ≠ 87 → a c k = b c k
theorem o7_u (h : zO7 a b) : zO7 (ma_u a n k x) (ma_u b n k x) := fun c' k' q => by
  by_cases w : c' = n ∧ k' = k
  · rw [w.1, w.2, xu_s, xu_s]
  · rw [xu_o w, xu_o w]
    exact h c' k' q
theorem o7_cm (h : zO7 a b) : zO7 (aCm a y) (aCm b y) := by
  unfold aCm
  rw [h 126 _ (by decide), h 75 5 (by decide), h 130 _ (by decide), h 75 4 (by decide), h 77 _ (by decide)]
  split
  · exact o7_u (o7_u (o7_u h))
  · exact h
theorem o7_ref (h : zO7 a b) : aRef a m i = aRef b m i := by
  unfold aRef
  rw [h (1000 + m) _ (by omega), h 130 _ (by decide), h 71 _ (by decide)]
theorem o7_cwf : ∀ (f : Nat) (i : Int32) (a b : Nat → Nat → Int32), zO7 a b → zO7 (aCwf m f i a) (aCwf m f i b) := by
  intro f
  induction f with
  | zero => intro i a b h; exact h
  | succ f ih =>
    intro i a b h
    show zO7 (aCwf m f (i + 1) (aCm a (aRef a m i))) (aCwf m f (i + 1) (aCm b (aRef b m i)))
    rw [o7_ref h]
    exact ih _ _ _ (o7_cm h)
theorem o7_pop (h : zO7 a b) : zO7 (aPop a) (aPop b) := by
  unfold aPop
  rw [h 75 3 (by decide), h 76 _ (by decide), h 126 _ (by decide)]
  have s : ∀ z, zO7 (ma_u (ma_u a 75 3 (b 75 3 + 1)) 77 z 2) (ma_u (ma_u b 75 3 (b 75 3 + 1)) 77 z 2) := fun z => o7_u (o7_u h)
  split
  · unfold aCw
    rw [s _ 128 _ (by decide)]
    exact o7_cwf _ _ _ _ (s _)
  · exact o7_u h
theorem o7_sp : ∀ (f : Nat) (a b : Nat → Nat → Int32), zO7 a b → zO7 (aSp f a) (aSp f b) := by
  intro f
  induction f with
  | zero => intro a b h; exact h
  | succ f ih =>
    intro a b h
    show zO7 (if (a 75 3).toInt < (a 75 4).toInt then aSp f (aPop a) else a) (if (b 75 3).toInt < (b 75 4).toInt then aSp f (aPop b) else b)
    rw [h 75 3 (by decide), h 75 4 (by decide)]
    split
    · exact ih _ _ (o7_pop h)
    · exact h
theorem o7_hf : ∀ (f : Nat) (n : Int32) (a b : Nat → Nat → Int32), zO7 a b → zO7 (aHf f n a) (aHf f n b) := by
  intro f
  induction f with
  | zero => intro n a b h; exact h
  | succ f ih =>
    intro n a b h
    show zO7 (aHf f (n + 1) (if 0 ≤ n.toInt ∧ n.toInt < 512 ∧ a 126 n.toNatClampNeg ≠ 0 ∧ 0 < (a 133 n.toNatClampNeg).toInt then aCm a n else a)) (aHf f (n + 1) (if 0 ≤ n.toInt ∧ n.toInt < 512 ∧ b 126 n.toNatClampNeg ≠ 0 ∧ 0 < (b 133 n.toNatClampNeg).toInt then aCm b n else b))
    rw [h 126 _ (by decide), h 133 _ (by decide)]
    split
    · exact ih _ _ _ (o7_cm h)
    · exact ih _ _ _ h
theorem o7_wf : ∀ (f : Nat) (n : Int32) (a b : Nat → Nat → Int32), zO7 a b → zO7 (aWf f n a) (aWf f n b) := by
  intro f
  induction f with
  | zero =>
    intro n a b h
    show zO7 (aHo a 0) (aHo b 0)
    unfold aHo
    rw [h 69 6 (by decide)]
    exact o7_hf _ _ _ _ h
  | succ f ih =>
    intro n a b h
    show zO7 (aWf f (n + 1) (aCm a (a 74 n.toNatClampNeg))) (aWf f (n + 1) (aCm b (b 74 n.toNatClampNeg)))
    rw [h 74 _ (by decide)]
    exact ih _ _ _ (o7_cm h)
theorem o7_rf : ∀ (f : Nat) (n : Int32) (a b : Nat → Nat → Int32), zO7 a b → zO7 (aRf f n a) (aRf f n b) := by
  intro f
  induction f with
  | zero =>
    intro n a b h
    show zO7 (aWi a 0) (aWi b 0)
    unfold aWi
    rw [h 69 5 (by decide)]
    exact o7_wf _ _ _ _ h
  | succ f ih =>
    intro n a b h
    show zO7 (aRf f (n + 1) (aCm a (a 72 n.toNatClampNeg))) (aRf f (n + 1) (aCm b (b 72 n.toNatClampNeg)))
    rw [h 72 _ (by decide)]
    exact ih _ _ _ (o7_cm h)
theorem o7_ra (h : zO7 a b) : zO7 (aRA a) (aRA b) := by
  have w : zO7 (aWh a 0) (aWh b 0) := by
    unfold aWh
    refine o7_u (o7_u (o7_u (fun c' k' q => ?_)))
    unfold zFl
    rw [h c' k' q]
  exact o7_sp 512 _ _ (o7_rf _ _ _ _ w)
theorem o7_uw (h : zO7 a b) : zO7 (zUw a y p) (zUw b y p) := fun c' k' q => by
  unfold zUw
  rw [h 73 k' (by decide), h c' k' q]
theorem o7_gr (h : zO7 a b) : zO7 (aGr a y) (aGr b y) := by
  unfold aGr
  rw [h 69 5 (by decide)]
  split
  · exact o7_u (o7_u (o7_u (o7_uw h)))
  · exact o7_u (o7_uw h)
theorem o7_gf : ∀ (f : Nat) (n : Int32) (a b : Nat → Nat → Int32), zO7 a b → zO7 (aGf f n a) (aGf f n b) := by
  intro f
  induction f with
  | zero => intro n a b h; exact h
  | succ f ih =>
    intro n a b h
    have e : aGc a n ↔ aGc b n := by
      unfold aGc
      rw [h 126 _ (by decide), h 134 _ (by decide), h 75 5 (by decide), h 130 _ (by decide), h 77 _ (by decide)]
    by_cases w : aGc b n
    · rw [aGf_y w, aGf_y (e.mpr w)]
      exact ih _ _ _ (o7_sp 512 _ _ (o7_cm (o7_gr h)))
    · rw [aGf_n w, aGf_n (fun z => w (e.mp z))]
      exact ih _ _ _ h
theorem o7_rm (h : zO7 a b) : zO7 (aRm a y) (aRm b y) := by
  have f : ∀ p e : Int, zO7 (zFr (zUw a y 16) p e) (zFr (zUw b y 16) p e) := fun p e c' k' q => by
    unfold zFr
    rw [o7_uw h c' k' q]
  have g : ∀ (p e : Int) (m : Nat), zO7 (zNo (zFr (zUw a y 16) p e) m) (zNo (zFr (zUw b y 16) p e) m) := fun p e m c' k' q => by
    unfold zNo
    rw [f p e c' k' q]
  unfold aRm
  rw [h 130 _ (by decide), h 128 _ (by decide), h 69 8 (by decide), h 69 11 (by decide)]
  exact o7_u (o7_u (g _ _ _))
theorem o7_mf : ∀ (f : Nat) (n : Int32) (a b : Nat → Nat → Int32), zO7 a b → zO7 (aMf f n a) (aMf f n b) := by
  intro f
  induction f with
  | zero => intro n a b h; exact h
  | succ f ih =>
    intro n a b h
    have e : aMc a n ↔ aMc b n := by
      unfold aMc
      rw [h 126 _ (by decide), h 75 5 (by decide), h 130 _ (by decide), h 77 _ (by decide)]
    by_cases w : aMc b n
    · rw [aMf_y w, aMf_y (e.mpr w)]
      exact ih _ _ _ (o7_rm h)
    · rw [aMf_n w, aMf_n (fun z => w (e.mp z))]
      exact ih _ _ _ h
theorem o7_gw (h : zO7 a b) : zO7 (aGw a 0) (aGw b 0) := by
  unfold aGw
  rw [h 69 6 (by decide)]
  exact o7_gf _ _ _ _ h
theorem o7_sw (h : zO7 a b) : zO7 (aSw a) (aSw b) := by
  have g := o7_gw (o7_ra h)
  unfold aSw
  generalize aGw (aRA a) 0 = A at *
  generalize aGw (aRA b) 0 = B at *
  unfold aMv
  rw [g 69 6 (by decide)]
  exact o7_mf _ _ _ _ g
theorem sw_87 : aSw a 87 k = a 87 k := by
  unfold aSw aMv
  rw [aMf_87]
  unfold aGw
  rw [aGf_87]
  unfold aRA
  rw [aSp_o ⟨by decide, by decide, by decide⟩, aRo_o ⟨by decide, by decide, by decide⟩]
  unfold aWh
  rw [xu_o (by omega), xu_o (by omega), xu_o (by omega)]
  unfold zFl
  rw [if_neg (by omega)]
theorem sv_eq (h : zO7 a b) : aSv a = aSv b := by
  unfold aSv
  rw [o7_sw h 69 11 (by decide), o7_gw (o7_ra h) 69 11 (by decide)]
theorem T_sw {P : Nat} {S S' : ma_S} (h : aS 75 S' = aSw (aS 75 S)) (h2 : ∀ k, zfP P (mI S') k = zfP P (mI S) k) : aT P S' = aSw (aT P S) := by
  have o : zO7 (aS 75 S) (aT P S) := fun c k q => (aT_o q).symm
  funext c k
  by_cases w : c = 87
  · rw [w, sw_87]
    unfold aT
    rw [if_pos rfl, if_pos rfl, h2]
  · rw [aT_o w, h]
    exact o7_sw o c k w
theorem T_sv {P : Nat} {S : ma_S} : aSv (aS 75 S) = aSv (aT P S) := sv_eq (fun c k q => (aT_o q).symm)
theorem zf_79 {S S' : ma_S} (h : mI S' 79 = mI S 79) : ∀ k, zfP 79 (mI S') k = zfP 79 (mI S) k := fun k => by
  unfold zfP
  rw [if_pos rfl, if_pos rfl, h]
theorem zf_84 {S S' : ma_S} (h : mI S' 84 = mI S 84) : ∀ k, zfP 84 (mI S') k = zfP 84 (mI S) k := fun k => by
  unfold zfP
  have e : ¬ (84 : Nat) = 79 := by decide
  rw [if_neg e, if_neg e, h]
end O7
/-! ROOM WHERE IT IS SWEPT, and a new one there -/
def zRs (a : Nat → Nat → Int32) (z : Int) : Nat → Nat → Int32 := if aFt a z = -1 then aSw a else a
def zRp (a : Nat → Nat → Int32) (z : Int) : Int := aFt (zRs a z) z
section ZR
variable {a b : Nat → Nat → Int32} {z : Int} {y w pl x : Int32} {k : Nat}
theorem zRs_1 (h : aFt a z ≠ -1) : zRs a z = a := if_neg h
theorem zRs_2 (h : aFt a z = -1) : zRs a z = aSw a := if_pos h
theorem zRs_87 : zRs a z 87 k = a 87 k := by
  unfold zRs
  split
  · exact sw_87
  · rfl
def sMk (a : Nat → Nat → Int32) (kd wd : Int32) (L : Int64) (rt : Int32) : Nat → Nat → Int32 := if (a 69 6).toInt < 512 then (if zRp a (wd + 1).toInt = -1 then zRs a (wd + 1).toInt else aRt (aMd (aAd (zRs a (wd + 1).toInt) (zRs a (wd + 1).toInt 69 6) (zFn (zRs a (wd + 1).toInt 69 6) kd (wd + 1) (Int32.ofInt (zRp a (wd + 1).toInt))) L) (zRs a (wd + 1).toInt 69 6)) rt (zRs a (wd + 1).toInt 69 6)) else a
def sMn (a : Nat → Nat → Int32) (wd : Int32) : Int32 := if (a 69 6).toInt < 512 then (if zRp a (wd + 1).toInt = -1 then -1 else zRs a (wd + 1).toInt 69 6) else -1
theorem sMk_0 {kd wd rt : Int32} {L : Int64} (h : ¬ (a 69 6).toInt < 512) : sMk a kd wd L rt = a ∧ sMn a wd = -1 := ⟨if_neg h, if_neg h⟩
theorem sMk_1 {kd wd rt : Int32} {L : Int64} (h : (a 69 6).toInt < 512) (h1 : zRp a (wd + 1).toInt = -1) : sMk a kd wd L rt = zRs a (wd + 1).toInt ∧ sMn a wd = -1 := by
  unfold sMk sMn
  rw [if_pos h, if_pos h, if_pos h1, if_pos h1]
  exact ⟨rfl, rfl⟩
theorem sMk_2 {kd wd rt : Int32} {L : Int64} {b : Nat → Nat → Int32} (h : (a 69 6).toInt < 512) (e : b = zRs a (wd + 1).toInt) (h1 : pl.toInt = zRp a (wd + 1).toInt) (h2 : ¬ pl.toInt = -1) (hy : y = b 69 6) : sMk a kd wd L rt = aRt (aMd (aAd b y (zFn y kd (wd + 1) pl) L) y) rt y ∧ sMn a wd = y := by
  unfold sMk sMn
  rw [if_pos h, if_pos h, ← h1, if_neg h2, if_neg h2, ← e, hy, Int32.ofInt_toInt]
  exact ⟨rfl, rfl⟩
theorem Ne_o0 {aa : Nat → Nat → Int32} (hI : qI (zRs aa (w + 1).toInt)) (hR : qEq pl.toInt (zRp aa (w + 1).toInt)) (h0 : 0 ≤ pl.toInt) (hw : 0 ≤ w.toInt) (hw6 : w.toInt ≤ 60) (hy : zRs aa (w + 1).toInt 69 6 = y) (hy5 : y.toInt < 512) : qNe (zRs aa (w + 1).toInt) y w pl := by
  have e1 := i_p1 (i := w) (by omega)
  have q := qE hR
  unfold zRp at q
  have f := Ft_fs hI (z := (w + 1).toInt) (by omega) (by rw [← q]; omega)
  rw [← q] at f
  rw [e1] at f
  exact ⟨hI, hy.symm, hy5, ⟨hw, hw6⟩, by rw [e1]; exact f⟩
end ZR
theorem g_102_79_s_0 {X : Nat × (Nat → Int32)} {d w : Nat} {S : ma_S} {Q : Option ma_V ⊕ Nat → ma_S → Prop} (z : Int32) (hd : 5 ≤ d) (hw : 114 ≤ w) (hS : zT S) (h : ma_wp X (d - 1) (w - 21) 103 0 [(0, .inr (.inr (some 79))), (1, .inl z)] [] S (zi (fun v2 S1 => zT S1 ∧ (if v2 = (-1 : Int32) then (ma_wp X (d - 1) (w - 20) 109 0 [(0, .inr (.inr (some 79)))] [] S1 (zi (fun v4 S3 => zT S3 ∧ (ma_wp X (d - 1) (w - 21) 103 0 [(0, .inr (.inr (some 79))), (1, .inl z)] [] S3 (zi (fun v6 S5 => zT S5 ∧ (Q (.inl (some (.inl v6))) S5)) (fun x S9 => Q (.inr x) S9)))) (fun x S9 => Q (.inr x) S9))) else (Q (.inl (some (.inl v2))) S1))) (fun x S9 => Q (.inr x) S9))) : ma_wp X d w 102 0 [(0, .inr (.inr (some 79))), (1, .inl z)] [] S Q := by
  refine zw_push hm_102 dX8_findRoom_0 (v := .inr (.inr (some 79))) rfl ?_
  refine zw_push hm_102 dX8_findRoom_1 (v := .inl z) rfl ?_
  refine zw_cv hm_102 dX8_findRoom_2 v_8_21_8 hm_103 [.inl z] [] rfl (zT_rt hS s_79 rfl) ⟨by omega, by omega⟩ rfl (zw_mono h (zi_go ?_ ?_))
  · intro v2 S1 hv
    obtain ⟨hS1, h⟩ := hv
    refine zw_sto hm_102 dX8_findRoom_5 [(2, .inl v2), (0, .inr (.inr (some 79))), (1, .inl z)] rfl rfl rfl ?_
    refine zw_push hm_102 dX8_findRoom_6 (v := .inl v2) rfl ?_
    refine zw_push hm_102 dX8_findRoom_7 (v := .inl (-1 : Int32)) rfl ?_
    refine zw_if2 hm_102 dX8_findRoom_8 (t := 22) rfl zc2_ne ?_ ?_
    · intro hc
      rw [if_neg hc] at h
      refine zw_push hm_102 dX8_findRoom_22 (v := .inl v2) rfl ?_
      exact zw_iret hm_102 dX8_findRoom_23 h
    · intro hc
      rw [if_pos (Classical.not_not.mp hc)] at h
      refine zw_push hm_102 dX8_findRoom_11 (v := .inr (.inr (some 79))) rfl ?_
      refine zw_cv hm_102 dX8_findRoom_12 v_8_25_8 hm_109 [] [] rfl (zT_rt hS1 s_79 rfl) ⟨by omega, by omega⟩ rfl (zw_mono h (zi_go ?_ ?_))
      · intro v4 S3 hv
        obtain ⟨hS3, h⟩ := hv
        refine zw_stk hm_102 dX8_findRoom_15 (st' := []) rfl rfl ?_
        refine zw_push hm_102 dX8_findRoom_16 (v := .inr (.inr (some 79))) rfl ?_
        refine zw_push hm_102 dX8_findRoom_17 (v := .inl z) rfl ?_
        refine zw_cv hm_102 dX8_findRoom_18 v_8_21_8 hm_103 [.inl z] [] rfl (zT_rt hS3 s_79 rfl) ⟨by omega, by omega⟩ rfl (zw_mono h (zi_go ?_ ?_))
        · intro v6 S5 hv
          obtain ⟨hS5, h⟩ := hv
          refine zw_sto hm_102 dX8_findRoom_21 [(2, .inl v6), (0, .inr (.inr (some 79))), (1, .inl z)] rfl rfl rfl ?_
          refine zw_push hm_102 dX8_findRoom_22 (v := .inl v6) rfl ?_
          exact zw_iret hm_102 dX8_findRoom_23 h
        · intro x S9 hx
          exact ⟨by decide, hx⟩
      · intro x S9 hx
        exact ⟨by decide, hx⟩
  · intro x S9 hx
    exact ⟨by decide, hx⟩
theorem sp_102_79_s {X : Nat × (Nat → Int32)} {d w : Nat} {f : Nat → Nat → Int32} {r : Nat → Nat → Option Nat} {C Z N : Nat} {Q : Option ma_V ⊕ Nat → ma_S → Prop} {ab : Nat→Nat→Int32} {S : ma_S} (z : Int32) (hd : 5 ≤ d) (hw : 114 ≤ w) (hI : zJ79 f r C Z N S) (hpre0 : xB S (mR S 70)) (hpre1 : aT 79 S = ab) (K : ∀ v S', zJ79 f r C Z N S' → (-1 ≤ v.toInt ∧ v.toInt ≤ 1500) → (xB S' (mR S' 70)) → (aT 79 S' = zRs ab z.toInt ∧ v.toInt = zRp ab z.toInt) → Q (.inl (some (.inl v))) S') : ma_wp X d w 102 0 [(0, .inr (.inr (some 79))), (1, .inl z)] [] S Q := by
  refine g_102_79_s_0 z (by omega) (by omega) (zG_T hI) ?_
  have b1 := i_bd z
  refine sp_103_79_s (ab := (aT 79 S)) (z) (by omega) (by omega) hI (show xB S (mR S 70) from by first | (exact xB_x (xC_o (W := 75) hpre0).2)) (show aT 79 S = (aT 79 S) from by first | (exact rfl)) (fun v2 S1 hI_S1 hp_v2 rp0_S1 rp1_S1 rp2_S1 => zi_n ⟨zG_T hI_S1, ?_⟩)
  have rp0_S1 : xB S1 (mR S1 70) := rp0_S1
  have rp1_S1 : aT 79 S1 = (aT 79 S) := rp1_S1
  have rp2_S1 : v2.toInt = aFt (aT 79 S) z.toInt := rp2_S1
  have b2 := i_bd v2
  have li3 : (-1 : Int32).toInt = -1 := rfl
  refine zd (fun h4 => ?_) (fun h4 => ?_)
  · skip
    have g5 := i_eq h4
    refine sp_109_79_s (ab := (aS 75 S1)) (fp := (mI S1 79)) (by omega) (by omega) hI_S1 (show xB S1 (mR S1 70) from by first | (exact xB_x (xC_o (W := 75) rp0_S1).2)) (show aS 75 S1 = (aS 75 S1) from by first | (exact rfl)) (show (mI S1 79) = (mI S1 79) from by first | (exact rfl)) (fun v4 S3 hI_S3 hp_v4 rp0_S3 rp1_S3 rp2_S3 => zi_n ⟨zG_T hI_S3, ?_⟩)
    have rp0_S3 : xB S3 (mR S3 70) := rp0_S3
    have rp1_S3 : aS 75 S3 = aSw (aS 75 S1) ∧ v4 = aSv (aS 75 S1) := rp1_S3
    have rp2_S3 : (mI S3 79) = (mI S1 79) := rp2_S3
    refine sp_103_79_s (ab := (aT 79 S3)) (z) (by omega) (by omega) hI_S3 (show xB S3 (mR S3 70) from by first | (exact xB_x (xC_o (W := 75) rp0_S3).2)) (show aT 79 S3 = (aT 79 S3) from by first | (exact rfl)) (fun v6 S5 hI_S5 hp_v6 rp0_S5 rp1_S5 rp2_S5 => zi_n ⟨zG_T hI_S5, ?_⟩)
    have rp0_S5 : xB S5 (mR S5 70) := rp0_S5
    have rp1_S5 : aT 79 S5 = (aT 79 S3) := rp1_S5
    have rp2_S5 : v6.toInt = aFt (aT 79 S3) z.toInt := rp2_S5
    have b6 := i_bd v6
    exact K (v6) _ hI_S5 (by omega) (show xB S5 (mR S5 70) from by first | (exact xB_x (xC_o (W := 75) rp0_S5).2)) (show aT 79 S5 = zRs ab z.toInt ∧ v6.toInt = zRp ab z.toInt from by first | (have k1 := rp1_S1.trans hpre1; have v1 := rp2_S1; rw [hpre1] at v1; have k2 := (T_sw (P := 79) rp1_S3.1 (zf_79 rp2_S3)).trans (congrArg aSw k1); have k3 := rp1_S5.trans k2; have v3 := rp2_S5; rw [k2] at v3; have E := zRs_2 (a := ab) (z := z.toInt) (by rw [← v1]; omega); exact ⟨k3.trans E.symm, (by rw [zRp, E]; exact v3)⟩))
  · skip
    have g7 := i_ne h4
    exact K (v2) _ hI_S1 (by omega) (show xB S1 (mR S1 70) from by first | (exact xB_x (xC_o (W := 75) rp0_S1).2)) (show aT 79 S1 = zRs ab z.toInt ∧ v2.toInt = zRp ab z.toInt from by first | (have k1 := rp1_S1.trans hpre1; have v1 := rp2_S1; rw [hpre1] at v1; have E := zRs_1 (a := ab) (z := z.toInt) (by rw [← v1]; omega); exact ⟨k1.trans E.symm, (by rw [zRp, E]; exact v1)⟩))
theorem g_102_84_s_0 {X : Nat × (Nat → Int32)} {d w : Nat} {S : ma_S} {Q : Option ma_V ⊕ Nat → ma_S → Prop} (z : Int32) (hd : 5 ≤ d) (hw : 114 ≤ w) (hS : zT S) (h : ma_wp X (d - 1) (w - 21) 103 0 [(0, .inr (.inr (some 84))), (1, .inl z)] [] S (zi (fun v2 S1 => zT S1 ∧ (if v2 = (-1 : Int32) then (ma_wp X (d - 1) (w - 20) 109 0 [(0, .inr (.inr (some 84)))] [] S1 (zi (fun v4 S3 => zT S3 ∧ (ma_wp X (d - 1) (w - 21) 103 0 [(0, .inr (.inr (some 84))), (1, .inl z)] [] S3 (zi (fun v6 S5 => zT S5 ∧ (Q (.inl (some (.inl v6))) S5)) (fun x S9 => Q (.inr x) S9)))) (fun x S9 => Q (.inr x) S9))) else (Q (.inl (some (.inl v2))) S1))) (fun x S9 => Q (.inr x) S9))) : ma_wp X d w 102 0 [(0, .inr (.inr (some 84))), (1, .inl z)] [] S Q := by
  refine zw_push hm_102 dX8_findRoom_0 (v := .inr (.inr (some 84))) rfl ?_
  refine zw_push hm_102 dX8_findRoom_1 (v := .inl z) rfl ?_
  refine zw_cv hm_102 dX8_findRoom_2 v_8_21_2 hm_103 [.inl z] [] rfl (zT_rt hS s_84 rfl) ⟨by omega, by omega⟩ rfl (zw_mono h (zi_go ?_ ?_))
  · intro v2 S1 hv
    obtain ⟨hS1, h⟩ := hv
    refine zw_sto hm_102 dX8_findRoom_5 [(2, .inl v2), (0, .inr (.inr (some 84))), (1, .inl z)] rfl rfl rfl ?_
    refine zw_push hm_102 dX8_findRoom_6 (v := .inl v2) rfl ?_
    refine zw_push hm_102 dX8_findRoom_7 (v := .inl (-1 : Int32)) rfl ?_
    refine zw_if2 hm_102 dX8_findRoom_8 (t := 22) rfl zc2_ne ?_ ?_
    · intro hc
      rw [if_neg hc] at h
      refine zw_push hm_102 dX8_findRoom_22 (v := .inl v2) rfl ?_
      exact zw_iret hm_102 dX8_findRoom_23 h
    · intro hc
      rw [if_pos (Classical.not_not.mp hc)] at h
      refine zw_push hm_102 dX8_findRoom_11 (v := .inr (.inr (some 84))) rfl ?_
      refine zw_cv hm_102 dX8_findRoom_12 v_8_25_2 hm_109 [] [] rfl (zT_rt hS1 s_84 rfl) ⟨by omega, by omega⟩ rfl (zw_mono h (zi_go ?_ ?_))
      · intro v4 S3 hv
        obtain ⟨hS3, h⟩ := hv
        refine zw_stk hm_102 dX8_findRoom_15 (st' := []) rfl rfl ?_
        refine zw_push hm_102 dX8_findRoom_16 (v := .inr (.inr (some 84))) rfl ?_
        refine zw_push hm_102 dX8_findRoom_17 (v := .inl z) rfl ?_
        refine zw_cv hm_102 dX8_findRoom_18 v_8_21_2 hm_103 [.inl z] [] rfl (zT_rt hS3 s_84 rfl) ⟨by omega, by omega⟩ rfl (zw_mono h (zi_go ?_ ?_))
        · intro v6 S5 hv
          obtain ⟨hS5, h⟩ := hv
          refine zw_sto hm_102 dX8_findRoom_21 [(2, .inl v6), (0, .inr (.inr (some 84))), (1, .inl z)] rfl rfl rfl ?_
          refine zw_push hm_102 dX8_findRoom_22 (v := .inl v6) rfl ?_
          exact zw_iret hm_102 dX8_findRoom_23 h
        · intro x S9 hx
          exact ⟨by decide, hx⟩
      · intro x S9 hx
        exact ⟨by decide, hx⟩
  · intro x S9 hx
    exact ⟨by decide, hx⟩
theorem sp_102_84_s {X : Nat × (Nat → Int32)} {d w : Nat} {f : Nat → Nat → Int32} {r : Nat → Nat → Option Nat} {C Z N : Nat} {Q : Option ma_V ⊕ Nat → ma_S → Prop} {ab : Nat→Nat→Int32} {S : ma_S} (z : Int32) (hd : 5 ≤ d) (hw : 114 ≤ w) (hI : zJ84 f r C Z N S) (hpre0 : xB S (mR S 70)) (hpre1 : aT 84 S = ab) (K : ∀ v S', zJ84 f r C Z N S' → (-1 ≤ v.toInt ∧ v.toInt ≤ 1500) → (xB S' (mR S' 70)) → (aT 84 S' = zRs ab z.toInt ∧ v.toInt = zRp ab z.toInt) → Q (.inl (some (.inl v))) S') : ma_wp X d w 102 0 [(0, .inr (.inr (some 84))), (1, .inl z)] [] S Q := by
  refine g_102_84_s_0 z (by omega) (by omega) (zG_T hI) ?_
  have b1 := i_bd z
  refine sp_103_84_s (ab := (aT 84 S)) (z) (by omega) (by omega) hI (show xB S (mR S 70) from by first | (exact xB_x (xC_o (W := 75) hpre0).2)) (show aT 84 S = (aT 84 S) from by first | (exact rfl)) (fun v2 S1 hI_S1 hp_v2 rp0_S1 rp1_S1 rp2_S1 => zi_n ⟨zG_T hI_S1, ?_⟩)
  have rp0_S1 : xB S1 (mR S1 70) := rp0_S1
  have rp1_S1 : aT 84 S1 = (aT 84 S) := rp1_S1
  have rp2_S1 : v2.toInt = aFt (aT 84 S) z.toInt := rp2_S1
  have b2 := i_bd v2
  have li3 : (-1 : Int32).toInt = -1 := rfl
  refine zd (fun h4 => ?_) (fun h4 => ?_)
  · skip
    have g5 := i_eq h4
    refine sp_109_84_s (ab := (aS 75 S1)) (fp := (mI S1 84)) (by omega) (by omega) hI_S1 (show xB S1 (mR S1 70) from by first | (exact xB_x (xC_o (W := 75) rp0_S1).2)) (show aS 75 S1 = (aS 75 S1) from by first | (exact rfl)) (show (mI S1 84) = (mI S1 84) from by first | (exact rfl)) (fun v4 S3 hI_S3 hp_v4 rp0_S3 rp1_S3 rp2_S3 => zi_n ⟨zG_T hI_S3, ?_⟩)
    have rp0_S3 : xB S3 (mR S3 70) := rp0_S3
    have rp1_S3 : aS 75 S3 = aSw (aS 75 S1) ∧ v4 = aSv (aS 75 S1) := rp1_S3
    have rp2_S3 : (mI S3 84) = (mI S1 84) := rp2_S3
    refine sp_103_84_s (ab := (aT 84 S3)) (z) (by omega) (by omega) hI_S3 (show xB S3 (mR S3 70) from by first | (exact xB_x (xC_o (W := 75) rp0_S3).2)) (show aT 84 S3 = (aT 84 S3) from by first | (exact rfl)) (fun v6 S5 hI_S5 hp_v6 rp0_S5 rp1_S5 rp2_S5 => zi_n ⟨zG_T hI_S5, ?_⟩)
    have rp0_S5 : xB S5 (mR S5 70) := rp0_S5
    have rp1_S5 : aT 84 S5 = (aT 84 S3) := rp1_S5
    have rp2_S5 : v6.toInt = aFt (aT 84 S3) z.toInt := rp2_S5
    have b6 := i_bd v6
    exact K (v6) _ hI_S5 (by omega) (show xB S5 (mR S5 70) from by first | (exact xB_x (xC_o (W := 75) rp0_S5).2)) (show aT 84 S5 = zRs ab z.toInt ∧ v6.toInt = zRp ab z.toInt from by first | (have k1 := rp1_S1.trans hpre1; have v1 := rp2_S1; rw [hpre1] at v1; have k2 := (T_sw (P := 84) rp1_S3.1 (zf_84 rp2_S3)).trans (congrArg aSw k1); have k3 := rp1_S5.trans k2; have v3 := rp2_S5; rw [k2] at v3; have E := zRs_2 (a := ab) (z := z.toInt) (by rw [← v1]; omega); exact ⟨k3.trans E.symm, (by rw [zRp, E]; exact v3)⟩))
  · skip
    have g7 := i_ne h4
    exact K (v2) _ hI_S1 (by omega) (show xB S1 (mR S1 70) from by first | (exact xB_x (xC_o (W := 75) rp0_S1).2)) (show aT 84 S1 = zRs ab z.toInt ∧ v2.toInt = zRp ab z.toInt from by first | (have k1 := rp1_S1.trans hpre1; have v1 := rp2_S1; rw [hpre1] at v1; have E := zRs_1 (a := ab) (z := z.toInt) (by rw [← v1]; omega); exact ⟨k1.trans E.symm, (by rw [zRp, E]; exact v1)⟩))
theorem g_159_64_s_p79_0 {X : Nat × (Nat → Int32)} {d w : Nat} {S : ma_S} {Q : Option ma_V ⊕ Nat → ma_S → Prop}  (hd : 7 ≤ d) (hw : 179 ≤ w) (hS : zT S) (h : mR S 64 11 = some 79 ∧ (mR S 64 11 = some 79 ∧ (ma_wp X (d - 1) (w - 20) 109 0 [(0, .inr (.inr (some 79)))] [] S (zi (fun v2 S1 => zT S1 ∧ (Q (.inl (some (.inl v2))) S1)) (fun _ _ => False))))) : ma_wp X d w 159 0 [(0, .inr (.inr (some 64)))] [] S Q := by
  refine zw_push hm_159 dX11_clean_0 (v := .inr (.inr (some 64))) rfl ?_
  refine zw_cv hm_159 dX11_clean_1 v_11_119_11 hm_144 [] [] rfl (zT_rt hS s_64 rfl) ⟨by omega, by omega⟩ rfl ?_
  show ma_wp X (d - 1) (w - 20) 144 0 [(0, .inr (.inr (some 64)))] [] S _
  refine zw_push hm_144 dX11_needCollector_0 (v := .inr (.inr (some 64))) rfl ?_
  obtain ⟨hg, h⟩ := h
  refine zw_gf hm_144 dX11_needCollector_1 (v := .inr (.inr (some 79))) (zT_is hS s_64) (zT_t hS s_64) rfl f_11_98_11 (congrArg (fun z => Sum.inr (Sum.inr z)) hg) ?_
  refine zw_ifnonnull hm_144 dX11_needCollector_4 (t := 15) rfl (fun z => by cases z) (fun _ _ => ?_)
  refine zw_push hm_144 dX11_needCollector_15 (v := .inr (.inr (some 64))) rfl ?_
  obtain ⟨hg, h⟩ := h
  refine zw_gf hm_144 dX11_needCollector_16 (v := .inr (.inr (some 79))) (zT_is hS s_64) (zT_t hS s_64) rfl f_11_98_11 (congrArg (fun z => Sum.inr (Sum.inr z)) hg) ?_
  refine zw_aret hm_144 dX11_needCollector_19 ?_
  show ma_wp X d w 159 4 [(0, .inr (.inr (some 64)))] [.inr (.inr (some 79))] S _
  refine zw_cv hm_159 dX11_clean_4 v_11_207_8 hm_109 [] [] rfl (zT_rt hS s_79 rfl) ⟨by omega, by omega⟩ rfl (zw_mono h (zi_go ?_ ?_))
  · intro v2 S1 hv
    obtain ⟨hS1, h⟩ := hv
    exact zw_iret hm_159 dX11_clean_7 h
  · intro x S9 hx
    exact hx.elim
theorem sp_159_64_s_p79 {X : Nat × (Nat → Int32)} {d w : Nat} {f : Nat → Nat → Int32} {r : Nat → Nat → Option Nat} {C Z N : Nat} {Q : Option ma_V ⊕ Nat → ma_S → Prop} {ab : Nat→Nat→Int32} {S : ma_S}  (hd : 7 ≤ d) (hw : 179 ≤ w) (hI : zB f r C Z N S) (hr : r 64 11 = some 79) (hpre0 : xB S (mR S 70)) (hpre1 : aT 79 S = ab) (K : ∀ v S', zB f r C Z N S' → (True) → (xB S' (mR S' 70)) → (aT 79 S' = aSw ab ∧ v = aSv ab) → Q (.inl (some (.inl v))) S') : ma_wp X d w 159 0 [(0, .inr (.inr (some 64)))] [] S Q := by
  refine g_159_64_s_p79_0  (by omega) (by omega) (zG_T hI) ?_
  refine ⟨((zG_r hI (by decide)).trans hr), ?_⟩
  refine ⟨((zG_r hI (by decide)).trans hr), ?_⟩
  refine sp_109_79_s (ab := (aS 75 S)) (fp := (mI S 79)) (by omega) (by omega) (zB_dn_zJ79 hI) (show xB S (mR S 70) from by first | (exact xB_x (xC_o (W := 75) hpre0).2)) (show aS 75 S = (aS 75 S) from by first | (exact rfl)) (show (mI S 79) = (mI S 79) from by first | (exact rfl)) (fun v2 S1 hL_S1 hp_v2 rp0_S1 rp1_S1 rp2_S1 => zi_n ⟨zG_T hL_S1, ?_⟩)
  have hI_S1 := zB_up_zJ79 hI hL_S1
  have rp0_S1 : xB S1 (mR S1 70) := by
    have z := rp0_S1
    (try rw [show mI S 65 = f 65 from funext (fun k => zG_z hI rfl)] at z)
    (try rw [show mI S 64 1 = f 64 1 from zG_z hI rfl] at z)
    exact z
  have rp1_S1 : aS 75 S1 = aSw (aS 75 S) ∧ v2 = aSv (aS 75 S) := by
    have z := rp1_S1
    (try rw [show mI S 65 = f 65 from funext (fun k => zG_z hI rfl)] at z)
    (try rw [show mI S 64 1 = f 64 1 from zG_z hI rfl] at z)
    exact z
  have rp2_S1 : (mI S1 79) = (mI S 79) := by
    have z := rp2_S1
    (try rw [show mI S 65 = f 65 from funext (fun k => zG_z hI rfl)] at z)
    (try rw [show mI S 64 1 = f 64 1 from zG_z hI rfl] at z)
    exact z
  have b1 := i_bd v2
  exact K (v2) _ hI_S1 trivial (show xB S1 (mR S1 70) from by first | (exact xB_x (xC_o (W := 75) rp0_S1).2)) (show aT 79 S1 = aSw ab ∧ v2 = aSv ab from by first | (have z := rp1_S1; refine ⟨(T_sw z.1 (zf_79 rp2_S1)).trans (congrArg aSw hpre1), z.2.trans (T_sv.trans (congrArg aSv hpre1))⟩))
/-! A NEW ONE UNDER SWEEP: aT behind what makes it -/
section K3
variable {P : Nat} {S S' : ma_S} {R : Nat → Option Nat} {x y i : Int32} {c k : Nat} {a b : Nat → Nat → Int32} {F : Nat → Int32} {L : Int64}
theorem aT_p (hR : xB S R) : aT 79 (ma_put S 79 4 (.inl x)) = ma_u (aT 79 S) 87 2 x := by
  have e := (xC_n (W := 75) (c := 79) (k := 4) (x := x) (xC_o hR) ⟨by decide, Or.inl ⟨rfl, rfl⟩⟩).1
  funext c k
  show (if c = 87 then zfP 79 (mI (ma_put S 79 4 (.inl x))) k else aS 75 (ma_put S 79 4 (.inl x)) c k) = if c = 87 ∧ k = 2 then x else (if c = 87 then zfP 79 (mI S) k else aS 75 S c k)
  rw [e]
  by_cases w : c = 87
  · rw [if_pos w, if_pos w]
    by_cases w2 : k = 2
    · rw [if_pos ⟨w, w2⟩, w2]
      rfl
    · rw [if_neg (fun q => w2 q.2)]
      unfold zfP
      rw [if_pos rfl, if_pos rfl]
      have e2 : mI (ma_put S 79 4 (.inl x)) 79 (k + 2) = mI S 79 (k + 2) := by
        show (if 79 = 79 ∧ k + 2 = 4 then x else mI S 79 (k + 2)) = mI S 79 (k + 2)
        rw [if_neg (by omega)]
      rw [e2]
  · rw [if_neg w, if_neg w, if_neg (fun q => w q.1)]
theorem o7_ad (h : zO7 a b) : zO7 (aAd a y F L) (aAd b y F L) := by
  have n0 : ∀ m : Nat, zO7 (zNw a m F L) (zNw b m F L) := fun m c' k' q => by
    unfold zNw
    rw [h c' k' q]
  have n1 : ∀ (d e : Nat → Nat → Int32) (p j : Int), zO7 d e → zO7 (zIw d p L j) (zIw e p L j) := fun d e p j o c' k' q => by
    unfold zIw
    rw [o c' k' q]
  unfold aAd
  rw [h 69 6 (by decide), h 69 8 (by decide)]
  exact o7_u (o7_u (n1 _ _ _ _ (o7_u (n0 _))))
theorem ad_87 : aAd a y F L 87 k = a 87 k := by
  unfold aAd
  rw [xu_o (by omega), xu_o (by omega)]
  unfold zIw
  rw [if_neg (by omega), xu_o (by omega)]
  unfold zNw
  rw [if_neg (by omega), if_neg (by omega), if_neg (by omega)]
theorem T_of (h : zO7 (aS 75 S') b) (h7 : ∀ k, b 87 k = zfP P (mI S') k) : aT P S' = b := by
  funext c k
  by_cases w : c = 87
  · rw [w, h7]
    exact if_pos rfl
  · rw [aT_o w]
    exact h c k w
theorem T_o7 : zO7 (aS 75 S) (aT P S) := fun c k q => (aT_o q).symm
theorem T_7 : aT P S 87 k = zfP P (mI S) k := if_pos rfl
theorem T_ad (h : aS 75 S' = aAd (aS 75 S) y F L) (h2 : ∀ k, zfP P (mI S') k = zfP P (mI S) k) : aT P S' = aAd (aT P S) y F L := T_of (by rw [h]; exact o7_ad T_o7) (fun k => by rw [ad_87, T_7, h2])
theorem T_r0 (h : aS 75 S' = aR0 (aS 75 S) i y) (h2 : ∀ k, zfP P (mI S') k = zfP P (mI S) k) : aT P S' = aR0 (aT P S) i y := by
  refine T_of ?_ (fun k => ?_)
  · rw [h]
    unfold aR0
    have e : aNm (aT P S) y = aNm (aS 75 S) y := by
      unfold aNm
      rw [aT_o (c := 126) (by decide)]
    rw [e]
    exact o7_u T_o7
  · unfold aR0
    rw [xu_o (by omega), T_7, h2]
theorem T_8 : aT P S 87 8 = 0 := by
  rw [T_7]
  rfl
theorem r0_rt (h : a 87 8 = 0) : aR0 a i y = aRt a i y := by
  unfold aR0 aRt
  rw [NC_0 (by rw [xu_o (by omega)]; exact h)]
theorem T_th {nu kd sz pl : Int32} {rr : Int64} (hN : 126 ≤ mN S) (hr : ∀ n c, mR S 70 n = some c → c < mN S) : aT 79 (zTh S nu kd sz rr pl) = aT 79 S := by
  refine T_of ?_ (fun k => ?_)
  · rw [mk_a (Or.inl rfl) hN hr]
    exact T_o7
  · rw [T_7]
    unfold zfP
    rw [if_pos rfl, if_pos rfl, zTh_lo (by decide) hN]
end K3
