/-! the moving collectors, the class (written by wip/tools/gen15.py) -/
/-! SLIDE: cleaning and room, by numbers (87: 0 the ROOM, 2 the top) -/
def zf8 (I : Nat → Nat → Int32) (k : Nat) : Int32 := if k = 0 then I 80 2 else if k = 2 then I 80 3 else 0
def zf0 (I : Nat → Nat → Int32) (k : Nat) : Int32 := if k = 0 then I 80 2 else 0
def aL (S : ma_S) : Nat → Nat → Int32 := aM (zf8 (mI S)) S
def lSd (a : Nat → Nat → Int32) : (Nat → Nat → Int32) × Int := zSd (ma_u a 87 2 0) (a 87 0).toInt 0 0
def lCl (a : Nat → Nat → Int32) : Nat → Nat → Int32 := ma_u (lSd (aSw a)).1 87 2 (Int32.ofInt (lSd (aSw a)).2)
def lRs (a : Nat → Nat → Int32) (z : Int) : Nat → Nat → Int32 := if (a 87 0).toInt < (a 87 2).toInt + z then lCl a else a
def lRp (a : Nat → Nat → Int32) (z : Int) : Int := if (lRs a z 87 0).toInt < (lRs a z 87 2).toInt + z then -1 else (lRs a z 87 2).toInt
/-- all end at or below the top -/
def qTp (a : Nat → Nat → Int32) : Prop := ∀ n, xAl a n → (a 130 n).toInt + (a 128 n).toInt ≤ (a 87 2).toInt
section F4
variable {a b : Nat → Nat → Int32} {S S' : ma_S} {R : Nat → Option Nat} {x y w pl i : Int32} {c k n : Nat} {z p e : Int} {F : Nat → Int32} {L : Int64} {q : Nat → Int32}
theorem aL_o (h : c ≠ 87) : aL S c k = aS 75 S c k := if_neg h
theorem aL_7 : aL S 87 k = zf8 (mI S) k := aM_7
theorem aL_70 : aL S 87 0 = mI S 80 2 := rfl
theorem aL_72 : aL S 87 2 = mI S 80 3 := rfl
theorem L_8 : aL S 87 8 = 0 := rfl
theorem zf_80 (h : mI S' 80 = mI S 80) : zf8 (mI S') = zf8 (mI S) := by
  funext k
  unfold zf8
  rw [h]
theorem zf_00 (h : mI S' 80 2 = mI S 80 2) : zf0 (mI S') = zf0 (mI S) := by
  funext k
  unfold zf0
  rw [h]
theorem L_of (h : zO7 (aS 75 S') b) (h7 : ∀ k, b 87 k = zf8 (mI S') k) : aL S' = b := by
  funext c k
  by_cases w : c = 87
  · rw [w, h7]
    exact aL_7
  · rw [aL_o w]
    exact h c k w
theorem L_o7 : zO7 (aS 75 S) (aL S) := fun c k q => (aL_o q).symm
theorem L_ad (h : aS 75 S' = aAd (aS 75 S) y F L) (h2 : zf8 (mI S') = zf8 (mI S)) : aL S' = aAd (aL S) y F L := L_of (by rw [h]; exact o7_ad L_o7) (fun k => by rw [ad_87, aL_7, h2])
theorem L_r0 (h : aS 75 S' = aR0 (aS 75 S) i y) (h2 : zf8 (mI S') = zf8 (mI S)) : aL S' = aR0 (aL S) i y := by
  refine L_of ?_ (fun k => ?_)
  · rw [h]
    unfold aR0
    have e : aNm (aL S) y = aNm (aS 75 S) y := by
      unfold aNm
      rw [aL_o (c := 126) (by decide)]
    rw [e]
    exact o7_u L_o7
  · unfold aR0
    rw [xu_o (by omega), aL_7, h2]
theorem L_th {nu kd sz pl : Int32} {rr : Int64} (hN : 126 ≤ mN S) (hr : ∀ n c, mR S 70 n = some c → c < mN S) : aL (zTh S nu kd sz rr pl) = aL S := by
  refine L_of ?_ (fun k => ?_)
  · rw [mk_a (Or.inl rfl) hN hr]
    exact L_o7
  · rw [aL_7]
    unfold zf8
    rw [zTh_lo (by decide) hN, zTh_lo (by decide) hN]
theorem aL_p (hR : xB S R) : aL (ma_put S 80 3 (.inl x)) = ma_u (aL S) 87 2 x := by
  have e := (xC_n (W := 75) (c := 80) (k := 3) (x := x) (xC_o hR) ⟨by decide, Or.inl ⟨rfl, rfl⟩⟩).1
  refine L_of (fun c k hc => ?_) (fun k => ?_)
  · rw [e, xu_o (fun w => hc w.1), aL_o hc]
  · by_cases w2 : k = 2
    · rw [w2, xu_s]
      rfl
    · rw [xu_o (fun w => w2 w.2), aL_7]
      unfold zf8
      by_cases w0 : k = 0
      · rw [if_pos w0, if_pos w0]
        rfl
      · rw [if_neg w0, if_neg w0, if_neg w2, if_neg w2]
/-- behind a sliding: the top is set -/
theorem aL_q (hR : xB S R) (h2 : mI S 80 2 = q 0) (h : ∀ k, k ≠ 0 → q k = 0) : aL (ma_put S 80 3 (.inl x)) = ma_u (aM q S) 87 2 x := by
  rw [aL_p hR]
  funext c k
  show (if c = 87 ∧ k = 2 then x else aL S c k) = (if c = 87 ∧ k = 2 then x else aM q S c k)
  split
  · rfl
  · next w =>
    by_cases c7 : c = 87
    · rw [c7, aL_7, aM_7]
      unfold zf8
      by_cases w0 : k = 0
      · rw [if_pos w0, w0, h2]
      · rw [if_neg w0, if_neg (fun z => w ⟨c7, z⟩), h k w0]
    · rw [aL_o c7, aM_o c7]
theorem M0_u (h : aS 75 S' = aSw (aS 75 S)) (h2 : mI S' 80 2 = mI S 80 2) : aM (zf0 (mI S')) S' = ma_u (aSw (aL S)) 87 2 0 := by
  funext c k
  show _ = if c = 87 ∧ k = 2 then 0 else aSw (aL S) c k
  by_cases w : c = 87
  · rw [w, aM_7]
    unfold zf0
    by_cases w0 : k = 0
    · rw [if_pos w0, if_neg (by omega), sw_87, w0, h2]
      rfl
    · rw [if_neg w0]
      by_cases w2 : k = 2
      · rw [if_pos ⟨rfl, w2⟩]
      · rw [if_neg (fun z => w2 z.2), sw_87, aL_7]
        unfold zf8
        rw [if_neg w0, if_neg w2]
  · rw [aM_o w, if_neg (fun z => w z.1), h]
    exact o7_sw L_o7 c k w
theorem L_sv : aSv (aS 75 S) = aSv (aL S) := sv_eq (fun c k w => (aL_o w).symm)
theorem I_sw (hI : qI a) : qI (aSw a) := by
  have g := I_gf ((aRA a 69 6).toInt - (0 : Int32).toInt).toNat 0 _ (qI_of hI RA_zo) (E0_ra hI)
  exact I_mv g.1 g.2.1.2.2.2.2.2.1
theorem Gf_r (h1 : c ≠ 69) (h2 : c ≠ 73) (h3 : c ≠ 74) (h4 : c ≠ 134) (h5 : c ≠ 75) (h6 : c ≠ 76) (h7 : c ≠ 77) : ∀ (f : Nat) (x : Int32) (a : Nat → Nat → Int32), aGf f x a c k = a c k := by
  intro f
  induction f with
  | zero => intro x a; rfl
  | succ f ih =>
    intro x a
    by_cases w : aGc a x
    · rw [aGf_y w, ih, aSp_o ⟨h5, h6, h7⟩, ← cm_of (a := aGr a x) (y := x) c k h5 h6 h7, gr_r h2 h4 h3 h1]
    · rw [aGf_n w]
      exact ih _ _
/-- who is there behind a cleaning was there, where it is -/
theorem Al_sw (hI : qI a) (h : xAl (aSw a) n) : xAl a n ∧ aSw a 130 n = a 130 n ∧ aSw a 128 n = a 128 n ∧ aSw a 133 n = a 133 n := by
  have g := I_gf ((aRA a 69 6).toInt - (0 : Int32).toInt).toNat 0 _ (qI_of hI RA_zo) (E0_ra hI)
  have r : ∀ c k, c ≠ 69 → c ≠ 73 → c ≠ 74 → c ≠ 134 → c ≠ 75 → c ≠ 76 → c ≠ 77 → aGw (aRA a) 0 c k = a c k := fun c k h1 h2 h3 h4 h5 h6 h7 => (Gf_r h1 h2 h3 h4 h5 h6 h7 _ _ _).trans (RA_zo c k h5 h6 h7).symm
  have m := Md_mv g.1 g.2.1.2.2.2.2.2.1
  have al := (Md_al g.1 m).mp h
  have f := (Md_f m al.1.1 al.2).1
  have e : aGf ((aRA a 69 6).toInt - (0 : Int32).toInt).toNat 0 (aRA a) = aGw (aRA a) 0 := rfl
  rw [e] at f al
  refine ⟨⟨al.1.1, ?_⟩, ?_, ?_, ?_⟩
  · rw [← r 126 n (by decide) (by decide) (by decide) (by decide) (by decide) (by decide) (by decide)]
    exact al.1.2
  · exact (f 130 (by decide) (by decide)).trans (r 130 n (by decide) (by decide) (by decide) (by decide) (by decide) (by decide) (by decide))
  · exact (f 128 (by decide) (by decide)).trans (r 128 n (by decide) (by decide) (by decide) (by decide) (by decide) (by decide) (by decide))
  · exact (f 133 (by decide) (by decide)).trans (r 133 n (by decide) (by decide) (by decide) (by decide) (by decide) (by decide) (by decide))
theorem Tp_sw (hI : qI a) (h : qTp a) : qTp (aSw a) := fun n hn => by
  have q := Al_sw hI hn
  rw [q.2.1, q.2.2.1, sw_87]
  exact h n q.1
theorem I_872 (h : qI a) (h0 : 0 ≤ x.toInt) (h1 : x.toInt ≤ (a 87 0).toInt) (g : qGd a x.toInt) : qI (ma_u a 87 2 x) := by
  have e : ∀ c, c ≠ 87 → ma_u a 87 2 x c = a c := fun c hc => ma_u_ne _ _ _ hc
  have e2 : ∀ k, k ≠ 2 → ma_u a 87 2 x 87 k = a 87 k := fun k hk => xu_o (fun z => hk z.2)
  have e3 : ma_u a 87 2 x 87 2 = x := xu_s
  have al : xAl (ma_u a 87 2 x) = xAl a := by
    funext n
    unfold xAl
    rw [e 126 (by decide)]
  have su := Su_cg (a := ma_u a 87 2 x) (b := a) (e 126 (by decide)) (e 128 (by decide)) 512
  have e8 : qI6 (ma_u a 87 2 x) := fun n hn k => by
    rw [e (1000 + n) (by omega)]
    exact h.2.2.2.2.2 n (by rw [← al]; exact hn) k
  unfold qI qI1 qI2 qI3 qI4 at h ⊢
  unfold qGd at g h ⊢
  rw [al, su, e 69 (by decide), e 128 (by decide), e 130 (by decide), e 71 (by decide), e2 0 (by decide), e2 6 (by decide), e3]
  exact ⟨h.1, h.2.1, h.2.2.1, ⟨h.2.2.2.1.1, h.2.2.2.1.2.1, h.2.2.2.1.2.2.1, ⟨h0, h1⟩, g, h.2.2.2.1.2.2.2.2.2⟩, h.2.2.2.2.1, e8⟩
theorem I_s0 (hI : qI a) : qI (ma_u (aSw a) 87 2 0) := I_872 (I_sw hI) (by decide) (I_sw hI).2.2.2.1.2.2.1.1 (Gd_0 (I_sw hI))
theorem lRs_1 (h : ¬ (a 87 0).toInt < (a 87 2).toInt + z) : lRs a z = a := if_neg h
theorem lRs_2 (h : (a 87 0).toInt < (a 87 2).toInt + z) : lRs a z = lCl a := if_pos h
theorem lRp_1 (h : lRs a z = b) (h2 : (b 87 0).toInt < (b 87 2).toInt + z) : lRp a z = -1 := by
  unfold lRp
  rw [h, if_pos h2]
theorem lRp_2 (h : lRs a z = b) (h2 : ¬ (b 87 0).toInt < (b 87 2).toInt + z) : lRp a z = (b 87 2).toInt := by
  unfold lRp
  rw [h, if_neg h2]
theorem lC_87 (h : k ≠ 2) : lCl a 87 k = a 87 k := by
  unfold lCl lSd zSd
  rw [xu_o (fun w => h w.2), Sf_r (by decide) (by decide), xu_o (fun w => h w.2), sw_87]
theorem Rs_87 (h : k ≠ 2) : lRs a z 87 k = a 87 k := by
  unfold lRs
  split
  · exact lC_87 h
  · rfl
def lMk (a : Nat → Nat → Int32) (kd wd : Int32) (L : Int64) (rt : Int32) : Nat → Nat → Int32 := if (a 69 6).toInt < 512 then (if lRp a (wd + 1).toInt = -1 then lRs a (wd + 1).toInt else aRt (aMd (aAd (lRs a (wd + 1).toInt) (lRs a (wd + 1).toInt 69 6) (zFn (lRs a (wd + 1).toInt 69 6) kd (wd + 1) (Int32.ofInt (lRp a (wd + 1).toInt))) L) (lRs a (wd + 1).toInt 69 6)) rt (lRs a (wd + 1).toInt 69 6)) else a
def lMn (a : Nat → Nat → Int32) (wd : Int32) : Int32 := if (a 69 6).toInt < 512 then (if lRp a (wd + 1).toInt = -1 then -1 else lRs a (wd + 1).toInt 69 6) else -1
theorem lMk_0 {kd wd rt : Int32} {L : Int64} (h : ¬ (a 69 6).toInt < 512) : lMk a kd wd L rt = a ∧ lMn a wd = -1 := ⟨if_neg h, if_neg h⟩
theorem lMk_1 {kd wd rt : Int32} {L : Int64} (h : (a 69 6).toInt < 512) (h1 : lRp a (wd + 1).toInt = -1) : lMk a kd wd L rt = lRs a (wd + 1).toInt ∧ lMn a wd = -1 := by
  unfold lMk lMn
  rw [if_pos h, if_pos h, if_pos h1, if_pos h1]
  exact ⟨rfl, rfl⟩
theorem lMk_2 {kd wd rt : Int32} {L : Int64} {b : Nat → Nat → Int32} (h : (a 69 6).toInt < 512) (e : b = lRs a (wd + 1).toInt) (h1 : pl.toInt = lRp a (wd + 1).toInt) (h2 : ¬ pl.toInt = -1) (hy : y = b 69 6) : lMk a kd wd L rt = aRt (aMd (aAd b y (zFn y kd (wd + 1) pl) L) y) rt y ∧ lMn a wd = y := by
  unfold lMk lMn
  rw [if_pos h, if_pos h, ← h1, if_neg h2, if_neg h2, ← e, hy, Int32.ofInt_toInt]
  exact ⟨rfl, rfl⟩
end F4
