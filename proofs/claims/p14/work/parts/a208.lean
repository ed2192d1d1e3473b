/-! from 95.p00 -/
/-! LIKENESS, SWEEP and COUNTS: alike but for walks and what is no matter of the collector -/
def zQ (a b : Nat → Nat → Int32) : Prop := ∀ c k, c ≠ 75 → c ≠ 76 → c ≠ 77 → ¬ (c = 87 ∧ 3 ≤ k ∧ k ≠ 8) → a c k = b c k
def zBr (a b : Nat → Nat → Int32) : Nat → Nat → Int32 := fun c k => if c = 75 ∨ c = 76 ∨ c = 77 then b c k else a c k
section E0
variable {a b d e aa : Nat → Nat → Int32} {x y z i o r t kk w rt : Int32} {n k c m : Nat} {p : Int} {F : Nat → Int32} {L : Int64} {B : Int} {S S₉ : ma_S} {P : Nat}
theorem Q_c (h : zQ a b) (h1 : c ≠ 75) (h2 : c ≠ 76) (h3 : c ≠ 77) (h4 : c ≠ 87) : a c k = b c k := h c k h1 h2 h3 (fun w => h4 w.1)
theorem Q_8 (h : zQ a b) : zO8 a b := fun _ _ h1 h2 h3 h4 => Q_c h h1 h2 h3 h4
theorem Q_k (h : zQ a b) (hk : k < 3) : a 87 k = b 87 k := h 87 k (by decide) (by decide) (by decide) (by omega)
theorem Q_8e (h : zQ a b) : a 87 8 = b 87 8 := h 87 8 (by decide) (by decide) (by decide) (by decide)
theorem Q_of (o : zO8 a b) (h : ∀ k, k < 3 ∨ k = 8 → a 87 k = b 87 k) : zQ a b := fun c k h1 h2 h3 h4 => by
  by_cases w : c = 87
  · rw [w]
    exact h k (by omega)
  · exact o c k h1 h2 h3 w
theorem Br_of : zOf a (zBr a b) := fun c k h1 h2 h3 => (if_neg (by omega)).symm
theorem Br_7 (h : zO8 a b) : zO7 (zBr a b) b := fun c k hc => by
  unfold zBr
  by_cases w : c = 75 ∨ c = 76 ∨ c = 77
  · rw [if_pos w]
  · rw [if_neg w]
    exact h c k (by omega) (by omega) (by omega) hc
theorem O8_Rq (h : zO8 a b) : zRq a x ↔ zRq b x := by
  refine (Of_Rq (Br_of (a := a) (b := b))).trans ?_
  have o := Br_7 h
  unfold zRq
  rw [o 126 _ (by decide), o7_ra o 77 _ (by decide)]
theorem O8_u (h : zO8 a b) : zO8 (ma_u a n k x) (ma_u b n k x) := fun c₉ k₉ h1 h2 h3 h4 => by
  show (if c₉ = n ∧ k₉ = k then x else a c₉ k₉) = (if c₉ = n ∧ k₉ = k then x else b c₉ k₉)
  rw [h c₉ k₉ h1 h2 h3 h4]
theorem q_u (h : zQ a b) : zQ (ma_u a n k x) (ma_u b n k x) := fun c₉ k₉ h1 h2 h3 h4 => by
  show (if c₉ = n ∧ k₉ = k then x else a c₉ k₉) = (if c₉ = n ∧ k₉ = k then x else b c₉ k₉)
  rw [h c₉ k₉ h1 h2 h3 h4]
theorem O8_if {P Q : Prop} {a₉ b₉ : Nat → Nat → Int32} (e : P ↔ Q) (h1 : Q → zO8 a₉ b₉) (h2 : zO8 a b) : zO8 (qIf P a₉ a) (qIf Q b₉ b) := by
  by_cases w : Q
  · rw [qIf_y (e.mpr w), qIf_y w]
    exact h1 w
  · rw [qIf_n (fun q => w (e.mp q)), qIf_n w]
    exact h2
theorem If_87 {P : Prop} {a₉ : Nat → Nat → Int32} (h : a₉ 87 k = a 87 k) : qIf P a₉ a 87 k = a 87 k := by
  by_cases w : P
  · rw [qIf_y w]
    exact h
  · rw [qIf_n w]
theorem O8_c (h : zO8 a b) (h1 : c ≠ 75) (h2 : c ≠ 76) (h3 : c ≠ 77) (h4 : c ≠ 87) : a c k = b c k := h c k h1 h2 h3 h4
theorem O8_Nm (h : zO8 a b) : aNm a y = aNm b y := by
  unfold aNm
  rw [O8_c (c := 126) h (by decide) (by decide) (by decide) (by decide)]
theorem O8_Hw (h : zO8 a b) : zHw a o i ↔ zHw b o i := by
  unfold zHw
  rw [O8_c (c := 128) h (by decide) (by decide) (by decide) (by decide)]
theorem O8_Ir (h : zO8 a b) : zIr a o i ↔ zIr b o i := by
  unfold zIr
  rw [h (1000 + o.toNatClampNeg) _ (by omega) (by omega) (by omega) (by omega)]
theorem O8_rf (h : zO8 a b) : aRef a n i = aRef b n i := rf_cg (o8_r h (by omega) (by omega) (by omega) (by omega)) (o8_r h (by decide) (by decide) (by decide) (by decide)) (o8_r h (by decide) (by decide) (by decide) (by decide))
theorem O8_ci (h : zO8 a b) : zO8 (aCi a n i x) (aCi b n i x) := by
  unfold aCi
  rw [O8_c (c := 130) h (by decide) (by decide) (by decide) (by decide)]
  split
  · exact O8_u h
  · exact h
theorem ci_87 : aCi a n i x 87 k = a 87 k := by
  unfold aCi
  split
  · exact xu_o (by omega)
  · rfl
theorem O8_r0 (h : zO8 a b) : zO8 (aR0 a i y) (aR0 b i y) := by
  unfold aR0
  rw [O8_Nm h]
  exact O8_u h
theorem q_r0 (h : zQ a b) : zQ (aR0 a i y) (aR0 b i y) := by
  unfold aR0
  rw [O8_Nm (Q_8 h)]
  exact q_u h
theorem r0_87 : aR0 a i y 87 k = a 87 k := xu_o (by omega)
theorem O8_tw (h : zO8 a b) : zO8 (aTw a) (aTw b) ∧ aTy a = aTy b := by
  have e5 := O8_c (c := 69) (k := 5) h (by decide) (by decide) (by decide) (by decide)
  have e74 := O8_c (c := 74) (k := 0) h (by decide) (by decide) (by decide) (by decide)
  unfold aTw aTy
  rw [e5, e74]
  refine ⟨?_, rfl⟩
  split
  · intro c₉ k₉ h1 h2 h3 h4
    show (if c₉ = 74 ∧ (k₉ : Int) < _ then ma_u a 69 5 (b 69 5 - 1) 74 (k₉ + 1) else ma_u a 69 5 (b 69 5 - 1) c₉ k₉) = (if c₉ = 74 ∧ (k₉ : Int) < _ then ma_u b 69 5 (b 69 5 - 1) 74 (k₉ + 1) else ma_u b 69 5 (b 69 5 - 1) c₉ k₉)
    rw [O8_u (n := 69) (k := 5) (x := b 69 5 - 1) h c₉ k₉ h1 h2 h3 h4, O8_u (n := 69) (k := 5) (x := b 69 5 - 1) h 74 (k₉ + 1) (by decide) (by decide) (by decide) (by decide)]
  · exact h
theorem tw_87 : aTw a 87 k = a 87 k := congrFun (Tw_e (by decide) (by decide)) k
/-! cleaning -/
theorem Of_sw (h : zOf a b) (hI : qI b) : zOf (aSw a) (aSw b) ∧ aSv a = aSv b := by
  have hIa : qI a := qI_of hI (Of_sy h)
  have q : zPQ (aRA a) (aRA b) := ⟨Of_tr (Of_sy RA_zo) (Of_tr h RA_zo), E0_ra hIa, E0_ra hI, fun x => ⟨fun w => ⟨w.1, by rw [← (Of_RA h).2.2.1 x w.1]; exact w.2⟩, fun w => ⟨w.1, by rw [(Of_RA h).2.2.1 x w.1]; exact w.2⟩⟩⟩
  have g : zPQ (aGw (aRA a) 0) (aGw (aRA b) 0) := by
    unfold aGw
    rw [q.1 69 6 (by decide) (by decide) (by decide)]
    exact Gf_of _ _ _ _ q
  have s : zOf (aMv (aGw (aRA a) 0) 0) (aMv (aGw (aRA b) 0) 0) := by
    generalize aGw (aRA a) 0 = A at *
    generalize aGw (aRA b) 0 = B at *
    unfold aMv
    rw [g.1 69 6 (by decide) (by decide) (by decide)]
    exact Mf_of _ _ _ _ ⟨g.1, g.2.2.2, g.2.1.1.2.2.2.2.2, g.2.2.1.1.2.2.2.2.2⟩
  refine ⟨s, ?_⟩
  unfold aSv aSw
  rw [s 69 11 (by decide) (by decide) (by decide), g.1 69 11 (by decide) (by decide) (by decide)]
theorem Q_sw (h : zQ a b) (hI : qI a) : zQ (aSw a) (aSw b) ∧ aSv a = aSv b := by
  have hc : qI (zBr a b) := qI_of hI Br_of
  have s := Of_sw (Br_of (a := a) (b := b)) hc
  have o := Br_7 (Q_8 h)
  refine ⟨fun c k h1 h2 h3 h4 => ?_, s.2.trans (sv_eq o)⟩
  by_cases w : c = 87
  · rw [w, sw_87, sw_87]
    rw [w] at h4
    exact h 87 k (by decide) (by decide) (by decide) h4
  · exact (s.1 c k h1 h2 h3).trans (o7_sw o c k w)
theorem Ob_q (h : zQ a b) : zOb a = zOb b := by
  funext p
  unfold zOb
  rw [Q_c (c := 71) h (by decide) (by decide) (by decide) (by decide), Q_c (c := 126) h (by decide) (by decide) (by decide) (by decide)]
theorem N_q (h : zQ a b) : aN a = aN b := by
  have e0 := Q_k h (k := 0) (by decide)
  have f : ∀ (f : Nat) (p : Int), aNf a f p = aNf b f p := by
    intro f
    induction f with
    | zero =>
      intro p
      unfold aNf
      rw [e0]
    | succ f ih =>
      intro p
      unfold aNf
      rw [e0, Ob_q h, Q_c (c := 128) h (by decide) (by decide) (by decide) (by decide), ih]
  funext p
  unfold aN
  rw [e0, f]
theorem E_q (h : zQ a b) : aE a = aE b := by
  have e0 := Q_k h (k := 0) (by decide)
  have f : ∀ (f : Nat) (p : Int), aEf a f p = aEf b f p := by
    intro f
    induction f with
    | zero =>
      intro p
      rfl
    | succ f ih =>
      intro p
      unfold aEf
      rw [e0, Ob_q h, ih]
  funext p
  unfold aE
  rw [e0, f]
theorem Ff_q (h : zQ a b) : ∀ (f : Nat) (q p z : Int), aFf a z q f p = aFf b z q f p := by
  intro f
  induction f with
  | zero =>
    intro q p z
    rfl
  | succ f ih =>
    intro q p z
    unfold aFf
    rw [E_q h, N_q h, ih]
theorem Fl_q (h : zQ a b) : ∀ (f : Nat) (p q l z : Int) (s : Int32), aFl a z s f p q l = aFl b z s f p q l := by
  intro f
  induction f with
  | zero =>
    intro p q l z s
    rfl
  | succ f ih =>
    intro p q l z s
    unfold aFl
    rw [Q_k h (k := 0) (by decide), E_q h, N_q h, ih, ih]
theorem Ft_q (h : zQ a b) : aFt a p = aFt b p := by
  unfold aFt aFx
  rw [Q_k h (k := 0) (by decide), Q_k h (k := 1) (by decide), Q_k h (k := 2) (by decide), N_q h, Ff_q h, Ff_q h, Ff_q h, Fl_q h, Fl_q h]
theorem Ad_q (h : zQ a b) : zQ (aMd (aAd a y F L) y) (aMd (aAd b y F L) y) := by
  have n0 : ∀ m : Nat, zQ (zNw a m F L) (zNw b m F L) := fun m c₉ k₉ q1 q2 q3 q4 => by
    unfold zNw
    rw [h c₉ k₉ q1 q2 q3 q4]
  have n1 : ∀ (d e : Nat → Nat → Int32) (p j : Int), zQ d e → zQ (zIw d p L j) (zIw e p L j) := fun d e p j o c₉ k₉ q1 q2 q3 q4 => by
    unfold zIw
    rw [o c₉ k₉ q1 q2 q3 q4]
  have A : zQ (aAd a y F L) (aAd b y F L) := by
    unfold aAd
    rw [Q_c (c := 69) (k := 6) h (by decide) (by decide) (by decide) (by decide), Q_c (c := 69) (k := 8) h (by decide) (by decide) (by decide) (by decide)]
    exact q_u (q_u (n1 _ _ _ _ (q_u (n0 _))))
  generalize aAd a y F L = A1 at *
  generalize aAd b y F L = B1 at *
  unfold aMd
  rw [Q_8e A, Q_c (c := 130) A (by decide) (by decide) (by decide) (by decide), Q_c (c := 128) A (by decide) (by decide) (by decide) (by decide)]
  split
  · exact q_u A
  · exact q_u (q_u A)
theorem Q_rs (h : zQ a b) (hI : qI a) : zQ (zRs a p) (zRs b p) ∧ zRp a p = zRp b p := by
  have f := Ft_q (p := p) h
  have q : zQ (zRs a p) (zRs b p) := by
    unfold zRs
    rw [f]
    split
    · exact (Q_sw h hI).1
    · exact h
  exact ⟨q, Ft_q q⟩
theorem md_878 : aMd (aAd a y F L) y 87 8 = a 87 8 := by
  unfold aMd
  split
  · rw [xu_o (by omega)]
    exact ad_87
  · rw [xu_o (by omega), xu_o (by omega)]
    exact ad_87
theorem Q_smk (h : zQ a b) (hI : qI a) (h8 : a 87 8 = 0) : zQ (sMk a kk w L rt) (sMk b kk w L rt) ∧ sMn a w = sMn b w := by
  have q := Q_rs (p := (w + 1).toInt) h hI
  have b8 : b 87 8 = 0 := (Q_8e h).symm.trans h8
  have e6 := Q_c (c := 69) (k := 6) h (by decide) (by decide) (by decide) (by decide)
  have e7 := Q_c (c := 69) (k := 6) q.1 (by decide) (by decide) (by decide) (by decide)
  have ra : zRs a (w + 1).toInt 87 8 = 0 := zRs_87.trans h8
  have rb : zRs b (w + 1).toInt 87 8 = 0 := zRs_87.trans b8
  unfold sMk sMn
  rw [e6, q.2, e7]
  generalize zRs a (w + 1).toInt = A at *
  generalize zRs b (w + 1).toInt = B at *
  split
  · split
    · exact ⟨q.1, rfl⟩
    · refine ⟨?_, rfl⟩
      rw [← r0_rt (md_878.trans ra), ← r0_rt (md_878.trans rb)]
      exact q_r0 (Ad_q q.1)
  · exact ⟨h, rfl⟩
theorem Q_le (h : zQ a b) (hV : cV a [] B) : zQ (cLe a y) (cLe b y) := by
  have hb : cV b [] B := V_0 (C_o8 (Q_8 h) (C_ofV hV))
  refine Q_of (Le_o8 (Q_8 h) hV) (fun k hk => ?_)
  rw [Le_x (Or.inr (Or.inr (Or.inr rfl))) hV, Le_x (Or.inr (Or.inr (Or.inr rfl))) hb]
  exact hk.elim (fun w => Q_k h w) (fun w => by rw [w]; exact Q_8e h)
theorem V_r0 (hV : cV a [] B) (hi : i.toNatClampNeg < 16) : cV (aR0 a i y) [] B := V_0 (C_rt (y := y) (K₉ := fun n => Int32.ofInt (cRf a n) + Int32.ofNat (cIs y n) - Int32.ofNat (cIs (a 72 i.toNatClampNeg) n)) (C_ofV hV) hi (fun _ _ => rfl))
theorem V_rs (hI : qI a) (hV : cV a [] B) : cV (zRs a p) [] B := by
  unfold zRs
  split
  · exact V_sw4 hI hV
  · exact hV
theorem Q_kmk (h : zQ a b) (hI : qI a) (hV : cV a [] B) (hB : 0 ≤ B) (h0 : 0 ≤ w.toInt) (h6 : w.toInt ≤ 60) (hr : 0 ≤ rt.toInt) (hr2 : rt.toInt ≤ 15) : zQ (kMk a kk w L rt) (kMk b kk w L rt) ∧ sMn a w = sMn b w := by
  have q := Q_rs (p := (w + 1).toInt) h hI
  have e6 := Q_c (c := 69) (k := 6) h (by decide) (by decide) (by decide) (by decide)
  have e7 := Q_c (c := 69) (k := 6) q.1 (by decide) (by decide) (by decide) (by decide)
  have e72 := Q_c (c := 72) (k := rt.toNatClampNeg) q.1 (by decide) (by decide) (by decide) (by decide)
  have hIr := I_rs (z := (w + 1).toInt) hI hV.2.1
  have hVr := V_rs (p := (w + 1).toInt) hI hV
  have cr := tn_cast hr
  by_cases z6 : (a 69 6).toInt < 512
  · by_cases zp : zRp a (w + 1).toInt = -1
    · have m1 := kMk_1 (kd := kk) (rt := rt) (L := L) z6 zp
      have m2 := kMk_1 (a := b) (kd := kk) (rt := rt) (L := L) (by rw [← e6]; exact z6) (by rw [← q.2]; exact zp)
      rw [m1.1, m1.2, m2.1, m2.2]
      exact ⟨q.1, rfl⟩
    · have fs := Ft_fs hIr (z := (w + 1).toInt) (by rw [i_p1 (by omega)]; omega) zp
      have e1 := i_p1 (i := w) (by omega)
      have r5 := hIr.2.2.2.1.2.2.1
      have zz : zRp a (w + 1).toInt = aFt (zRs a (w + 1).toInt) (w + 1).toInt := rfl
      rw [← zz] at fs
      have f0 := fs.1
      have f1 := fs.2.1
      have pl : (Int32.ofInt (zRp a (w + 1).toInt)).toInt = zRp a (w + 1).toInt := Int32.toInt_ofInt_of_le (by omega) (by omega)
      have zr6 : (zRs a (w + 1).toInt 69 6).toInt < 512 := by
        have e : zRs a (w + 1).toInt 69 6 = a 69 6 := by
          unfold zRs
          split
          · unfold aSw aMv aGw
            rw [w6mf, w6gf]
            exact (RA_zo 69 6 (by decide) (by decide) (by decide)).symm
          · rfl
        rw [e]
        exact z6
      have ne := Ne_o0 (aa := a) (w := w) (pl := Int32.ofInt (zRp a (w + 1).toInt)) (y := zRs a (w + 1).toInt 69 6) hIr pl (by rw [pl]; exact f0) h0 h6 rfl zr6
      have nb := Ne_b ne
      have ad := Ad_of (b := zRs a (w + 1).toInt) (y := zRs a (w + 1).toInt 69 6) (kk := kk) (w := w) (pl := Int32.ofInt (zRp a (w + 1).toInt)) (L := L) nb.1 h0 h6 nb.2.2.2.1 (by omega)
      have va := V_ad4 ne ad hVr hB
      have m1 := kMk_2 (kd := kk) (rt := rt) (L := L) (pl := Int32.ofInt (zRp a (w + 1).toInt)) (y := zRs a (w + 1).toInt 69 6) z6 rfl pl (by rw [pl]; exact zp) rfl
      have m2 := kMk_2 (a := b) (kd := kk) (rt := rt) (L := L) (pl := Int32.ofInt (zRp a (w + 1).toInt)) (y := zRs a (w + 1).toInt 69 6) (by rw [← e6]; exact z6) rfl (by rw [← q.2]; exact pl) (by rw [pl]; exact zp) e7
      rw [m1.1, m1.2, m2.1, m2.2, ← e72]
      exact ⟨Q_le (q_r0 (Ad_q q.1)) (V_r0 va (by omega)), rfl⟩
  · have m1 := kMk_0 (wd := w) (kd := kk) (rt := rt) (L := L) z6
    have m2 := kMk_0 (a := b) (wd := w) (kd := kk) (rt := rt) (L := L) (by rw [← e6]; exact z6)
    rw [m1.1, m1.2, m2.1, m2.2]
    exact ⟨h, rfl⟩
/-! block -/
end E0

/-! from 95.p01 -/
/-! SWEEP and COUNTS: what a call makes of the heap -/
noncomputable def oRo (a : Nat → Nat → Int32) (i o : Int32) : Nat → Nat → Int32 := qIf (zSl i ∧ (o = -1 ∨ zRq a o)) (aR0 a i o) a
noncomputable def oLi (a : Nat → Nat → Int32) (o i t : Int32) : Nat → Nat → Int32 := qIf (zRq a o ∧ (t = -1 ∨ zRq a t) ∧ zHw a o i ∧ zIr a o i) (aL0 a o.toNatClampNeg i t) a
noncomputable def oGr (a : Nat → Nat → Int32) (r : Int32) : Nat → Nat → Int32 := qIf (zSl r) (qIf (aNm a (aTy a) = -1) (aTw a) (aR0 (aTw a) r (aTy a))) a
noncomputable def oSg (a : Nat → Nat → Int32) (i r : Int32) : Nat → Nat → Int32 := qIf (zSl i ∧ zSl r ∧ aNm a (a 73 i.toNatClampNeg) ≠ -1) (aR0 a r (a 73 i.toNatClampNeg)) a
section E1A
variable {ab d : Nat → Nat → Int32} {o i x v w t rt n b ki kw kn : Int32} {e : Nat} {L : Int64}
theorem oli_y (h : zRq ab o ∧ (t = -1 ∨ zRq ab t) ∧ zHw ab o i ∧ zIr ab o i ∧ d = aL0 ab o.toNatClampNeg i t ∧ v = w) : d = oLi ab o i t := h.2.2.2.2.1.trans (qIf_y ⟨h.1, h.2.1, h.2.2.1, h.2.2.2.1⟩).symm
theorem cli_y (h : zRq ab o ∧ (t = -1 ∨ zRq ab t) ∧ zHw ab o i ∧ zIr ab o i ∧ d = cLe (aL0 ab o.toNatClampNeg i t) (aRef ab o.toNatClampNeg i) ∧ v = w) : d = kLi ab o i t := h.2.2.2.2.1.trans (qIf_y ⟨h.1, h.2.1, h.2.2.1, h.2.2.2.1⟩).symm
theorem oli_x (hd : d = ab) (h : (e = 4 ∧ (¬ zRq ab o ∨ (zRq ab o ∧ t ≠ -1 ∧ ¬ zRq ab t))) ∨ (e = 1 ∧ zRq ab o ∧ (t = -1 ∨ zRq ab t) ∧ ¬ zHw ab o i) ∨ (e = 5 ∧ zRq ab o ∧ (t = -1 ∨ zRq ab t) ∧ zHw ab o i ∧ ¬ zIr ab o i)) : d = oLi ab o i t := hd.trans (qIf_n (fun q => by
  rcases h with h | h | h
  · rcases h.2 with h2 | h2
    · exact h2 q.1
    · exact q.2.1.elim h2.2.1 h2.2.2
  · exact h.2.2.2 q.2.2.1
  · exact h.2.2.2.2 q.2.2.2)).symm
theorem cli_x (hd : d = ab) (h : (e = 4 ∧ (¬ zRq ab o ∨ (zRq ab o ∧ t ≠ -1 ∧ ¬ zRq ab t))) ∨ (e = 1 ∧ zRq ab o ∧ (t = -1 ∨ zRq ab t) ∧ ¬ zHw ab o i) ∨ (e = 5 ∧ zRq ab o ∧ (t = -1 ∨ zRq ab t) ∧ zHw ab o i ∧ ¬ zIr ab o i)) : d = kLi ab o i t := hd.trans (qIf_n (fun q => by
  rcases h with h | h | h
  · rcases h.2 with h2 | h2
    · exact h2 q.1
    · exact q.2.1.elim h2.2.1 h2.2.2
  · exact h.2.2.2 q.2.2.1
  · exact h.2.2.2.2 q.2.2.2)).symm
theorem oro_y (h : (0 ≤ i.toInt ∧ i.toInt ≤ 15) ∧ (o = -1 ∨ zRq ab o) ∧ d = aR0 ab i o ∧ v = w) : d = oRo ab i o := h.2.2.1.trans (qIf_y ⟨h.1, h.2.1⟩).symm
theorem cro_y (h : (0 ≤ i.toInt ∧ i.toInt ≤ 15) ∧ (o = -1 ∨ zRq ab o) ∧ d = cLe (aR0 ab i o) (ab 72 i.toNatClampNeg) ∧ v = w) : d = kRo ab i o := h.2.2.1.trans (qIf_y ⟨h.1, h.2.1⟩).symm
theorem oro_x (hd : d = ab) (h : (e = 2 ∧ ¬ (0 ≤ i.toInt ∧ i.toInt ≤ 15)) ∨ ((0 ≤ i.toInt ∧ i.toInt ≤ 15) ∧ e = 4 ∧ o ≠ -1 ∧ ¬ zRq ab o)) : d = oRo ab i o := hd.trans (qIf_n (kwe_n h)).symm
theorem cro_x (hd : d = ab) (h : (e = 2 ∧ ¬ (0 ≤ i.toInt ∧ i.toInt ≤ 15)) ∨ ((0 ≤ i.toInt ∧ i.toInt ≤ 15) ∧ e = 4 ∧ o ≠ -1 ∧ ¬ zRq ab o)) : d = kRo ab i o := hd.trans (qIf_n (kwe_n h)).symm
theorem osg_y (h : (0 ≤ i.toInt ∧ i.toInt ≤ 15) ∧ (0 ≤ rt.toInt ∧ rt.toInt ≤ 15) ∧ ((aNm ab (ab 73 i.toNatClampNeg) = -1 ∧ d = ab ∧ v = -1) ∨ (aNm ab (ab 73 i.toNatClampNeg) = ab 73 i.toNatClampNeg ∧ 0 ≤ (ab 73 i.toNatClampNeg).toInt ∧ d = aR0 ab rt (ab 73 i.toNatClampNeg) ∧ v = ab 73 i.toNatClampNeg))) : d = oSg ab i rt := by
  rcases h.2.2 with q | q
  · exact q.2.1.trans (qIf_n (fun z => z.2.2 q.1)).symm
  · refine q.2.2.1.trans (qIf_y ⟨h.1, h.2.1, fun z => ?_⟩).symm
    have q2 := q.2.1
    rw [← q.1, z] at q2
    exact absurd q2 (by decide)
theorem csg_y (h : (0 ≤ i.toInt ∧ i.toInt ≤ 15) ∧ (0 ≤ rt.toInt ∧ rt.toInt ≤ 15) ∧ ((aNm ab (ab 73 i.toNatClampNeg) = -1 ∧ d = ab ∧ v = -1) ∨ (aNm ab (ab 73 i.toNatClampNeg) = ab 73 i.toNatClampNeg ∧ 0 ≤ (ab 73 i.toNatClampNeg).toInt ∧ d = cLe (aR0 ab rt (ab 73 i.toNatClampNeg)) (ab 72 rt.toNatClampNeg) ∧ v = ab 73 i.toNatClampNeg))) : d = kSg ab i rt := by
  rcases h.2.2 with q | q
  · exact q.2.1.trans (qIf_n (fun z => z.2.2 q.1)).symm
  · refine q.2.2.1.trans (qIf_y ⟨h.1, h.2.1, fun z => ?_⟩).symm
    have q2 := q.2.1
    rw [← q.1, z] at q2
    exact absurd q2 (by decide)
theorem osg_x (hd : d = ab) (h : e = 2 ∧ ¬ ((0 ≤ i.toInt ∧ i.toInt ≤ 15) ∧ (0 ≤ rt.toInt ∧ rt.toInt ≤ 15))) : d = oSg ab i rt := hd.trans (qIf_n (fun q => h.2 ⟨q.1, q.2.1⟩)).symm
theorem csg_x (hd : d = ab) (h : e = 2 ∧ ¬ ((0 ≤ i.toInt ∧ i.toInt ≤ 15) ∧ (0 ≤ rt.toInt ∧ rt.toInt ≤ 15))) : d = kSg ab i rt := hd.trans (qIf_n (fun q => h.2 ⟨q.1, q.2.1⟩)).symm
theorem ogr_y (h : (0 ≤ rt.toInt ∧ rt.toInt ≤ 15) ∧ ((aNm ab (aTy ab) = -1 ∧ d = aTw ab ∧ v = -1) ∨ (aNm ab (aTy ab) = aTy ab ∧ 0 ≤ (aTy ab).toInt ∧ d = aR0 (aTw ab) rt (aTy ab) ∧ v = aTy ab))) : d = oGr ab rt := by
  unfold oGr
  rw [qIf_y (show zSl rt from h.1)]
  rcases h.2 with q | q
  · rw [qIf_y q.1]
    exact q.2.1
  · refine q.2.2.1.trans (qIf_n (fun z => ?_)).symm
    have q2 := q.2.1
    rw [← q.1, z] at q2
    exact absurd q2 (by decide)
theorem cgr_y (h : (0 ≤ rt.toInt ∧ rt.toInt ≤ 15) ∧ ((aNm ab (aTy ab) = -1 ∧ d = aTw ab ∧ v = -1) ∨ (aNm ab (aTy ab) = aTy ab ∧ 0 ≤ (aTy ab).toInt ∧ d = cLe (aR0 (aTw ab) rt (aTy ab)) (aTw ab 72 rt.toNatClampNeg) ∧ v = aTy ab))) : d = kGr ab rt := by
  unfold kGr
  rw [qIf_y (show zSl rt from h.1)]
  rcases h.2 with q | q
  · rw [qIf_y q.1]
    exact q.2.1
  · refine q.2.2.1.trans (qIf_n (fun z => ?_)).symm
    have q2 := q.2.1
    rw [← q.1, z] at q2
    exact absurd q2 (by decide)
theorem ogr_x (hd : d = ab) (h : e = 2 ∧ ¬ (0 ≤ rt.toInt ∧ rt.toInt ≤ 15)) : d = oGr ab rt := hd.trans (qIf_n h.2).symm
theorem cgr_x (hd : d = ab) (h : e = 2 ∧ ¬ (0 ≤ rt.toInt ∧ rt.toInt ≤ 15)) : d = kGr ab rt := hd.trans (qIf_n h.2).symm
theorem cho_y (h : zRq ab o ∧ (¬ b = 0 ∨ ¬ ab 133 o.toNatClampNeg = 0) ∧ d = cLe (ma_u ab 133 o.toNatClampNeg (ab 133 o.toNatClampNeg + (if b = 0 then -1 else 1))) o ∧ v = w) : d = kHo ab o b := h.2.2.1.trans (qIf_y ⟨h.1, h.2.1⟩).symm
theorem cho_x (hd : d = ab) (h : (e = 4 ∧ ¬ zRq ab o) ∨ (e = 6 ∧ zRq ab o ∧ b = 0 ∧ ab 133 o.toNatClampNeg = 0)) : d = kHo ab o b := hd.trans (qIf_n (fun q => by
  rcases h with h | h
  · exact h.2 q.1
  · exact q.2.elim (fun z => z h.2.2.1) (fun z => z h.2.2.2))).symm
theorem omk_y (h : (0 ≤ ki.toInt ∧ ki.toInt < kn.toInt ∧ 0 ≤ rt.toInt ∧ rt.toInt ≤ 15) ∧ d = sMk ab ki kw L rt ∧ v = w) : d = qIf (0 ≤ ki.toInt ∧ ki.toInt < kn.toInt ∧ zSl rt) (sMk ab ki kw L rt) ab := h.2.1.trans (qIf_y h.1).symm
theorem cmk_y (h : (0 ≤ ki.toInt ∧ ki.toInt < kn.toInt ∧ 0 ≤ rt.toInt ∧ rt.toInt ≤ 15) ∧ d = kMk ab ki kw L rt ∧ v = w) : d = qIf (0 ≤ ki.toInt ∧ ki.toInt < kn.toInt ∧ zSl rt) (kMk ab ki kw L rt) ab := h.2.1.trans (qIf_y h.1).symm
theorem omk_x (hd : d = ab) (h : e = 2 ∧ ¬ (0 ≤ ki.toInt ∧ ki.toInt < kn.toInt ∧ 0 ≤ rt.toInt ∧ rt.toInt ≤ 15)) : d = qIf (0 ≤ ki.toInt ∧ ki.toInt < kn.toInt ∧ zSl rt) (sMk ab ki kw L rt) ab := hd.trans (qIf_n h.2).symm
theorem cmk_x (hd : d = ab) (h : e = 2 ∧ ¬ (0 ≤ ki.toInt ∧ ki.toInt < kn.toInt ∧ 0 ≤ rt.toInt ∧ rt.toInt ≤ 15)) : d = qIf (0 ≤ ki.toInt ∧ ki.toInt < kn.toInt ∧ zSl rt) (kMk ab ki kw L rt) ab := hd.trans (qIf_n h.2).symm
theorem orw_y (h : (0 ≤ n.toInt ∧ n.toInt ≤ 60 ∧ 0 ≤ rt.toInt ∧ rt.toInt ≤ 15) ∧ d = (if b = 0 then sMk ab 17 n 0 rt else sMk ab 16 n (-1) rt) ∧ v = w) : d = qIf (0 ≤ n.toInt ∧ n.toInt ≤ 60 ∧ zSl rt) (if b = 0 then sMk ab 17 n 0 rt else sMk ab 16 n (-1) rt) ab := h.2.1.trans (qIf_y h.1).symm
theorem crw_y (h : (0 ≤ n.toInt ∧ n.toInt ≤ 60 ∧ 0 ≤ rt.toInt ∧ rt.toInt ≤ 15) ∧ d = (if b = 0 then kMk ab 17 n 0 rt else kMk ab 16 n (-1) rt) ∧ v = w) : d = qIf (0 ≤ n.toInt ∧ n.toInt ≤ 60 ∧ zSl rt) (if b = 0 then kMk ab 17 n 0 rt else kMk ab 16 n (-1) rt) ab := h.2.1.trans (qIf_y h.1).symm
theorem orw_x (hd : d = ab) (h : e = 2 ∧ ¬ (0 ≤ n.toInt ∧ n.toInt ≤ 60 ∧ 0 ≤ rt.toInt ∧ rt.toInt ≤ 15)) : d = qIf (0 ≤ n.toInt ∧ n.toInt ≤ 60 ∧ zSl rt) (if b = 0 then sMk ab 17 n 0 rt else sMk ab 16 n (-1) rt) ab := hd.trans (qIf_n h.2).symm
theorem crw_x (hd : d = ab) (h : e = 2 ∧ ¬ (0 ≤ n.toInt ∧ n.toInt ≤ 60 ∧ 0 ≤ rt.toInt ∧ rt.toInt ≤ 15)) : d = qIf (0 ≤ n.toInt ∧ n.toInt ≤ 60 ∧ zSl rt) (if b = 0 then kMk ab 17 n 0 rt else kMk ab 16 n (-1) rt) ab := hd.trans (qIf_n h.2).symm
end E1A
section E1B
variable {a b aa : Nat → Nat → Int32} {x y i o r t : Int32} {n k : Nat} {B : Int} {S S₉ : ma_S} {P : Nat}
theorem Ro_o (h : a 87 8 = 0) : xRo a i o = oRo a i o := by
  unfold xRo oRo
  rw [r0_rt h]
theorem Li_o (h : a 87 8 = 0) : xLi a o i t = oLi a o i t := by
  unfold xLi oLi aLn aL0
  rw [NC_0 (by rw [ci_87]; exact h)]
theorem Gr_o (h : a 87 8 = 0) : xGr a r = oGr a r := by
  unfold xGr oGr
  rw [r0_rt (tw_87.trans h)]
theorem Sg_o (h : a 87 8 = 0) : ySg a i r = oSg a i r := by
  have e : aSt a (a 73 i.toNatClampNeg) = a := if_neg (fun w => w h)
  unfold ySg oSg
  rw [e, r0_rt h]
theorem If_7c {P : Prop} {a₉ : Nat → Nat → Int32} (h : P → a₉ 87 k = a 87 k) : qIf P a₉ a 87 k = a 87 k := by
  by_cases w : P
  · rw [qIf_y w]
    exact h w
  · rw [qIf_n w]
/-- both: alike, and the collector's row stays -/
def zAx (a b d : Nat → Nat → Int32) : Prop := zO8 a b ∧ ∀ k, a 87 k = d 87 k
theorem Ax_0 (h : zO8 a b) : zAx a b a := ⟨h, fun _ => rfl⟩
theorem Ax_pu (h : zO8 a b) : zAx (xPu a o i x) (xPu b o i x) a := ⟨O8_if (by rw [O8_Rq h, O8_Hw h, O8_Ir h]) (fun _ => O8_ci h) h, fun _ => If_87 ci_87⟩
theorem Ax_we (h : zO8 a b) : zAx (xWe a i o) (xWe b i o) a := ⟨O8_if (by rw [O8_Rq h]) (fun _ => by rw [O8_Nm h]; exact O8_u h) h, fun _ => If_87 (xu_o (by omega))⟩
theorem Ax_wi (h : zO8 a b) : zAx (xWi a o) (xWi b o) a := ⟨O8_if (O8_Rq h) (fun _ => O8_u h) h, fun _ => If_87 (xu_o (by omega))⟩
theorem Ax_ho (h : zO8 a b) : zAx (xHo a o x) (xHo b o x) a := ⟨O8_if (by rw [O8_Rq h, O8_c (c := 133) h (by decide) (by decide) (by decide) (by decide)]) (fun _ => by rw [O8_c (c := 133) h (by decide) (by decide) (by decide) (by decide)]; exact O8_u h) h, fun _ => If_87 (xu_o (by omega))⟩
theorem Ax_ro (h : zO8 a b) : zAx (oRo a i o) (oRo b i o) a := ⟨O8_if (by rw [O8_Rq h]) (fun _ => O8_r0 h) h, fun _ => If_87 r0_87⟩
theorem l0_87 : aL0 a n i y 87 k = a 87 k := ci_87
theorem O8_l0 (h : zO8 a b) : zO8 (aL0 a n i y) (aL0 b n i y) := by
  unfold aL0
  rw [O8_Nm h]
  exact O8_ci h
theorem Ax_li (h : zO8 a b) : zAx (oLi a o i t) (oLi b o i t) a := ⟨O8_if (by rw [O8_Rq h, O8_Rq h, O8_Hw h, O8_Ir h]) (fun _ => O8_l0 h) h, fun _ => If_87 l0_87⟩
theorem Ax_gr (h : zO8 a b) : zAx (oGr a r) (oGr b r) a := by
  have tw := O8_tw h
  refine ⟨O8_if Iff.rfl (fun _ => O8_if (by rw [tw.2, O8_Nm h]) (fun _ => tw.1) (by rw [tw.2]; exact O8_r0 tw.1)) h, fun k => If_87 ?_⟩
  by_cases w : aNm a (aTy a) = -1
  · rw [qIf_y w]
    exact tw_87
  · rw [qIf_n w]
    exact r0_87.trans tw_87
theorem Ax_sg (h : zO8 a b) : zAx (oSg a i r) (oSg b i r) a := ⟨O8_if (by rw [O8_Nm h, O8_c (c := 73) h (by decide) (by decide) (by decide) (by decide)]) (fun _ => by rw [O8_c (c := 73) h (by decide) (by decide) (by decide) (by decide)]; exact O8_r0 h) h, fun _ => If_87 r0_87⟩
/-! COUNTS -/
theorem sl_16 (h : zSl i) : i.toNatClampNeg < 16 := by
  have c := tn_cast h.1
  have := h.2
  omega
theorem O8_rt (h : zO8 a b) (hV : cV a [] B) (hi : zSl i) : zO8 (kRt a i y) (kRt b i y) := by
  unfold kRt
  rw [O8_c (c := 72) h (by decide) (by decide) (by decide) (by decide)]
  exact Le_o8 (O8_r0 h) (V_r0 hV (sl_16 hi))
theorem X87 : cXr 87 := Or.inr (Or.inr (Or.inr rfl))
theorem rt_87 (hV : cV a [] B) (hi : zSl i) : kRt a i y 87 k = a 87 k := (Le_x X87 (V_r0 hV (sl_16 hi))).trans r0_87
theorem Ax_kro (h : zO8 a b) (hV : cV a [] B) : zAx (kRo a i o) (kRo b i o) a := ⟨O8_if (by rw [O8_Rq h]) (fun w => O8_rt h hV w.1) h, fun _ => If_7c (fun w => rt_87 hV w.1)⟩
theorem V_l0 (hV : cV a [] B) (hq : zRq a o) (hw : zHw a o i) (hi : zIr a o i) : cV (aL0 a o.toNatClampNeg i t) [] B := V_0 (C_li (y := t) (K₉ := fun m => Int32.ofInt (cRf a m) + Int32.ofNat (cIs t m) - Int32.ofNat (cIs (aRef a o.toNatClampNeg i) m)) (C_ofV hV) (Rq_wp hq hw) hi (fun _ _ => rfl))
theorem Ax_kli (h : zO8 a b) (hV : cV a [] B) : zAx (kLi a o i t) (kLi b o i t) a := by
  refine ⟨O8_if (by rw [O8_Rq h, O8_Rq h, O8_Hw h, O8_Ir h]) (fun w => ?_) h, fun _ => If_7c (fun w => ?_)⟩
  · rw [O8_rf h]
    exact Le_o8 (O8_l0 h) (V_l0 hV ((O8_Rq h).mpr w.1) ((O8_Hw h).mpr w.2.2.1) ((O8_Ir h).mpr w.2.2.2))
  · exact (Le_x X87 (V_l0 hV w.1 w.2.2.1 w.2.2.2)).trans l0_87
theorem V_h0 (hV : cV a [] B) (hB : B + 1 ≤ 1000000) (hq : zRq a o) (hb : ¬ x = 0 ∨ ¬ a 133 o.toNatClampNeg = 0) : cV (ma_u a 133 o.toNatClampNeg (a 133 o.toNatClampNeg + (if x = 0 then -1 else 1))) [] (B + 1) := by
  by_cases w : x = 0
  · rw [if_pos w]
    exact V_ho4 hV (al_of hq) hB (Or.inr ⟨rfl, hb.elim (fun q => absurd w q) id⟩)
  · rw [if_neg w]
    exact V_ho4 hV (al_of hq) hB (Or.inl rfl)
theorem Ax_kho (h : zO8 a b) (hV : cV a [] B) (hB : B + 1 ≤ 1000000) : zAx (kHo a o x) (kHo b o x) a := by
  have e := O8_c (c := 133) (k := o.toNatClampNeg) h (by decide) (by decide) (by decide) (by decide)
  refine ⟨O8_if (by rw [O8_Rq h, e]) (fun w => ?_) h, fun _ => If_7c (fun w => ?_)⟩
  · rw [← e] at w ⊢
    exact Le_o8 (O8_u h) (V_h0 hV hB ((O8_Rq h).mpr w.1) w.2)
  · exact (Le_x X87 (V_h0 hV hB w.1 w.2)).trans (xu_o (by omega))
theorem Ax_kgr (h : zO8 a b) (hV : cV a [] B) : zAx (kGr a r) (kGr b r) a := by
  have tw := O8_tw h
  have vt := V_tw4 hV
  refine ⟨O8_if Iff.rfl (fun w => O8_if (by rw [tw.2, O8_Nm h]) (fun _ => tw.1) (by rw [tw.2]; exact O8_rt tw.1 vt w)) h, fun k => If_7c (fun w => ?_)⟩
  by_cases q : aNm a (aTy a) = -1
  · rw [qIf_y q]
    exact tw_87
  · rw [qIf_n q]
    exact (rt_87 vt w).trans tw_87
theorem Ax_ksg (h : zO8 a b) (hV : cV a [] B) : zAx (kSg a i r) (kSg b i r) a := ⟨O8_if (by rw [O8_Nm h, O8_c (c := 73) h (by decide) (by decide) (by decide) (by decide)]) (fun w => by rw [O8_c (c := 73) h (by decide) (by decide) (by decide) (by decide)]; exact O8_rt h hV w.2.1) h, fun _ => If_7c (fun w => rt_87 hV w.2.1)⟩
/-- what the class tells of aS 88, as aT -/
theorem T_88 : zO8 (aT P S) (aS 88 S) := fun c k h1 h2 h3 h4 => (T_o8 c k h1 h2 h3 h4).trans (Of_S c k h1 h2 h3)
theorem Q_A {X Y : Nat → Nat → Int32} (h : zQ aa (aT P S)) (hx : zAx X Y aa) (hs : aS 88 S₉ = Y) (fq : zfP P (mI S₉) = zfP P (mI S)) : zQ X (aT P S₉) := by
  refine Q_of (fun c k h1 h2 h3 h4 => ?_) (fun k hk => ?_)
  · rw [hx.1 c k h1 h2 h3 h4, ← hs]
    exact (T_88 c k h1 h2 h3 h4).symm
  · have e : aT P S₉ 87 k = aT P S 87 k := by rw [T_7, T_7, fq]
    rw [e, hx.2 k]
    exact hk.elim (fun w => Q_k h w) (fun w => by rw [w]; exact Q_8e h)
theorem Q_88o (h : zQ aa (aT P S)) : zO8 aa (aS 88 S) := fun c k h1 h2 h3 h4 => (Q_8 h c k h1 h2 h3 h4).trans (T_88 c k h1 h2 h3 h4)
theorem Q_80 (h : zQ aa (aT P S)) : aa 87 8 = 0 := (Q_8e h).trans T_8
end E1B

/-! from 95.p02 -/
/-! SWEEP and COUNTS: the class's heap behind what is no matter of it -/
section E2
variable {S S₉ : ma_S} {f : Nat → Nat → Int32} {r : Nat → Nat → Option Nat} {C Z N P : Nat} {m₉ a b : Nat → Nat → Int32} {K : Nat → Int32} {B : Int}
theorem aF_c5 {I I₉ : Nat → Nat → Int32} {R : Nat → Option Nat} {L L₉ : Nat → Nat → Int64} (h : ∀ c k, c < 94 ∨ 124 < c → I c k = I₉ c k) (hL : ∀ c, 126 ≤ c → L c 3 = L₉ c 3) (hR : ∀ n b, R n = some b → 126 ≤ b) : aF 75 I R L = aF 75 I₉ R L₉ := by
  funext c1 k1
  by_cases b : zrl c1 k1 = true
  · have p := zrl_p b
    rw [aF_I b, aF_I b]
    refine h _ _ (Or.inl ?_)
    unfold zcw
    split <;> omega
  · unfold aF
    rw [if_neg b, if_neg b]
    split
    · rfl
    · split
      · rfl
      · split
        · split
          · unfold aTf
            split
            · cases e : R k1 with
              | none => rfl
              | some q =>
                have := hR _ _ e
                exact h q _ (Or.inr (by omega))
            · rfl
          · rfl
        · unfold aTr
          split
          · cases e : R (c1 - 1000) with
            | none => rfl
            | some q =>
              show zbit (L q 3) _ = zbit (L₉ q 3) _
              rw [hL q (hR _ _ e)]
          · rfl
theorem zf_cg (hP : P < 94) (h : ∀ c k, c < 94 ∨ 124 < c → m₉ c k = mI S c k) : zfP P m₉ = zfP P (mI S) := by
  funext j
  unfold zfP
  rw [h 79 _ (Or.inl (by decide)), h P _ (Or.inl hP)]
theorem T_cg {R : Nat → Option Nat} (ha : aS 75 S₉ = aS 75 S) (hf : zfP P (mI S₉) = zfP P (mI S)) : aT P S₉ = aT P S := by
  unfold aT
  rw [ha, hf]
theorem S_o5 (h : zA f r C Z N S) {x : Int64} : aS 75 (ma_put S 125 0 (.inr (.inl x))) = aS 75 S := aF_c5 (fun _ _ _ => rfl) (fun c hc => by
  show (if c = 125 ∧ 3 = 0 then x else mL S c 3) = mL S c 3
  rw [if_neg (by omega)]) (h70 h)
theorem T_o5 (h : zA f r C Z N S) {x : Int64} : aT P (ma_put S 125 0 (.inr (.inl x))) = aT P S := T_cg (R := fun _ => none) (S_o5 h) rfl
theorem T_zst (hP : P < 94) (h : zA f r C Z N S) (ho : ∀ c k, c < 94 ∨ 124 < c → m₉ c k = mI S c k) : aT P (zst S m₉) = aT P S := T_cg (R := fun _ => none) (aF_c5 ho (fun _ _ => rfl) (fun n b e => h70 (S := S) h n b e)) (zf_cg hP ho)
theorem kC_zst (h : zA f r C Z N S) (ho : ∀ c k, c < 94 ∨ 124 < c → m₉ c k = mI S c k) : kC (zst S m₉) = kC S := by
  funext k
  show aTf m₉ (mR S 70) 6 k = aTf (mI S) (mR S 70) 6 k
  unfold aTf
  split
  · cases e : mR S 70 k with
    | none => rfl
    | some q =>
      have := h70 (S := S) h _ _ e
      exact ho q 6 (Or.inr (by omega))
  · rfl
/-- kept whole -/
def zKp (S S₉ : ma_S) : Prop := aS 88 S₉ = aS 88 S ∧ (xB S (mR S 70) → xB S₉ (mR S₉ 70)) ∧ (aT 79 S₉ = aT 79 S) ∧ (aT 84 S₉ = aT 84 S) ∧ kC S₉ = kC S
theorem fm_75 (h : zFm (mI S) (mL S) (mR S 70) S₉) (hR : ∀ n b, mR S 70 n = some b → 126 ≤ b) : aS 75 S₉ = aS 75 S := by
  unfold aS
  rw [h.1, h.2.1]
  funext c1 k1
  by_cases b : zrl c1 k1 = true
  · have w := zcw_lt (W := 75) (Or.inl rfl) b
    have p := zrl_p b
    rw [aF_I b, aF_I b]
    refine h.2.2 _ _ ?_
    unfold zcw
    split <;> omega
  · unfold aF
    rw [if_neg b, if_neg b]
    split
    · rfl
    · split
      · rfl
      · split
        · split
          · unfold aTf
            split
            · cases e : mR S 70 k1 with
              | none => rfl
              | some q =>
                have := hR _ _ e
                exact h.2.2 q _ (by omega)
            · rfl
          · rfl
        · rfl
theorem fm_kp (h : zFm (mI S) (mL S) (mR S 70) S₉) (hA : zA f r C Z N S) : zKp S S₉ := by
  have hR := h70 hA
  have e5 := fm_75 h hR
  have zf : ∀ P, 69 ≤ P → zfP P (mI S₉) = zfP P (mI S) := fun P hP => by
    funext j
    unfold zfP
    rw [h.2.2 79 _ (by decide), h.2.2 P _ hP]
  refine ⟨fn9_aS h hR, fun b => fn9_xB h b, T_cg (R := fun _ => none) e5 (zf 79 (by decide)), T_cg (R := fun _ => none) e5 (zf 84 (by decide)), ?_⟩
  funext k
  unfold kC
  rw [h.1]
  unfold aTf
  split
  · cases e : mR S 70 k with
    | none => rfl
    | some q =>
      have := hR _ _ e
      exact h.2.2 q 6 (by omega)
  · rfl
theorem kp_o5 {f₉ : Nat → Nat → Int32} {r₉ : Nat → Nat → Option Nat} {C₉ Z₉ N₉ : Nat} (h : zKp S S₉) (hA : zA f₉ r₉ C₉ Z₉ N₉ S₉) {x : Int64} : zKp S (ma_put S₉ 125 0 (.inr (.inl x))) := ⟨(aS_o hA).trans h.1, fun b => h.2.1 b, (T_o5 hA).trans h.2.2.1, (T_o5 hA).trans h.2.2.2.1, h.2.2.2.2⟩
theorem C_up (h : cC a [] K B) : cC a [] K (B + 1) := by
  obtain ⟨q1, q2, q3, q5, qk⟩ := C0_un h
  refine C0_mk q1 q2 (fun n hn => ?_) q5 qk
  have q := q3 n hn
  exact ⟨q.1, by omega⟩
theorem I_q (h : zQ a b) (hI : qI a) (h6 : 0 ≤ (b 87 6).toInt) : qI b := by
  have rr : ∀ c, c ≠ 75 → c ≠ 76 → c ≠ 77 → c ≠ 87 → b c = a c := fun c h1 h2 h3 h4 => funext (fun k => (Q_c h h1 h2 h3 h4).symm)
  have e126 := rr 126 (by decide) (by decide) (by decide) (by decide)
  have e128 := rr 128 (by decide) (by decide) (by decide) (by decide)
  have e130 := rr 130 (by decide) (by decide) (by decide) (by decide)
  have e71 := rr 71 (by decide) (by decide) (by decide) (by decide)
  have e69 := rr 69 (by decide) (by decide) (by decide) (by decide)
  have k0 : b 87 0 = a 87 0 := (Q_k h (by decide)).symm
  have k2 : b 87 2 = a 87 2 := (Q_k h (by decide)).symm
  have al : xAl b = xAl a := by
    funext n
    unfold xAl
    rw [e126]
  obtain ⟨i1, i2, i3, i4, i5, i6⟩ := hI
  refine ⟨?_, ?_, ?_, ?_, ?_, ?_⟩
  · unfold qI1
    rw [al, e69, e130, e128, k0, e71]
    exact i1
  · unfold qI2
    rw [al, e130, e128]
    exact i2
  · unfold qI3
    rw [al, e130, e128, e71]
    exact i3
  · unfold qI4 qGd
    rw [al, e69, e130, e128, k0, k2]
    exact ⟨i4.1, i4.2.1, i4.2.2.1, i4.2.2.2.1, i4.2.2.2.2.1, h6⟩
  · rw [e69, i5, Su_z (a := a) (b := b) 512 (fun x _ => ⟨by rw [e126], by rw [e128]⟩)]
  · intro n hn k
    rw [al] at hn
    rw [rr (1000 + n) (by omega) (by omega) (by omega) (by omega)]
    exact i6 n hn k
theorem T_6 : 0 ≤ (aT P S 87 6).toInt := by
  rw [T_7]
  show 0 ≤ (if 6 < 3 then _ else (0 : Int32)).toInt
  rw [if_neg (by decide)]
  decide
end E2

/-! from 95.q10 -/
/-! the moving collectors, the class (written by wip/tools/gen15.py) -/
/-! SLIDE: a move, by numbers -/
def aMo (a : Nat → Nat → Int32) (n : Nat) (to : Int32) : Nat → Nat → Int32 := fun c k =>
  if c = 71 then (if to.toInt ≤ (k : Int) ∧ (k : Int) < to.toInt + (a 128 n).toInt then a 71 ((k : Int) - to.toInt + (a 130 n).toInt).toNat
    else if (a 130 n).toInt ≤ (k : Int) ∧ (k : Int) < (a 130 n).toInt + (a 128 n).toInt then -1 else a 71 k)
  else if c = 130 ∧ k = n then to else a c k
/-- nobody else lies there -/
def qFr (a : Nat → Nat → Int32) (n : Nat) (to : Int32) : Prop := ∀ n₉, xAl a n₉ → n₉ ≠ n → to.toInt + (a 128 n).toInt ≤ (a 130 n₉).toInt ∨ (a 130 n₉).toInt + (a 128 n₉).toInt ≤ to.toInt
section F0
variable {a : Nat → Nat → Int32} {n n₉ c k : Nat} {to : Int32} {p : Int}
theorem Mo_r (h1 : c ≠ 71) (h2 : c ≠ 130) : aMo a n to c k = a c k := by
  unfold aMo
  rw [if_neg h1, if_neg (fun z => h2 z.1)]
theorem Mo_c (h1 : c ≠ 71) (h2 : c ≠ 130) : aMo a n to c = a c := funext (fun _ => Mo_r h1 h2)
theorem Mo_pn : aMo a n to 130 n = to := by
  unfold aMo
  rw [if_neg (by decide), if_pos ⟨rfl, rfl⟩]
theorem Mo_po (h : n₉ ≠ n) : aMo a n to 130 n₉ = a 130 n₉ := by
  unfold aMo
  rw [if_neg (by decide), if_neg (fun z => h z.2)]
theorem Mo_in (h : to.toInt ≤ (k : Int)) (h2 : (k : Int) < to.toInt + (a 128 n).toInt) : aMo a n to 71 k = a 71 ((k : Int) - to.toInt + (a 130 n).toInt).toNat := by
  unfold aMo
  rw [if_pos rfl, if_pos ⟨h, h2⟩]
theorem Mo_old (h : ¬ (to.toInt ≤ (k : Int) ∧ (k : Int) < to.toInt + (a 128 n).toInt)) (h2 : (a 130 n).toInt ≤ (k : Int) ∧ (k : Int) < (a 130 n).toInt + (a 128 n).toInt) : aMo a n to 71 k = -1 := by
  unfold aMo
  rw [if_pos rfl, if_neg h, if_pos h2]
theorem Mo_out (h : ¬ (to.toInt ≤ (k : Int) ∧ (k : Int) < to.toInt + (a 128 n).toInt)) (h2 : ¬ ((a 130 n).toInt ≤ (k : Int) ∧ (k : Int) < (a 130 n).toInt + (a 128 n).toInt)) : aMo a n to 71 k = a 71 k := by
  unfold aMo
  rw [if_pos rfl, if_neg h, if_neg h2]
theorem Mo_al : xAl (aMo a n to) n₉ ↔ xAl a n₉ := by
  unfold xAl
  rw [Mo_r (by decide) (by decide)]
/-- the words of another stay -/
theorem Mo_ot (hI : qI a) (hn : xAl a n) (F : qFr a n to) (h : xAl a n₉) (hne : n₉ ≠ n) (hk : (a 130 n₉).toInt ≤ (k : Int)) (hk2 : (k : Int) < (a 130 n₉).toInt + (a 128 n₉).toInt) : aMo a n to 71 k = a 71 k := by
  have f := F n₉ h hne
  have g := hI.2.1 n₉ n h hn hne
  exact Mo_out (fun z => by omega) (fun z => by omega)
theorem Mo_su : ∀ j, qSu (aMo a n to) j = qSu a j
  | 0 => rfl
  | j + 1 => by
    unfold qSu
    rw [Mo_su j, Mo_r (by decide) (by decide), Mo_r (by decide) (by decide)]
theorem I_mo (hI : qI a) (hn : xAl a n) (h0 : 0 ≤ to.toInt) (h1 : to.toInt + (a 128 n).toInt ≤ (a 87 0).toInt) (F : qFr a n to) (hz : (a 87 2).toInt = 0) : qI (aMo a n to) := by
  have hi1 := hI.1
  have hi2 := hI.2.1
  have hi3 := hI.2.2.1
  have hi4 := hI.2.2.2.1
  have b := hi1 n hn
  refine ⟨fun x hx => ?_, fun x y hx hy hxy => ?_, fun p hp hq => ?_, ?_, ?_, fun x hx k => ?_⟩
  · have hx₉ := Mo_al.1 hx
    have q := hi1 x hx₉
    rw [Mo_r (c := 69) (by decide) (by decide), Mo_r (c := 128) (by decide) (by decide), Mo_r (c := 87) (by decide) (by decide)]
    by_cases e : x = n
    · rw [e, Mo_pn]
      refine ⟨⟨b.1.1, h0⟩, b.2.1, h1, ?_⟩
      have t0 := tn_cast (x := to) h0
      have t1 := tn_cast (x := a 130 n) b.1.2
      rw [Mo_in (by omega) (by omega), show (((to.toNatClampNeg : Nat) : Int) - to.toInt + (a 130 n).toInt).toNat = (a 130 n).toNatClampNeg from by omega]
      exact b.2.2.2
    · rw [Mo_po e]
      have t1 := tn_cast (x := a 130 x) q.1.2
      rw [Mo_ot hI hn F hx₉ e (by omega) (by omega)]
      exact q
  · have hx₉ := Mo_al.1 hx
    have hy₉ := Mo_al.1 hy
    rw [Mo_r (c := 128) (by decide) (by decide), Mo_r (c := 128) (by decide) (by decide)]
    by_cases e : x = n
    · have e2 : y ≠ n := fun z => hxy (e.trans z.symm)
      rw [e, Mo_pn, Mo_po e2]
      exact F y hy₉ e2
    · rw [Mo_po e]
      by_cases e2 : y = n
      · rw [e2, Mo_pn]
        exact (F x hx₉ e).symm
      · rw [Mo_po e2]
        exact hi2 x y hx₉ hy₉ hxy
  · have hq2 : ∀ x, xAl a x → x ≠ n → ¬ ((a 130 x).toInt ≤ (p : Int) ∧ (p : Int) < (a 130 x).toInt + (a 128 x).toInt) := fun x hx e z => by
      have g := hq x (Mo_al.2 hx)
      rw [Mo_po e, Mo_r (c := 128) (by decide) (by decide)] at g
      exact g z
    have g := hq n (Mo_al.2 hn)
    rw [Mo_pn, Mo_r (c := 128) (by decide) (by decide)] at g
    by_cases o : (a 130 n).toInt ≤ (p : Int) ∧ (p : Int) < (a 130 n).toInt + (a 128 n).toInt
    · exact Mo_old g o
    · rw [Mo_out g o]
      refine hi3 p hp (fun x hx => ?_)
      by_cases e : x = n
      · rw [e]; exact o
      · exact hq2 x hx e
  · unfold qI4 at hi4 ⊢
    rw [Mo_c (c := 69) (by decide) (by decide), Mo_c (c := 87) (by decide) (by decide)]
    refine ⟨hi4.1, hi4.2.1, hi4.2.2.1, hi4.2.2.2.1, fun x hx z => ?_, hi4.2.2.2.2.2⟩
    have hx₉ := Mo_al.1 hx
    rw [hz] at z
    by_cases e : x = n
    · rw [e, Mo_pn] at z
      omega
    · rw [Mo_po e] at z
      have q := (hi1 x hx₉).1.2
      omega
  · rw [Mo_su, Mo_r (by decide) (by decide)]
    exact hI.2.2.2.2.1
  · rw [Mo_r (by omega) (by omega)]
    exact hI.2.2.2.2.2 x (fun z => hx (Mo_al.2 z)) k
/-- references stay -/
theorem Mo_ref {i : Int32} (hI : qI a) (hn : xAl a n) (h0 : 0 ≤ to.toInt) (h1 : to.toInt + (a 128 n).toInt ≤ (a 87 0).toInt) (F : qFr a n to) (h : xAl a n₉) (hi : 0 ≤ i.toInt) (hi2 : i.toInt < (a 128 n₉).toInt - 1) : aRef (aMo a n to) n₉ i = aRef a n₉ i := by
  have b := hI.1 n₉ h
  have b4 := hI.2.2.2.1.2.2.1
  have l1 : (1 : Int32).toInt = 1 := rfl
  have e1 : (a 130 n₉ + 1).toInt = (a 130 n₉).toInt + 1 := i_addk rfl (by omega) (by omega)
  have e2 : (a 130 n₉ + 1 + i).toInt = (a 130 n₉).toInt + 1 + i.toInt := by rw [i_add (by omega) (by omega), e1]
  have t2 := tn_cast (x := a 130 n₉ + 1 + i) (by omega)
  unfold aRef
  rw [Mo_r (c := 1000 + n₉) (by omega) (by omega)]
  by_cases e : n₉ = n
  · subst e
    have f1 : (to + 1).toInt = to.toInt + 1 := i_addk rfl (by omega) (by omega)
    have f2 : (to + 1 + i).toInt = to.toInt + 1 + i.toInt := by rw [i_add (by omega) (by omega), f1]
    have s2 := tn_cast (x := to + 1 + i) (by omega)
    rw [Mo_pn]
    by_cases w : a (1000 + n₉) i.toNatClampNeg ≠ 0
    · rw [if_pos ⟨w, by omega, by omega⟩, if_pos ⟨w, by omega, by omega⟩, Mo_in (by omega) (by omega), show (((to + 1 + i).toNatClampNeg : Int) - to.toInt + (a 130 n₉).toInt).toNat = (a 130 n₉ + 1 + i).toNatClampNeg from by omega]
    · rw [if_neg (fun z => w z.1), if_neg (fun z => w z.1)]
  · rw [Mo_po e, Mo_ot hI hn F h e (by omega) (by omega)]
end F0

/-! from 95.q11 -/
/-! the moving collectors, the class (written by wip/tools/gen15.py) -/
/-! SLIDE: the reference's move -/
section F1
variable {a : Nat → Nat → Int32} {us nr kr kd ws at₉ at2 ho wd wi ow ow2 rt wk wl : Nat → Int32} {wm nu ro fo le ra pi to : Int32} {s : Nat}
theorem RB_mo (hR : qRB us nr kr kd ws at₉ ho wd wi ow rt wk wl wm nu ro fo le ra pi a) (hI : qI a) (hs : s < 3100) (hu : us s ≠ 0) (h0 : 0 ≤ to.toInt) (h1 : to.toInt + (a 128 (nr s).toNatClampNeg).toInt ≤ (a 87 0).toInt) (F : qFr a (nr s).toNatClampNeg to)
    (ha : ∀ t, at2 t = if t = s then to else at₉ t) (h2 : ow2 to.toNatClampNeg = Int32.ofNat s) (h3 : ∀ p, p ≠ to.toNatClampNeg → p ≠ (at₉ s).toNatClampNeg → ow2 p = ow p) : qRB us nr kr kd ws at2 ho wd wi ow2 rt wk wl wm nu ro fo le ra pi (aMo a (nr s).toNatClampNeg to) := by
  have hn := R1_al hR.1 hs hu
  have ne : ∀ t, t < 3100 → us t ≠ 0 → t ≠ s → (nr t).toNatClampNeg ≠ (nr s).toNatClampNeg := fun t ht hut e z => e (hR.1.2.1 t s ht hs hut hu (by rw [← R1_of_nr hR.1 ht hut, ← R1_of_nr hR.1 hs hu, z]))
  refine ⟨⟨fun t ht hut => ?_, hR.1.2.1, fun n hn2 hz => ?_⟩, fun t ht hut i hi => ?_, fun k hk => ?_, fun k hk => ?_, ?_, fun t ht hut => ?_, fun t ht hut => ?_, ?_⟩
  · have q := hR.1.1 t ht hut
    rw [Mo_r (c := 126) (by decide) (by decide), Mo_r (c := 128) (by decide) (by decide), Mo_r (c := 133) (by decide) (by decide), ha t]
    by_cases e : t = s
    · rw [if_pos e, e, Mo_pn]
      rw [e] at q
      exact ⟨q.1, q.2.1, q.2.2.1, rfl, q.2.2.2.2.1, q.2.2.2.2.2.1, h0⟩
    · rw [if_neg e, Mo_po (ne t ht hut e)]
      exact q
  · rw [Mo_r (by decide) (by decide)] at hz
    exact hR.1.2.2 n hn2 hz
  · have q := hR.2.1 t ht hut i hi
    have b := hR.1.1 t ht hut
    have al := R1_al hR.1 ht hut
    have sz : (a 128 (nr t).toNatClampNeg).toInt = (ws t).toInt + 1 := by
      rw [b.2.2.1]
      exact i_addk rfl (by omega) (by omega)
    have ei : (Int32.ofNat i).toInt = (i : Int) := ofN_s (by omega)
    rw [Mo_ref hI hn h0 h1 F al (by omega) (by omega), Mo_r (c := 1000 + (nr t).toNatClampNeg) (by omega) (by omega)]
    exact q
  · rw [Mo_r (by decide) (by decide)]
    exact hR.2.2.1 k hk
  · rw [Mo_r (by decide) (by decide)]
    exact hR.2.2.2.1 k hk
  · unfold qR5
    rw [Mo_c (c := 69) (by decide) (by decide), Mo_c (c := 74) (by decide) (by decide)]
    exact hR.2.2.2.2.1
  · rw [Mo_r (by decide) (by decide)]
    exact hR.2.2.2.2.2.1 t ht hut
  · rw [ha t]
    by_cases e : t = s
    · rw [if_pos e, e]
      exact h2
    · rw [if_neg e]
      have b := hR.1.1 t ht hut
      have bs := hR.1.1 s hs hu
      have al := R1_al hR.1 ht hut
      have f := F _ al (ne t ht hut e)
      have g := hI.2.1 _ _ al hn (ne t ht hut e)
      have z1 := (hI.1 _ al).2.1
      have z2 := (hI.1 _ hn).2.1
      rw [b.2.2.2.1] at f g
      rw [bs.2.2.2.1] at g
      have t0 := tn_cast (x := to) h0
      have t1 := tn_cast (x := at₉ t) b.2.2.2.2.2.2
      have t2 := tn_cast (x := at₉ s) bs.2.2.2.2.2.2
      rw [h3 (at₉ t).toNatClampNeg (by omega) (by omega)]
      exact hR.2.2.2.2.2.2.1 t ht hut
  · unfold qR8
    rw [Mo_c (c := 69) (by decide) (by decide), Mo_c (c := 87) (by decide) (by decide)]
    exact hR.2.2.2.2.2.2.2
end F1

/-! from 95.q12 -/
/-! the moving collectors, the class (written by wip/tools/gen15.py) -/
/-! the moving collectors: row 87 is what is said of the places; a move in the class -/
def aM (q : Nat → Int32) (S : ma_S) : Nat → Nat → Int32 := fun c k => if c = 87 then q k else aS 75 S c k
/-- a move that can be -/
def qMv (a : Nat → Nat → Int32) (n : Nat) (to : Int32) : Prop := 0 ≤ (a 130 n).toInt ∧ 1 ≤ (a 128 n).toInt ∧ (a 130 n).toInt + (a 128 n).toInt ≤ 4500 ∧ 0 ≤ to.toInt ∧ to.toInt + (a 128 n).toInt ≤ 4500 ∧ (to.toInt ≤ (a 130 n).toInt ∨ (a 130 n).toInt + (a 128 n).toInt ≤ to.toInt)
section F2
variable {W c k n g : Nat} {q : Nat → Int32} {S S₉ : ma_S} {R : Nat → Option Nat} {x y to : Int32} {a ab b : Nat → Nat → Int32} {f : Nat → Int32} {I : Nat → Nat → Int32} {L : Nat → Nat → Int64} {p e : Int}
theorem aM_o (h : c ≠ 87) : aM q S c k = aS 75 S c k := if_neg h
theorem aM_7 : aM q S 87 k = q k := if_pos rfl
theorem zr_n {P : Nat} (h : c ≠ P) : mI (ma_put S c k (.inl x)) P = mI S P := funext (fun j => by
  show (if P = c ∧ j = k then x else mI S P j) = mI S P j
  rw [if_neg (fun w => h w.1.symm)])
theorem aM_c (h : aS 75 S₉ = aS 75 S) : aM q S₉ = aM q S := by
  unfold aM
  rw [h]
theorem aM_r (h : c ≠ 87) : aM q S c = aS 75 S c := funext (fun _ => aM_o h)
theorem mb_e : zOb (aM q S) = zOb (aS 75 S) := by
  funext p
  unfold zOb
  rw [aM_o (c := 71) (by decide), aM_o (c := 126) (by decide)]
theorem mb_y (hC : xB S R) (rg : zTa R (mI S 71 x.toNatClampNeg) = some c) (h0 : 0 ≤ x.toInt) (h1 : x.toInt < 4500) : zOb (aM q S) x.toInt = mI S 71 x.toNatClampNeg ∧ aM q S 128 (mI S 71 x.toNatClampNeg).toNatClampNeg = mI S c 2 := by
  rw [mb_e, aM_o (c := 128) (by decide)]
  exact ob_y hC rg h0 h1
theorem mb_n2 (h : (mI S 71 x.toNatClampNeg).toInt < 0 ∨ 512 ≤ (mI S 71 x.toNatClampNeg).toInt) : zOb (aM q S) x.toInt = -1 := by
  rw [mb_e]
  exact ob_n2 h
theorem mb_n3 (hC : xB S R) (rn : zTa R (mI S 71 x.toNatClampNeg) = none) : zOb (aM q S) x.toInt = -1 := by
  rw [mb_e]
  exact ob_n3 hC rn
theorem aTf_cp (hR : ∀ n t, n < 512 → R n = some t → 126 ≤ t) : aTf (ma_uc I 71 f) R g n = aTf I R g n := by
  unfold aTf
  by_cases h : n < 512
  · rw [if_pos h, if_pos h]
    cases e : R n with
    | none => rfl
    | some t =>
      show (if t = 71 then f else I t) g = I t g
      rw [if_neg (fun y => by have := hR n t h e; omega)]
  · rw [if_neg h, if_neg h]
theorem aF_cp (hW : xW W) (hR : ∀ n t, n < 512 → R n = some t → 126 ≤ t) : aF W (ma_uc I 71 f) R L = ma_uc (aF W I R L) 71 f := by
  funext c k
  show aF W (ma_uc I 71 f) R L c k = (if c = 71 then f else aF W I R L c) k
  have z1 : zrl 71 k = true := rfl
  have z2 : zcw W 71 = 71 := zcw_s (Or.inl (by decide))
  by_cases w : c = 71
  · rw [if_pos w, w, aF_I z1, z2]
    show (if (71 : Nat) = 71 then f else I 71) k = f k
    rw [if_pos rfl]
  · rw [if_neg w]
    by_cases b : zrl c k = true
    · rw [aF_I b, aF_I b]
      have ne : zcw W c ≠ 71 := fun e => w (zcw_inj hW b z1 (e.trans z2.symm))
      show (if zcw W c = 71 then f else I (zcw W c)) k = _
      rw [if_neg ne]
    · unfold aF
      rw [if_neg b, if_neg b, aTf_cp hR]
theorem xC_cp (h : xC W S ab R) (hW : xW W) : xC W (ma_cp S 71 f) (ma_uc ab 71 f) R := by
  refine ⟨?_, h.2.1, fun n t hn e => ?_⟩
  · rw [← h.1]
    exact aF_cp (I := mI S) (R := mR S 70) (L := mL S) hW (xB_hR h.2)
  · have q := h.2.2 n t hn e
    refine ⟨q.1, ?_⟩
    show (if t = 71 then f else mI S t) 0 = _
    rw [if_neg (by have := q.1; omega)]
    exact q.2
theorem cp_fx (h : 126 ≤ c) : (mI (ma_cp S 71 f) c k).toInt = (mI S c k).toInt := by
  show ((if c = 71 then f else mI S c) k).toInt = _
  rw [if_neg (by omega)]
theorem cp_th (h : 126 ≤ c) : mI (ma_cp S 71 f) c k = mI S c k := by
  show (if c = 71 then f else mI S c) k = _
  rw [if_neg (by omega)]
theorem Mo_id : aMo a n (a 130 n) = a := by
  funext c k
  unfold aMo
  by_cases w : c = 71
  · rw [if_pos w, w]
    split
    · next z => rw [show ((k : Int) - (a 130 n).toInt + (a 130 n).toInt).toNat = k from by omega]
    · next z => rfl
  · rw [if_neg w]
    split
    · next z => rw [z.1, z.2]
    · rfl
/-- copying, freeing, and the place -/
theorem Mo_eq (h : qMv a n to) (hp : p = if to.toInt < (a 130 n).toInt then (if (a 130 n).toInt ≤ to.toInt + (a 128 n).toInt then to.toInt + (a 128 n).toInt else (a 130 n).toInt) else (a 130 n).toInt) (he : e = (a 130 n).toInt + (a 128 n).toInt) (hne : to.toInt ≠ (a 130 n).toInt) : ma_u (zFr (ma_uc a 71 (va_cpy (a 71) (a 71) (a 130 n).toNatClampNeg to.toNatClampNeg (a 128 n).toNatClampNeg)) p e) 130 n to = aMo a n to := by
  obtain ⟨h1, h2, h3, h4, h5, h6⟩ := h
  have t1 := tn_cast (x := a 130 n) h1
  have t2 := tn_cast (x := a 128 n) (by omega)
  have t3 := tn_cast (x := to) h4
  funext c k
  unfold aMo
  show (if c = 130 ∧ k = n then to else (if c = 71 ∧ p ≤ (k : Int) ∧ (k : Int) < e then -1 else (if c = 71 then va_cpy (a 71) (a 71) (a 130 n).toNatClampNeg to.toNatClampNeg (a 128 n).toNatClampNeg else a c) k)) = _
  by_cases w : c = 71
  · rw [if_pos w, if_neg (by omega), if_pos w]
    unfold va_cpy
    by_cases i : to.toInt ≤ (k : Int) ∧ (k : Int) < to.toInt + (a 128 n).toInt
    · have np : ¬ (c = 71 ∧ p ≤ (k : Int) ∧ (k : Int) < e) := fun z => by
        rw [hp, he] at z
        have z2 := z.2
        split at z2
        · split at z2 <;> omega
        · omega
      rw [if_neg np, if_pos i, if_pos (by omega), show (a 130 n).toNatClampNeg + (k - to.toNatClampNeg) = ((k : Int) - to.toInt + (a 130 n).toInt).toNat from by omega]
    · rw [if_neg i]
      by_cases j : (a 130 n).toInt ≤ (k : Int) ∧ (k : Int) < (a 130 n).toInt + (a 128 n).toInt
      · have yp : c = 71 ∧ p ≤ (k : Int) ∧ (k : Int) < e := by
          refine ⟨w, ?_, by omega⟩
          rw [hp]
          split
          · split <;> omega
          · omega
        rw [if_pos yp, if_pos j]
      · have np : ¬ (c = 71 ∧ p ≤ (k : Int) ∧ (k : Int) < e) := fun z => by
          rw [hp, he] at z
          have z2 := z.2
          split at z2
          · split at z2 <;> omega
          · omega
        rw [if_neg np, if_neg j, if_neg (by omega)]
  · have np : ¬ (c = 71 ∧ p ≤ (k : Int) ∧ (k : Int) < e) := fun z => w z.1
    rw [if_neg np, if_neg w, if_neg w]
theorem Mo_e1 (h : qMv a n to) (h1 : ¬ to.toInt < (a 130 n).toInt) (hne : to.toInt ≠ (a 130 n).toInt) : ma_u (zFr (ma_uc a 71 (va_cpy (a 71) (a 71) (a 130 n).toNatClampNeg to.toNatClampNeg (a 128 n).toNatClampNeg)) (a 130 n).toInt (zMin (a 130 n + a 128 n).toInt)) 130 n to = aMo a n to := by
  obtain ⟨g1, g2, g3, g4, g5, g6⟩ := id h
  have e1 : (a 130 n + a 128 n).toInt = (a 130 n).toInt + (a 128 n).toInt := i_add (by omega) (by omega)
  refine Mo_eq h ?_ ?_ hne
  · rw [if_neg h1]
  · unfold zMin
    rw [e1]
    split <;> omega
theorem Mo_e2 (h : qMv a n to) (h1 : to.toInt < (a 130 n).toInt) : ma_u (zFr (ma_uc a 71 (va_cpy (a 71) (a 71) (a 130 n).toNatClampNeg to.toNatClampNeg (a 128 n).toNatClampNeg)) (if a 130 n < to + a 128 n then to + a 128 n else a 130 n).toInt (zMin (a 130 n + a 128 n).toInt)) 130 n to = aMo a n to := by
  obtain ⟨g1, g2, g3, g4, g5, g6⟩ := id h
  have e1 : (a 130 n + a 128 n).toInt = (a 130 n).toInt + (a 128 n).toInt := i_add (by omega) (by omega)
  have e2 : (to + a 128 n).toInt = to.toInt + (a 128 n).toInt := i_add (by omega) (by omega)
  refine Mo_eq h ?_ ?_ (by omega)
  · rw [if_pos h1]
    by_cases w : a 130 n < to + a 128 n
    · have w2 := Int32.lt_iff_toInt_lt.mp w
      rw [if_pos w, if_pos (by omega), e2]
    · have w2 : ¬ (a 130 n).toInt < (to + a 128 n).toInt := fun z => w (Int32.lt_iff_toInt_lt.mpr z)
      rw [if_neg w]
      split <;> omega
  · unfold zMin
    rw [e1]
    split <;> omega
theorem M_mo (h : aS 75 S₉ = aMo (aS 75 S) n to) : aM q S₉ = aMo (aM q S) n to := by
  funext c k
  by_cases w : c = 87
  · rw [w, aM_7, Mo_r (by decide) (by decide), aM_7]
  · rw [aM_o w, h]
    unfold aMo
    rw [aM_o (c := 128) (by decide), aM_o (c := 130) (by decide), aM_o (c := 71) (by decide), aM_o (c := 71) (by decide), aM_o w]
theorem Mv_S (h : qMv (aM q S) n to) : qMv (aS 75 S) n to := by
  unfold qMv at h ⊢
  rw [aM_o (c := 130) (by decide), aM_o (c := 128) (by decide)] at h
  exact h
theorem M_sw (h : aS 75 S₉ = aSw (aS 75 S)) : aM q S₉ = aSw (aM q S) := by
  have o : zO7 (aS 75 S) (aM q S) := fun c k w => (aM_o w).symm
  funext c k
  by_cases w : c = 87
  · rw [w, sw_87, aM_7, aM_7]
  · rw [aM_o w, h]
    exact o7_sw o c k w
end F2

