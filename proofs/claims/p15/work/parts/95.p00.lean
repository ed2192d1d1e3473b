/-! LIKENESS, SWEEP and COUNTS: alike but for walks and what is no matter of the collector -/
def zQ (a b : Nat → Nat → Int32) : Prop := ∀ c k, c ≠ 75 → c ≠ 76 → c ≠ 77 → ¬ (c = 87 ∧ 3 ≤ k ∧ k ≠ 8) → a c k = b c k
def zBr (a b : Nat → Nat → Int32) : Nat → Nat → Int32 := fun c k => if c = 75 ∨ c = 76 ∨ c = 77 then b c k else a c k
section E0
variable {a b d e aa : Nat → Nat → Int32} {x y z i o r t kk w rt : Int32} {n k c m : Nat} {p : Int} {F : Nat → Int32} {L : Int64} {B : Int} {S S' : ma_S} {P : Nat}
theorem Q_c (h : zQ a b) (h1 : c ≠ 75) (h2 : c ≠ 76) (h3 : c ≠ 77) (h4 : c ≠ 87) : a c k = b c k := h c k h1 h2 h3 (fun w => h4 w.1)
theorem Q_8 (h : zQ a b) : zO8 a b := fun _ _ h1 h2 h3 h4 => Q_c h h1 h2 h3 h4
theorem Q_k (h : zQ a b) (hk : k < 3) : a 87 k = b 87 k := h 87 k (by decide) (by decide) (by decide) (by omega)
theorem Q_8e (h : zQ a b) : a 87 8 = b 87 8 := h 87 8 (by decide) (by decide) (by decide) (by decide)
theorem Q_of (o : zO8 a b) (h : ∀ k, k < 3 ∨ k = 8 → a 87 k = b 87 k) : zQ a b := fun c k h1 h2 h3 h4 => by
  by_cases w : c = 87
  · rw [w]
    exact h k (by omega)
  · exact o c k h1 h2 h3 w
theorem Br_of : zOf a (zBr a b) := fun c k h1 h2 h3 => (if_neg (by omega)).symm
theorem Br_7 (h : zO8 a b) : zO7 (zBr a b) b := fun c k hc => by
  unfold zBr
  by_cases w : c = 75 ∨ c = 76 ∨ c = 77
  · rw [if_pos w]
  · rw [if_neg w]
    exact h c k (by omega) (by omega) (by omega) hc
theorem O8_Rq (h : zO8 a b) : zRq a x ↔ zRq b x := by
  refine (Of_Rq (Br_of (a := a) (b := b))).trans ?_
  have o := Br_7 h
  unfold zRq
  rw [o 126 _ (by decide), o7_ra o 77 _ (by decide)]
theorem O8_u (h : zO8 a b) : zO8 (ma_u a n k x) (ma_u b n k x) := fun c' k' h1 h2 h3 h4 => by
  show (if c' = n ∧ k' = k then x else a c' k') = (if c' = n ∧ k' = k then x else b c' k')
  rw [h c' k' h1 h2 h3 h4]
theorem q_u (h : zQ a b) : zQ (ma_u a n k x) (ma_u b n k x) := fun c' k' h1 h2 h3 h4 => by
  show (if c' = n ∧ k' = k then x else a c' k') = (if c' = n ∧ k' = k then x else b c' k')
  rw [h c' k' h1 h2 h3 h4]
theorem O8_if {P Q : Prop} {a' b' : Nat → Nat → Int32} (e : P ↔ Q) (h1 : Q → zO8 a' b') (h2 : zO8 a b) : zO8 (qIf P a' a) (qIf Q b' b) := by
  by_cases w : Q
  · rw [qIf_y (e.mpr w), qIf_y w]
    exact h1 w
  · rw [qIf_n (fun q => w (e.mp q)), qIf_n w]
    exact h2
theorem If_87 {P : Prop} {a' : Nat → Nat → Int32} (h : a' 87 k = a 87 k) : qIf P a' a 87 k = a 87 k := by
  by_cases w : P
  · rw [qIf_y w]
    exact h
  · rw [qIf_n w]
theorem O8_c (h : zO8 a b) (h1 : c ≠ 75) (h2 : c ≠ 76) (h3 : c ≠ 77) (h4 : c ≠ 87) : a c k = b c k := h c k h1 h2 h3 h4
theorem O8_Nm (h : zO8 a b) : aNm a y = aNm b y := by
  unfold aNm
  rw [O8_c (c := 126) h (by decide) (by decide) (by decide) (by decide)]
theorem O8_Hw (h : zO8 a b) : zHw a o i ↔ zHw b o i := by
  unfold zHw
  rw [O8_c (c := 128) h (by decide) (by decide) (by decide) (by decide)]
theorem O8_Ir (h : zO8 a b) : zIr a o i ↔ zIr b o i := by
  unfold zIr
  rw [h (1000 + o.toNatClampNeg) _ (by omega) (by omega) (by omega) (by omega)]
theorem O8_rf (h : zO8 a b) : aRef a n i = aRef b n i := rf_cg (o8_r h (by omega) (by omega) (by omega) (by omega)) (o8_r h (by decide) (by decide) (by decide) (by decide)) (o8_r h (by decide) (by decide) (by decide) (by decide))
theorem O8_ci (h : zO8 a b) : zO8 (aCi a n i x) (aCi b n i x) := by
  unfold aCi
  rw [O8_c (c := 130) h (by decide) (by decide) (by decide) (by decide)]
  split
  · exact O8_u h
  · exact h
theorem ci_87 : aCi a n i x 87 k = a 87 k := by
  unfold aCi
  split
  · exact xu_o (by omega)
  · rfl
theorem O8_r0 (h : zO8 a b) : zO8 (aR0 a i y) (aR0 b i y) := by
  unfold aR0
  rw [O8_Nm h]
  exact O8_u h
theorem q_r0 (h : zQ a b) : zQ (aR0 a i y) (aR0 b i y) := by
  unfold aR0
  rw [O8_Nm (Q_8 h)]
  exact q_u h
theorem r0_87 : aR0 a i y 87 k = a 87 k := xu_o (by omega)
theorem O8_tw (h : zO8 a b) : zO8 (aTw a) (aTw b) ∧ aTy a = aTy b := by
  have e5 := O8_c (c := 69) (k := 5) h (by decide) (by decide) (by decide) (by decide)
  have e74 := O8_c (c := 74) (k := 0) h (by decide) (by decide) (by decide) (by decide)
  unfold aTw aTy
  rw [e5, e74]
  refine ⟨?_, rfl⟩
  split
  · intro c' k' h1 h2 h3 h4
    show (if c' = 74 ∧ (k' : Int) < _ then ma_u a 69 5 (b 69 5 - 1) 74 (k' + 1) else ma_u a 69 5 (b 69 5 - 1) c' k') = (if c' = 74 ∧ (k' : Int) < _ then ma_u b 69 5 (b 69 5 - 1) 74 (k' + 1) else ma_u b 69 5 (b 69 5 - 1) c' k')
    rw [O8_u (n := 69) (k := 5) (x := b 69 5 - 1) h c' k' h1 h2 h3 h4, O8_u (n := 69) (k := 5) (x := b 69 5 - 1) h 74 (k' + 1) (by decide) (by decide) (by decide) (by decide)]
  · exact h
theorem tw_87 : aTw a 87 k = a 87 k := congrFun (Tw_e (by decide) (by decide)) k
/-! cleaning -/
theorem Of_sw (h : zOf a b) (hI : qI b) : zOf (aSw a) (aSw b) ∧ aSv a = aSv b := by
  have hIa : qI a := qI_of hI (Of_sy h)
  have q : zPQ (aRA a) (aRA b) := ⟨Of_tr (Of_sy RA_zo) (Of_tr h RA_zo), E0_ra hIa, E0_ra hI, fun x => ⟨fun w => ⟨w.1, by rw [← (Of_RA h).2.2.1 x w.1]; exact w.2⟩, fun w => ⟨w.1, by rw [(Of_RA h).2.2.1 x w.1]; exact w.2⟩⟩⟩
  have g : zPQ (aGw (aRA a) 0) (aGw (aRA b) 0) := by
    unfold aGw
    rw [q.1 69 6 (by decide) (by decide) (by decide)]
    exact Gf_of _ _ _ _ q
  have s : zOf (aMv (aGw (aRA a) 0) 0) (aMv (aGw (aRA b) 0) 0) := by
    generalize aGw (aRA a) 0 = A at *
    generalize aGw (aRA b) 0 = B at *
    unfold aMv
    rw [g.1 69 6 (by decide) (by decide) (by decide)]
    exact Mf_of _ _ _ _ ⟨g.1, g.2.2.2, g.2.1.1.2.2.2.2.2, g.2.2.1.1.2.2.2.2.2⟩
  refine ⟨s, ?_⟩
  unfold aSv aSw
  rw [s 69 11 (by decide) (by decide) (by decide), g.1 69 11 (by decide) (by decide) (by decide)]
theorem Q_sw (h : zQ a b) (hI : qI a) : zQ (aSw a) (aSw b) ∧ aSv a = aSv b := by
  have hc : qI (zBr a b) := qI_of hI Br_of
  have s := Of_sw (Br_of (a := a) (b := b)) hc
  have o := Br_7 (Q_8 h)
  refine ⟨fun c k h1 h2 h3 h4 => ?_, s.2.trans (sv_eq o)⟩
  by_cases w : c = 87
  · rw [w, sw_87, sw_87]
    rw [w] at h4
    exact h 87 k (by decide) (by decide) (by decide) h4
  · exact (s.1 c k h1 h2 h3).trans (o7_sw o c k w)
theorem Ob_q (h : zQ a b) : zOb a = zOb b := by
  funext p
  unfold zOb
  rw [Q_c (c := 71) h (by decide) (by decide) (by decide) (by decide), Q_c (c := 126) h (by decide) (by decide) (by decide) (by decide)]
theorem N_q (h : zQ a b) : aN a = aN b := by
  have e0 := Q_k h (k := 0) (by decide)
  have f : ∀ (f : Nat) (p : Int), aNf a f p = aNf b f p := by
    intro f
    induction f with
    | zero =>
      intro p
      unfold aNf
      rw [e0]
    | succ f ih =>
      intro p
      unfold aNf
      rw [e0, Ob_q h, Q_c (c := 128) h (by decide) (by decide) (by decide) (by decide), ih]
  funext p
  unfold aN
  rw [e0, f]
theorem E_q (h : zQ a b) : aE a = aE b := by
  have e0 := Q_k h (k := 0) (by decide)
  have f : ∀ (f : Nat) (p : Int), aEf a f p = aEf b f p := by
    intro f
    induction f with
    | zero =>
      intro p
      rfl
    | succ f ih =>
      intro p
      unfold aEf
      rw [e0, Ob_q h, ih]
  funext p
  unfold aE
  rw [e0, f]
theorem Ff_q (h : zQ a b) : ∀ (f : Nat) (q p z : Int), aFf a z q f p = aFf b z q f p := by
  intro f
  induction f with
  | zero =>
    intro q p z
    rfl
  | succ f ih =>
    intro q p z
    unfold aFf
    rw [E_q h, N_q h, ih]
theorem Fl_q (h : zQ a b) : ∀ (f : Nat) (p q l z : Int) (s : Int32), aFl a z s f p q l = aFl b z s f p q l := by
  intro f
  induction f with
  | zero =>
    intro p q l z s
    rfl
  | succ f ih =>
    intro p q l z s
    unfold aFl
    rw [Q_k h (k := 0) (by decide), E_q h, N_q h, ih, ih]
theorem Ft_q (h : zQ a b) : aFt a p = aFt b p := by
  unfold aFt aFx
  rw [Q_k h (k := 0) (by decide), Q_k h (k := 1) (by decide), Q_k h (k := 2) (by decide), N_q h, Ff_q h, Ff_q h, Ff_q h, Fl_q h, Fl_q h]
theorem Ad_q (h : zQ a b) : zQ (aMd (aAd a y F L) y) (aMd (aAd b y F L) y) := by
  have n0 : ∀ m : Nat, zQ (zNw a m F L) (zNw b m F L) := fun m c' k' q1 q2 q3 q4 => by
    unfold zNw
    rw [h c' k' q1 q2 q3 q4]
  have n1 : ∀ (d e : Nat → Nat → Int32) (p j : Int), zQ d e → zQ (zIw d p L j) (zIw e p L j) := fun d e p j o c' k' q1 q2 q3 q4 => by
    unfold zIw
    rw [o c' k' q1 q2 q3 q4]
  have A : zQ (aAd a y F L) (aAd b y F L) := by
    unfold aAd
    rw [Q_c (c := 69) (k := 6) h (by decide) (by decide) (by decide) (by decide), Q_c (c := 69) (k := 8) h (by decide) (by decide) (by decide) (by decide)]
    exact q_u (q_u (n1 _ _ _ _ (q_u (n0 _))))
  generalize aAd a y F L = A1 at *
  generalize aAd b y F L = B1 at *
  unfold aMd
  rw [Q_8e A, Q_c (c := 130) A (by decide) (by decide) (by decide) (by decide), Q_c (c := 128) A (by decide) (by decide) (by decide) (by decide)]
  split
  · exact q_u A
  · exact q_u (q_u A)
theorem Q_rs (h : zQ a b) (hI : qI a) : zQ (zRs a p) (zRs b p) ∧ zRp a p = zRp b p := by
  have f := Ft_q (p := p) h
  have q : zQ (zRs a p) (zRs b p) := by
    unfold zRs
    rw [f]
    split
    · exact (Q_sw h hI).1
    · exact h
  exact ⟨q, Ft_q q⟩
theorem md_878 : aMd (aAd a y F L) y 87 8 = a 87 8 := by
  unfold aMd
  split
  · rw [xu_o (by omega)]
    exact ad_87
  · rw [xu_o (by omega), xu_o (by omega)]
    exact ad_87
theorem Q_smk (h : zQ a b) (hI : qI a) (h8 : a 87 8 = 0) : zQ (sMk a kk w L rt) (sMk b kk w L rt) ∧ sMn a w = sMn b w := by
  have q := Q_rs (p := (w + 1).toInt) h hI
  have b8 : b 87 8 = 0 := (Q_8e h).symm.trans h8
  have e6 := Q_c (c := 69) (k := 6) h (by decide) (by decide) (by decide) (by decide)
  have e7 := Q_c (c := 69) (k := 6) q.1 (by decide) (by decide) (by decide) (by decide)
  have ra : zRs a (w + 1).toInt 87 8 = 0 := zRs_87.trans h8
  have rb : zRs b (w + 1).toInt 87 8 = 0 := zRs_87.trans b8
  unfold sMk sMn
  rw [e6, q.2, e7]
  generalize zRs a (w + 1).toInt = A at *
  generalize zRs b (w + 1).toInt = B at *
  split
  · split
    · exact ⟨q.1, rfl⟩
    · refine ⟨?_, rfl⟩
      rw [← r0_rt (md_878.trans ra), ← r0_rt (md_878.trans rb)]
      exact q_r0 (Ad_q q.1)
  · exact ⟨h, rfl⟩
theorem Q_le (h : zQ a b) (hV : cV a [] B) : zQ (cLe a y) (cLe b y) := by
  have hb : cV b [] B := V_0 (C_o8 (Q_8 h) (C_ofV hV))
  refine Q_of (Le_o8 (Q_8 h) hV) (fun k hk => ?_)
  rw [Le_x (Or.inr (Or.inr (Or.inr rfl))) hV, Le_x (Or.inr (Or.inr (Or.inr rfl))) hb]
  exact hk.elim (fun w => Q_k h w) (fun w => by rw [w]; exact Q_8e h)
theorem V_r0 (hV : cV a [] B) (hi : i.toNatClampNeg < 16) : cV (aR0 a i y) [] B := V_0 (C_rt (y := y) (K' := fun n => Int32.ofInt (cRf a n) + Int32.ofNat (cIs y n) - Int32.ofNat (cIs (a 72 i.toNatClampNeg) n)) (C_ofV hV) hi (fun _ _ => rfl))
theorem V_rs (hI : qI a) (hV : cV a [] B) : cV (zRs a p) [] B := by
  unfold zRs
  split
  · exact V_sw4 hI hV
  · exact hV
theorem Q_kmk (h : zQ a b) (hI : qI a) (hV : cV a [] B) (hB : 0 ≤ B) (h0 : 0 ≤ w.toInt) (h6 : w.toInt ≤ 60) (hr : 0 ≤ rt.toInt) (hr2 : rt.toInt ≤ 15) : zQ (kMk a kk w L rt) (kMk b kk w L rt) ∧ sMn a w = sMn b w := by
  have q := Q_rs (p := (w + 1).toInt) h hI
  have e6 := Q_c (c := 69) (k := 6) h (by decide) (by decide) (by decide) (by decide)
  have e7 := Q_c (c := 69) (k := 6) q.1 (by decide) (by decide) (by decide) (by decide)
  have e72 := Q_c (c := 72) (k := rt.toNatClampNeg) q.1 (by decide) (by decide) (by decide) (by decide)
  have hIr := I_rs (z := (w + 1).toInt) hI hV.2.1
  have hVr := V_rs (p := (w + 1).toInt) hI hV
  have cr := tn_cast hr
  by_cases z6 : (a 69 6).toInt < 512
  · by_cases zp : zRp a (w + 1).toInt = -1
    · have m1 := kMk_1 (kd := kk) (rt := rt) (L := L) z6 zp
      have m2 := kMk_1 (a := b) (kd := kk) (rt := rt) (L := L) (by rw [← e6]; exact z6) (by rw [← q.2]; exact zp)
      rw [m1.1, m1.2, m2.1, m2.2]
      exact ⟨q.1, rfl⟩
    · have fs := Ft_fs hIr (z := (w + 1).toInt) (by rw [i_p1 (by omega)]; omega) zp
      have e1 := i_p1 (i := w) (by omega)
      have r5 := hIr.2.2.2.1.2.2.1
      have zz : zRp a (w + 1).toInt = aFt (zRs a (w + 1).toInt) (w + 1).toInt := rfl
      rw [← zz] at fs
      have f0 := fs.1
      have f1 := fs.2.1
      have pl : (Int32.ofInt (zRp a (w + 1).toInt)).toInt = zRp a (w + 1).toInt := Int32.toInt_ofInt_of_le (by omega) (by omega)
      have zr6 : (zRs a (w + 1).toInt 69 6).toInt < 512 := by
        have e : zRs a (w + 1).toInt 69 6 = a 69 6 := by
          unfold zRs
          split
          · unfold aSw aMv aGw
            rw [w6mf, w6gf]
            exact (RA_zo 69 6 (by decide) (by decide) (by decide)).symm
          · rfl
        rw [e]
        exact z6
      have ne := Ne_o0 (aa := a) (w := w) (pl := Int32.ofInt (zRp a (w + 1).toInt)) (y := zRs a (w + 1).toInt 69 6) hIr pl (by rw [pl]; exact f0) h0 h6 rfl zr6
      have nb := Ne_b ne
      have ad := Ad_of (b := zRs a (w + 1).toInt) (y := zRs a (w + 1).toInt 69 6) (kk := kk) (w := w) (pl := Int32.ofInt (zRp a (w + 1).toInt)) (L := L) nb.1 h0 h6 nb.2.2.2.1 (by omega)
      have va := V_ad4 ne ad hVr hB
      have m1 := kMk_2 (kd := kk) (rt := rt) (L := L) (pl := Int32.ofInt (zRp a (w + 1).toInt)) (y := zRs a (w + 1).toInt 69 6) z6 rfl pl (by rw [pl]; exact zp) rfl
      have m2 := kMk_2 (a := b) (kd := kk) (rt := rt) (L := L) (pl := Int32.ofInt (zRp a (w + 1).toInt)) (y := zRs a (w + 1).toInt 69 6) (by rw [← e6]; exact z6) rfl (by rw [← q.2]; exact pl) (by rw [pl]; exact zp) e7
      rw [m1.1, m1.2, m2.1, m2.2, ← e72]
      exact ⟨Q_le (q_r0 (Ad_q q.1)) (V_r0 va (by omega)), rfl⟩
  · have m1 := kMk_0 (wd := w) (kd := kk) (rt := rt) (L := L) z6
    have m2 := kMk_0 (a := b) (wd := w) (kd := kk) (rt := rt) (L := L) (by rw [← e6]; exact z6)
    rw [m1.1, m1.2, m2.1, m2.2]
    exact ⟨h, rfl⟩
/-! block -/
theorem Bk_q (h : zQ a b) : ∀ (n : Nat) (p : Int), aBk a n p = aBk b n p := by
  intro n
  induction n with
  | zero =>
    intro p
    unfold aBk
    rw [Q_k h (k := 0) (by decide)]
  | succ n ih =>
    intro p
    unfold aBk
    rw [Q_k h (k := 0) (by decide), N_q h, E_q h, ih]
theorem BT_q (h : zQ a b) : qBT a x = qBT b x := by
  unfold qBT
  rw [N_q h, Bk_q h]
end E0
