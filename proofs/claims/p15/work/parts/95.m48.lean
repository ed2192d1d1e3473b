/-! COUNTS, the class (written by wip/tools/gen20k.py) -/
/-! COUNTS: those that go come to an end; alike but for walk and collector -/
section C9A
variable {a b d : Nat → Nat → Int32} {x y r i : Int32} {n m k c j : Nat} {st t : List (List Int32)} {l : List Int32} {K K' : Nat → Int32} {B : Int}
theorem V_st : ∀ (st : List (List Int32)) (a : Nat → Nat → Int32), cV a st B → cV (cSt (a, st)).1 (cSt (a, st)).2 B := by
  intro st a h
  match st, h with
  | [], h => exact h
  | [] :: t, h =>
    obtain ⟨v1, v2, v3, v4, v5, v6⟩ := h
    refine ⟨v1, v2, fun l hl => v3 l (List.mem_cons_of_mem _ hl), v4, v5, ?_⟩
    have e : cLm ([] :: t) = 0 + 1 + cLm t := rfl
    show cLm t + cMs a ≤ 40000
    omega
  | (r :: l) :: t, h =>
    by_cases w : r.toInt < 0
    · rw [cSt_n w]
      exact V_tl h
    · have ok := h.2.2.1 (r :: l) List.mem_cons_self r List.mem_cons_self
      have al : xAl a r.toNatClampNeg := ok.elim (fun z => absurd z w) id
      rw [cSt_y (by omega)]
      exact (V_fa (V_tl h) (by omega) al).1
theorem E_ex : ∀ (m : Nat) (x : (Nat → Nat → Int32) × List (List Int32)), cMu x ≤ m → cV x.1 x.2 B → ∃ b, cE x b := by
  intro m
  induction m with
  | zero =>
    intro x hm hV
    by_cases h : x.2 = []
    · refine ⟨x.1, ?_⟩
      have e : x = (x.1, []) := by rw [← h]
      rw [e]
      exact cE_o
    · have q := Mu_st hV h
      omega
  | succ m ih =>
    intro x hm hV
    by_cases h : x.2 = []
    · refine ⟨x.1, ?_⟩
      have e : x = (x.1, []) := by rw [← h]
      rw [e]
      exact cE_o
    · have q := Mu_st hV h
      obtain ⟨b, hb⟩ := ih (cSt x) (by omega) (V_st x.2 x.1 hV)
      exact ⟨b, cE_s hb⟩
theorem O8_gr (o : zO8 a b) : zO8 (aGr a y) (aGr b y) := fun c k h1 h2 h3 h4 => by
  have e5 := o 69 5 (by decide) (by decide) (by decide) (by decide)
  have e73 := o 73 k (by decide) (by decide) (by decide) (by decide)
  have ec := o c k h1 h2 h3 h4
  rw [gr_at, gr_at (a := b), e5, ec]
  unfold zUw
  rw [e73]
theorem O8_rm (o : zO8 a b) : zO8 (aRm a y) (aRm b y) := fun c k h1 h2 h3 h4 => by
  have ec := o c k h1 h2 h3 h4
  have e128 := o 128 y.toNatClampNeg (by decide) (by decide) (by decide) (by decide)
  have e130 := o 130 y.toNatClampNeg (by decide) (by decide) (by decide) (by decide)
  by_cases h : 126 ≤ c
  · rw [rm_hi h, rm_hi h]
    unfold zNo
    rw [ec]
  · by_cases h71 : c = 71
    · rw [h71] at ec ⊢
      rw [rm_71, rm_71, e128, e130]
      unfold zFr
      rw [ec]
    · by_cases h73 : c = 73
      · rw [h73] at ec ⊢
        rw [rm_73, rm_73]
        unfold zUw
        rw [ec]
      · by_cases h69 : c = 69
        · rw [h69] at ec ⊢
          by_cases k8 : k = 8
          · rw [k8] at ec ⊢
            rw [rm_8, rm_8, ec, e128]
          · by_cases k11 : k = 11
            · rw [k11] at ec ⊢
              rw [rm_11, rm_11, ec, e128]
            · have q : ∀ (e : Nat → Nat → Int32) (z : Int32), aRm e z 69 k = e 69 k := fun e z => aRm_o (by decide) ⟨by decide, by decide, fun w => k8 w.2, fun w => k11 w.2⟩
              rw [q, q, ec]
        · rw [rm_co (by omega) h71 h73 h69, rm_co (by omega) h71 h73 h69, ec]
theorem Ls_o8 (o : zO8 a b) : cLs b m k = cLs a m k := by
  have o2 := O8_sy o
  exact cLs_cg (o2 128 m (by decide) (by decide) (by decide) (by decide)) (fun j _ _ => rf_cg (o8_r o2 (by omega) (by omega) (by omega) (by omega)) (o8_r o2 (by decide) (by decide) (by decide) (by decide)) (o8_r o2 (by decide) (by decide) (by decide) (by decide)))
theorem Fa_o8 (o : zO8 a b) : zO8 (cFa a st r).1 (cFa b st r).1 ∧ (cFa b st r).2 = (cFa a st r).2 := by
  have e1 : cRf a r.toNatClampNeg = cRf b r.toNatClampNeg := Rf_o8 o
  have e2 := o 134 r.toNatClampNeg (by decide) (by decide) (by decide) (by decide)
  by_cases h : 0 < cRf a r.toNatClampNeg + (cOc st r.toNatClampNeg : Int)
  · rw [Fa_p h, Fa_p (by rw [← e1]; exact h)]
    exact ⟨o, rfl⟩
  · by_cases w : a 134 r.toNatClampNeg = 0
    · rw [Fa_r h w, Fa_r (by rw [← e1]; exact h) (by rw [← e2]; exact w)]
      exact ⟨O8_rm o, congrArg (fun q => q :: st) (Ls_o8 o)⟩
    · rw [Fa_g h w, Fa_g (by rw [← e1]; exact h) (by rw [← e2]; exact w)]
      exact ⟨O8_gr o, rfl⟩
theorem St_o8 : ∀ (st : List (List Int32)), zO8 a b → zO8 (cSt (a, st)).1 (cSt (b, st)).1 ∧ (cSt (b, st)).2 = (cSt (a, st)).2 := by
  intro st o
  match st with
  | [] => exact ⟨o, rfl⟩
  | [] :: t => exact ⟨o, rfl⟩
  | (r :: l) :: t =>
    by_cases w : r.toInt < 0
    · rw [cSt_n w, cSt_n w]
      exact ⟨o, rfl⟩
    · rw [cSt_y (by omega), cSt_y (by omega)]
      exact Fa_o8 o
theorem It_o8 : ∀ (n : Nat) (a b : Nat → Nat → Int32) (st : List (List Int32)) (d : Nat → Nat → Int32), zO8 a b → cIt n (a, st) = (d, []) → ∃ d', cIt n (b, st) = (d', []) ∧ zO8 d d' := by
  intro n
  induction n with
  | zero =>
    intro a b st d o h
    have h' : (a, st) = (d, []) := h
    have e1 : a = d := congrArg Prod.fst h'
    have e2 : st = [] := congrArg Prod.snd h'
    refine ⟨b, ?_, by rw [← e1]; exact o⟩
    show (b, st) = (b, [])
    rw [e2]
  | succ n ih =>
    intro a b st d o h
    have s := St_o8 st o
    have h' : cIt n ((cSt (a, st)).1, (cSt (a, st)).2) = (d, []) := h
    obtain ⟨d', q1, q2⟩ := ih (cSt (a, st)).1 (cSt (b, st)).1 (cSt (a, st)).2 d s.1 h'
    refine ⟨d', ?_, q2⟩
    show cIt n ((cSt (b, st)).1, (cSt (b, st)).2) = (d', [])
    rw [s.2]
    exact q1
theorem Le_o8 (o : zO8 a b) (hV : cV a [] B) : zO8 (cLe a y) (cLe b y) := by
  by_cases h : 0 ≤ y.toInt ∧ xAl a y.toNatClampNeg
  · have hb : xAl b y.toNatClampNeg := by rw [← o8_al o]; exact h.2
    obtain ⟨d, n, hn⟩ := E_ex _ (cFa a [] y) (Nat.le_refl _) (V_fa hV h.1 h.2).1
    have f := Fa_o8 (st := []) (r := y) o
    obtain ⟨d', hd', od⟩ := It_o8 n (cFa a [] y).1 (cFa b [] y).1 (cFa a [] y).2 d f.1 hn
    have hb2 : cE (cFa b [] y) d' := ⟨n, by
      have e : cIt n ((cFa b [] y).1, (cFa b [] y).2) = (d', []) := by
        rw [f.2]
        exact hd'
      exact e⟩
    rw [cLe_y h.1 h.2 ⟨n, hn⟩, cLe_y h.1 hb hb2]
    exact od
  · rw [cLe_n h, cLe_n (fun w => h ⟨w.1, by rw [o8_al o]; exact w.2⟩)]
    exact o
/-- rows that are no matter of those that go -/
def cXr (c : Nat) : Prop := c = 75 ∨ c = 76 ∨ c = 77 ∨ c = 87
theorem Fa_x (hc : cXr c) : (cFa a st r).1 c k = a c k := by
  unfold cXr at hc
  unfold cFa
  split
  · rfl
  · split
    · show aRm a r c k = a c k
      exact rm_co (by omega) (by omega) (by omega) (by omega)
    · show aGr a r c k = a c k
      rw [gr_at, if_neg (by omega), if_neg (by omega), if_neg (by omega), if_neg (by omega)]
theorem Sx_x (hc : cXr c) : ∀ (st : List (List Int32)), (cSt (a, st)).1 c k = a c k := by
  intro st
  match st with
  | [] => rfl
  | [] :: t => rfl
  | (r :: l) :: t =>
    by_cases w : r.toInt < 0
    · rw [cSt_n w]
    · rw [cSt_y (by omega)]
      exact Fa_x hc
theorem It_x (hc : cXr c) : ∀ (n : Nat) (x : (Nat → Nat → Int32) × List (List Int32)), (cIt n x).1 c k = x.1 c k := by
  intro n
  induction n with
  | zero => intro x; rfl
  | succ n ih =>
    intro x
    show (cIt n (cSt x)).1 c k = x.1 c k
    rw [ih]
    exact Sx_x hc x.2
theorem Le_x (hc : cXr c) (hV : cV a [] B) : cLe a y c k = a c k := by
  by_cases h : 0 ≤ y.toInt ∧ xAl a y.toNatClampNeg
  · obtain ⟨d, n, hn⟩ := E_ex _ (cFa a [] y) (Nat.le_refl _) (V_fa hV h.1 h.2).1
    rw [cLe_y h.1 h.2 ⟨n, hn⟩]
    have e := It_x (k := k) hc n (cFa a [] y)
    rw [hn] at e
    exact e.trans (Fa_x hc)
  · rw [cLe_n h]
theorem V_0 (h : cC a [] K B) : cV a [] B := h.2.2.2.1
theorem C_o8 (o : zO8 a b) (h : cC a [] K B) : cC b [] K B := by
  obtain ⟨q1, q2, q3, q5, qk⟩ := C0_un h
  have j := J_o8 o (C_J h)
  refine C0_mk j.1 (Nd_o8 o q2) (fun n hn => ?_) j.2.1 j.2.2
  rw [← o8_al o] at hn
  rw [← o 133 n (by decide) (by decide) (by decide) (by decide)]
  exact q3 n hn
end C9A
/-! COUNTS: a new one -/
section C9B
variable {a b d : Nat → Nat → Int32} {x y w pl kk rt : Int32} {n m k u c : Nat} {L : Int64} {K K' : Nat → Int32} {B z : Int} {S S' : ma_S} {P : Nat}
theorem Th_ad (h : qNe b y w pl) (hA : qAd b d y kk w pl L) (hn : n < 512) : cTh d n = cTh b n := Th_cg (fun m hm => by
  by_cases z : m = y.toNatClampNeg
  · have na : ¬ xAl b m := by rw [z]; exact Ne_al h
    have b0 : b 126 m = 0 := Classical.byContradiction (fun z2 => na ⟨hm, z2⟩)
    have e1 : cTm b n m = 0 := if_pos b0
    have q := Ne_b h
    have hw := h.2.2.2.1
    have e2 : cOb d m n = 0 := by
      rw [z]
      unfold cOb
      rw [hA.1.2.1, q.2.2.2.2.2.1]
      exact cSu_z _ (fun k hk => by
        have e := ofN_s (s := k) (by omega)
        rw [rf_nw h hA (by omega) (by omega)]
        exact cIs_n (by decide) hn)
    rw [e1]
    unfold cTm
    rw [e2]
    split <;> rfl
  · exact Tm_cg (hA.2.1 126 m (by decide) (by decide) z) (hA.2.1 128 m (by decide) (by decide) z) (fun z0 i hi => rf_ad h hA (wp_N (cQ_I h.1) ⟨hm, z0⟩ hi)))
theorem Ok_ad (h : qNe b y w pl) (hA : qAd b d y kk w pl L) (o : cOk b x) : cOk d x := o.imp id (fun z => (Al_ad h hA).mpr (Or.inl z))
theorem Nd_ad (h : qNe b y w pl) (hA : qAd b d y kk w pl L) (hn : cNd b) : cNd d := by
  obtain ⟨n1, n2, n3⟩ := hn
  obtain ⟨e72, _, e74, e5⟩ := hA.2.2.2.2.1
  refine ⟨fun k hk => ?_, fun k hk => ?_, fun u j hw => ?_⟩
  · rw [e72]
    exact Ok_ad h hA (n1 k hk)
  · rw [e5] at hk
    rw [e74]
    exact Ok_ad h hA (n2 k hk)
  · rcases (Al_ad h hA).mp hw.1 with z | z
    · have o := ne_al h z
      have w2 : qWp b u j := ⟨z, hw.2.1, by have q := hw.2.2; rw [hA.2.1 128 u (by decide) (by decide) o] at q; exact q⟩
      rw [rf_ad h hA w2]
      exact Ok_ad h hA (n3 u j w2)
    · have q := hw.2.2
      rw [z, hA.1.2.1, (Ne_b h).2.2.2.2.2.1] at q
      rw [z, rf_nw h hA hw.2.1 (by omega)]
      exact Or.inl (by decide)
theorem Rf_ad (h : qNe b y w pl) (hA : qAd b d y kk w pl L) (hn : xAl b n) : cRf d n = cRf b n := Rf_cg (Ro_cg hA.2.2.2.2.1.1) (Wi_cg hA.2.2.2.2.1.2.2.2 hA.2.2.2.2.1.2.2.1) (hA.2.1 133 n (by decide) (by decide) (ne_al h hn)) (Th_ad h hA hn.1)
theorem is_ad (h : qNe b y w pl) (o : cOk b x) : cIs x y.toNatClampNeg = 0 := by
  have q := Ne_b h
  rcases o with o | o
  · exact cIs_n o q.2.1
  · refine cIs_0 (fun e => Ne_al h ?_)
    have e2 := ofN_i q.2.1
    have c := tn_cast (x := x) (by rw [e]; omega)
    have e3 : x.toNatClampNeg = y.toNatClampNeg := by
      rw [e] at c ⊢
      omega
    rw [← e3]
    exact o
theorem Rf_a0 (h : qNe b y w pl) (hA : qAd b d y kk w pl L) (hd : cNd b) : cRf d y.toNatClampNeg = 0 := by
  have q := Ne_b h
  obtain ⟨n1, n2, n3⟩ := hd
  have e1 : cRo d y.toNatClampNeg = 0 := by
    rw [Ro_cg hA.2.2.2.2.1.1]
    unfold cRo
    exact cSu_z 16 (fun k hk => is_ad h (n1 k hk))
  have e2 : cWi d y.toNatClampNeg = 0 := by
    rw [Wi_cg hA.2.2.2.2.1.2.2.2 hA.2.2.2.2.1.2.2.1]
    unfold cWi
    exact cSu_z _ (fun k hk => is_ad h (n2 k (by omega)))
  have e3 : cTh d y.toNatClampNeg = 0 := by
    rw [Th_ad h hA q.2.1]
    unfold cTh
    refine cSu_z (f := cTm b y.toNatClampNeg) 512 (fun m hm => ?_)
    unfold cTm
    by_cases z : b 126 m = 0
    · exact if_pos z
    · rw [if_neg z]
      unfold cOb
      exact cSu_z _ (fun k hk => is_ad h (n3 m _ (wp_N (cQ_I h.1) ⟨hm, z⟩ (by omega))))
  unfold cRf
  rw [e1, e2, e3, hA.1.2.2.2.1]
  rfl
theorem C_ad (h : qNe b y w pl) (hA : qAd b d y kk w pl L) (hC : cC b [] K B) (hB : 0 ≤ B) (hK : ∀ n, K' n = zKu K y.toNatClampNeg 0 n) : cC d [] K' B := by
  obtain ⟨hQ, hN, hH, h5, hk⟩ := C0_un hC
  refine C0_mk (cQ_I (I_ad h hA)) (Nd_ad h hA hN) (fun n hn => ?_) (by rw [hA.2.2.2.2.1.2.2.2]; exact h5) (fun n hn => ?_)
  · rcases (Al_ad h hA).mp hn with z | z
    · rw [hA.2.1 133 n (by decide) (by decide) (ne_al h z)]
      exact hH n z
    · rw [z, hA.1.2.2.2.1, show (0 : Int32).toInt = 0 from rfl]
      exact ⟨Int.le_refl _, hB⟩
  · rw [hK n]
    rcases (Al_ad h hA).mp hn with z | z
    · rw [Rf_ad h hA z, ← hk n z]
      exact if_neg (ne_al h z)
    · rw [z, Rf_a0 h hA hN]
      exact if_pos rfl
theorem I_swn (hI : qI a) (h : cNd a) : qI (aSw a) := by
  have o : zOf a (aRA a) := RA_zo
  have g := Gf_all ((aRA a 69 6).toInt - (0 : Int32).toInt).toNat 0 (aRA a) (qI_of hI o) (E0_ra hI) (Cl_ra hI) (Nd_o8 (Of_8 o) h)
  have hb : aGw (aRA a) 0 = aGf ((aRA a 69 6).toInt - (0 : Int32).toInt).toNat 0 (aRA a) := rfl
  rw [← hb] at g
  exact I_mv g.1 g.2.1.1.2.2.2.2.2.1
theorem I_rs (hI : qI a) (h : cNd a) : qI (zRs a z) := by
  unfold zRs
  split
  · exact I_swn hI h
  · exact hI
/-- a new one under COUNTS -/
noncomputable def kMk (a : Nat → Nat → Int32) (kd wd : Int32) (L : Int64) (rt : Int32) : Nat → Nat → Int32 := if (a 69 6).toInt < 512 then (if zRp a (wd + 1).toInt = -1 then zRs a (wd + 1).toInt else cLe (aR0 (aMd (aAd (zRs a (wd + 1).toInt) (zRs a (wd + 1).toInt 69 6) (zFn (zRs a (wd + 1).toInt 69 6) kd (wd + 1) (Int32.ofInt (zRp a (wd + 1).toInt))) L) (zRs a (wd + 1).toInt 69 6)) rt (zRs a (wd + 1).toInt 69 6)) (zRs a (wd + 1).toInt 72 rt.toNatClampNeg)) else a
theorem kMk_0 {kd wd rt : Int32} {L : Int64} (h : ¬ (a 69 6).toInt < 512) : kMk a kd wd L rt = a ∧ sMn a wd = -1 := ⟨if_neg h, if_neg h⟩
theorem kMk_1 {kd wd rt : Int32} {L : Int64} (h : (a 69 6).toInt < 512) (h1 : zRp a (wd + 1).toInt = -1) : kMk a kd wd L rt = zRs a (wd + 1).toInt ∧ sMn a wd = -1 := by
  unfold kMk sMn
  rw [if_pos h, if_pos h, if_pos h1, if_pos h1]
  exact ⟨rfl, rfl⟩
theorem kMk_2 {kd wd rt : Int32} {L : Int64} {b : Nat → Nat → Int32} (h : (a 69 6).toInt < 512) (e : b = zRs a (wd + 1).toInt) (h1 : pl.toInt = zRp a (wd + 1).toInt) (h2 : ¬ pl.toInt = -1) (hy : y = b 69 6) : kMk a kd wd L rt = cLe (aR0 (aMd (aAd b y (zFn y kd (wd + 1) pl) L) y) rt y) (b 72 rt.toNatClampNeg) ∧ sMn a wd = y := by
  unfold kMk sMn
  rw [if_pos h, if_pos h, ← h1, if_neg h2, if_neg h2, ← e, hy, Int32.ofInt_toInt]
  exact ⟨rfl, rfl⟩
theorem ad_72 {F : Nat → Int32} : aMd (aAd a y F L) y 72 k = a 72 k := by
  have e : aAd a y F L 72 k = a 72 k := by
    unfold aAd
    rw [xu_o (by omega), xu_o (by omega)]
    unfold zIw
    rw [if_neg (by omega), xu_o (by omega)]
    unfold zNw
    rw [if_neg (by omega), if_neg (by omega), if_neg (by omega)]
  unfold aMd
  split
  · rw [xu_o (by omega), e]
  · rw [xu_o (by omega), xu_o (by omega), e]
/-! the class: aT and counts behind what makes one -/
theorem aT_p4 {R : Nat → Option Nat} (hR : xB S R) : aT 84 (ma_put S 84 2 (.inl x)) = ma_u (aT 84 S) 87 2 x := by
  have e := (xC_n (W := 75) (c := 84) (k := 2) (x := x) (xC_o hR) ⟨by decide, Or.inl ⟨rfl, rfl⟩⟩).1
  funext c k
  show (if c = 87 then zfP 84 (mI (ma_put S 84 2 (.inl x))) k else aS 75 (ma_put S 84 2 (.inl x)) c k) = if c = 87 ∧ k = 2 then x else (if c = 87 then zfP 84 (mI S) k else aS 75 S c k)
  rw [e]
  by_cases w : c = 87
  · rw [if_pos w, if_pos w]
    by_cases w2 : k = 2
    · rw [if_pos ⟨w, w2⟩, w2]
      rfl
    · rw [if_neg (c := c = 87 ∧ k = 2) (fun q => w2 q.2)]
      show (if k < 3 then (if 84 = 84 ∧ k = 2 then x else mI S 84 k) else 0) = (if k < 3 then mI S 84 k else 0)
      rw [if_neg (c := 84 = 84 ∧ k = 2) (fun q => w2 q.2)]
  · rw [if_neg w, if_neg w, if_neg (c := c = 87 ∧ k = 2) (fun q => w q.1)]
theorem T_th4 {nu kd sz pl : Int32} {rr : Int64} (hN : 126 ≤ mN S) (hr : ∀ n c, mR S 70 n = some c → c < mN S) : aT 84 (zTh S nu kd sz rr pl) = aT 84 S := by
  refine T_of ?_ (fun k => ?_)
  · rw [mk_a (Or.inl rfl) hN hr]
    exact T_o7
  · rw [T_7]
    show (if k < 3 then mI S 84 k else 0) = (if k < 3 then mI (zTh S nu kd sz rr pl) 84 k else 0)
    rw [zTh_lo (by decide) hN]
theorem kC_th {nu kd sz pl : Int32} {rr : Int64} (hN : 126 ≤ mN S) (hr : ∀ n c, mR S 70 n = some c → c < mN S) : kC (zTh S nu kd sz rr pl) = kC S := by
  funext k
  unfold kC
  rw [zTh_R hN]
  unfold aTf
  by_cases h : k < 512
  · rw [if_pos h, if_pos h]
    cases e : mR S 70 k with
    | none => rfl
    | some t => exact zTh_ne (by have := hr k t e; omega)
  · rw [if_neg h, if_neg h]
theorem kC_s {q : Nat} (hn : n < 512) : kC (ma_put S 70 n (.inr (.inr (some q)))) = zKu (kC S) n (mI S q 6) := by
  funext m
  show (if m < 512 then (match (if 70 = 70 ∧ m = n then some q else mR S 70 m) with | some c => mI S c 6 | none => 0) else 0) = if m = n then mI S q 6 else aTf (mI S) (mR S 70) 6 m
  unfold aTf
  by_cases z : m = n
  · rw [if_pos z, if_pos (by omega), if_pos ⟨rfl, z⟩]
  · rw [if_neg z, if_neg (c := 70 = 70 ∧ m = n) (fun w => z w.2)]
    first | rfl | (cases mR S 70 m <;> rfl)
theorem xK_s {W : Nat} {R : Nat → Option Nat} {ab : Nat → Nat → Int32} {c : Nat} (h : xK W S ab R K) (hc : 126 ≤ c) (hn : n < 512) (hnum : mI S c 0 = Int32.ofNat n) : xK W (ma_put S 70 n (.inr (.inr (some c)))) (zNw ab n (mI S c) (mL S c 3)) (zRu R n (some c)) (zKu K n (mI S c 6)) := ⟨xC_s h.1 hc hn hnum, (kC_s hn).trans (by rw [h.2])⟩
theorem T_le {i : Int32} {j : Nat} (h : aS 75 S' = cLe (aR0 (aS 75 S) i y) (aS 75 S 72 j)) (h2 : ∀ k, zfP P (mI S') k = zfP P (mI S) k) (hC : cC (aS 75 S) [] K B) (hi : i.toNatClampNeg < 16) : aT P S' = cLe (aR0 (aT P S) i y) (aT P S 72 j) := by
  have v1 : cV (aR0 (aS 75 S) i y) [] B := V_0 (C_rt (y := y) (K' := fun n => K n + Int32.ofNat (cIs y n) - Int32.ofNat (cIs (aS 75 S 72 i.toNatClampNeg) n)) hC hi (fun _ _ => rfl))
  have v2 : cV (aR0 (aT P S) i y) [] B := V_0 (C_rt (y := y) (K' := fun n => K n + Int32.ofNat (cIs y n) - Int32.ofNat (cIs (aT P S 72 i.toNatClampNeg) n)) (C_o8 (O8_sy T_o8) hC) hi (fun _ _ => rfl))
  have e72 : aT P S 72 j = aS 75 S 72 j := aT_o (by decide)
  have en : aNm (aT P S) y = aNm (aS 75 S) y := by
    unfold aNm
    rw [aT_o (c := 126) (by decide)]
  have oo : ∀ c k, c ≠ 87 → aR0 (aS 75 S) i y c k = aR0 (aT P S) i y c k := fun c k hc => by
    unfold aR0
    rw [en]
    show (if c = 72 ∧ k = i.toNatClampNeg then _ else aS 75 S c k) = (if c = 72 ∧ k = i.toNatClampNeg then _ else aT P S c k)
    rw [aT_o hc]
  refine T_of (fun c k hc => ?_) (fun k => ?_)
  · rw [h, e72]
    by_cases hx : cXr c
    · rw [Le_x hx v1, Le_x hx v2]
      exact oo c k hc
    · unfold cXr at hx
      exact Le_o8 (fun c k _ _ _ h4 => oo c k h4) v1 c k (by omega) (by omega) (by omega) (by omega)
  · rw [Le_x (Or.inr (Or.inr (Or.inr rfl))) v2]
    unfold aR0
    rw [xu_o (by omega), T_7, h2]
end C9B
