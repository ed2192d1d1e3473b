/-! from 95.r20 -/
/-! the reference where it moves (written by wip/tools/gen15r.py) -/
/-! HALVES: a new one in the reference -/
def hFt (a : Nat → Nat → Int32) (z v : Int32) : Nat → Nat → Int32 := if v.toInt < 0 then hRs a z.toInt else ma_u (hRs a z.toInt) 87 4 (v + z)
section F11
variable {a b d aa : Nat → Nat → Int32} {x y v z w pl kk i rm hf tp : Int32} {n k : Nat} {L : Int64} {F : Nat → Int32}
theorem hFt_n (h : v.toInt < 0) : hFt a z v = hRs a z.toInt := if_pos h
theorem hFt_y (h : 0 ≤ v.toInt) : hFt a z v = ma_u (hRs a z.toInt) 87 4 (v + z) := if_neg (by omega)
theorem hRs_7 {t : Int} (h3 : k ≠ 3) (h4 : k ≠ 4) : hRs a t 87 k = a 87 k := by
  unfold hRs
  split
  · rfl
  · exact cl_7 h3 h4
theorem Hf_7 (h3 : k ≠ 3) (h4 : k ≠ 4) : hFt a z v 87 k = a 87 k := by
  unfold hFt
  split
  · exact hRs_7 h3 h4
  · rw [xu_o (fun w => h4 w.2)]
    exact hRs_7 h3 h4
theorem Hp_v (h : qEq v.toInt (hRp a z.toInt)) (h0 : 0 ≤ v.toInt) : (hRs a z.toInt 87 4).toInt = v.toInt ∧ v.toInt + z.toInt ≤ (hRs a z.toInt 87 3).toInt + (hRs a z.toInt 87 5).toInt := by
  have q := qE h
  unfold hRp at q
  generalize hRs a z.toInt = B at *
  by_cases w : (B 87 4).toInt + z.toInt ≤ (B 87 3).toInt + (B 87 5).toInt
  · rw [if_pos w] at q
    omega
  · rw [if_neg w] at q
    omega
theorem Hf_I (hv : qHv (hRs a z.toInt)) : qI (hFt a z v) := by
  unfold hFt
  split
  · exact hv.1
  · exact I_87k hv.1 (by decide) (by decide) (by decide)
theorem Ne_h (hv : qHv (hRs aa (w + 1).toInt)) (hR : qEq pl.toInt (hRp aa (w + 1).toInt)) (h0 : 0 ≤ pl.toInt) (hw : 0 ≤ w.toInt) (hw6 : w.toInt ≤ 60) (hy : hFt aa (w + 1) pl 69 6 = y) (hy5 : y.toInt < 512) : qNe (hFt aa (w + 1) pl) y w pl := by
  have e1 := i_p1 (i := w) (by omega)
  have f := Hp_v hR h0
  refine ⟨Hf_I hv, hy.symm, hy5, ⟨hw, hw6⟩, ?_⟩
  rw [hFt_y h0]
  have e : ∀ c, c ≠ 87 → ma_u (hRs aa (w + 1).toInt) 87 4 (pl + (w + 1)) c = hRs aa (w + 1).toInt c := fun c hc => ma_u_ne _ _ _ hc
  refine ⟨h0, ?_, fun x hx => ?_⟩
  · rw [xu_o (by decide)]
    have g := hv.2.2.1
    have g6 := hv.2.2.2.1
    omega
  · unfold xAl at hx
    rw [e 126 (by decide)] at hx
    rw [e 130 (by decide), e 128 (by decide)]
    have t := (hv.2.2.2.2.2.1 x hx).2
    exact Or.inl (by omega)
theorem hd_0 (h2 : b 87 2 = 0) (h8 : b 87 8 = 0) : ma_u (aMd (aAd b y F L) y) 87 2 0 = aAd b y F L := by
  rw [aMd_n (ad_87.trans h8)]
  funext c k
  show (if c = 87 ∧ k = 2 then 0 else (if c = 87 ∧ k = 2 then _ else aAd b y F L c k)) = aAd b y F L c k
  split
  · next w => rw [w.1, w.2, ad_87, h2]
  · rfl
theorem Ad_4 : aAd (ma_u b 87 4 x) y F L = ma_u (aAd b y F L) 87 4 x := by
  funext c₉ k₉
  by_cases w : c₉ = 87
  · rw [w, ad_87]
    show (if (87 : Nat) = 87 ∧ k₉ = 4 then x else b 87 k₉) = (if (87 : Nat) = 87 ∧ k₉ = 4 then x else aAd b y F L 87 k₉)
    rw [ad_87]
  · rw [xu_o (fun z => w z.1)]
    exact o7_ad (a := ma_u b 87 4 x) (b := b) (fun c2 k2 h2 => xu_o (fun z => h2 z.1)) c₉ k₉ w
theorem hMk_2b {kd wd rt : Int32} (h : (a 69 6).toInt < 512) (h1 : pl.toInt = hRp a (wd + 1).toInt) (h2 : 0 ≤ pl.toInt) (hw : 0 ≤ wd.toInt) (hw6 : wd.toInt ≤ 60) (hp5 : pl.toInt ≤ 4500) (hy0 : 0 ≤ y.toInt) (hy : y = hFt a (wd + 1) pl 69 6) (h8 : hFt a (wd + 1) pl 87 8 = 0) : hMk a kd wd L rt = aRt (aAd (hFt a (wd + 1) pl) y (zFn y kd (wd + 1) pl) L) rt y ∧ hMn a wd = y := by
  have A := Ad_of (b := hRs a (wd + 1).toInt) (y := y) (kk := kd) (w := wd) (pl := pl) (L := L) hy0 hw hw6 h2 hp5
  rw [← r0_rt (ad_87.trans h8)]
  rw [hFt_y h2] at hy h8 ⊢
  rw [xu_o (by decide)] at h8 hy
  have e := hMk_2 (a := a) (kd := kd) (wd := wd) (rt := rt) (L := L) (pl := pl) h rfl h1 (by omega) hy
  rw [e.1, Ad_4]
  refine ⟨?_, e.2⟩
  have m1 := A.1.2.1
  have m2 := A.1.2.2.1
  rw [aMd_n (ad_87.trans h8), xu_o (by omega)] at m1 m2
  unfold hMd
  rw [m1, m2]
theorem HL_cg (h : qHL a rm hf tp) (e3 : b 87 3 = a 87 3) (e4 : b 87 4 = a 87 4) (e5 : b 87 5 = a 87 5) : qHL b rm hf tp := by
  unfold qHL
  rw [e3, e4, e5]
  exact h
theorem HL_ft (h : qHL (hRs a z.toInt) rm hf tp) (h0 : 0 ≤ v.toInt) : qHL (hFt a z v) rm hf (v + z) := by
  rw [hFt_y h0]
  exact ⟨by rw [xu_o (by decide)]; exact h.1, h.2.1, by rw [xu_o (by decide)]; exact h.2.2.1, by rw [xu_o (by decide)]; exact h.2.2.2.1, xu_s⟩
theorem Hv_cg (h : qHv a) (e1 : b 126 = a 126) (e2 : b 128 = a 128) (e3 : b 130 = a 130) (e4 : b 133 = a 133) (e7 : b 87 = a 87) (hI : qI b) : qHv b := by
  obtain ⟨_, h2, h3, h6, h7, h9, h10⟩ := h
  unfold qHv xAl at *
  rw [e1, e2, e3, e4, e7, Su_cg e1 e2]
  exact ⟨hI, h2, h3, h6, h7, h9, h10⟩
theorem Su_nn (h : ∀ n, xAl a n → 0 ≤ (a 128 n).toInt) : ∀ n, n ≤ 512 → 0 ≤ qSu a n := by
  intro n
  induction n with
  | zero => intro _; exact Int.le_refl _
  | succ n ih =>
    intro hn
    have q := ih (by omega)
    unfold qSu
    by_cases w : a 126 n ≠ 0
    · rw [if_pos w]
      have := h n ⟨by omega, w⟩
      omega
    · rw [if_neg w]
      omega
/-- a new one is there -/
theorem Hv_new {rt : Int32} (hv : qHv (hRs aa (w + 1).toInt)) (h : qNe (hFt aa (w + 1) pl) y w pl) (hR : qEq pl.toInt (hRp aa (w + 1).toInt)) (h0 : 0 ≤ pl.toInt) (h8 : hFt aa (w + 1) pl 87 8 = 0) : qHv (aRt (aAd (hFt aa (w + 1) pl) y (zFn y kk (w + 1) pl) L) rt y) := by
  have q := Ne_b h
  have f := Hp_v hR h0
  have hw := h.2.2.2.1
  have A := Ad_of (b := hFt aa (w + 1) pl) (y := y) (kk := kk) (w := w) (pl := pl) (L := L) q.1 hw.1 hw.2 h0 (by omega)
  have I := I_ad h A
  have b2 : hFt aa (w + 1) pl 87 2 = 0 := (Hf_7 (by decide) (by decide)).trans ((hRs_7 (t := (w + 1).toInt) (by decide) (by decide)).symm.trans hv.2.1)
  have e := hd_0 (b := hFt aa (w + 1) pl) (y := y) (F := zFn y kk (w + 1) pl) (L := L) b2 h8
  have I2 : qI (aAd (hFt aa (w + 1) pl) y (zFn y kk (w + 1) pl) L) := by
    rw [← e]
    exact I_872 I (by decide) I.2.2.2.1.2.2.1.1 (Gd_0 I)
  have e7 : ∀ k, aAd (hFt aa (w + 1) pl) y (zFn y kk (w + 1) pl) L 87 k = hFt aa (w + 1) pl 87 k := fun k => ad_87
  have ro : ∀ c, c ≠ 87 → aAd (hFt aa (w + 1) pl) y (zFn y kk (w + 1) pl) L c = aMd (aAd (hFt aa (w + 1) pl) y (zFn y kk (w + 1) pl) L) y c := fun c hc => by
    rw [aMd_n (ad_87.trans h8), ma_u_ne _ _ _ hc]
  have al : ∀ x, xAl (aAd (hFt aa (w + 1) pl) y (zFn y kk (w + 1) pl) L) x ↔ xAl (hFt aa (w + 1) pl) x ∨ x = y.toNatClampNeg := fun x => by
    unfold xAl
    rw [ro 126 (by decide)]
    exact Al_ad h A
  have su : qSu (aAd (hFt aa (w + 1) pl) y (zFn y kk (w + 1) pl) L) 512 = qSu (hFt aa (w + 1) pl) 512 + (w.toInt + 1) := by
    have s := Su_dn (a := aAd (hFt aa (w + 1) pl) y (zFn y kk (w + 1) pl) L) (b := hFt aa (w + 1) pl) (k := y.toNatClampNeg) (n := 512) q.2.1 (by rw [ro 126 (by decide), A.1.1]; decide) (by
      by_cases z : hFt aa (w + 1) pl 126 y.toNatClampNeg = 0
      · exact z
      · exact absurd ⟨q.2.1, z⟩ (Ne_al h)) (fun x _ hx => ⟨by rw [ro 126 (by decide)]; exact A.2.1 126 x (by decide) (by decide) hx, by rw [ro 128 (by decide)]; exact A.2.1 128 x (by decide) (by decide) hx⟩)
    rw [ro 128 (by decide), A.1.2.1, q.2.2.2.2.2.1] at s
    omega
  have k8 : aAd (hFt aa (w + 1) pl) y (zFn y kk (w + 1) pl) L 87 8 = 0 := (e7 8).trans h8
  have rs : ∀ c, c ≠ 87 → hFt aa (w + 1) pl c = hRs aa (w + 1).toInt c := fun c hc => by
    rw [hFt_y h0, ma_u_ne _ _ _ hc]
  have r3 : hFt aa (w + 1) pl 87 3 = hRs aa (w + 1).toInt 87 3 := by
    rw [hFt_y h0]
    exact xu_o (by decide)
  have r5 : hFt aa (w + 1) pl 87 5 = hRs aa (w + 1).toInt 87 5 := by
    rw [hFt_y h0]
    exact xu_o (by decide)
  have r0 : hFt aa (w + 1) pl 87 0 = hRs aa (w + 1).toInt 87 0 := by
    rw [hFt_y h0]
    exact xu_o (by decide)
  have r4 : hFt aa (w + 1) pl 87 4 = pl + (w + 1) := by
    rw [hFt_y h0]
    exact xu_s
  have sue : qSu (hFt aa (w + 1) pl) 512 = qSu (hRs aa (w + 1).toInt) 512 := Su_cg (rs 126 (by decide)) (rs 128 (by decide)) 512
  have su0 := Su_nn (a := hRs aa (w + 1).toInt) (fun n hn => by have := (hv.1.1 n hn).2.1.1; omega) 512 (by omega)
  obtain ⟨g1, g2, ⟨g3, g4, g5⟩, g6, ⟨g7, g8⟩, g9, g10⟩ := hv
  have H : qHv (aAd (hFt aa (w + 1) pl) y (zFn y kk (w + 1) pl) L) := by
    refine ⟨I2, (e7 2).trans b2, ⟨?_, ?_, ?_⟩, ?_, ⟨?_, ?_⟩, fun n hn => ?_, fun n hn => ?_⟩
    · rw [e7, e7, r0, r5]
      exact g3
    · rw [e7, r5]
      exact g4
    · rw [e7, r5]
      exact g5
    · rw [e7, e7, r3, r5]
      exact g6
    · rw [e7, e7, r3, r4, su, sue, q.2.2.2.2.2.2]
      omega
    · rw [e7, e7, e7, r3, r4, r5, q.2.2.2.2.2.2]
      omega
    · rw [e7, e7, r3, r4, q.2.2.2.2.2.2, ro 130 (by decide), ro 128 (by decide)]
      rcases (al n).mp hn with z | z
      · have o := ne_al h z
        rw [A.2.1 130 n (by decide) (by decide) o, A.2.1 128 n (by decide) (by decide) o, rs 130 (by decide), rs 128 (by decide)]
        unfold xAl at z
        rw [rs 126 (by decide)] at z
        have := g9 n z
        omega
      · have e1 := q.2.2.2.2.2.1
        rw [z, A.1.2.2.1, A.1.2.1]
        omega
    · rw [ro 133 (by decide)]
      rcases (al n).mp hn with z | z
      · have o := ne_al h z
        rw [A.2.1 133 n (by decide) (by decide) o, rs 133 (by decide)]
        unfold xAl at z
        rw [rs 126 (by decide)] at z
        exact g10 n z
      · rw [z, A.1.2.2.2.1]
  have rr : ∀ c, c ≠ 72 → c ≠ 75 → c ≠ 76 → c ≠ 77 → aRt (aAd (hFt aa (w + 1) pl) y (zFn y kk (w + 1) pl) L) rt y c = aAd (hFt aa (w + 1) pl) y (zFn y kk (w + 1) pl) L c := fun c h1 h2 h3 h4 => rt_r h1 h2 h3 h4
  exact Hv_cg H (rr 126 (by decide) (by decide) (by decide) (by decide)) (rr 128 (by decide) (by decide) (by decide) (by decide)) (rr 130 (by decide) (by decide) (by decide) (by decide)) (rr 133 (by decide) (by decide) (by decide) (by decide)) (rr 87 (by decide) (by decide) (by decide) (by decide)) (I_cg I2 (rr 126 (by decide) (by decide) (by decide) (by decide)) (rr 128 (by decide) (by decide) (by decide) (by decide)) (rr 130 (by decide) (by decide) (by decide) (by decide)) (rr 71 (by decide) (by decide) (by decide) (by decide)) (rr 69 (by decide) (by decide) (by decide) (by decide)) (rr 87 (by decide) (by decide) (by decide) (by decide)) (fun n => rr (1000 + n) (by omega) (by omega) (by omega) (by omega)))
theorem RB_nz {us nr kr kd ws at₉ ho wd wi ow rt wk wl : Nat → Int32} {wm nu nu₉ ro fo le ra pi : Int32} {s : Nat} (hN : qNs us nr kr kd ws at₉ ho wd wi ow rt wk wl wm nu ro fo le ra pi b s y kk w pl) (h : qNe b y w pl) (hA : qAd b d y kk w pl L) (hs : s < 3100) (hh : ho s = 0) (hi : wi s = 0) (hz : ∀ j : Nat, (j : Int) < (ws s).toInt → (zrf kr kd wd s j).toInt = -1) (hb : ∀ j : Nat, (j : Int) < w.toInt → (zbit L (Int32.ofNat j) ≠ 0 ↔ qIr kr kd s j)) (e1 : nu₉ = nu + 1) : qRB us nr kr kd ws at₉ ho wd wi ow rt wk wl wm nu₉ ro fo (pl + (w + 1)) ra pi d := RB_ns hN h hA hs hh hi hz hb e1 rfl
end F11
set_option maxHeartbeats 8000000 in
theorem sp_184rv {X : Nat × (Nat → Int32)} {P : Option ma_V → (Nat → Nat → Int32) → Prop} {T : Nat} {aa : Nat→Nat→Int32} {ro : Int32} {m : Nat → Nat → Int32} (nz : Int32) (hV : zV m) (hpre0 : 1 ≤ nz.toInt) (hpre1 : nz.toInt ≤ 61) (hpre2 : T ≤ 512) (r_W : zW (m 94 7) (m 98) (m 101) (m 102) (m 108)) (r_GW : zGW T (m 94 55) (m 109)) (r_GU : zGU T (m 94 46) (m 99)) (r_OW : zOw (m 99) (m 103) (m 111)) (r_GG : zGG (m 94 58) (m 94 56) (m 94 57) (m 106)) (hpre8 : (m 94 10).toInt = 2 ∧ (m 94 58).toInt = 0) (r_RB : qRB (m 99) (m 100) (m 98) (m 101) (m 102) (m 103) (m 107) (m 108) (m 109) (m 111) (m 112) (m 113) (m 114) (m 94 55) (m 94 46) ro 0 0 0 1 aa) (r_HV : qHv aa) (r_HL : qHL aa (m 94 11) (m 94 61) (m 94 59)) (r_MG : qMG (m 94 58) (m 106) (m 115) (m 94 57) (m 94 56) (m 99) (m 100) aa) (r_MK : aa 87 8 = (m 94 58)) (r_WTS : (m 94 45).toInt = sm (zbU (m 99)) (m 102) 3100) (KZ : ∀ v m₉, zV (zov wr_184 m m₉) → (zGW T (m₉ 94 55) (m₉ 109)) → (zGU T (m 94 46) (m₉ 99)) → (zOw (m₉ 99) (m₉ 103) (m₉ 111)) → (zGG (m₉ 94 58) (m₉ 94 56) (m₉ 94 57) (m₉ 106)) → (-1 ≤ v.toInt ∧ v.toInt ≤ 3000) → (qRB (m₉ 99) (m 100) (m 98) (m 101) (m 102) (m₉ 103) (m 107) (m 108) (m₉ 109) (m₉ 111) (m 112) (m₉ 113) (m₉ 114) (m₉ 94 55) (m 94 46) ro 0 0 0 1 (hFt aa nz v)) → (qI (hFt aa nz v)) → (qHL (hFt aa nz v) (m 94 11) (m₉ 94 61) (m₉ 94 59)) → (qMG (m₉ 94 58) (m₉ 106) (m₉ 115) (m₉ 94 57) (m₉ 94 56) (m₉ 99) (m 100) (hFt aa nz v)) → ((hFt aa nz v) 87 8 = (m₉ 94 58)) → ((m₉ 94 45).toInt = sm (zbU (m₉ 99)) (m 102) 3100) → (qEq v.toInt (hRp aa nz.toInt)) → (qHv (hRs aa nz.toInt)) → ((m₉ 94 58).toInt = 0) → P (some (.inl v)) (zov wr_184 m m₉)) : zm X 8 175 184 0 [(0, .inr (.inr (some 94))), (1, .inl nz)] m P := by
  have K : ∀ v m₉, zF wr_184 m m₉ → zV m₉ → (zGW T (m₉ 94 55) (m₉ 109)) → (zGU T (m₉ 94 46) (m₉ 99)) → (zOw (m₉ 99) (m₉ 103) (m₉ 111)) → (zGG (m₉ 94 58) (m₉ 94 56) (m₉ 94 57) (m₉ 106)) → (-1 ≤ v.toInt ∧ v.toInt ≤ 3000) → (qRB (m₉ 99) (m₉ 100) (m₉ 98) (m₉ 101) (m₉ 102) (m₉ 103) (m₉ 107) (m₉ 108) (m₉ 109) (m₉ 111) (m₉ 112) (m₉ 113) (m₉ 114) (m₉ 94 55) (m₉ 94 46) ro 0 0 0 1 (hFt aa nz v)) → (qI (hFt aa nz v)) → (qHL (hFt aa nz v) (m₉ 94 11) (m₉ 94 61) (m₉ 94 59)) → (qMG (m₉ 94 58) (m₉ 106) (m₉ 115) (m₉ 94 57) (m₉ 94 56) (m₉ 99) (m₉ 100) (hFt aa nz v)) → ((hFt aa nz v) 87 8 = (m₉ 94 58)) → ((m₉ 94 45).toInt = sm (zbU (m₉ 99)) (m₉ 102) 3100) → (qEq v.toInt (hRp aa nz.toInt)) → (qHv (hRs aa nz.toInt)) → ((m₉ 94 58).toInt = 0) → P (some (.inl v)) m₉ := by
    intro v m₉ hf z q0 q1 q2 q3 q4 q5 q6 q7 q8 q9 q10 q11 q12 q13
    have e := zov_eq hf
    rw [e] at z ⊢
    try rw [e] at q0
    try rw [e] at q1
    try rw [e] at q2
    try rw [e] at q3
    try rw [e] at q4
    try rw [e] at q5
    try rw [e] at q6
    try rw [e] at q7
    try rw [e] at q8
    try rw [e] at q9
    try rw [e] at q10
    try rw [e] at q11
    try rw [e] at q12
    try rw [e] at q13
    exact KZ v m₉ z q0 q1 q2 q3 q4 q5 q6 q7 q8 q9 q10 q11 q12 q13
  refine g_184_0 nz ?_
  have f1 : 0 ≤ (m 94 10).toInt ∧ (m 94 10).toInt ≤ 6 := rs_94_10 (m := m) hV
  have f2 : 0 ≤ (m 94 58).toInt ∧ (m 94 58).toInt ≤ 1 := rs_94_58 (m := m) hV
  have li3 : (1 : Int32).toInt = 1 := rfl
  refine zd (fun (h4 : (m 94 10) = (1 : Int32)) => ?_) (fun (h4 : ¬ (m 94 10) = (1 : Int32)) => ?_)
  · skip
    have g5 := i_eq h4
    exfalso; omega
  · skip
    have g6 := i_ne h4
    have li7 : (2 : Int32).toInt = 2 := rfl
    refine zd (fun (h8 : (m 94 10) = (2 : Int32)) => ?_) (fun (h8 : ¬ (m 94 10) = (2 : Int32)) => ?_)
    · skip
      have g9 := i_eq h8
      have f10 : 0 ≤ (m 94 59).toInt ∧ (m 94 59).toInt ≤ 4600 := rs_94_59 (m := m) hV
      have b11 := i_bd nz
      first | have e12 : ((m 94 59) + nz).toInt = (m 94 59).toInt + nz.toInt := i_add (by omega) (by omega) | have b13 := i_bd ((m 94 59) + nz)
      have f14 : 0 ≤ (m 94 61).toInt ∧ (m 94 61).toInt ≤ 1 := rs_94_61 (m := m) hV
      first | have e15 : ((m 94 61) + (1 : Int32)).toInt = (m 94 61).toInt + (1) := i_addk rfl (by omega) (by omega) | have b16 := i_bd ((m 94 61) + (1 : Int32))
      have f17 : 0 ≤ (m 94 11).toInt ∧ (m 94 11).toInt ≤ 1500 := rs_94_11 (m := m) hV
      first | have f18 := i_mul01 (x := ((m 94 61) + (1 : Int32))) (y := (m 94 11)) (by omega) (by omega) (by omega) (by omega) | have b19 := i_bd (((m 94 61) + (1 : Int32)) * (m 94 11))
      refine zd (fun (h20 : ((m 94 59) + nz) ≤ (((m 94 61) + (1 : Int32)) * (m 94 11))) => ?_) (fun (h20 : ¬ ((m 94 59) + nz) ≤ (((m 94 61) + (1 : Int32)) * (m 94 11))) => ?_)
      · skip
        have g21 := i_le h20
        have li22 : (0 : Int32).toInt = 0 := rfl
        refine zd (fun (h23 : (m 94 59) < (0 : Int32)) => ?_) (fun (h23 : ¬ (m 94 59) < (0 : Int32)) => ?_)
        · skip
          have g24 := i_lt h23
          have hV25 : zV (ma_u m 94 59 ((m 94 59) + nz)) := us_94_59 hV (by omega) (by omega)
          try have hl2 := r_HL.2.1
          try have hv4 := r_HV.2.2.2.2.1
          try have hv3 := r_HV.2.2.2.1
          try have hv5 := r_HV.2.2.1
          refine sp_206rv (aa := aa)  hV25 (by omega) r_W r_GW r_GU r_OW (show (m 94 10).toInt = 2 from by omega) r_RB r_HV (show qHL aa (m 94 11) (m 94 61) ((m 94 59) + nz) from by first | (exact r_HL) | (exact r_HL) | (exfalso; omega; done) | (exfalso; contradiction; done)) r_WTS (fun v6 m5 hV_m5 p0_m5 p1_m5 p2_m5 p3_m5 p4_m5 p5_m5 p6_m5 => zmi_n ?_)
          have p0_m5 : zGW T (m5 94 55) (m5 109) := p0_m5
          have p1_m5 : zGU T (m 94 46) (m5 99) := p1_m5
          have p2_m5 : zOw (m5 99) (m5 103) (m5 111) := p2_m5
          have p3_m5 : qRB (m5 99) (m 100) (m 98) (m 101) (m 102) (m5 103) (m 107) (m 108) (m5 109) (m5 111) (m 112) (m5 113) (m5 114) (m5 94 55) (m 94 46) ro 0 0 0 1 (hCl aa) := p3_m5
          have p4_m5 : qHv (hCl aa) := p4_m5
          have p5_m5 : qHL (hCl aa) (m 94 11) (m5 94 61) (m5 94 59) := p5_m5
          have p6_m5 : (m5 94 45).toInt = sm (zbU (m5 99)) (m 102) 3100 := p6_m5
          have f26 : 0 ≤ (m5 94 59).toInt ∧ (m5 94 59).toInt ≤ 4600 := rs_94_59 (m := (zov wr_206 (ma_u m 94 59 ((m 94 59) + nz)) m5)) hV_m5
          first | have e27 : ((m5 94 59) + nz).toInt = (m5 94 59).toInt + nz.toInt := i_add (by omega) (by omega) | have b28 := i_bd ((m5 94 59) + nz)
          have f29 : 0 ≤ (m5 94 61).toInt ∧ (m5 94 61).toInt ≤ 1 := rs_94_61 (m := (zov wr_206 (ma_u m 94 59 ((m 94 59) + nz)) m5)) hV_m5
          first | have e30 : ((m5 94 61) + (1 : Int32)).toInt = (m5 94 61).toInt + (1) := i_addk rfl (by omega) (by omega) | have b31 := i_bd ((m5 94 61) + (1 : Int32))
          first | have f32 := i_mul01 (x := ((m5 94 61) + (1 : Int32))) (y := (m 94 11)) (by omega) (by omega) (by omega) (by omega) | have b33 := i_bd (((m5 94 61) + (1 : Int32)) * (m 94 11))
          refine zd (fun (h34 : ((m5 94 59) + nz) ≤ (((m5 94 61) + (1 : Int32)) * (m 94 11))) => ?_) (fun (h34 : ¬ ((m5 94 59) + nz) ≤ (((m5 94 61) + (1 : Int32)) * (m 94 11))) => ?_)
          · skip
            have g35 := i_le h34
            try have hl2 := p5_m5.2.1
            have hV36 : zV (ma_u (zov wr_206 (ma_u m 94 59 ((m 94 59) + nz)) m5) 94 59 ((m5 94 59) + nz)) := us_94_59 hV_m5 (by omega) (by omega)
            exact K ((m5 94 59)) _ (zF_u (zF_zov (zF_u zF_rfl rfl) ws_206_184) rfl) hV36 p0_m5 p1_m5 p2_m5 r_GG (show -1 ≤ (m5 94 59).toInt ∧ (m5 94 59).toInt ≤ 3000 from by omega) (show qRB (m5 99) (m 100) (m 98) (m 101) (m 102) (m5 103) (m 107) (m 108) (m5 109) (m5 111) (m 112) (m5 113) (m5 114) (m5 94 55) (m 94 46) ro 0 0 0 1 (hFt aa nz (m5 94 59)) from by first | (have hl := r_HL; have h1 := congrArg Int32.toInt hl.1; have h2 := hl.2.1; have h3 := hl.2.2.1; have h4 := hl.2.2.2.1; have h5 := congrArg Int32.toInt hl.2.2.2.2; have E := hRs_2 (a := aa) (z := nz.toInt) (by unfold hOk; omega); have kl := p5_m5; have k1 := congrArg Int32.toInt kl.1; have k2 := kl.2.1; have k3 := kl.2.2.1; have k4 := kl.2.2.2.1; have k5 := congrArg Int32.toInt kl.2.2.2.2; have RP : qEq (m5 94 59).toInt (hRp aa nz.toInt) := (by unfold qEq; rw [hRp_1 E (by unfold hOk; omega)]; omega); rw [hFt_y (by omega), E]; exact RB_87k p3_m5 (by decide) (by decide) (by decide) (by decide) (by decide); done) | (exfalso; omega; done) | (exfalso; contradiction; done)) (show qI (hFt aa nz (m5 94 59)) from by first | (have hl := r_HL; have h1 := congrArg Int32.toInt hl.1; have h2 := hl.2.1; have h3 := hl.2.2.1; have h4 := hl.2.2.2.1; have h5 := congrArg Int32.toInt hl.2.2.2.2; have E := hRs_2 (a := aa) (z := nz.toInt) (by unfold hOk; omega); have kl := p5_m5; have k1 := congrArg Int32.toInt kl.1; have k2 := kl.2.1; have k3 := kl.2.2.1; have k4 := kl.2.2.2.1; have k5 := congrArg Int32.toInt kl.2.2.2.2; have RP : qEq (m5 94 59).toInt (hRp aa nz.toInt) := (by unfold qEq; rw [hRp_1 E (by unfold hOk; omega)]; omega); exact Hf_I (by rw [E]; exact p4_m5); done) | (exfalso; omega; done) | (exfalso; contradiction; done)) (show qHL (hFt aa nz (m5 94 59)) (m 94 11) (m5 94 61) ((m5 94 59) + nz) from by first | (have hl := r_HL; have h1 := congrArg Int32.toInt hl.1; have h2 := hl.2.1; have h3 := hl.2.2.1; have h4 := hl.2.2.2.1; have h5 := congrArg Int32.toInt hl.2.2.2.2; have E := hRs_2 (a := aa) (z := nz.toInt) (by unfold hOk; omega); have kl := p5_m5; have k1 := congrArg Int32.toInt kl.1; have k2 := kl.2.1; have k3 := kl.2.2.1; have k4 := kl.2.2.2.1; have k5 := congrArg Int32.toInt kl.2.2.2.2; have RP : qEq (m5 94 59).toInt (hRp aa nz.toInt) := (by unfold qEq; rw [hRp_1 E (by unfold hOk; omega)]; omega); exact HL_ft (by rw [E]; exact p5_m5) (by omega); done) | (exact p5_m5) | (exfalso; omega; done) | (exfalso; contradiction; done)) (show qMG (m 94 58) (m 106) (m 115) (m 94 57) (m 94 56) (m5 99) (m 100) (hFt aa nz (m5 94 59)) from by first | (exact fun z => absurd (by omega) z) | (exfalso; omega; done) | (exfalso; contradiction; done)) (show (hFt aa nz (m5 94 59)) 87 8 = (m 94 58) from by first | (rw [Hf_7 (by decide) (by decide)]; exact r_MK; done) | (exfalso; omega; done) | (exfalso; contradiction; done)) p6_m5 (show qEq (m5 94 59).toInt (hRp aa nz.toInt) from by first | (have hl := r_HL; have h1 := congrArg Int32.toInt hl.1; have h2 := hl.2.1; have h3 := hl.2.2.1; have h4 := hl.2.2.2.1; have h5 := congrArg Int32.toInt hl.2.2.2.2; have E := hRs_2 (a := aa) (z := nz.toInt) (by unfold hOk; omega); have kl := p5_m5; have k1 := congrArg Int32.toInt kl.1; have k2 := kl.2.1; have k3 := kl.2.2.1; have k4 := kl.2.2.2.1; have k5 := congrArg Int32.toInt kl.2.2.2.2; have RP : qEq (m5 94 59).toInt (hRp aa nz.toInt) := (by unfold qEq; rw [hRp_1 E (by unfold hOk; omega)]; omega); exact RP; done) | (exfalso; omega; done) | (exfalso; contradiction; done)) (show qHv (hRs aa nz.toInt) from by first | (have hl := r_HL; have h1 := congrArg Int32.toInt hl.1; have h2 := hl.2.1; have h3 := hl.2.2.1; have h4 := hl.2.2.2.1; have h5 := congrArg Int32.toInt hl.2.2.2.2; have E := hRs_2 (a := aa) (z := nz.toInt) (by unfold hOk; omega); have kl := p5_m5; have k1 := congrArg Int32.toInt kl.1; have k2 := kl.2.1; have k3 := kl.2.2.1; have k4 := kl.2.2.2.1; have k5 := congrArg Int32.toInt kl.2.2.2.2; have RP : qEq (m5 94 59).toInt (hRp aa nz.toInt) := (by unfold qEq; rw [hRp_1 E (by unfold hOk; omega)]; omega); rw [E]; exact p4_m5; done) | (exfalso; omega; done) | (exfalso; contradiction; done)) (show (m 94 58).toInt = 0 from by omega)
          · skip
            have g37 := i_nle h34
            try have hl2 := p5_m5.2.1
            have li38 : (-1 : Int32).toInt = -1 := rfl
            exact K ((-1 : Int32)) _ (zF_zov (zF_u zF_rfl rfl) ws_206_184) hV_m5 p0_m5 p1_m5 p2_m5 r_GG (show -1 ≤ (-1 : Int32).toInt ∧ (-1 : Int32).toInt ≤ 3000 from by omega) (show qRB (m5 99) (m 100) (m 98) (m 101) (m 102) (m5 103) (m 107) (m 108) (m5 109) (m5 111) (m 112) (m5 113) (m5 114) (m5 94 55) (m 94 46) ro 0 0 0 1 (hFt aa nz (-1 : Int32)) from by first | (have hl := r_HL; have h1 := congrArg Int32.toInt hl.1; have h2 := hl.2.1; have h3 := hl.2.2.1; have h4 := hl.2.2.2.1; have h5 := congrArg Int32.toInt hl.2.2.2.2; have E := hRs_2 (a := aa) (z := nz.toInt) (by unfold hOk; omega); have kl := p5_m5; have k1 := congrArg Int32.toInt kl.1; have k2 := kl.2.1; have k3 := kl.2.2.1; have k4 := kl.2.2.2.1; have k5 := congrArg Int32.toInt kl.2.2.2.2; have RP : qEq (-1 : Int32).toInt (hRp aa nz.toInt) := (by unfold qEq; rw [hRp_2 E (by unfold hOk; omega)]; rfl); rw [hFt_n (by decide), E]; exact p3_m5; done) | (exfalso; omega; done) | (exfalso; contradiction; done)) (show qI (hFt aa nz (-1 : Int32)) from by first | (have hl := r_HL; have h1 := congrArg Int32.toInt hl.1; have h2 := hl.2.1; have h3 := hl.2.2.1; have h4 := hl.2.2.2.1; have h5 := congrArg Int32.toInt hl.2.2.2.2; have E := hRs_2 (a := aa) (z := nz.toInt) (by unfold hOk; omega); have kl := p5_m5; have k1 := congrArg Int32.toInt kl.1; have k2 := kl.2.1; have k3 := kl.2.2.1; have k4 := kl.2.2.2.1; have k5 := congrArg Int32.toInt kl.2.2.2.2; have RP : qEq (-1 : Int32).toInt (hRp aa nz.toInt) := (by unfold qEq; rw [hRp_2 E (by unfold hOk; omega)]; rfl); exact Hf_I (by rw [E]; exact p4_m5); done) | (exfalso; omega; done) | (exfalso; contradiction; done)) (show qHL (hFt aa nz (-1 : Int32)) (m 94 11) (m5 94 61) (m5 94 59) from by first | (have hl := r_HL; have h1 := congrArg Int32.toInt hl.1; have h2 := hl.2.1; have h3 := hl.2.2.1; have h4 := hl.2.2.2.1; have h5 := congrArg Int32.toInt hl.2.2.2.2; have E := hRs_2 (a := aa) (z := nz.toInt) (by unfold hOk; omega); have kl := p5_m5; have k1 := congrArg Int32.toInt kl.1; have k2 := kl.2.1; have k3 := kl.2.2.1; have k4 := kl.2.2.2.1; have k5 := congrArg Int32.toInt kl.2.2.2.2; have RP : qEq (-1 : Int32).toInt (hRp aa nz.toInt) := (by unfold qEq; rw [hRp_2 E (by unfold hOk; omega)]; rfl); rw [hFt_n (by decide), E]; exact p5_m5; done) | (exact p5_m5) | (exfalso; omega; done) | (exfalso; contradiction; done)) (show qMG (m 94 58) (m 106) (m 115) (m 94 57) (m 94 56) (m5 99) (m 100) (hFt aa nz (-1 : Int32)) from by first | (exact fun z => absurd (by omega) z) | (exfalso; omega; done) | (exfalso; contradiction; done)) (show (hFt aa nz (-1 : Int32)) 87 8 = (m 94 58) from by first | (rw [Hf_7 (by decide) (by decide)]; exact r_MK; done) | (exfalso; omega; done) | (exfalso; contradiction; done)) p6_m5 (show qEq (-1 : Int32).toInt (hRp aa nz.toInt) from by first | (have hl := r_HL; have h1 := congrArg Int32.toInt hl.1; have h2 := hl.2.1; have h3 := hl.2.2.1; have h4 := hl.2.2.2.1; have h5 := congrArg Int32.toInt hl.2.2.2.2; have E := hRs_2 (a := aa) (z := nz.toInt) (by unfold hOk; omega); have kl := p5_m5; have k1 := congrArg Int32.toInt kl.1; have k2 := kl.2.1; have k3 := kl.2.2.1; have k4 := kl.2.2.2.1; have k5 := congrArg Int32.toInt kl.2.2.2.2; have RP : qEq (-1 : Int32).toInt (hRp aa nz.toInt) := (by unfold qEq; rw [hRp_2 E (by unfold hOk; omega)]; rfl); exact RP; done) | (exfalso; omega; done) | (exfalso; contradiction; done)) (show qHv (hRs aa nz.toInt) from by first | (have hl := r_HL; have h1 := congrArg Int32.toInt hl.1; have h2 := hl.2.1; have h3 := hl.2.2.1; have h4 := hl.2.2.2.1; have h5 := congrArg Int32.toInt hl.2.2.2.2; have E := hRs_2 (a := aa) (z := nz.toInt) (by unfold hOk; omega); have kl := p5_m5; have k1 := congrArg Int32.toInt kl.1; have k2 := kl.2.1; have k3 := kl.2.2.1; have k4 := kl.2.2.2.1; have k5 := congrArg Int32.toInt kl.2.2.2.2; have RP : qEq (-1 : Int32).toInt (hRp aa nz.toInt) := (by unfold qEq; rw [hRp_2 E (by unfold hOk; omega)]; rfl); rw [E]; exact p4_m5; done) | (exfalso; omega; done) | (exfalso; contradiction; done)) (show (m 94 58).toInt = 0 from by omega)
        · skip
          have g39 := i_nlt h23
          try have hl2 := r_HL.2.1
          have hV40 : zV (ma_u m 94 59 ((m 94 59) + nz)) := us_94_59 hV (by omega) (by omega)
          exact K ((m 94 59)) _ (zF_u zF_rfl rfl) hV40 r_GW r_GU r_OW r_GG (show -1 ≤ (m 94 59).toInt ∧ (m 94 59).toInt ≤ 3000 from by omega) (show qRB (m 99) (m 100) (m 98) (m 101) (m 102) (m 103) (m 107) (m 108) (m 109) (m 111) (m 112) (m 113) (m 114) (m 94 55) (m 94 46) ro 0 0 0 1 (hFt aa nz (m 94 59)) from by first | (have hl := r_HL; have h1 := congrArg Int32.toInt hl.1; have h2 := hl.2.1; have h3 := hl.2.2.1; have h4 := hl.2.2.2.1; have h5 := congrArg Int32.toInt hl.2.2.2.2; have E := hRs_1 (a := aa) (z := nz.toInt) (by unfold hOk; omega); have RP : qEq (m 94 59).toInt (hRp aa nz.toInt) := (by unfold qEq; rw [hRp_1 E (by unfold hOk; omega)]; omega); rw [hFt_y (by omega), E]; exact RB_87k r_RB (by decide) (by decide) (by decide) (by decide) (by decide); done) | (exfalso; omega; done) | (exfalso; contradiction; done)) (show qI (hFt aa nz (m 94 59)) from by first | (have hl := r_HL; have h1 := congrArg Int32.toInt hl.1; have h2 := hl.2.1; have h3 := hl.2.2.1; have h4 := hl.2.2.2.1; have h5 := congrArg Int32.toInt hl.2.2.2.2; have E := hRs_1 (a := aa) (z := nz.toInt) (by unfold hOk; omega); have RP : qEq (m 94 59).toInt (hRp aa nz.toInt) := (by unfold qEq; rw [hRp_1 E (by unfold hOk; omega)]; omega); exact Hf_I (by rw [E]; exact r_HV); done) | (exfalso; omega; done) | (exfalso; contradiction; done)) (show qHL (hFt aa nz (m 94 59)) (m 94 11) (m 94 61) ((m 94 59) + nz) from by first | (have hl := r_HL; have h1 := congrArg Int32.toInt hl.1; have h2 := hl.2.1; have h3 := hl.2.2.1; have h4 := hl.2.2.2.1; have h5 := congrArg Int32.toInt hl.2.2.2.2; have E := hRs_1 (a := aa) (z := nz.toInt) (by unfold hOk; omega); have RP : qEq (m 94 59).toInt (hRp aa nz.toInt) := (by unfold qEq; rw [hRp_1 E (by unfold hOk; omega)]; omega); exact HL_ft (by rw [E]; exact r_HL) (by omega); done) | (exact r_HL) | (exfalso; omega; done) | (exfalso; contradiction; done)) (show qMG (m 94 58) (m 106) (m 115) (m 94 57) (m 94 56) (m 99) (m 100) (hFt aa nz (m 94 59)) from by first | (exact fun z => absurd (by omega) z) | (exfalso; omega; done) | (exfalso; contradiction; done)) (show (hFt aa nz (m 94 59)) 87 8 = (m 94 58) from by first | (rw [Hf_7 (by decide) (by decide)]; exact r_MK; done) | (exfalso; omega; done) | (exfalso; contradiction; done)) r_WTS (show qEq (m 94 59).toInt (hRp aa nz.toInt) from by first | (have hl := r_HL; have h1 := congrArg Int32.toInt hl.1; have h2 := hl.2.1; have h3 := hl.2.2.1; have h4 := hl.2.2.2.1; have h5 := congrArg Int32.toInt hl.2.2.2.2; have E := hRs_1 (a := aa) (z := nz.toInt) (by unfold hOk; omega); have RP : qEq (m 94 59).toInt (hRp aa nz.toInt) := (by unfold qEq; rw [hRp_1 E (by unfold hOk; omega)]; omega); exact RP; done) | (exfalso; omega; done) | (exfalso; contradiction; done)) (show qHv (hRs aa nz.toInt) from by first | (have hl := r_HL; have h1 := congrArg Int32.toInt hl.1; have h2 := hl.2.1; have h3 := hl.2.2.1; have h4 := hl.2.2.2.1; have h5 := congrArg Int32.toInt hl.2.2.2.2; have E := hRs_1 (a := aa) (z := nz.toInt) (by unfold hOk; omega); have RP : qEq (m 94 59).toInt (hRp aa nz.toInt) := (by unfold qEq; rw [hRp_1 E (by unfold hOk; omega)]; omega); rw [E]; exact r_HV; done) | (exfalso; omega; done) | (exfalso; contradiction; done)) (show (m 94 58).toInt = 0 from by omega)
      · skip
        have g41 := i_nle h20
        try have hl2 := r_HL.2.1
        try have hv4 := r_HV.2.2.2.2.1
        try have hv3 := r_HV.2.2.2.1
        try have hv5 := r_HV.2.2.1
        refine sp_206rv (aa := aa)  hV (by omega) r_W r_GW r_GU r_OW (show (m 94 10).toInt = 2 from by omega) r_RB r_HV r_HL r_WTS (fun v8 m7 hV_m7 p0_m7 p1_m7 p2_m7 p3_m7 p4_m7 p5_m7 p6_m7 => zmi_n ?_)
        have p0_m7 : zGW T (m7 94 55) (m7 109) := p0_m7
        have p1_m7 : zGU T (m 94 46) (m7 99) := p1_m7
        have p2_m7 : zOw (m7 99) (m7 103) (m7 111) := p2_m7
        have p3_m7 : qRB (m7 99) (m 100) (m 98) (m 101) (m 102) (m7 103) (m 107) (m 108) (m7 109) (m7 111) (m 112) (m7 113) (m7 114) (m7 94 55) (m 94 46) ro 0 0 0 1 (hCl aa) := p3_m7
        have p4_m7 : qHv (hCl aa) := p4_m7
        have p5_m7 : qHL (hCl aa) (m 94 11) (m7 94 61) (m7 94 59) := p5_m7
        have p6_m7 : (m7 94 45).toInt = sm (zbU (m7 99)) (m 102) 3100 := p6_m7
        have f42 : 0 ≤ (m7 94 59).toInt ∧ (m7 94 59).toInt ≤ 4600 := rs_94_59 (m := (zov wr_206 m m7)) hV_m7
        first | have e43 : ((m7 94 59) + nz).toInt = (m7 94 59).toInt + nz.toInt := i_add (by omega) (by omega) | have b44 := i_bd ((m7 94 59) + nz)
        have f45 : 0 ≤ (m7 94 61).toInt ∧ (m7 94 61).toInt ≤ 1 := rs_94_61 (m := (zov wr_206 m m7)) hV_m7
        first | have e46 : ((m7 94 61) + (1 : Int32)).toInt = (m7 94 61).toInt + (1) := i_addk rfl (by omega) (by omega) | have b47 := i_bd ((m7 94 61) + (1 : Int32))
        first | have f48 := i_mul01 (x := ((m7 94 61) + (1 : Int32))) (y := (m 94 11)) (by omega) (by omega) (by omega) (by omega) | have b49 := i_bd (((m7 94 61) + (1 : Int32)) * (m 94 11))
        refine zd (fun (h50 : ((m7 94 59) + nz) ≤ (((m7 94 61) + (1 : Int32)) * (m 94 11))) => ?_) (fun (h50 : ¬ ((m7 94 59) + nz) ≤ (((m7 94 61) + (1 : Int32)) * (m 94 11))) => ?_)
        · skip
          have g51 := i_le h50
          try have hl2 := p5_m7.2.1
          have hV52 : zV (ma_u (zov wr_206 m m7) 94 59 ((m7 94 59) + nz)) := us_94_59 hV_m7 (by omega) (by omega)
          exact K ((m7 94 59)) _ (zF_u (zF_zov zF_rfl ws_206_184) rfl) hV52 p0_m7 p1_m7 p2_m7 r_GG (show -1 ≤ (m7 94 59).toInt ∧ (m7 94 59).toInt ≤ 3000 from by omega) (show qRB (m7 99) (m 100) (m 98) (m 101) (m 102) (m7 103) (m 107) (m 108) (m7 109) (m7 111) (m 112) (m7 113) (m7 114) (m7 94 55) (m 94 46) ro 0 0 0 1 (hFt aa nz (m7 94 59)) from by first | (have hl := r_HL; have h1 := congrArg Int32.toInt hl.1; have h2 := hl.2.1; have h3 := hl.2.2.1; have h4 := hl.2.2.2.1; have h5 := congrArg Int32.toInt hl.2.2.2.2; have E := hRs_2 (a := aa) (z := nz.toInt) (by unfold hOk; omega); have kl := p5_m7; have k1 := congrArg Int32.toInt kl.1; have k2 := kl.2.1; have k3 := kl.2.2.1; have k4 := kl.2.2.2.1; have k5 := congrArg Int32.toInt kl.2.2.2.2; have RP : qEq (m7 94 59).toInt (hRp aa nz.toInt) := (by unfold qEq; rw [hRp_1 E (by unfold hOk; omega)]; omega); rw [hFt_y (by omega), E]; exact RB_87k p3_m7 (by decide) (by decide) (by decide) (by decide) (by decide); done) | (exfalso; omega; done) | (exfalso; contradiction; done)) (show qI (hFt aa nz (m7 94 59)) from by first | (have hl := r_HL; have h1 := congrArg Int32.toInt hl.1; have h2 := hl.2.1; have h3 := hl.2.2.1; have h4 := hl.2.2.2.1; have h5 := congrArg Int32.toInt hl.2.2.2.2; have E := hRs_2 (a := aa) (z := nz.toInt) (by unfold hOk; omega); have kl := p5_m7; have k1 := congrArg Int32.toInt kl.1; have k2 := kl.2.1; have k3 := kl.2.2.1; have k4 := kl.2.2.2.1; have k5 := congrArg Int32.toInt kl.2.2.2.2; have RP : qEq (m7 94 59).toInt (hRp aa nz.toInt) := (by unfold qEq; rw [hRp_1 E (by unfold hOk; omega)]; omega); exact Hf_I (by rw [E]; exact p4_m7); done) | (exfalso; omega; done) | (exfalso; contradiction; done)) (show qHL (hFt aa nz (m7 94 59)) (m 94 11) (m7 94 61) ((m7 94 59) + nz) from by first | (have hl := r_HL; have h1 := congrArg Int32.toInt hl.1; have h2 := hl.2.1; have h3 := hl.2.2.1; have h4 := hl.2.2.2.1; have h5 := congrArg Int32.toInt hl.2.2.2.2; have E := hRs_2 (a := aa) (z := nz.toInt) (by unfold hOk; omega); have kl := p5_m7; have k1 := congrArg Int32.toInt kl.1; have k2 := kl.2.1; have k3 := kl.2.2.1; have k4 := kl.2.2.2.1; have k5 := congrArg Int32.toInt kl.2.2.2.2; have RP : qEq (m7 94 59).toInt (hRp aa nz.toInt) := (by unfold qEq; rw [hRp_1 E (by unfold hOk; omega)]; omega); exact HL_ft (by rw [E]; exact p5_m7) (by omega); done) | (exact p5_m7) | (exfalso; omega; done) | (exfalso; contradiction; done)) (show qMG (m 94 58) (m 106) (m 115) (m 94 57) (m 94 56) (m7 99) (m 100) (hFt aa nz (m7 94 59)) from by first | (exact fun z => absurd (by omega) z) | (exfalso; omega; done) | (exfalso; contradiction; done)) (show (hFt aa nz (m7 94 59)) 87 8 = (m 94 58) from by first | (rw [Hf_7 (by decide) (by decide)]; exact r_MK; done) | (exfalso; omega; done) | (exfalso; contradiction; done)) p6_m7 (show qEq (m7 94 59).toInt (hRp aa nz.toInt) from by first | (have hl := r_HL; have h1 := congrArg Int32.toInt hl.1; have h2 := hl.2.1; have h3 := hl.2.2.1; have h4 := hl.2.2.2.1; have h5 := congrArg Int32.toInt hl.2.2.2.2; have E := hRs_2 (a := aa) (z := nz.toInt) (by unfold hOk; omega); have kl := p5_m7; have k1 := congrArg Int32.toInt kl.1; have k2 := kl.2.1; have k3 := kl.2.2.1; have k4 := kl.2.2.2.1; have k5 := congrArg Int32.toInt kl.2.2.2.2; have RP : qEq (m7 94 59).toInt (hRp aa nz.toInt) := (by unfold qEq; rw [hRp_1 E (by unfold hOk; omega)]; omega); exact RP; done) | (exfalso; omega; done) | (exfalso; contradiction; done)) (show qHv (hRs aa nz.toInt) from by first | (have hl := r_HL; have h1 := congrArg Int32.toInt hl.1; have h2 := hl.2.1; have h3 := hl.2.2.1; have h4 := hl.2.2.2.1; have h5 := congrArg Int32.toInt hl.2.2.2.2; have E := hRs_2 (a := aa) (z := nz.toInt) (by unfold hOk; omega); have kl := p5_m7; have k1 := congrArg Int32.toInt kl.1; have k2 := kl.2.1; have k3 := kl.2.2.1; have k4 := kl.2.2.2.1; have k5 := congrArg Int32.toInt kl.2.2.2.2; have RP : qEq (m7 94 59).toInt (hRp aa nz.toInt) := (by unfold qEq; rw [hRp_1 E (by unfold hOk; omega)]; omega); rw [E]; exact p4_m7; done) | (exfalso; omega; done) | (exfalso; contradiction; done)) (show (m 94 58).toInt = 0 from by omega)
        · skip
          have g53 := i_nle h50
          try have hl2 := p5_m7.2.1
          have li54 : (-1 : Int32).toInt = -1 := rfl
          exact K ((-1 : Int32)) _ (zF_zov zF_rfl ws_206_184) hV_m7 p0_m7 p1_m7 p2_m7 r_GG (show -1 ≤ (-1 : Int32).toInt ∧ (-1 : Int32).toInt ≤ 3000 from by omega) (show qRB (m7 99) (m 100) (m 98) (m 101) (m 102) (m7 103) (m 107) (m 108) (m7 109) (m7 111) (m 112) (m7 113) (m7 114) (m7 94 55) (m 94 46) ro 0 0 0 1 (hFt aa nz (-1 : Int32)) from by first | (have hl := r_HL; have h1 := congrArg Int32.toInt hl.1; have h2 := hl.2.1; have h3 := hl.2.2.1; have h4 := hl.2.2.2.1; have h5 := congrArg Int32.toInt hl.2.2.2.2; have E := hRs_2 (a := aa) (z := nz.toInt) (by unfold hOk; omega); have kl := p5_m7; have k1 := congrArg Int32.toInt kl.1; have k2 := kl.2.1; have k3 := kl.2.2.1; have k4 := kl.2.2.2.1; have k5 := congrArg Int32.toInt kl.2.2.2.2; have RP : qEq (-1 : Int32).toInt (hRp aa nz.toInt) := (by unfold qEq; rw [hRp_2 E (by unfold hOk; omega)]; rfl); rw [hFt_n (by decide), E]; exact p3_m7; done) | (exfalso; omega; done) | (exfalso; contradiction; done)) (show qI (hFt aa nz (-1 : Int32)) from by first | (have hl := r_HL; have h1 := congrArg Int32.toInt hl.1; have h2 := hl.2.1; have h3 := hl.2.2.1; have h4 := hl.2.2.2.1; have h5 := congrArg Int32.toInt hl.2.2.2.2; have E := hRs_2 (a := aa) (z := nz.toInt) (by unfold hOk; omega); have kl := p5_m7; have k1 := congrArg Int32.toInt kl.1; have k2 := kl.2.1; have k3 := kl.2.2.1; have k4 := kl.2.2.2.1; have k5 := congrArg Int32.toInt kl.2.2.2.2; have RP : qEq (-1 : Int32).toInt (hRp aa nz.toInt) := (by unfold qEq; rw [hRp_2 E (by unfold hOk; omega)]; rfl); exact Hf_I (by rw [E]; exact p4_m7); done) | (exfalso; omega; done) | (exfalso; contradiction; done)) (show qHL (hFt aa nz (-1 : Int32)) (m 94 11) (m7 94 61) (m7 94 59) from by first | (have hl := r_HL; have h1 := congrArg Int32.toInt hl.1; have h2 := hl.2.1; have h3 := hl.2.2.1; have h4 := hl.2.2.2.1; have h5 := congrArg Int32.toInt hl.2.2.2.2; have E := hRs_2 (a := aa) (z := nz.toInt) (by unfold hOk; omega); have kl := p5_m7; have k1 := congrArg Int32.toInt kl.1; have k2 := kl.2.1; have k3 := kl.2.2.1; have k4 := kl.2.2.2.1; have k5 := congrArg Int32.toInt kl.2.2.2.2; have RP : qEq (-1 : Int32).toInt (hRp aa nz.toInt) := (by unfold qEq; rw [hRp_2 E (by unfold hOk; omega)]; rfl); rw [hFt_n (by decide), E]; exact p5_m7; done) | (exact p5_m7) | (exfalso; omega; done) | (exfalso; contradiction; done)) (show qMG (m 94 58) (m 106) (m 115) (m 94 57) (m 94 56) (m7 99) (m 100) (hFt aa nz (-1 : Int32)) from by first | (exact fun z => absurd (by omega) z) | (exfalso; omega; done) | (exfalso; contradiction; done)) (show (hFt aa nz (-1 : Int32)) 87 8 = (m 94 58) from by first | (rw [Hf_7 (by decide) (by decide)]; exact r_MK; done) | (exfalso; omega; done) | (exfalso; contradiction; done)) p6_m7 (show qEq (-1 : Int32).toInt (hRp aa nz.toInt) from by first | (have hl := r_HL; have h1 := congrArg Int32.toInt hl.1; have h2 := hl.2.1; have h3 := hl.2.2.1; have h4 := hl.2.2.2.1; have h5 := congrArg Int32.toInt hl.2.2.2.2; have E := hRs_2 (a := aa) (z := nz.toInt) (by unfold hOk; omega); have kl := p5_m7; have k1 := congrArg Int32.toInt kl.1; have k2 := kl.2.1; have k3 := kl.2.2.1; have k4 := kl.2.2.2.1; have k5 := congrArg Int32.toInt kl.2.2.2.2; have RP : qEq (-1 : Int32).toInt (hRp aa nz.toInt) := (by unfold qEq; rw [hRp_2 E (by unfold hOk; omega)]; rfl); exact RP; done) | (exfalso; omega; done) | (exfalso; contradiction; done)) (show qHv (hRs aa nz.toInt) from by first | (have hl := r_HL; have h1 := congrArg Int32.toInt hl.1; have h2 := hl.2.1; have h3 := hl.2.2.1; have h4 := hl.2.2.2.1; have h5 := congrArg Int32.toInt hl.2.2.2.2; have E := hRs_2 (a := aa) (z := nz.toInt) (by unfold hOk; omega); have kl := p5_m7; have k1 := congrArg Int32.toInt kl.1; have k2 := kl.2.1; have k3 := kl.2.2.1; have k4 := kl.2.2.2.1; have k5 := congrArg Int32.toInt kl.2.2.2.2; have RP : qEq (-1 : Int32).toInt (hRp aa nz.toInt) := (by unfold qEq; rw [hRp_2 E (by unfold hOk; omega)]; rfl); rw [E]; exact p4_m7; done) | (exfalso; omega; done) | (exfalso; contradiction; done)) (show (m 94 58).toInt = 0 from by omega)
    · skip
      have g55 := i_ne h8
      exfalso; omega

/-! from 95.r21 -/
/-! the reference where it moves (written by wip/tools/gen15r.py) -/
set_option maxHeartbeats 8000000 in
theorem sp_256rv {X : Nat × (Nat → Int32)} {P : Option ma_V → (Nat → Nat → Int32) → Prop} {T : Nat} {aa : Nat→Nat→Int32} {ro : Int32} {m : Nat → Nat → Int32}  (hV : zV m) (hpre0 : T ≤ 512) (r_W : zW (m 94 7) (m 98) (m 101) (m 102) (m 108)) (r_GW : zGW T (m 94 55) (m 109)) (r_GU : zGU T (m 94 46) (m 99)) (r_OW : zOw (m 99) (m 103) (m 111)) (r_GG : zGG (m 94 58) (m 94 56) (m 94 57) (m 106)) (hpre6 : (m 94 10).toInt = 2 ∧ (m 94 58).toInt = 0) (hpre7 : (m 94 8).toInt = 1) (r_RB : qRB (m 99) (m 100) (m 98) (m 101) (m 102) (m 103) (m 107) (m 108) (m 109) (m 111) (m 112) (m 113) (m 114) (m 94 55) (m 94 46) ro 0 0 0 1 aa) (r_HV : qHv aa) (r_HL : qHL aa (m 94 11) (m 94 61) (m 94 59)) (r_MG : qMG (m 94 58) (m 106) (m 115) (m 94 57) (m 94 56) (m 99) (m 100) aa) (r_MK : aa 87 8 = (m 94 58)) (r_WTS : (m 94 45).toInt = sm (zbU (m 99)) (m 102) 3100) (KZ : ∀ v m₉, zV (zov wr_256 m m₉) → (zW (m 94 7) (m 98) (m 101) (m 102) (m 108)) → (zGW T (m₉ 94 55) (m₉ 109)) → (zGU T (m 94 46) (m₉ 99)) → (zOw (m₉ 99) (m₉ 103) (m₉ 111)) → (zGG (m₉ 94 58) (m₉ 94 56) (m₉ 94 57) (m₉ 106)) → (qRB (m₉ 99) (m 100) (m 98) (m 101) (m 102) (m₉ 103) (m 107) (m 108) (m₉ 109) (m₉ 111) (m 112) (m₉ 113) (m₉ 114) (m₉ 94 55) (m 94 46) ro 0 0 0 1 (hCl aa)) → (qHv (hCl aa)) → (qHL (hCl aa) (m 94 11) (m₉ 94 61) (m₉ 94 59)) → (qMG (m₉ 94 58) (m₉ 106) (m₉ 115) (m₉ 94 57) (m₉ 94 56) (m₉ 99) (m 100) (hCl aa)) → ((hCl aa) 87 8 = (m₉ 94 58)) → ((m₉ 94 45).toInt = sm (zbU (m₉ 99)) (m 102) 3100) → ((m₉ 94 58).toInt = 0) → P (some (.inl v)) (zov wr_256 m m₉)) : zm X 7 152 256 0 [(0, .inr (.inr (some 94)))] m P := by
  have K : ∀ v m₉, zF wr_256 m m₉ → zV m₉ → (zW (m₉ 94 7) (m₉ 98) (m₉ 101) (m₉ 102) (m₉ 108)) → (zGW T (m₉ 94 55) (m₉ 109)) → (zGU T (m₉ 94 46) (m₉ 99)) → (zOw (m₉ 99) (m₉ 103) (m₉ 111)) → (zGG (m₉ 94 58) (m₉ 94 56) (m₉ 94 57) (m₉ 106)) → (qRB (m₉ 99) (m₉ 100) (m₉ 98) (m₉ 101) (m₉ 102) (m₉ 103) (m₉ 107) (m₉ 108) (m₉ 109) (m₉ 111) (m₉ 112) (m₉ 113) (m₉ 114) (m₉ 94 55) (m₉ 94 46) ro 0 0 0 1 (hCl aa)) → (qHv (hCl aa)) → (qHL (hCl aa) (m₉ 94 11) (m₉ 94 61) (m₉ 94 59)) → (qMG (m₉ 94 58) (m₉ 106) (m₉ 115) (m₉ 94 57) (m₉ 94 56) (m₉ 99) (m₉ 100) (hCl aa)) → ((hCl aa) 87 8 = (m₉ 94 58)) → ((m₉ 94 45).toInt = sm (zbU (m₉ 99)) (m₉ 102) 3100) → ((m₉ 94 58).toInt = 0) → P (some (.inl v)) m₉ := by
    intro v m₉ hf z q0 q1 q2 q3 q4 q5 q6 q7 q8 q9 q10 q11
    have e := zov_eq hf
    rw [e] at z ⊢
    try rw [e] at q0
    try rw [e] at q1
    try rw [e] at q2
    try rw [e] at q3
    try rw [e] at q4
    try rw [e] at q5
    try rw [e] at q6
    try rw [e] at q7
    try rw [e] at q8
    try rw [e] at q9
    try rw [e] at q10
    try rw [e] at q11
    exact KZ v m₉ z q0 q1 q2 q3 q4 q5 q6 q7 q8 q9 q10 q11
  refine g_256_0  ?_
  have f1 : 0 ≤ (m 94 10).toInt ∧ (m 94 10).toInt ≤ 6 := rs_94_10 (m := m) hV
  have f2 : 0 ≤ (m 94 58).toInt ∧ (m 94 58).toInt ≤ 1 := rs_94_58 (m := m) hV
  have f3 : 0 ≤ (m 94 8).toInt ∧ (m 94 8).toInt ≤ 1 := rs_94_8 (m := m) hV
  have li4 : (0 : Int32).toInt = 0 := rfl
  refine zd (fun (h5 : (m 94 8) = (0 : Int32)) => ?_) (fun (h5 : ¬ (m 94 8) = (0 : Int32)) => ?_)
  · skip
    have g6 := i_eq h5
    exfalso; omega
  · skip
    have g7 := i_ne h5
    have li8 : (1 : Int32).toInt = 1 := rfl
    refine zd (fun (h9 : (m 94 10) = (1 : Int32)) => ?_) (fun (h9 : ¬ (m 94 10) = (1 : Int32)) => ?_)
    · skip
      have g10 := i_eq h9
      exfalso; omega
    · skip
      have g11 := i_ne h9
      have li12 : (2 : Int32).toInt = 2 := rfl
      refine zd (fun (h13 : (m 94 10) = (2 : Int32)) => ?_) (fun (h13 : ¬ (m 94 10) = (2 : Int32)) => ?_)
      · skip
        have g14 := i_eq h13
        have hV15 : zV (ma_u m 94 0 (0 : Int32)) := uf_94_0 hV
        refine sp_206rv (aa := aa)  hV15 (by omega) r_W r_GW r_GU r_OW (show (m 94 10).toInt = 2 from by omega) r_RB r_HV r_HL r_WTS (fun v4 m3 hV_m3 p0_m3 p1_m3 p2_m3 p3_m3 p4_m3 p5_m3 p6_m3 => zmi_n ?_)
        have p0_m3 : zGW T (m3 94 55) (m3 109) := p0_m3
        have p1_m3 : zGU T (m 94 46) (m3 99) := p1_m3
        have p2_m3 : zOw (m3 99) (m3 103) (m3 111) := p2_m3
        have p3_m3 : qRB (m3 99) (m 100) (m 98) (m 101) (m 102) (m3 103) (m 107) (m 108) (m3 109) (m3 111) (m 112) (m3 113) (m3 114) (m3 94 55) (m 94 46) ro 0 0 0 1 (hCl aa) := p3_m3
        have p4_m3 : qHv (hCl aa) := p4_m3
        have p5_m3 : qHL (hCl aa) (m 94 11) (m3 94 61) (m3 94 59) := p5_m3
        have p6_m3 : (m3 94 45).toInt = sm (zbU (m3 99)) (m 102) 3100 := p6_m3
        have b16 := i_bd v4
        exact K (v4) _ (zF_zov (zF_u zF_rfl rfl) ws_206_256) hV_m3 r_W p0_m3 p1_m3 p2_m3 r_GG p3_m3 p4_m3 p5_m3 (show qMG (m 94 58) (m 106) (m 115) (m 94 57) (m 94 56) (m3 99) (m 100) (hCl aa) from by first | (exact fun z => absurd (by omega) z) | (exfalso; omega; done) | (exfalso; contradiction; done)) (show (hCl aa) 87 8 = (m 94 58) from by first | (rw [cl_7 (by decide) (by decide)]; exact r_MK; done) | (exfalso; omega; done) | (exfalso; contradiction; done)) p6_m3 (show (m 94 58).toInt = 0 from by omega)
      · skip
        have g17 := i_ne h13
        exfalso; omega

