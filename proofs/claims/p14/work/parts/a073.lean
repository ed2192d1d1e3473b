/-! from 95.d2 -/
/-! the reference's stages -/
section ZJ
variable {T : Nat → Int32} {N K p p₉ ny no ro si e e1 e2 z x x1 x2 k Z : Int} {s s1 s2 : Int32}
theorem zAns_goz (hs : s.toInt = tk true T N 0) (he : e = tk false T N s.toInt) (hk : k = zPol T s z) (hz : z = e - s.toInt) (h : k ≠ -1) : zAns T N = zRun T N k (zPts k) 0 e 0 0 := zAns_go hs he (by rw [← hz]; exact hk) h
theorem zAns_badz (hs : s.toInt = tk true T N 0) (he : e = tk false T N s.toInt) (hk : k = zPol T s z) (hz : z = e - s.toInt) (h : k = -1) : zAns T N = -1 - s.toInt := zAns_bad hs he (by rw [← hz]; exact hk) h
theorem zPart_fz {a : Int} (h : x = zForm T s z) (hz : z = e - s.toInt) : x = zPart 6 T s.toInt e a := zPart_f (by rw [← hz]; exact h)
theorem zPart_bz {a : Int} (h : x = zBar T s z) (hz : z = e - s.toInt) : x = zPart 7 T s.toInt e a := zPart_b (by rw [← hz]; exact h)
/-- what is left behind the room -/
def zTl (K : Int) : List Nat := if K = 0 then [6] else if K = 4 then [6] else if K = 5 then [6, 3, 7] else if K = 6 then [4, 5] else []
theorem zPts_tl (h0 : 0 ≤ K) (h6 : K ≤ 6) (h3 : K ≠ 3) : zPts K = 0 :: zTl K := by
  have q : K = 0 ∨ K = 1 ∨ K = 2 ∨ K = 4 ∨ K = 5 ∨ K = 6 := by omega
  rcases q with q | q | q | q | q | q <;> rw [q] <;> rfl
def zJ1 (T : Nat → Int32) (N K p ny no ro : Int) : Prop := (K = 3 ∧ zAns T N = zEnd T N K p ny no) ∨ (K ≠ 3 ∧ zAns T N = zRun T N K (zTl K) 1 p ro 0)
def zJ2 (T : Nat → Int32) (N K p ny no ro : Int) : Prop := (K = 3 ∧ zAns T N = zEnd T N K p ny no) ∨ (K = 5 ∧ zAns T N = zRun T N K [3, 7] 2 p ro 0) ∨ (K = 6 ∧ zAns T N = zRun T N K [4, 5] 1 p ro 0) ∨ (K ≠ 3 ∧ K ≠ 5 ∧ K ≠ 6 ∧ zAns T N = zEnd T N K p ro 0)
def zJ3 (T : Nat → Int32) (N K p ny no ro : Int) : Prop := (K = 3 ∧ zAns T N = zEnd T N K p ny no) ∨ (K = 6 ∧ zAns T N = zRun T N K [4, 5] 1 p ro 0) ∨ (K ≠ 3 ∧ K ≠ 6 ∧ zAns T N = zEnd T N K p ro 0)
def zJ4 (T : Nat → Int32) (N K p ny no ro si : Int) : Prop := (K = 3 ∧ zAns T N = zEnd T N K p ny no) ∨ (K = 6 ∧ zAns T N = zEnd T N K p ro si) ∨ (K ≠ 3 ∧ K ≠ 6 ∧ zAns T N = zEnd T N K p ro 0)
def zJ5 (Z K ny no ro si : Int) : Prop := (K = 3 ∧ Z = zFin K ny no) ∨ (K = 6 ∧ Z = zFin K ro si) ∨ (K ≠ 3 ∧ K ≠ 6 ∧ Z = zFin K ro 0)
theorem J1_r (q : zAns T N = zRun T N K (zPts K) 0 p 0 0) (h0 : 0 ≤ K) (h6 : K ≤ 6) (h3 : K ≠ 3) (hs : s.toInt = tk true T N p) (he : e = tk false T N s.toInt) (hx : ro = zNum T s.toInt e 16 1500) (h : ro ≠ -1) : zJ1 T N K e ny no ro := by
  refine Or.inr ⟨h3, ?_⟩
  rw [zPts_tl h0 h6 h3] at q
  exact q.trans (zRun_ok0 hs rfl he (show ro = zPart 0 T s.toInt e 0 from hx) h)
theorem J1_rb (q : zAns T N = zRun T N K (zPts K) 0 p 0 0) (h0 : 0 ≤ K) (h6 : K ≤ 6) (h3 : K ≠ 3) (hs : s.toInt = tk true T N p) (he : e = tk false T N s.toInt) (hx : zNum T s.toInt e 16 1500 = -1) : zAns T N = -1 - s.toInt := by
  rw [zPts_tl h0 h6 h3] at q
  exact q.trans (zRun_badp hs rfl he (show zNum T s.toInt e 16 1500 = zPart 0 T s.toInt e 0 from rfl) hx)
theorem J12_q (h : zJ1 T N K p ny no ro) (hK : K = 0 ∨ K = 4 ∨ K = 5) : zAns T N = zRun T N K (6 :: (if K = 5 then [3, 7] else [])) 1 p ro 0 := by
  rcases h with h | h
  · omega
  · have e : zTl K = 6 :: (if K = 5 then [3, 7] else []) := by rcases hK with q | q | q <;> rw [q] <;> rfl
    rw [← e]
    exact h.2
theorem J12_f (h : zJ1 T N K p ny no ro) (hK : K = 0 ∨ K = 4 ∨ K = 5) (hs : s.toInt = tk true T N p) (he : e = tk false T N s.toInt) (hx : x = zForm T s z) (hz : z = e - s.toInt) (hn : x ≠ -1) : zJ2 T N K e ny no ro := by
  have q := (J12_q h hK).trans (zRun_okn hs rfl he (zPart_fz hx hz) hn (by omega))
  by_cases c : K = 5
  · rw [if_pos c] at q
    exact Or.inr (Or.inl ⟨c, q⟩)
  · rw [if_neg c] at q
    exact Or.inr (Or.inr (Or.inr ⟨by omega, c, by omega, q⟩))
theorem J12_b (h : zJ1 T N K p ny no ro) (hK : K = 0 ∨ K = 4 ∨ K = 5) (hs : s.toInt = tk true T N p) (he : e = tk false T N s.toInt) (hx : zForm T s z = -1) (hz : z = e - s.toInt) : zAns T N = -1 - s.toInt := (J12_q h hK).trans (zRun_badp hs rfl he (zPart_fz rfl hz) hx)
theorem J12_n (h : zJ1 T N K p ny no ro) (h0 : 0 ≤ K) (h6 : K ≤ 6) (hK : K ≠ 0 ∧ K ≠ 4 ∧ K ≠ 5) : zJ2 T N K p ny no ro := by
  rcases h with h | h
  · exact Or.inl h
  · by_cases c : K = 6
    · have q := h.2
      have e : zTl K = [4, 5] := by rw [c]; rfl
      rw [e] at q
      exact Or.inr (Or.inr (Or.inl ⟨c, q⟩))
    · have q := h.2
      have e : zTl K = [] := by
        have y : K = 1 ∨ K = 2 := by have := h.1; omega
        rcases y with y | y <;> rw [y] <;> rfl
      rw [e] at q
      exact Or.inr (Or.inr (Or.inr ⟨h.1, hK.2.2, c, q⟩))
theorem J23_q (h : zJ2 T N K p ny no ro) (hK : K = 5) : zAns T N = zRun T N K [3, 7] 2 p ro 0 := by
  rcases h with h | h | h | h
  · omega
  · exact h.2
  · omega
  · omega
theorem J23_1 (h : zJ2 T N K p ny no ro) (hK : K = 5) (hs : s1.toInt = tk true T N p) (he : e1 = tk false T N s1.toInt) (hx : zNum T s1.toInt e1 1 50 = -1) : zAns T N = -1 - s1.toInt := (J23_q h hK).trans (zRun_badp hs rfl he (show zNum T s1.toInt e1 1 50 = zPart 3 T s1.toInt e1 ro from rfl) hx)
theorem J23_2 (h : zJ2 T N K p ny no ro) (hK : K = 5) (hs : s1.toInt = tk true T N p) (he : e1 = tk false T N s1.toInt) (hx : x1 = zNum T s1.toInt e1 1 50) (hn : x1 ≠ -1) : zAns T N = zRun T N K [7] 3 e1 ro 0 := (J23_q h hK).trans (zRun_okn hs rfl he (show x1 = zPart 3 T s1.toInt e1 ro from hx) hn (by omega))
theorem J23_3 (q : zAns T N = zRun T N K [7] 3 e1 ro 0) (hs : s2.toInt = tk true T N e1) (he : e2 = tk false T N s2.toInt) (hx : zBar T s2 z = -1) (hz : z = e2 - s2.toInt) : zAns T N = -1 - s2.toInt := q.trans (zRun_badp hs rfl he (zPart_bz rfl hz) hx)
theorem J23_4 (q : zAns T N = zRun T N K [7] 3 e1 ro 0) (hK : K = 5) (hs : s2.toInt = tk true T N e1) (he : e2 = tk false T N s2.toInt) (hx : x = zBar T s2 z) (hz : z = e2 - s2.toInt) (hn : x ≠ -1) : zJ3 T N K e2 ny no ro := Or.inr (Or.inr ⟨by omega, by omega, q.trans (zRun_okn hs rfl he (zPart_bz hx hz) hn (by omega))⟩)
theorem J23_n (h : zJ2 T N K p ny no ro) (hK : K ≠ 5) : zJ3 T N K p ny no ro := by
  rcases h with h | h | h | h
  · exact Or.inl h
  · exact absurd h.1 hK
  · exact Or.inr (Or.inl h)
  · exact Or.inr (Or.inr ⟨h.1, h.2.2.1, h.2.2.2⟩)
theorem J34_q (h : zJ3 T N K p ny no ro) (hK : K = 6) : zAns T N = zRun T N K [4, 5] 1 p ro 0 := by
  rcases h with h | h | h
  · omega
  · exact h.2
  · omega
theorem J34_1 (h : zJ3 T N K p ny no ro) (hK : K = 6) (hs : s1.toInt = tk true T N p) (he : e1 = tk false T N s1.toInt) (hx : zNum T s1.toInt e1 16 (zmn ro) = -1) : zAns T N = -1 - s1.toInt := (J34_q h hK).trans (zRun_badp hs rfl he (show zNum T s1.toInt e1 16 (zmn ro) = zPart 4 T s1.toInt e1 ro from rfl) hx)
theorem J34_2 (h : zJ3 T N K p ny no ro) (hK : K = 6) (hs : s1.toInt = tk true T N p) (he : e1 = tk false T N s1.toInt) (hx : si = zNum T s1.toInt e1 16 (zmn ro)) (hn : si ≠ -1) : zAns T N = zRun T N K [5] 2 e1 ro si := (J34_q h hK).trans (zRun_ok1 hs rfl he (show si = zPart 4 T s1.toInt e1 ro from hx) hn (by omega))
theorem J34_3 (q : zAns T N = zRun T N K [5] 2 e1 ro si) (hs : s2.toInt = tk true T N e1) (he : e2 = tk false T N s2.toInt) (hx : zNum T s2.toInt e2 0 100 = -1) : zAns T N = -1 - s2.toInt := q.trans (zRun_badp hs rfl he (show zNum T s2.toInt e2 0 100 = zPart 5 T s2.toInt e2 ro from rfl) hx)
theorem J34_4 (q : zAns T N = zRun T N K [5] 2 e1 ro si) (hK : K = 6) (hs : s2.toInt = tk true T N e1) (he : e2 = tk false T N s2.toInt) (hx : x = zNum T s2.toInt e2 0 100) (hn : x ≠ -1) : zJ4 T N K e2 ny no ro si := Or.inr (Or.inl ⟨hK, q.trans (zRun_okn hs rfl he (show x = zPart 5 T s2.toInt e2 ro from hx) hn (by omega))⟩)
theorem J34_n (h : zJ3 T N K p ny no ro) (hK : K ≠ 6) : zJ4 T N K p ny no ro si := by
  rcases h with h | h | h
  · exact Or.inl h
  · exact absurd h.1 hK
  · exact Or.inr (Or.inr h)
theorem J45_b (h : zJ4 T N K p ny no ro si) (hs : s.toInt = tk true T N p) (he : e = tk false T N s.toInt) (hl : s.toInt < e) : zAns T N = -1 - s.toInt := by
  rcases h with h | h | h
  · exact h.2.trans (zEnd_bad hs he hl)
  · exact h.2.trans (zEnd_bad hs he hl)
  · exact h.2.2.trans (zEnd_bad hs he hl)
theorem J45_o (h : zJ4 T N K p ny no ro si) (hs : s.toInt = tk true T N p) (he : e = tk false T N s.toInt) (hl : e ≤ s.toInt) : zJ5 (zAns T N) K ny no ro si := by
  rcases h with h | h | h
  · exact Or.inl ⟨h.1, h.2.trans (zEnd_ok hs he hl)⟩
  · exact Or.inr (Or.inl ⟨h.1, h.2.trans (zEnd_ok hs he hl)⟩)
  · exact Or.inr (Or.inr ⟨h.1, h.2.1, h.2.2.trans (zEnd_ok hs he hl)⟩)
theorem J5_0 (h : zJ5 Z K ny no ro si) (hK : K = 0 ∨ K = 1 ∨ K = 4 ∨ K = 5) : Z = ro := by
  rcases h with h | h | h
  · omega
  · omega
  · exact h.2.2.trans (zFin_0 hK)
theorem J5_2 (h : zJ5 Z K ny no ro si) (hK : K = 2) : Z = 2 * ro := by
  rcases h with h | h | h
  · omega
  · omega
  · exact h.2.2.trans (zFin_2 hK)
theorem J5_3 (h : zJ5 Z K ny no ro si) (hK : K = 3) : Z = no + 2 * ny := by
  rcases h with h | h | h
  · exact h.2.trans (zFin_3 hK)
  · omega
  · omega
theorem J5_6 (h : zJ5 Z K ny no ro si) (hK : K = 6) : Z = ro / si * si := by
  rcases h with h | h | h
  · omega
  · exact h.2.trans (zFin_6 hK)
  · omega
theorem rg_tot {r s x : Int32} (hx : x = r / s) (h0 : 0 ≤ r.toInt) (h1 : r.toInt ≤ 1500) (h2 : 16 ≤ s.toInt) (h3 : s.toInt ≤ 256) (hr : r.toInt = ro) (hs : s.toInt = si) (z : Z = ro / si * si) : (x * s).toInt = Z := by
  have d := i_div (x := r) (y := s) h0 (by omega)
  have d2 : 0 ≤ x.toInt ∧ x.toInt ≤ 1500 ∧ x.toInt = ro / si := by rw [hx, ← hr, ← hs]; exact ⟨d.1, by omega, d.2.2.1⟩
  have e := (i_muln (x := x) (y := s) d2.1 d2.2.1 (by omega) (by omega)).2.2
  rw [e, z, d2.2.2, hs]
end ZJ
/-- the reference's loop over digits -/
def zGB (T : Nat → Int32) (s e g v k : Int) : Prop := (g = 1 ∧ e - s ≤ 5 ∧ zfo T e (s + k) v = zfo T e s 0 ∧ zok s (s + k) v) ∨ (g = 0 ∧ ∀ lo hi : Int, zNum T s e lo hi = -1)
section GB
variable {T : Nat → Int32} {s e g v k g₉ v₉ k₉ : Int} {x : Int32}
theorem GB_1 (hg : g = 1) (hv : v = 0) (hk : k = 0) (h : e - s ≤ 5) : zGB T s e g v k := by
  refine Or.inl ⟨hg, h, ?_, ?_⟩
  · rw [hv, hk, Int.add_zero]
  · rw [hv, hk, Int.add_zero]
    exact zok_0
theorem GB_0 (hg : g = 0) (h : 5 < e - s) : zGB T s e g v k := Or.inr ⟨hg, fun _ _ => zNum_no (Or.inr h)⟩
theorem GB_go (h : zGB T s e g v k) (hg : g ≠ 0) (hk : s + k < e) (hk0 : 0 ≤ k) (hx : x = T (s + k).toNat) (h1 : 48 ≤ x.toInt) (h2 : x.toInt ≤ 57) (hg₉ : g₉ = 1) (hv : v₉ = v * 10 + (x.toInt - 48)) (hk₉ : k₉ = k + 1) : zGB T s e g₉ v₉ k₉ := by
  rcases h with h | h
  · refine Or.inl ⟨hg₉, h.2.1, ?_, ?_⟩
    · exact (zfo_go hk hx h1 h2 (by omega) hv).symm.trans h.2.2.1
    · exact zok_st h.2.2.2 (by omega) (show 0 ≤ x.toInt - 48 by omega) (by omega) (by omega) hv
  · exact absurd h.1 hg
theorem GB_bad (h : zGB T s e g v k) (hg : g ≠ 0) (hk : s + k < e) (hx : x = T (s + k).toNat) (hb : x.toInt < 48 ∨ 57 < x.toInt) (hg₉ : g₉ = 0) : zGB T s e g₉ v₉ k₉ := by
  rcases h with h | h
  · exact Or.inr ⟨hg₉, fun _ _ => zNum_bad (h.2.2.1.symm.trans (zfo_bad hk hx hb))⟩
  · exact absurd h.1 hg
theorem GB_4 (h : zGB T s e g v k) (hg : g ≠ 0) (hk : k ≤ 4) : 0 ≤ v ∧ v ≤ 9999 := by
  rcases h with h | h
  · exact zok_4 h.2.2.2 (by omega)
  · exact absurd h.1 hg
theorem GB_nn (h : zGB T s e g v k) (hg : g ≠ 0) : 0 ≤ v ∧ e - s ≤ 5 := by
  rcases h with h | h
  · exact ⟨h.2.2.2.1, h.2.1⟩
  · exact absurd h.1 hg
theorem GB_end (h : zGB T s e g v k) (hg : g ≠ 0) (he : e ≤ s + k) : zfo T e s 0 = v := by
  rcases h with h | h
  · exact h.2.2.1.symm.trans (zfo_end he)
  · exact absurd h.1 hg
theorem GB_no (h : zGB T s e g v k) (hg : g = 0) (lo hi : Int) : zNum T s e lo hi = -1 := by
  rcases h with h | h
  · omega
  · exact h.2 lo hi
end GB
/-- some of four bytes -/
def zFp (r r₉ : Nat → Int32) (n : Int) (x : Int32) (j : Int) : Prop := (∀ k : Nat, (k : Int) < n → r₉ k = r k) ∧ (1 ≤ j → r₉ n.toNat = zb x 24) ∧ (2 ≤ j → r₉ (n + 1).toNat = zb x 16) ∧ (3 ≤ j → r₉ (n + 2).toNat = zb x 8) ∧ (4 ≤ j → r₉ (n + 3).toNat = zb x 0)
section FP
variable {r : Nat → Int32} {m : Nat → Nat → Int32} {n j j₉ : Int} {x s b : Int32} {i : Nat}
theorem fp_0 (h : j = 0) : zFp r r n x j := ⟨fun _ _ => rfl, fun z => by omega, fun z => by omega, fun z => by omega, fun z => by omega⟩
theorem fp_s (h : zFp r (m 95) n x j) (hn : 0 ≤ n) (h0 : 0 ≤ j) (hi : (i : Int) = n + j) (hb : b = zb x s) (hs : (j = 0 ∧ s.toInt = 24) ∨ (j = 1 ∧ s.toInt = 16) ∨ (j = 2 ∧ s.toInt = 8) ∨ (j = 3 ∧ s.toInt = 0)) (hj : j₉ = j + 1) : zFp r (ma_u m 95 i b 95) n x j₉ := by
  have rd : ∀ k, ma_u m 95 i b 95 k = if k = i then b else m 95 k := by
    intro k
    show (if 95 = 95 ∧ k = i then b else m 95 k) = _
    by_cases c : k = i
    · rw [if_pos ⟨rfl, c⟩, if_pos c]
    · rw [if_neg (fun z => c z.2), if_neg c]
  have sh : ∀ q : Int32, s.toInt = q.toInt → b = zb x q := fun q z => by rw [hb, Int32.toInt_inj.mp z]
  refine ⟨fun k hk => ?_, fun z => ?_, fun z => ?_, fun z => ?_, fun z => ?_⟩
  · rw [rd, if_neg (by omega)]
    exact h.1 k hk
  · rw [rd]
    by_cases c : j = 0
    · rw [if_pos (by omega)]
      exact sh 24 (show s.toInt = 24 by omega)
    · rw [if_neg (by omega)]
      exact h.2.1 (by omega)
  · rw [rd]
    by_cases c : j = 1
    · rw [if_pos (by omega)]
      exact sh 16 (show s.toInt = 16 by omega)
    · rw [if_neg (by omega)]
      exact h.2.2.1 (by omega)
  · rw [rd]
    by_cases c : j = 2
    · rw [if_pos (by omega)]
      exact sh 8 (show s.toInt = 8 by omega)
    · rw [if_neg (by omega)]
      exact h.2.2.2.1 (by omega)
  · rw [rd]
    by_cases c : j = 3
    · rw [if_pos (by omega)]
      exact sh 0 (show s.toInt = 0 by omega)
    · rw [if_neg (by omega)]
      exact h.2.2.2.2 (by omega)
theorem fp_e {r₉ : Nat → Int32} (h : zFp r r₉ n x j) (hj : 4 ≤ j) : zFq r r₉ n x := ⟨h.1, h.2.1 (by omega), h.2.2.1 (by omega), h.2.2.2.1 (by omega), h.2.2.2.2 hj⟩
end FP
theorem zb_nar {x s : Int32} : vp_nar .byte (zb x s) = zb x s := by
  unfold zb
  rw [vp_nar_byte, vp_nar_byte, Int8.toInt8_toInt32, Int8.toInt8_toInt32]
theorem fd_by {r r₉ : Nat → Int32} {n : Int} {w : Nat → Int32} (h : zFd r r₉ n 5 w) (hn : 0 ≤ n) (hb : ∀ k : Nat, (k : Int) < n → vp_nar .byte (r k) = r k) : ∀ k : Nat, (k : Int) < n + 20 → vp_nar .byte (r₉ k) = r₉ k := by
  intro k hk
  by_cases c : (k : Int) < n
  · rw [h.1 k c]
    exact hb k c
  · have z : ∃ i : Nat, i < 5 ∧ (k = (n + 4 * i).toNat ∨ k = (n + 4 * i + 1).toNat ∨ k = (n + 4 * i + 2).toNat ∨ k = (n + 4 * i + 3).toNat) := ⟨((k : Int) - n).toNat / 4, by omega, by omega⟩
    obtain ⟨i, hi, z⟩ := z
    have u1 := h.2 i hi
    rcases z with z | z | z | z <;> rw [z]
    · rw [u1.1]; exact zb_nar
    · rw [u1.2.1]; exact zb_nar
    · rw [u1.2.2.1]; exact zb_nar
    · rw [u1.2.2.2]; exact zb_nar
theorem sr_put {m : Nat → Nat → Int32} {l1 : Int32} {q : Int} (h : ∀ k : Nat, (k : Int) < l1.toInt → m 96 k = m 95 k) (b : vp_nar .byte (m 95 l1.toNatClampNeg) = m 95 l1.toNatClampNeg) (h0 : 0 ≤ l1.toInt) (hq : q = l1.toInt + 1) : ∀ k : Nat, (k : Int) < q → ma_u m 96 l1.toNatClampNeg (vp_nar .byte (m 95 l1.toNatClampNeg)) 96 k = m 95 k := by
  intro k hk
  show (if 96 = 96 ∧ k = l1.toNatClampNeg then _ else m 96 k) = _
  have e : ((l1.toNatClampNeg : Nat) : Int) = l1.toInt := tn_cast h0
  by_cases c : k = l1.toNatClampNeg
  · rw [if_pos ⟨rfl, c⟩, b, c]
  · rw [if_neg (fun z => c z.2)]
    exact h k (by omega)

/-! from 95.d9 -/
/-! what the reference's readers answered, closed (the arithmetic is not to take them apart) -/
def zNU (v : Int32) (x z b s : Int) : Prop := (v.toInt = 1 ∧ x = z) ∨ (v.toInt = 0 ∧ z = -1 ∧ b = s)
def zFO (v : Int32) (x z b s : Int) : Prop := (v.toInt = 1 ∧ x = z ∧ 0 ≤ x) ∨ (v.toInt = 0 ∧ z = -1 ∧ b = s)
def zRPr (v : Int32) (b Z : Int) (J : Prop) : Prop := (v.toInt = 0 ∧ -1 - b = Z) ∨ (v.toInt = 1 ∧ J)
def zZW (v : Int32) (P : Prop) : Prop := (v = 1 ∧ P) ∨ (v = 0 ∧ ¬ P)
section NU
variable {v : Int32} {x z b s Z : Int} {J : Prop}
theorem NU_ok (h : zNU v x z b s) (hv : v.toInt ≠ 0) : x = z := h.elim (fun q => q.2) (fun q => absurd q.1 hv)
theorem NU_no (h : zNU v x z b s) (hv : v.toInt = 0) : z = -1 := by
  rcases h with h | h
  · omega
  · exact h.2.1
theorem NU_br (h : zNU v x z b s) (hv : v.toInt = 0) : b = s := by
  rcases h with h | h
  · omega
  · exact h.2.2
theorem FO_ok (h : zFO v x z b s) (hv : v.toInt ≠ 0) : x = z ∧ 0 ≤ x := h.elim (fun q => q.2) (fun q => absurd q.1 hv)
theorem FO_no (h : zFO v x z b s) (hv : v.toInt = 0) : z = -1 := by
  rcases h with h | h
  · omega
  · exact h.2.1
theorem FO_br (h : zFO v x z b s) (hv : v.toInt = 0) : b = s := by
  rcases h with h | h
  · omega
  · exact h.2.2
theorem RP_no (h : zRPr v b Z J) (hv : v.toInt = 0) : -1 - b = Z := by
  rcases h with h | h
  · exact h.2
  · omega
theorem RP_ok (h : zRPr v b Z J) (hv : v.toInt ≠ 0) : J := h.elim (fun q => absurd q.1 hv) (fun q => q.2)
end NU
theorem hp_sub {s : Int32} {Z : Int} (r : -1 - s.toInt = Z) (h0 : 0 ≤ s.toInt) (h1 : s.toInt ≤ 100) : ((-1 : Int32) - s).toInt = Z := by
  have l : (-1 : Int32).toInt = -1 := rfl
  have e : ((-1 : Int32) - s).toInt = (-1 : Int32).toInt - s.toInt := i_sub (by omega) (by omega)
  rw [e, l]
  exact r

/-! from 95.e00 -/
/-! the reference: texts (written by wip/tools/gen94n.py) -/
theorem lp_173n_46 {X : Nat × (Nat → Int32)} {P : Option ma_V → (Nat → Nat → Int32) → Prop} {m0 : Nat → Nat → Int32} (h0 : zV m0) (K : ∀ v m₉, zF wr_173 m0 m₉ → zV m₉ → (v = 0 ∨ v = 1) → ((m₉ 94 67).toInt ≤ (m₉ 94 4).toInt) → ((m₉ 94 68).toInt + (m₉ 94 69).toInt = (m₉ 94 67).toInt) → ((v.toInt = 1 ∧ 1 ≤ (m₉ 94 69).toInt) ∨ (v.toInt = 0 ∧ (m₉ 94 69).toInt = 0)) → ((m₉ 94 68).toInt = tk true (m₉ 96) (m₉ 94 4).toInt (m0 94 67).toInt) → ((m₉ 94 67).toInt = tk false (m₉ 96) (m₉ 94 4).toInt (m₉ 94 68).toInt) → P (some (.inl v)) m₉) : ∀ (n : Nat) (m : Nat → Nat → Int32) , ((m 94 4).toInt - (m 94 67).toInt).toNat = n → zF wr_173 m0 m → zV m → ((m 94 67).toInt ≤ (m 94 4).toInt) → ((m 94 68).toInt ≤ (m 94 67).toInt) → ((m 94 68).toInt = tk true (m 96) (m 94 4).toInt (m0 94 67).toInt) → (tk false (m 96) (m 94 4).toInt (m 94 67).toInt = tk false (m 96) (m 94 4).toInt (m 94 68).toInt) → zm X 0 0 173 46 [(0, .inr (.inr (some 94)))] m P := by
  intro n
  induction n using Nat.strongRecOn with
  | _ n IH =>
    intro m  hmu hF hV hi0 hi1 r_TS r_TB
    refine g_173_46  ?_
    have f1 : 0 ≤ (m 94 67).toInt ∧ (m 94 67).toInt ≤ 100 := rs_94_67 (m := m) hV
    have f2 : 0 ≤ (m 94 4).toInt ∧ (m 94 4).toInt ≤ 100 := rs_94_4 (m := m) hV
    have f3 : 0 ≤ (m 94 68).toInt ∧ (m 94 68).toInt ≤ 100 := rs_94_68 (m := m) hV
    refine zd (fun (h4 : (m 94 4) ≤ (m 94 67)) => ?_) (fun (h4 : ¬ (m 94 4) ≤ (m 94 67)) => ?_)
    · skip
      have g5 := i_le h4
      first | have e6 : ((m 94 67) - (m 94 68)).toInt = (m 94 67).toInt - (m 94 68).toInt := i_sub (by omega) (by omega) | have b7 := i_bd ((m 94 67) - (m 94 68))
      have li8 : (0 : Int32).toInt = 0 := rfl
      refine zd (fun (h9 : ((m 94 67) - (m 94 68)) ≤ (0 : Int32)) => ?_) (fun (h9 : ¬ ((m 94 67) - (m 94 68)) ≤ (0 : Int32)) => ?_)
      · skip
        have g10 := i_le h9
        have hV11 : zV (ma_u m 94 69 ((m 94 67) - (m 94 68))) := us_94_69 hV (by omega) (by omega)
        exact K ((0 : Int32)) _ (zF_u hF rfl) hV11 (by decide) (show (m 94 67).toInt ≤ (m 94 4).toInt from by omega) (show (m 94 68).toInt + ((m 94 67) - (m 94 68)).toInt = (m 94 67).toInt from by omega) (show ((0 : Int32).toInt = 1 ∧ 1 ≤ ((m 94 67) - (m 94 68)).toInt) ∨ ((0 : Int32).toInt = 0 ∧ ((m 94 67) - (m 94 68)).toInt = 0) from by omega) (show (m 94 68).toInt = tk true (m 96) (m 94 4).toInt (m0 94 67).toInt from by first | (exact r_TS) | (exfalso; omega; done) | (exfalso; contradiction; done)) (show (m 94 67).toInt = tk false (m 96) (m 94 4).toInt (m 94 68).toInt from by first | (exact ((tk_e (by omega)).symm.trans r_TB)) | (exact ((tk_w0 (x := (m 96 (m 94 67).toNatClampNeg)) rfl (by assumption)).symm.trans r_TB)) | (exfalso; omega; done) | (exfalso; contradiction; done))
      · skip
        have g12 := i_nle h9
        have hV13 : zV (ma_u m 94 69 ((m 94 67) - (m 94 68))) := us_94_69 hV (by omega) (by omega)
        have li14 : (1 : Int32).toInt = 1 := rfl
        exact K ((1 : Int32)) _ (zF_u hF rfl) hV13 (by decide) (show (m 94 67).toInt ≤ (m 94 4).toInt from by omega) (show (m 94 68).toInt + ((m 94 67) - (m 94 68)).toInt = (m 94 67).toInt from by omega) (show ((1 : Int32).toInt = 1 ∧ 1 ≤ ((m 94 67) - (m 94 68)).toInt) ∨ ((1 : Int32).toInt = 0 ∧ ((m 94 67) - (m 94 68)).toInt = 0) from by omega) (show (m 94 68).toInt = tk true (m 96) (m 94 4).toInt (m0 94 67).toInt from by first | (exact r_TS) | (exfalso; omega; done) | (exfalso; contradiction; done)) (show (m 94 67).toInt = tk false (m 96) (m 94 4).toInt (m 94 68).toInt from by first | (exact ((tk_e (by omega)).symm.trans r_TB)) | (exact ((tk_w0 (x := (m 96 (m 94 67).toNatClampNeg)) rfl (by assumption)).symm.trans r_TB)) | (exfalso; omega; done) | (exfalso; contradiction; done))
    · skip
      have g15 := i_nle h4
      have hg16 : (0 ≤ (m 94 67) ∧ (m 94 67).toNatClampNeg < 100) := i_ix (by omega) (by omega)
      refine ⟨hg16, ?_⟩
      have b17 := i_bd (m 96 (m 94 67).toNatClampNeg)
      have li18 : (32 : Int32).toInt = 32 := rfl
      refine zd (fun (h19 : (m 96 (m 94 67).toNatClampNeg) = (32 : Int32)) => ?_) (fun (h19 : ¬ (m 96 (m 94 67).toNatClampNeg) = (32 : Int32)) => ?_)
      · skip
        have g20 := i_eq h19
        first | have e21 : ((m 94 67) - (m 94 68)).toInt = (m 94 67).toInt - (m 94 68).toInt := i_sub (by omega) (by omega) | have b22 := i_bd ((m 94 67) - (m 94 68))
        have li23 : (0 : Int32).toInt = 0 := rfl
        refine zd (fun (h24 : ((m 94 67) - (m 94 68)) ≤ (0 : Int32)) => ?_) (fun (h24 : ¬ ((m 94 67) - (m 94 68)) ≤ (0 : Int32)) => ?_)
        · skip
          have g25 := i_le h24
          have hV26 : zV (ma_u m 94 69 ((m 94 67) - (m 94 68))) := us_94_69 hV (by omega) (by omega)
          exact K ((0 : Int32)) _ (zF_u hF rfl) hV26 (by decide) (show (m 94 67).toInt ≤ (m 94 4).toInt from by omega) (show (m 94 68).toInt + ((m 94 67) - (m 94 68)).toInt = (m 94 67).toInt from by omega) (show ((0 : Int32).toInt = 1 ∧ 1 ≤ ((m 94 67) - (m 94 68)).toInt) ∨ ((0 : Int32).toInt = 0 ∧ ((m 94 67) - (m 94 68)).toInt = 0) from by omega) (show (m 94 68).toInt = tk true (m 96) (m 94 4).toInt (m0 94 67).toInt from by first | (exact r_TS) | (exfalso; omega; done) | (exfalso; contradiction; done)) (show (m 94 67).toInt = tk false (m 96) (m 94 4).toInt (m 94 68).toInt from by first | (exact ((tk_e (by omega)).symm.trans r_TB)) | (exact ((tk_w0 (x := (m 96 (m 94 67).toNatClampNeg)) rfl (by assumption)).symm.trans r_TB)) | (exfalso; omega; done) | (exfalso; contradiction; done))
        · skip
          have g27 := i_nle h24
          have hV28 : zV (ma_u m 94 69 ((m 94 67) - (m 94 68))) := us_94_69 hV (by omega) (by omega)
          have li29 : (1 : Int32).toInt = 1 := rfl
          exact K ((1 : Int32)) _ (zF_u hF rfl) hV28 (by decide) (show (m 94 67).toInt ≤ (m 94 4).toInt from by omega) (show (m 94 68).toInt + ((m 94 67) - (m 94 68)).toInt = (m 94 67).toInt from by omega) (show ((1 : Int32).toInt = 1 ∧ 1 ≤ ((m 94 67) - (m 94 68)).toInt) ∨ ((1 : Int32).toInt = 0 ∧ ((m 94 67) - (m 94 68)).toInt = 0) from by omega) (show (m 94 68).toInt = tk true (m 96) (m 94 4).toInt (m0 94 67).toInt from by first | (exact r_TS) | (exfalso; omega; done) | (exfalso; contradiction; done)) (show (m 94 67).toInt = tk false (m 96) (m 94 4).toInt (m 94 68).toInt from by first | (exact ((tk_e (by omega)).symm.trans r_TB)) | (exact ((tk_w0 (x := (m 96 (m 94 67).toNatClampNeg)) rfl (by assumption)).symm.trans r_TB)) | (exfalso; omega; done) | (exfalso; contradiction; done))
      · skip
        have g30 := i_ne h19
        first | have e32 : ((m 94 67) + (1 : Int32)).toInt = (m 94 67).toInt + (1) := i_addk rfl (by omega) (by omega) | have b33 := i_bd ((m 94 67) + (1 : Int32))
        have hV31 : zV (ma_u m 94 67 ((m 94 67) + (1 : Int32))) := us_94_67 hV (by omega) (by omega)
        exact IH ((m 94 4).toInt - ((m 94 67) + (1 : Int32)).toInt).toNat (by omega) _  rfl (zF_u hF rfl) hV31 (show ((m 94 67) + (1 : Int32)).toInt ≤ (m 94 4).toInt from by omega) (show (m 94 68).toInt ≤ ((m 94 67) + (1 : Int32)).toInt from by omega) r_TS (show tk false (m 96) (m 94 4).toInt ((m 94 67) + (1 : Int32)).toInt = tk false (m 96) (m 94 4).toInt (m 94 68).toInt from by first | (exact rfl) | (exact (tk_w1 (p := (m 94 67).toInt) (x := (m 96 (m 94 67).toNatClampNeg)) (by omega) rfl (by assumption) (by omega)).symm.trans r_TB) | (exfalso; omega; done) | (exfalso; contradiction; done))
theorem lp_173n_0 {X : Nat × (Nat → Int32)} {P : Option ma_V → (Nat → Nat → Int32) → Prop} {m0 : Nat → Nat → Int32} (h0 : zV m0) (K : ∀ v m₉, zF wr_173 m0 m₉ → zV m₉ → (v = 0 ∨ v = 1) → ((m₉ 94 67).toInt ≤ (m₉ 94 4).toInt) → ((m₉ 94 68).toInt + (m₉ 94 69).toInt = (m₉ 94 67).toInt) → ((v.toInt = 1 ∧ 1 ≤ (m₉ 94 69).toInt) ∨ (v.toInt = 0 ∧ (m₉ 94 69).toInt = 0)) → ((m₉ 94 68).toInt = tk true (m₉ 96) (m₉ 94 4).toInt (m0 94 67).toInt) → ((m₉ 94 67).toInt = tk false (m₉ 96) (m₉ 94 4).toInt (m₉ 94 68).toInt) → P (some (.inl v)) m₉) : ∀ (n : Nat) (m : Nat → Nat → Int32) , ((m 94 4).toInt - (m 94 67).toInt).toNat = n → zF wr_173 m0 m → zV m → ((m 94 67).toInt ≤ (m 94 4).toInt) → (tk true (m 96) (m 94 4).toInt (m 94 67).toInt = tk true (m 96) (m 94 4).toInt (m0 94 67).toInt) → zm X 0 0 173 0 [(0, .inr (.inr (some 94)))] m P := by
  intro n
  induction n using Nat.strongRecOn with
  | _ n IH =>
    intro m  hmu hF hV hi0 r_TA
    refine g_173_0  ?_
    have f1 : 0 ≤ (m 94 67).toInt ∧ (m 94 67).toInt ≤ 100 := rs_94_67 (m := m) hV
    have f2 : 0 ≤ (m 94 4).toInt ∧ (m 94 4).toInt ≤ 100 := rs_94_4 (m := m) hV
    refine zd (fun (h3 : (m 94 4) ≤ (m 94 67)) => ?_) (fun (h3 : ¬ (m 94 4) ≤ (m 94 67)) => ?_)
    · skip
      have g4 := i_le h3
      have hV5 : zV (ma_u m 94 68 (m 94 67)) := us_94_68 hV (by omega) (by omega)
      exact lp_173n_46 h0 K _ _  rfl (zF_u hF rfl) hV5 (show (m 94 67).toInt ≤ (m 94 4).toInt from by omega) (show (m 94 67).toInt ≤ (m 94 67).toInt from by omega) (show (m 94 67).toInt = tk true (m 96) (m 94 4).toInt (m0 94 67).toInt from by first | (exact ((tk_e (by omega)).symm.trans r_TA)) | (exact ((tk_b0 (x := (m 96 (m 94 67).toNatClampNeg)) rfl (by assumption)).symm.trans r_TA)) | (exfalso; omega; done) | (exfalso; contradiction; done)) (show tk false (m 96) (m 94 4).toInt (m 94 67).toInt = tk false (m 96) (m 94 4).toInt (m 94 67).toInt from by first | (exact rfl) | (exfalso; omega; done) | (exfalso; contradiction; done))
    · skip
      have g6 := i_nle h3
      have hg7 : (0 ≤ (m 94 67) ∧ (m 94 67).toNatClampNeg < 100) := i_ix (by omega) (by omega)
      refine ⟨hg7, ?_⟩
      have b8 := i_bd (m 96 (m 94 67).toNatClampNeg)
      have li9 : (32 : Int32).toInt = 32 := rfl
      refine zd (fun (h10 : (m 96 (m 94 67).toNatClampNeg) = (32 : Int32)) => ?_) (fun (h10 : ¬ (m 96 (m 94 67).toNatClampNeg) = (32 : Int32)) => ?_)
      · skip
        have g11 := i_eq h10
        first | have e13 : ((m 94 67) + (1 : Int32)).toInt = (m 94 67).toInt + (1) := i_addk rfl (by omega) (by omega) | have b14 := i_bd ((m 94 67) + (1 : Int32))
        have hV12 : zV (ma_u m 94 67 ((m 94 67) + (1 : Int32))) := us_94_67 hV (by omega) (by omega)
        exact IH ((m 94 4).toInt - ((m 94 67) + (1 : Int32)).toInt).toNat (by omega) _  rfl (zF_u hF rfl) hV12 (show ((m 94 67) + (1 : Int32)).toInt ≤ (m 94 4).toInt from by omega) (show tk true (m 96) (m 94 4).toInt ((m 94 67) + (1 : Int32)).toInt = tk true (m 96) (m 94 4).toInt (m0 94 67).toInt from by first | (exact rfl) | (exact (tk_b1 (p := (m 94 67).toInt) (x := (m 96 (m 94 67).toNatClampNeg)) (by omega) rfl (by assumption) (by omega)).symm.trans r_TA) | (exfalso; omega; done) | (exfalso; contradiction; done))
      · skip
        have g15 := i_ne h10
        have hV16 : zV (ma_u m 94 68 (m 94 67)) := us_94_68 hV (by omega) (by omega)
        exact lp_173n_46 h0 K _ _  rfl (zF_u hF rfl) hV16 (show (m 94 67).toInt ≤ (m 94 4).toInt from by omega) (show (m 94 67).toInt ≤ (m 94 67).toInt from by omega) (show (m 94 67).toInt = tk true (m 96) (m 94 4).toInt (m0 94 67).toInt from by first | (exact ((tk_e (by omega)).symm.trans r_TA)) | (exact ((tk_b0 (x := (m 96 (m 94 67).toNatClampNeg)) rfl (by assumption)).symm.trans r_TA)) | (exfalso; omega; done) | (exfalso; contradiction; done)) (show tk false (m 96) (m 94 4).toInt (m 94 67).toInt = tk false (m 96) (m 94 4).toInt (m 94 67).toInt from by first | (exact rfl) | (exfalso; omega; done) | (exfalso; contradiction; done))
theorem sp_173n {X : Nat × (Nat → Int32)} {P : Option ma_V → (Nat → Nat → Int32) → Prop} {m : Nat → Nat → Int32}  (hV : zV m) (hpre0 : (m 94 67).toInt ≤ (m 94 4).toInt) (KZ : ∀ v m₉, zV (zov wr_173 m m₉) → (v = 0 ∨ v = 1) → ((m₉ 94 67).toInt ≤ (m 94 4).toInt) → ((m₉ 94 68).toInt + (m₉ 94 69).toInt = (m₉ 94 67).toInt) → ((v.toInt = 1 ∧ 1 ≤ (m₉ 94 69).toInt) ∨ (v.toInt = 0 ∧ (m₉ 94 69).toInt = 0)) → ((m₉ 94 68).toInt = tk true (m 96) (m 94 4).toInt (m 94 67).toInt) → ((m₉ 94 67).toInt = tk false (m 96) (m 94 4).toInt (m₉ 94 68).toInt) → P (some (.inl v)) (zov wr_173 m m₉)) : zm X 0 0 173 0 [(0, .inr (.inr (some 94)))] m P := by
  have K : ∀ v m₉, zF wr_173 m m₉ → zV m₉ → (v = 0 ∨ v = 1) → ((m₉ 94 67).toInt ≤ (m₉ 94 4).toInt) → ((m₉ 94 68).toInt + (m₉ 94 69).toInt = (m₉ 94 67).toInt) → ((v.toInt = 1 ∧ 1 ≤ (m₉ 94 69).toInt) ∨ (v.toInt = 0 ∧ (m₉ 94 69).toInt = 0)) → ((m₉ 94 68).toInt = tk true (m₉ 96) (m₉ 94 4).toInt (m 94 67).toInt) → ((m₉ 94 67).toInt = tk false (m₉ 96) (m₉ 94 4).toInt (m₉ 94 68).toInt) → P (some (.inl v)) m₉ := by
    intro v m₉ hf z q0 q1 q2 q3 q4 q5
    have e := zov_eq hf
    rw [e] at z ⊢
    try rw [e] at q0
    try rw [e] at q1
    try rw [e] at q2
    try rw [e] at q3
    try rw [e] at q4
    try rw [e] at q5
    exact KZ v m₉ z q0 q1 q2 q3 q4 q5
  have f1 : 0 ≤ (m 94 67).toInt ∧ (m 94 67).toInt ≤ 100 := rs_94_67 (m := m) hV
  have f2 : 0 ≤ (m 94 4).toInt ∧ (m 94 4).toInt ≤ 100 := rs_94_4 (m := m) hV
  exact lp_173n_0 hV K _ _  rfl zF_rfl hV (show (m 94 67).toInt ≤ (m 94 4).toInt from by omega) (show tk true (m 96) (m 94 4).toInt (m 94 67).toInt = tk true (m 96) (m 94 4).toInt (m 94 67).toInt from by first | (exact rfl) | (exfalso; omega; done) | (exfalso; contradiction; done))

