/-! the reference: texts (written by wip/tools/gen94n.py) -/
theorem sp_166n {X : Nat × (Nat → Int32)} {P : Option ma_V → (Nat → Nat → Int32) → Prop} {m : Nat → Nat → Int32} (xa : Int32) (xb : Int32) (xc : Int32) (xd : Int32) (xe : Int32) (hV : zV m)  (KZ : ∀ v m', zV (zov wr_166 m m') → ((81 ≤ (m 94 3).toInt ∧ (m' 94 0).toInt = 1 ∧ (m' 94 3).toInt = (m 94 3).toInt) ∨ ((m 94 3).toInt ≤ 80 ∧ (m' 94 0).toInt = 0 ∧ (m' 94 3).toInt = (m 94 3).toInt + 20 ∧ v.toInt = (m 94 3).toInt + 20)) → (((m 94 3).toInt ≤ 80 ∧ zFd (m 95) (m' 95) (m 94 3).toInt 5 (zw5 xa xb xc xd xe)) ∨ (81 ≤ (m 94 3).toInt ∧ (m' 95) = (m 95))) → P (some (.inl v)) (zov wr_166 m m')) : zm X 1 22 166 0 [(0, .inr (.inr (some 94))), (1, .inl xa), (2, .inl xb), (3, .inl xc), (4, .inl xd), (5, .inl xe)] m P := by
  have K : ∀ v m', zF wr_166 m m' → zV m' → ((81 ≤ (m 94 3).toInt ∧ (m' 94 0).toInt = 1 ∧ (m' 94 3).toInt = (m 94 3).toInt) ∨ ((m 94 3).toInt ≤ 80 ∧ (m' 94 0).toInt = 0 ∧ (m' 94 3).toInt = (m 94 3).toInt + 20 ∧ v.toInt = (m 94 3).toInt + 20)) → (((m 94 3).toInt ≤ 80 ∧ zFd (m 95) (m' 95) (m 94 3).toInt 5 (zw5 xa xb xc xd xe)) ∨ (81 ≤ (m 94 3).toInt ∧ (m' 95) = (m 95))) → P (some (.inl v)) m' := by
    intro v m' hf z q0 q1
    have e := zov_eq hf
    rw [e] at z ⊢
    try rw [e] at q0
    try rw [e] at q1
    exact KZ v m' z q0 q1
  refine g_166_0 xa xb xc xd xe ?_
  have f1 : 0 ≤ (m 94 3).toInt ∧ (m 94 3).toInt ≤ 100 := rs_94_3 (m := m) hV
  first | have e2 : ((m 94 3) + (20 : Int32)).toInt = (m 94 3).toInt + (20) := i_addk rfl (by omega) (by omega) | have b3 := i_bd ((m 94 3) + (20 : Int32))
  have li4 : (100 : Int32).toInt = 100 := rfl
  refine zd (fun (h5 : ((m 94 3) + (20 : Int32)) ≤ (100 : Int32)) => ?_) (fun (h5 : ¬ ((m 94 3) + (20 : Int32)) ≤ (100 : Int32)) => ?_)
  · skip
    have g6 := i_le h5
    have hV7 : zV (ma_u m 94 0 (0 : Int32)) := uf_94_0 hV
    refine sp_168n (xa) hV7 (show (m 94 3).toInt ≤ 96 from by omega) (fun m1 hV_m1 p0_m1 p1_m1 => zmv_n ?_)
    have p0_m1 : (m1 94 3).toInt = (m 94 3).toInt + 4 := p0_m1
    have p1_m1 : zFq (m 95) (m1 95) (m 94 3).toInt xa := p1_m1
    have f8 : 0 ≤ (m1 94 3).toInt ∧ (m1 94 3).toInt ≤ 100 := rs_94_3 (m := (zov wr_168 (ma_u m 94 0 (0 : Int32)) m1)) hV_m1
    refine sp_168n (xb) hV_m1 (show (m1 94 3).toInt ≤ 96 from by omega) (fun m3 hV_m3 p0_m3 p1_m3 => zmv_n ?_)
    have p0_m3 : (m3 94 3).toInt = (m1 94 3).toInt + 4 := p0_m3
    have p1_m3 : zFq (m1 95) (m3 95) (m1 94 3).toInt xb := p1_m3
    have f9 : 0 ≤ (m3 94 3).toInt ∧ (m3 94 3).toInt ≤ 100 := rs_94_3 (m := (zov wr_168 (zov wr_168 (ma_u m 94 0 (0 : Int32)) m1) m3)) hV_m3
    refine sp_168n (xc) hV_m3 (show (m3 94 3).toInt ≤ 96 from by omega) (fun m5 hV_m5 p0_m5 p1_m5 => zmv_n ?_)
    have p0_m5 : (m5 94 3).toInt = (m3 94 3).toInt + 4 := p0_m5
    have p1_m5 : zFq (m3 95) (m5 95) (m3 94 3).toInt xc := p1_m5
    have f10 : 0 ≤ (m5 94 3).toInt ∧ (m5 94 3).toInt ≤ 100 := rs_94_3 (m := (zov wr_168 (zov wr_168 (zov wr_168 (ma_u m 94 0 (0 : Int32)) m1) m3) m5)) hV_m5
    refine sp_168n (xd) hV_m5 (show (m5 94 3).toInt ≤ 96 from by omega) (fun m7 hV_m7 p0_m7 p1_m7 => zmv_n ?_)
    have p0_m7 : (m7 94 3).toInt = (m5 94 3).toInt + 4 := p0_m7
    have p1_m7 : zFq (m5 95) (m7 95) (m5 94 3).toInt xd := p1_m7
    have f11 : 0 ≤ (m7 94 3).toInt ∧ (m7 94 3).toInt ≤ 100 := rs_94_3 (m := (zov wr_168 (zov wr_168 (zov wr_168 (zov wr_168 (ma_u m 94 0 (0 : Int32)) m1) m3) m5) m7)) hV_m7
    refine sp_168n (xe) hV_m7 (show (m7 94 3).toInt ≤ 96 from by omega) (fun m9 hV_m9 p0_m9 p1_m9 => zmv_n ?_)
    have p0_m9 : (m9 94 3).toInt = (m7 94 3).toInt + 4 := p0_m9
    have p1_m9 : zFq (m7 95) (m9 95) (m7 94 3).toInt xe := p1_m9
    have f12 : 0 ≤ (m9 94 3).toInt ∧ (m9 94 3).toInt ≤ 100 := rs_94_3 (m := (zov wr_168 (zov wr_168 (zov wr_168 (zov wr_168 (zov wr_168 (ma_u m 94 0 (0 : Int32)) m1) m3) m5) m7) m9)) hV_m9
    have li13 : (0 : Int32).toInt = 0 := rfl
    exact K ((m9 94 3)) _ (zF_zov (zF_zov (zF_zov (zF_zov (zF_zov (zF_u zF_rfl rfl) ws_168_166) ws_168_166) ws_168_166) ws_168_166) ws_168_166) hV_m9 (show (81 ≤ (m 94 3).toInt ∧ (0 : Int32).toInt = 1 ∧ (m9 94 3).toInt = (m 94 3).toInt) ∨ ((m 94 3).toInt ≤ 80 ∧ (0 : Int32).toInt = 0 ∧ (m9 94 3).toInt = (m 94 3).toInt + 20 ∧ (m9 94 3).toInt = (m 94 3).toInt + 20) from by omega) (show ((m 94 3).toInt ≤ 80 ∧ zFd (m 95) (m9 95) (m 94 3).toInt 5 (zw5 xa xb xc xd xe)) ∨ (81 ≤ (m 94 3).toInt ∧ (m9 95) = (m 95)) from by first | (exact Or.inl ⟨by omega, (fd_s (fd_s (fd_s (fd_s (fd_s fd_0 (by omega) p1_m1 (by omega) rfl) (by omega) p1_m3 (by omega) rfl) (by omega) p1_m5 (by omega) rfl) (by omega) p1_m7 (by omega) rfl) (by omega) p1_m9 (by omega) rfl)⟩) | (exfalso; omega; done) | (exfalso; contradiction; done))
  · skip
    have g14 := i_nle h5
    have hV15 : zV (ma_u m 94 0 (1 : Int32)) := uf_94_0 hV
    have li16 : (0 : Int32).toInt = 0 := rfl
    have li17 : (1 : Int32).toInt = 1 := rfl
    exact K ((0 : Int32)) _ (zF_u zF_rfl rfl) hV15 (show (81 ≤ (m 94 3).toInt ∧ (1 : Int32).toInt = 1 ∧ (m 94 3).toInt = (m 94 3).toInt) ∨ ((m 94 3).toInt ≤ 80 ∧ (1 : Int32).toInt = 0 ∧ (m 94 3).toInt = (m 94 3).toInt + 20 ∧ (0 : Int32).toInt = (m 94 3).toInt + 20) from by omega) (show ((m 94 3).toInt ≤ 80 ∧ zFd (m 95) (m 95) (m 94 3).toInt 5 (zw5 xa xb xc xd xe)) ∨ (81 ≤ (m 94 3).toInt ∧ (m 95) = (m 95)) from by first | (exact Or.inr ⟨by omega, rfl⟩) | (exfalso; omega; done) | (exfalso; contradiction; done))
