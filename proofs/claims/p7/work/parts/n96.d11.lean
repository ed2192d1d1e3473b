/-! the law -/
theorem gl_333 {X : Nat × (Nat → Int32)} {d w : Nat} {S : ma_S} {Q : Option ma_V → ma_S → Prop} (i : Int32) (hd : 13 ≤ d) (hw : 494 ≤ w) (hS : zT S) (h : (0 ≤ (i + (1 : Int32)) ∧ ((i + (1 : Int32))).toNatClampNeg < X.1) ∧ (if (X.2 ((i + (1 : Int32))).toNatClampNeg) = 0 then ((0 ≤ (i + (2 : Int32)) ∧ ((i + (2 : Int32))).toNatClampNeg < X.1) ∧ ((0 ≤ (i + (3 : Int32)) ∧ ((i + (3 : Int32))).toNatClampNeg < X.1) ∧ (ma_fp X 5 (d - 1) (w - 25) 0 [(0, .inr (.inr (some 64))), (1, .inl (0 : Int32)), (2, .inl (X.2 ((i + (2 : Int32))).toNatClampNeg)), (3, .inl (X.2 ((i + (3 : Int32))).toNatClampNeg)), (4, .inr (.inr (some 125)))] [] S (zfi_ (fun v1 S2 => zT S2 ∧ ((0 ≤ (i + (1 : Int32)) ∧ ((i + (1 : Int32))).toNatClampNeg < X.1) ∧ (if (X.2 ((i + (1 : Int32))).toNatClampNeg) = 0 then ((0 ≤ (i + (2 : Int32)) ∧ ((i + (2 : Int32))).toNatClampNeg < X.1) ∧ ((0 ≤ (i + (3 : Int32)) ∧ ((i + (3 : Int32))).toNatClampNeg < X.1) ∧ (ma_wp X (d - 1) (w - 23) 243 0 [(0, .inr (.inr (some 94))), (1, .inl (0 : Int32)), (2, .inl (X.2 ((i + (2 : Int32))).toNatClampNeg)), (3, .inl (X.2 ((i + (3 : Int32))).toNatClampNeg))] [] S2 (zi (fun v4 S3 => zT S3 ∧ (ma_wp X (d - 1) (w - 20) 164 0 [(0, .inr (.inr (some 94)))] [] S3 (zi (fun v6 S5 => zT S5 ∧ (if v6 = v1 then (if v1 = 0 then (if (lg_cmp (mL S5 125 0) (v4.toInt64)) = 0 then (ma_fp X 0 d w 957 [(0, .inr (.inr (some 30))), (1, .inr (.inr (some 64))), (2, .inr (.inr (some 94))), (3, .inr (.inr (some 125))), (4, .inl i)] [] S5 Q) else (Q (some (.inl (0 : Int32))) S5)) else (ma_fp X 0 d w 957 [(0, .inr (.inr (some 30))), (1, .inr (.inr (some 64))), (2, .inr (.inr (some 94))), (3, .inr (.inr (some 125))), (4, .inl i)] [] S5 Q)) else (Q (some (.inl (0 : Int32))) S5))) (fun _ _ => False)))) (fun _ _ => False))))) else ((0 ≤ (i + (2 : Int32)) ∧ ((i + (2 : Int32))).toNatClampNeg < X.1) ∧ ((0 ≤ (i + (3 : Int32)) ∧ ((i + (3 : Int32))).toNatClampNeg < X.1) ∧ (ma_wp X (d - 1) (w - 23) 243 0 [(0, .inr (.inr (some 94))), (1, .inl (1 : Int32)), (2, .inl (X.2 ((i + (2 : Int32))).toNatClampNeg)), (3, .inl (X.2 ((i + (3 : Int32))).toNatClampNeg))] [] S2 (zi (fun v8 S7 => zT S7 ∧ (ma_wp X (d - 1) (w - 20) 164 0 [(0, .inr (.inr (some 94)))] [] S7 (zi (fun v10 S9 => zT S9 ∧ (if v10 = v1 then (if v1 = 0 then (if (lg_cmp (mL S9 125 0) (v8.toInt64)) = 0 then (ma_fp X 0 d w 957 [(0, .inr (.inr (some 30))), (1, .inr (.inr (some 64))), (2, .inr (.inr (some 94))), (3, .inr (.inr (some 125))), (4, .inl i)] [] S9 Q) else (Q (some (.inl (0 : Int32))) S9)) else (ma_fp X 0 d w 957 [(0, .inr (.inr (some 30))), (1, .inr (.inr (some 64))), (2, .inr (.inr (some 94))), (3, .inr (.inr (some 125))), (4, .inl i)] [] S9 Q)) else (Q (some (.inl (0 : Int32))) S9))) (fun _ _ => False)))) (fun _ _ => False)))))))))))) else ((0 ≤ (i + (2 : Int32)) ∧ ((i + (2 : Int32))).toNatClampNeg < X.1) ∧ ((0 ≤ (i + (3 : Int32)) ∧ ((i + (3 : Int32))).toNatClampNeg < X.1) ∧ (ma_fp X 5 (d - 1) (w - 25) 0 [(0, .inr (.inr (some 64))), (1, .inl (1 : Int32)), (2, .inl (X.2 ((i + (2 : Int32))).toNatClampNeg)), (3, .inl (X.2 ((i + (3 : Int32))).toNatClampNeg)), (4, .inr (.inr (some 125)))] [] S (zfi_ (fun v11 S12 => zT S12 ∧ ((0 ≤ (i + (1 : Int32)) ∧ ((i + (1 : Int32))).toNatClampNeg < X.1) ∧ (if (X.2 ((i + (1 : Int32))).toNatClampNeg) = 0 then ((0 ≤ (i + (2 : Int32)) ∧ ((i + (2 : Int32))).toNatClampNeg < X.1) ∧ ((0 ≤ (i + (3 : Int32)) ∧ ((i + (3 : Int32))).toNatClampNeg < X.1) ∧ (ma_wp X (d - 1) (w - 23) 243 0 [(0, .inr (.inr (some 94))), (1, .inl (0 : Int32)), (2, .inl (X.2 ((i + (2 : Int32))).toNatClampNeg)), (3, .inl (X.2 ((i + (3 : Int32))).toNatClampNeg))] [] S12 (zi (fun v14 S13 => zT S13 ∧ (ma_wp X (d - 1) (w - 20) 164 0 [(0, .inr (.inr (some 94)))] [] S13 (zi (fun v16 S15 => zT S15 ∧ (if v16 = v11 then (if v11 = 0 then (if (lg_cmp (mL S15 125 0) (v14.toInt64)) = 0 then (ma_fp X 0 d w 957 [(0, .inr (.inr (some 30))), (1, .inr (.inr (some 64))), (2, .inr (.inr (some 94))), (3, .inr (.inr (some 125))), (4, .inl i)] [] S15 Q) else (Q (some (.inl (0 : Int32))) S15)) else (ma_fp X 0 d w 957 [(0, .inr (.inr (some 30))), (1, .inr (.inr (some 64))), (2, .inr (.inr (some 94))), (3, .inr (.inr (some 125))), (4, .inl i)] [] S15 Q)) else (Q (some (.inl (0 : Int32))) S15))) (fun _ _ => False)))) (fun _ _ => False))))) else ((0 ≤ (i + (2 : Int32)) ∧ ((i + (2 : Int32))).toNatClampNeg < X.1) ∧ ((0 ≤ (i + (3 : Int32)) ∧ ((i + (3 : Int32))).toNatClampNeg < X.1) ∧ (ma_wp X (d - 1) (w - 23) 243 0 [(0, .inr (.inr (some 94))), (1, .inl (1 : Int32)), (2, .inl (X.2 ((i + (2 : Int32))).toNatClampNeg)), (3, .inl (X.2 ((i + (3 : Int32))).toNatClampNeg))] [] S12 (zi (fun v18 S17 => zT S17 ∧ (ma_wp X (d - 1) (w - 20) 164 0 [(0, .inr (.inr (some 94)))] [] S17 (zi (fun v20 S19 => zT S19 ∧ (if v20 = v11 then (if v11 = 0 then (if (lg_cmp (mL S19 125 0) (v18.toInt64)) = 0 then (ma_fp X 0 d w 957 [(0, .inr (.inr (some 30))), (1, .inr (.inr (some 64))), (2, .inr (.inr (some 94))), (3, .inr (.inr (some 125))), (4, .inl i)] [] S19 Q) else (Q (some (.inl (0 : Int32))) S19)) else (ma_fp X 0 d w 957 [(0, .inr (.inr (some 30))), (1, .inr (.inr (some 64))), (2, .inr (.inr (some 94))), (3, .inr (.inr (some 125))), (4, .inl i)] [] S19 Q)) else (Q (some (.inl (0 : Int32))) S19))) (fun _ _ => False)))) (fun _ _ => False)))))))))))))) : ma_fp X 0 d w 333 [(0, .inr (.inr (some 30))), (1, .inr (.inr (some 64))), (2, .inr (.inr (some 94))), (3, .inr (.inr (some 125))), (4, .inl i)] [] S Q := by
  refine zf_push fm_0 dF0_333 (v := .inr (.inr (some 64))) rfl ?_
  refine zf_push fm_0 dF0_334 (v := .inr (.inr (some 30))) rfl ?_
  refine zf_push fm_0 dF0_335 (v := .inl i) rfl ?_
  refine zf_push fm_0 dF0_337 (v := .inl (1 : Int32)) rfl ?_
  refine zf_stk fm_0 dF0_338 (st₉ := [.inl (i + (1 : Int32)), .inr (.inr (some 30)), .inr (.inr (some 64))]) rfl rfl ?_
  obtain ⟨hg, h⟩ := h
  refine zf_one fm_0 dF0_339 (oo_sc hg) ?_
  refine zf_if0 fm_0 dF0_340 (t := 347) rfl zc0_eq ?_ ?_
  · intro hc
    rw [if_pos hc] at h
    refine zf_push fm_0 dF0_347 (v := .inl (0 : Int32)) rfl ?_
    refine zf_push fm_0 dF0_348 (v := .inr (.inr (some 30))) rfl ?_
    refine zf_push fm_0 dF0_349 (v := .inl i) rfl ?_
    refine zf_push fm_0 dF0_351 (v := .inl (2 : Int32)) rfl ?_
    refine zf_stk fm_0 dF0_352 (st₉ := [.inl (i + (2 : Int32)), .inr (.inr (some 30)), .inl (0 : Int32), .inr (.inr (some 64))]) rfl rfl ?_
    obtain ⟨hg, h⟩ := h
    refine zf_one fm_0 dF0_353 (oo_sc hg) ?_
    refine zf_push fm_0 dF0_354 (v := .inr (.inr (some 30))) rfl ?_
    refine zf_push fm_0 dF0_355 (v := .inl i) rfl ?_
    refine zf_push fm_0 dF0_357 (v := .inl (3 : Int32)) rfl ?_
    refine zf_stk fm_0 dF0_358 (st₉ := [.inl (i + (3 : Int32)), .inr (.inr (some 30)), .inl (X.2 ((i + (2 : Int32))).toNatClampNeg), .inl (0 : Int32), .inr (.inr (some 64))]) rfl rfl ?_
    obtain ⟨hg, h⟩ := h
    refine zf_one fm_0 dF0_359 (oo_sc hg) ?_
    refine zf_push fm_0 dF0_360 (v := .inr (.inr (some 125))) rfl ?_
    refine zf_cw fm_0 dF0_361 cw_110 fm_5 [.inr (.inr (some 125)), .inl (X.2 ((i + (3 : Int32))).toNatClampNeg), .inl (X.2 ((i + (2 : Int32))).toNatClampNeg), .inl (0 : Int32), .inr (.inr (some 64))] [] rfl (by omega) (by omega) rfl (zf_mono h (zfi_go ?_))
    · intro v1 S2 hv
      obtain ⟨hS2, h⟩ := hv
      refine zf_sto fm_0 dF0_364 [(5, .inl v1), (0, .inr (.inr (some 30))), (1, .inr (.inr (some 64))), (2, .inr (.inr (some 94))), (3, .inr (.inr (some 125))), (4, .inl i)] rfl rfl rfl ?_
      refine zf_push fm_0 dF0_366 (v := .inr (.inr (some 94))) rfl ?_
      refine zf_push fm_0 dF0_367 (v := .inr (.inr (some 30))) rfl ?_
      refine zf_push fm_0 dF0_368 (v := .inl i) rfl ?_
      refine zf_push fm_0 dF0_370 (v := .inl (1 : Int32)) rfl ?_
      refine zf_stk fm_0 dF0_371 (st₉ := [.inl (i + (1 : Int32)), .inr (.inr (some 30)), .inr (.inr (some 94))]) rfl rfl ?_
      obtain ⟨hg, h⟩ := h
      refine zf_one fm_0 dF0_372 (oo_sc hg) ?_
      refine zf_if0 fm_0 dF0_373 (t := 380) rfl zc0_eq ?_ ?_
      · intro hc
        rw [if_pos hc] at h
        refine zf_push fm_0 dF0_380 (v := .inl (0 : Int32)) rfl ?_
        refine zf_push fm_0 dF0_381 (v := .inr (.inr (some 30))) rfl ?_
        refine zf_push fm_0 dF0_382 (v := .inl i) rfl ?_
        refine zf_push fm_0 dF0_384 (v := .inl (2 : Int32)) rfl ?_
        refine zf_stk fm_0 dF0_385 (st₉ := [.inl (i + (2 : Int32)), .inr (.inr (some 30)), .inl (0 : Int32), .inr (.inr (some 94))]) rfl rfl ?_
        obtain ⟨hg, h⟩ := h
        refine zf_one fm_0 dF0_386 (oo_sc hg) ?_
        refine zf_push fm_0 dF0_387 (v := .inr (.inr (some 30))) rfl ?_
        refine zf_push fm_0 dF0_388 (v := .inl i) rfl ?_
        refine zf_push fm_0 dF0_390 (v := .inl (3 : Int32)) rfl ?_
        refine zf_stk fm_0 dF0_391 (st₉ := [.inl (i + (3 : Int32)), .inr (.inr (some 30)), .inl (X.2 ((i + (2 : Int32))).toNatClampNeg), .inl (0 : Int32), .inr (.inr (some 94))]) rfl rfl ?_
        obtain ⟨hg, h⟩ := h
        refine zf_one fm_0 dF0_392 (oo_sc hg) ?_
        refine zf_cv fm_0 dF0_393 v_14_113_12 hm_243 [.inl (X.2 ((i + (3 : Int32))).toNatClampNeg), .inl (X.2 ((i + (2 : Int32))).toNatClampNeg), .inl (0 : Int32)] [] rfl (zT_rt hS2 s_94 rfl) ⟨by omega, by omega⟩ rfl (zw_mono h (zi_go ?_ ?_))
        · intro v4 S3 hv
          obtain ⟨hS3, h⟩ := hv
          refine zf_sto fm_0 dF0_396 [(6, .inl v4), (5, .inl v1), (0, .inr (.inr (some 30))), (1, .inr (.inr (some 64))), (2, .inr (.inr (some 94))), (3, .inr (.inr (some 125))), (4, .inl i)] rfl rfl rfl ?_
          refine zf_push fm_0 dF0_398 (v := .inr (.inr (some 94))) rfl ?_
          refine zf_cv fm_0 dF0_399 v_14_114_12 hm_164 [] [] rfl (zT_rt hS3 s_94 rfl) ⟨by omega, by omega⟩ rfl (zw_mono h (zi_go ?_ ?_))
          · intro v6 S5 hv
            obtain ⟨hS5, h⟩ := hv
            refine zf_push fm_0 dF0_402 (v := .inl v1) rfl ?_
            refine zf_if2 fm_0 dF0_404 (t := 409) rfl zc2_eq ?_ ?_
            · intro hc
              rw [if_pos hc] at h
              refine zf_push fm_0 dF0_409 (v := .inl v1) rfl ?_
              refine zf_if0 fm_0 dF0_411 (t := 426) rfl zc0_ne ?_ ?_
              · intro hc
                rw [if_neg hc] at h
                refine zf_goto fm_0 dF0_426 (t := 957) rfl ?_
                exact zf_sub (ma_nd_of (ks := [0, 1, 2, 3, 4]) rfl (by decide)) (ma_nd_of (ks := [6, 5, 0, 1, 2, 3, 4]) rfl (by decide)) (ma_le_cons rfl (ma_le_cons rfl (ma_le_cons rfl (ma_le_cons rfl (ma_le_cons rfl (ma_le_nil _)))))) h
              · intro hc
                rw [if_pos (Classical.not_not.mp hc)] at h
                refine zf_push fm_0 dF0_414 (v := .inr (.inr (some 125))) rfl ?_
                refine zf_push fm_0 dF0_415 (v := .inl (0 : Int32)) rfl ?_
                refine zf_one fm_0 dF0_416 (oo_la (zT_is hS5 s_125) (zT_h hS5 s_125) (a := 0) rfl ⟨by decide, by decide⟩) ?_
                refine zf_push fm_0 dF0_417 (v := .inl v4) rfl ?_
                refine zf_stk fm_0 dF0_419 (st₉ := [.inr (.inl (v4.toInt64)), .inr (.inl (mL S5 125 0))]) rfl rfl ?_
                refine zf_stk fm_0 dF0_420 (st₉ := [.inl (lg_cmp (mL S5 125 0) (v4.toInt64))]) rfl rfl ?_
                refine zf_if0 fm_0 dF0_421 (t := 426) rfl zc0_eq ?_ ?_
                · intro hc
                  rw [if_pos hc] at h
                  refine zf_goto fm_0 dF0_426 (t := 957) rfl ?_
                  exact zf_sub (ma_nd_of (ks := [0, 1, 2, 3, 4]) rfl (by decide)) (ma_nd_of (ks := [6, 5, 0, 1, 2, 3, 4]) rfl (by decide)) (ma_le_cons rfl (ma_le_cons rfl (ma_le_cons rfl (ma_le_cons rfl (ma_le_cons rfl (ma_le_nil _)))))) h
                · intro hc
                  rw [if_neg hc] at h
                  refine zf_push fm_0 dF0_424 (v := .inl (0 : Int32)) rfl ?_
                  exact zf_bret fm_0 dF0_425 (by decide) h
            · intro hc
              rw [if_neg hc] at h
              refine zf_push fm_0 dF0_407 (v := .inl (0 : Int32)) rfl ?_
              exact zf_bret fm_0 dF0_408 (by decide) h
          · intro x S9 hx
            exact hx.elim
        · intro x S9 hx
          exact hx.elim
      · intro hc
        rw [if_neg hc] at h
        refine zf_push fm_0 dF0_376 (v := .inl (1 : Int32)) rfl ?_
        refine zf_goto fm_0 dF0_377 (t := 381) rfl ?_
        refine zf_push fm_0 dF0_381 (v := .inr (.inr (some 30))) rfl ?_
        refine zf_push fm_0 dF0_382 (v := .inl i) rfl ?_
        refine zf_push fm_0 dF0_384 (v := .inl (2 : Int32)) rfl ?_
        refine zf_stk fm_0 dF0_385 (st₉ := [.inl (i + (2 : Int32)), .inr (.inr (some 30)), .inl (1 : Int32), .inr (.inr (some 94))]) rfl rfl ?_
        obtain ⟨hg, h⟩ := h
        refine zf_one fm_0 dF0_386 (oo_sc hg) ?_
        refine zf_push fm_0 dF0_387 (v := .inr (.inr (some 30))) rfl ?_
        refine zf_push fm_0 dF0_388 (v := .inl i) rfl ?_
        refine zf_push fm_0 dF0_390 (v := .inl (3 : Int32)) rfl ?_
        refine zf_stk fm_0 dF0_391 (st₉ := [.inl (i + (3 : Int32)), .inr (.inr (some 30)), .inl (X.2 ((i + (2 : Int32))).toNatClampNeg), .inl (1 : Int32), .inr (.inr (some 94))]) rfl rfl ?_
        obtain ⟨hg, h⟩ := h
        refine zf_one fm_0 dF0_392 (oo_sc hg) ?_
        refine zf_cv fm_0 dF0_393 v_14_113_12 hm_243 [.inl (X.2 ((i + (3 : Int32))).toNatClampNeg), .inl (X.2 ((i + (2 : Int32))).toNatClampNeg), .inl (1 : Int32)] [] rfl (zT_rt hS2 s_94 rfl) ⟨by omega, by omega⟩ rfl (zw_mono h (zi_go ?_ ?_))
        · intro v8 S7 hv
          obtain ⟨hS7, h⟩ := hv
          refine zf_sto fm_0 dF0_396 [(6, .inl v8), (5, .inl v1), (0, .inr (.inr (some 30))), (1, .inr (.inr (some 64))), (2, .inr (.inr (some 94))), (3, .inr (.inr (some 125))), (4, .inl i)] rfl rfl rfl ?_
          refine zf_push fm_0 dF0_398 (v := .inr (.inr (some 94))) rfl ?_
          refine zf_cv fm_0 dF0_399 v_14_114_12 hm_164 [] [] rfl (zT_rt hS7 s_94 rfl) ⟨by omega, by omega⟩ rfl (zw_mono h (zi_go ?_ ?_))
          · intro v10 S9 hv
            obtain ⟨hS9, h⟩ := hv
            refine zf_push fm_0 dF0_402 (v := .inl v1) rfl ?_
            refine zf_if2 fm_0 dF0_404 (t := 409) rfl zc2_eq ?_ ?_
            · intro hc
              rw [if_pos hc] at h
              refine zf_push fm_0 dF0_409 (v := .inl v1) rfl ?_
              refine zf_if0 fm_0 dF0_411 (t := 426) rfl zc0_ne ?_ ?_
              · intro hc
                rw [if_neg hc] at h
                refine zf_goto fm_0 dF0_426 (t := 957) rfl ?_
                exact zf_sub (ma_nd_of (ks := [0, 1, 2, 3, 4]) rfl (by decide)) (ma_nd_of (ks := [6, 5, 0, 1, 2, 3, 4]) rfl (by decide)) (ma_le_cons rfl (ma_le_cons rfl (ma_le_cons rfl (ma_le_cons rfl (ma_le_cons rfl (ma_le_nil _)))))) h
              · intro hc
                rw [if_pos (Classical.not_not.mp hc)] at h
                refine zf_push fm_0 dF0_414 (v := .inr (.inr (some 125))) rfl ?_
                refine zf_push fm_0 dF0_415 (v := .inl (0 : Int32)) rfl ?_
                refine zf_one fm_0 dF0_416 (oo_la (zT_is hS9 s_125) (zT_h hS9 s_125) (a := 0) rfl ⟨by decide, by decide⟩) ?_
                refine zf_push fm_0 dF0_417 (v := .inl v8) rfl ?_
                refine zf_stk fm_0 dF0_419 (st₉ := [.inr (.inl (v8.toInt64)), .inr (.inl (mL S9 125 0))]) rfl rfl ?_
                refine zf_stk fm_0 dF0_420 (st₉ := [.inl (lg_cmp (mL S9 125 0) (v8.toInt64))]) rfl rfl ?_
                refine zf_if0 fm_0 dF0_421 (t := 426) rfl zc0_eq ?_ ?_
                · intro hc
                  rw [if_pos hc] at h
                  refine zf_goto fm_0 dF0_426 (t := 957) rfl ?_
                  exact zf_sub (ma_nd_of (ks := [0, 1, 2, 3, 4]) rfl (by decide)) (ma_nd_of (ks := [6, 5, 0, 1, 2, 3, 4]) rfl (by decide)) (ma_le_cons rfl (ma_le_cons rfl (ma_le_cons rfl (ma_le_cons rfl (ma_le_cons rfl (ma_le_nil _)))))) h
                · intro hc
                  rw [if_neg hc] at h
                  refine zf_push fm_0 dF0_424 (v := .inl (0 : Int32)) rfl ?_
                  exact zf_bret fm_0 dF0_425 (by decide) h
            · intro hc
              rw [if_neg hc] at h
              refine zf_push fm_0 dF0_407 (v := .inl (0 : Int32)) rfl ?_
              exact zf_bret fm_0 dF0_408 (by decide) h
          · intro x S9 hx
            exact hx.elim
        · intro x S9 hx
          exact hx.elim
  · intro hc
    rw [if_neg hc] at h
    refine zf_push fm_0 dF0_343 (v := .inl (1 : Int32)) rfl ?_
    refine zf_goto fm_0 dF0_344 (t := 348) rfl ?_
    refine zf_push fm_0 dF0_348 (v := .inr (.inr (some 30))) rfl ?_
    refine zf_push fm_0 dF0_349 (v := .inl i) rfl ?_
    refine zf_push fm_0 dF0_351 (v := .inl (2 : Int32)) rfl ?_
    refine zf_stk fm_0 dF0_352 (st₉ := [.inl (i + (2 : Int32)), .inr (.inr (some 30)), .inl (1 : Int32), .inr (.inr (some 64))]) rfl rfl ?_
    obtain ⟨hg, h⟩ := h
    refine zf_one fm_0 dF0_353 (oo_sc hg) ?_
    refine zf_push fm_0 dF0_354 (v := .inr (.inr (some 30))) rfl ?_
    refine zf_push fm_0 dF0_355 (v := .inl i) rfl ?_
    refine zf_push fm_0 dF0_357 (v := .inl (3 : Int32)) rfl ?_
    refine zf_stk fm_0 dF0_358 (st₉ := [.inl (i + (3 : Int32)), .inr (.inr (some 30)), .inl (X.2 ((i + (2 : Int32))).toNatClampNeg), .inl (1 : Int32), .inr (.inr (some 64))]) rfl rfl ?_
    obtain ⟨hg, h⟩ := h
    refine zf_one fm_0 dF0_359 (oo_sc hg) ?_
    refine zf_push fm_0 dF0_360 (v := .inr (.inr (some 125))) rfl ?_
    refine zf_cw fm_0 dF0_361 cw_110 fm_5 [.inr (.inr (some 125)), .inl (X.2 ((i + (3 : Int32))).toNatClampNeg), .inl (X.2 ((i + (2 : Int32))).toNatClampNeg), .inl (1 : Int32), .inr (.inr (some 64))] [] rfl (by omega) (by omega) rfl (zf_mono h (zfi_go ?_))
    · intro v11 S12 hv
      obtain ⟨hS12, h⟩ := hv
      refine zf_sto fm_0 dF0_364 [(5, .inl v11), (0, .inr (.inr (some 30))), (1, .inr (.inr (some 64))), (2, .inr (.inr (some 94))), (3, .inr (.inr (some 125))), (4, .inl i)] rfl rfl rfl ?_
      refine zf_push fm_0 dF0_366 (v := .inr (.inr (some 94))) rfl ?_
      refine zf_push fm_0 dF0_367 (v := .inr (.inr (some 30))) rfl ?_
      refine zf_push fm_0 dF0_368 (v := .inl i) rfl ?_
      refine zf_push fm_0 dF0_370 (v := .inl (1 : Int32)) rfl ?_
      refine zf_stk fm_0 dF0_371 (st₉ := [.inl (i + (1 : Int32)), .inr (.inr (some 30)), .inr (.inr (some 94))]) rfl rfl ?_
      obtain ⟨hg, h⟩ := h
      refine zf_one fm_0 dF0_372 (oo_sc hg) ?_
      refine zf_if0 fm_0 dF0_373 (t := 380) rfl zc0_eq ?_ ?_
      · intro hc
        rw [if_pos hc] at h
        refine zf_push fm_0 dF0_380 (v := .inl (0 : Int32)) rfl ?_
        refine zf_push fm_0 dF0_381 (v := .inr (.inr (some 30))) rfl ?_
        refine zf_push fm_0 dF0_382 (v := .inl i) rfl ?_
        refine zf_push fm_0 dF0_384 (v := .inl (2 : Int32)) rfl ?_
        refine zf_stk fm_0 dF0_385 (st₉ := [.inl (i + (2 : Int32)), .inr (.inr (some 30)), .inl (0 : Int32), .inr (.inr (some 94))]) rfl rfl ?_
        obtain ⟨hg, h⟩ := h
        refine zf_one fm_0 dF0_386 (oo_sc hg) ?_
        refine zf_push fm_0 dF0_387 (v := .inr (.inr (some 30))) rfl ?_
        refine zf_push fm_0 dF0_388 (v := .inl i) rfl ?_
        refine zf_push fm_0 dF0_390 (v := .inl (3 : Int32)) rfl ?_
        refine zf_stk fm_0 dF0_391 (st₉ := [.inl (i + (3 : Int32)), .inr (.inr (some 30)), .inl (X.2 ((i + (2 : Int32))).toNatClampNeg), .inl (0 : Int32), .inr (.inr (some 94))]) rfl rfl ?_
        obtain ⟨hg, h⟩ := h
        refine zf_one fm_0 dF0_392 (oo_sc hg) ?_
        refine zf_cv fm_0 dF0_393 v_14_113_12 hm_243 [.inl (X.2 ((i + (3 : Int32))).toNatClampNeg), .inl (X.2 ((i + (2 : Int32))).toNatClampNeg), .inl (0 : Int32)] [] rfl (zT_rt hS12 s_94 rfl) ⟨by omega, by omega⟩ rfl (zw_mono h (zi_go ?_ ?_))
        · intro v14 S13 hv
          obtain ⟨hS13, h⟩ := hv
          refine zf_sto fm_0 dF0_396 [(6, .inl v14), (5, .inl v11), (0, .inr (.inr (some 30))), (1, .inr (.inr (some 64))), (2, .inr (.inr (some 94))), (3, .inr (.inr (some 125))), (4, .inl i)] rfl rfl rfl ?_
          refine zf_push fm_0 dF0_398 (v := .inr (.inr (some 94))) rfl ?_
          refine zf_cv fm_0 dF0_399 v_14_114_12 hm_164 [] [] rfl (zT_rt hS13 s_94 rfl) ⟨by omega, by omega⟩ rfl (zw_mono h (zi_go ?_ ?_))
          · intro v16 S15 hv
            obtain ⟨hS15, h⟩ := hv
            refine zf_push fm_0 dF0_402 (v := .inl v11) rfl ?_
            refine zf_if2 fm_0 dF0_404 (t := 409) rfl zc2_eq ?_ ?_
            · intro hc
              rw [if_pos hc] at h
              refine zf_push fm_0 dF0_409 (v := .inl v11) rfl ?_
              refine zf_if0 fm_0 dF0_411 (t := 426) rfl zc0_ne ?_ ?_
              · intro hc
                rw [if_neg hc] at h
                refine zf_goto fm_0 dF0_426 (t := 957) rfl ?_
                exact zf_sub (ma_nd_of (ks := [0, 1, 2, 3, 4]) rfl (by decide)) (ma_nd_of (ks := [6, 5, 0, 1, 2, 3, 4]) rfl (by decide)) (ma_le_cons rfl (ma_le_cons rfl (ma_le_cons rfl (ma_le_cons rfl (ma_le_cons rfl (ma_le_nil _)))))) h
              · intro hc
                rw [if_pos (Classical.not_not.mp hc)] at h
                refine zf_push fm_0 dF0_414 (v := .inr (.inr (some 125))) rfl ?_
                refine zf_push fm_0 dF0_415 (v := .inl (0 : Int32)) rfl ?_
                refine zf_one fm_0 dF0_416 (oo_la (zT_is hS15 s_125) (zT_h hS15 s_125) (a := 0) rfl ⟨by decide, by decide⟩) ?_
                refine zf_push fm_0 dF0_417 (v := .inl v14) rfl ?_
                refine zf_stk fm_0 dF0_419 (st₉ := [.inr (.inl (v14.toInt64)), .inr (.inl (mL S15 125 0))]) rfl rfl ?_
                refine zf_stk fm_0 dF0_420 (st₉ := [.inl (lg_cmp (mL S15 125 0) (v14.toInt64))]) rfl rfl ?_
                refine zf_if0 fm_0 dF0_421 (t := 426) rfl zc0_eq ?_ ?_
                · intro hc
                  rw [if_pos hc] at h
                  refine zf_goto fm_0 dF0_426 (t := 957) rfl ?_
                  exact zf_sub (ma_nd_of (ks := [0, 1, 2, 3, 4]) rfl (by decide)) (ma_nd_of (ks := [6, 5, 0, 1, 2, 3, 4]) rfl (by decide)) (ma_le_cons rfl (ma_le_cons rfl (ma_le_cons rfl (ma_le_cons rfl (ma_le_cons rfl (ma_le_nil _)))))) h
                · intro hc
                  rw [if_neg hc] at h
                  refine zf_push fm_0 dF0_424 (v := .inl (0 : Int32)) rfl ?_
                  exact zf_bret fm_0 dF0_425 (by decide) h
            · intro hc
              rw [if_neg hc] at h
              refine zf_push fm_0 dF0_407 (v := .inl (0 : Int32)) rfl ?_
              exact zf_bret fm_0 dF0_408 (by decide) h
          · intro x S9 hx
            exact hx.elim
        · intro x S9 hx
          exact hx.elim
      · intro hc
        rw [if_neg hc] at h
        refine zf_push fm_0 dF0_376 (v := .inl (1 : Int32)) rfl ?_
        refine zf_goto fm_0 dF0_377 (t := 381) rfl ?_
        refine zf_push fm_0 dF0_381 (v := .inr (.inr (some 30))) rfl ?_
        refine zf_push fm_0 dF0_382 (v := .inl i) rfl ?_
        refine zf_push fm_0 dF0_384 (v := .inl (2 : Int32)) rfl ?_
        refine zf_stk fm_0 dF0_385 (st₉ := [.inl (i + (2 : Int32)), .inr (.inr (some 30)), .inl (1 : Int32), .inr (.inr (some 94))]) rfl rfl ?_
        obtain ⟨hg, h⟩ := h
        refine zf_one fm_0 dF0_386 (oo_sc hg) ?_
        refine zf_push fm_0 dF0_387 (v := .inr (.inr (some 30))) rfl ?_
        refine zf_push fm_0 dF0_388 (v := .inl i) rfl ?_
        refine zf_push fm_0 dF0_390 (v := .inl (3 : Int32)) rfl ?_
        refine zf_stk fm_0 dF0_391 (st₉ := [.inl (i + (3 : Int32)), .inr (.inr (some 30)), .inl (X.2 ((i + (2 : Int32))).toNatClampNeg), .inl (1 : Int32), .inr (.inr (some 94))]) rfl rfl ?_
        obtain ⟨hg, h⟩ := h
        refine zf_one fm_0 dF0_392 (oo_sc hg) ?_
        refine zf_cv fm_0 dF0_393 v_14_113_12 hm_243 [.inl (X.2 ((i + (3 : Int32))).toNatClampNeg), .inl (X.2 ((i + (2 : Int32))).toNatClampNeg), .inl (1 : Int32)] [] rfl (zT_rt hS12 s_94 rfl) ⟨by omega, by omega⟩ rfl (zw_mono h (zi_go ?_ ?_))
        · intro v18 S17 hv
          obtain ⟨hS17, h⟩ := hv
          refine zf_sto fm_0 dF0_396 [(6, .inl v18), (5, .inl v11), (0, .inr (.inr (some 30))), (1, .inr (.inr (some 64))), (2, .inr (.inr (some 94))), (3, .inr (.inr (some 125))), (4, .inl i)] rfl rfl rfl ?_
          refine zf_push fm_0 dF0_398 (v := .inr (.inr (some 94))) rfl ?_
          refine zf_cv fm_0 dF0_399 v_14_114_12 hm_164 [] [] rfl (zT_rt hS17 s_94 rfl) ⟨by omega, by omega⟩ rfl (zw_mono h (zi_go ?_ ?_))
          · intro v20 S19 hv
            obtain ⟨hS19, h⟩ := hv
            refine zf_push fm_0 dF0_402 (v := .inl v11) rfl ?_
            refine zf_if2 fm_0 dF0_404 (t := 409) rfl zc2_eq ?_ ?_
            · intro hc
              rw [if_pos hc] at h
              refine zf_push fm_0 dF0_409 (v := .inl v11) rfl ?_
              refine zf_if0 fm_0 dF0_411 (t := 426) rfl zc0_ne ?_ ?_
              · intro hc
                rw [if_neg hc] at h
                refine zf_goto fm_0 dF0_426 (t := 957) rfl ?_
                exact zf_sub (ma_nd_of (ks := [0, 1, 2, 3, 4]) rfl (by decide)) (ma_nd_of (ks := [6, 5, 0, 1, 2, 3, 4]) rfl (by decide)) (ma_le_cons rfl (ma_le_cons rfl (ma_le_cons rfl (ma_le_cons rfl (ma_le_cons rfl (ma_le_nil _)))))) h
              · intro hc
                rw [if_pos (Classical.not_not.mp hc)] at h
                refine zf_push fm_0 dF0_414 (v := .inr (.inr (some 125))) rfl ?_
                refine zf_push fm_0 dF0_415 (v := .inl (0 : Int32)) rfl ?_
                refine zf_one fm_0 dF0_416 (oo_la (zT_is hS19 s_125) (zT_h hS19 s_125) (a := 0) rfl ⟨by decide, by decide⟩) ?_
                refine zf_push fm_0 dF0_417 (v := .inl v18) rfl ?_
                refine zf_stk fm_0 dF0_419 (st₉ := [.inr (.inl (v18.toInt64)), .inr (.inl (mL S19 125 0))]) rfl rfl ?_
                refine zf_stk fm_0 dF0_420 (st₉ := [.inl (lg_cmp (mL S19 125 0) (v18.toInt64))]) rfl rfl ?_
                refine zf_if0 fm_0 dF0_421 (t := 426) rfl zc0_eq ?_ ?_
                · intro hc
                  rw [if_pos hc] at h
                  refine zf_goto fm_0 dF0_426 (t := 957) rfl ?_
                  exact zf_sub (ma_nd_of (ks := [0, 1, 2, 3, 4]) rfl (by decide)) (ma_nd_of (ks := [6, 5, 0, 1, 2, 3, 4]) rfl (by decide)) (ma_le_cons rfl (ma_le_cons rfl (ma_le_cons rfl (ma_le_cons rfl (ma_le_cons rfl (ma_le_nil _)))))) h
                · intro hc
                  rw [if_neg hc] at h
                  refine zf_push fm_0 dF0_424 (v := .inl (0 : Int32)) rfl ?_
                  exact zf_bret fm_0 dF0_425 (by decide) h
            · intro hc
              rw [if_neg hc] at h
              refine zf_push fm_0 dF0_407 (v := .inl (0 : Int32)) rfl ?_
              exact zf_bret fm_0 dF0_408 (by decide) h
          · intro x S9 hx
            exact hx.elim
        · intro x S9 hx
          exact hx.elim
theorem gl_429 {X : Nat × (Nat → Int32)} {d w : Nat} {S : ma_S} {Q : Option ma_V → ma_S → Prop} (i : Int32) (hd : 13 ≤ d) (hw : 494 ≤ w) (hS : zT S) (h : (0 ≤ (i + (1 : Int32)) ∧ ((i + (1 : Int32))).toNatClampNeg < X.1) ∧ ((0 ≤ (i + (2 : Int32)) ∧ ((i + (2 : Int32))).toNatClampNeg < X.1) ∧ ((0 ≤ (i + (3 : Int32)) ∧ ((i + (3 : Int32))).toNatClampNeg < X.1) ∧ (ma_fp X 6 (d - 1) (w - 25) 0 [(0, .inr (.inr (some 64))), (1, .inl (X.2 ((i + (1 : Int32))).toNatClampNeg)), (2, .inl (X.2 ((i + (2 : Int32))).toNatClampNeg)), (3, .inl (X.2 ((i + (3 : Int32))).toNatClampNeg)), (4, .inr (.inr (some 125)))] [] S (zfi_ (fun v1 S2 => zT S2 ∧ ((0 ≤ (i + (1 : Int32)) ∧ ((i + (1 : Int32))).toNatClampNeg < X.1) ∧ ((0 ≤ (i + (2 : Int32)) ∧ ((i + (2 : Int32))).toNatClampNeg < X.1) ∧ ((0 ≤ (i + (3 : Int32)) ∧ ((i + (3 : Int32))).toNatClampNeg < X.1) ∧ (ma_wp X (d - 1) (w - 25) 244 0 [(0, .inr (.inr (some 94))), (1, .inl (X.2 ((i + (1 : Int32))).toNatClampNeg)), (2, .inl (X.2 ((i + (2 : Int32))).toNatClampNeg)), (3, .inl (X.2 ((i + (3 : Int32))).toNatClampNeg))] [] S2 (zi (fun v4 S3 => zT S3 ∧ (ma_fp X 0 d w 957 [(0, .inr (.inr (some 30))), (1, .inr (.inr (some 64))), (2, .inr (.inr (some 94))), (3, .inr (.inr (some 125))), (4, .inl i)] [] S3 Q)) (fun _ _ => False)))))))))))) : ma_fp X 0 d w 429 [(0, .inr (.inr (some 30))), (1, .inr (.inr (some 64))), (2, .inr (.inr (some 94))), (3, .inr (.inr (some 125))), (4, .inl i)] [] S Q := by
  refine zf_push fm_0 dF0_429 (v := .inr (.inr (some 64))) rfl ?_
  refine zf_push fm_0 dF0_430 (v := .inr (.inr (some 30))) rfl ?_
  refine zf_push fm_0 dF0_431 (v := .inl i) rfl ?_
  refine zf_push fm_0 dF0_433 (v := .inl (1 : Int32)) rfl ?_
  refine zf_stk fm_0 dF0_434 (st₉ := [.inl (i + (1 : Int32)), .inr (.inr (some 30)), .inr (.inr (some 64))]) rfl rfl ?_
  obtain ⟨hg, h⟩ := h
  refine zf_one fm_0 dF0_435 (oo_sc hg) ?_
  refine zf_push fm_0 dF0_436 (v := .inr (.inr (some 30))) rfl ?_
  refine zf_push fm_0 dF0_437 (v := .inl i) rfl ?_
  refine zf_push fm_0 dF0_439 (v := .inl (2 : Int32)) rfl ?_
  refine zf_stk fm_0 dF0_440 (st₉ := [.inl (i + (2 : Int32)), .inr (.inr (some 30)), .inl (X.2 ((i + (1 : Int32))).toNatClampNeg), .inr (.inr (some 64))]) rfl rfl ?_
  obtain ⟨hg, h⟩ := h
  refine zf_one fm_0 dF0_441 (oo_sc hg) ?_
  refine zf_push fm_0 dF0_442 (v := .inr (.inr (some 30))) rfl ?_
  refine zf_push fm_0 dF0_443 (v := .inl i) rfl ?_
  refine zf_push fm_0 dF0_445 (v := .inl (3 : Int32)) rfl ?_
  refine zf_stk fm_0 dF0_446 (st₉ := [.inl (i + (3 : Int32)), .inr (.inr (some 30)), .inl (X.2 ((i + (2 : Int32))).toNatClampNeg), .inl (X.2 ((i + (1 : Int32))).toNatClampNeg), .inr (.inr (some 64))]) rfl rfl ?_
  obtain ⟨hg, h⟩ := h
  refine zf_one fm_0 dF0_447 (oo_sc hg) ?_
  refine zf_push fm_0 dF0_448 (v := .inr (.inr (some 125))) rfl ?_
  refine zf_cw fm_0 dF0_449 cw_117 fm_6 [.inr (.inr (some 125)), .inl (X.2 ((i + (3 : Int32))).toNatClampNeg), .inl (X.2 ((i + (2 : Int32))).toNatClampNeg), .inl (X.2 ((i + (1 : Int32))).toNatClampNeg), .inr (.inr (some 64))] [] rfl (by omega) (by omega) rfl (zf_mono h (zfi_go ?_))
  · intro v1 S2 hv
    obtain ⟨hS2, h⟩ := hv
    refine zf_sto fm_0 dF0_452 [(5, .inl v1), (0, .inr (.inr (some 30))), (1, .inr (.inr (some 64))), (2, .inr (.inr (some 94))), (3, .inr (.inr (some 125))), (4, .inl i)] rfl rfl rfl ?_
    refine zf_push fm_0 dF0_454 (v := .inr (.inr (some 94))) rfl ?_
    refine zf_push fm_0 dF0_455 (v := .inr (.inr (some 30))) rfl ?_
    refine zf_push fm_0 dF0_456 (v := .inl i) rfl ?_
    refine zf_push fm_0 dF0_458 (v := .inl (1 : Int32)) rfl ?_
    refine zf_stk fm_0 dF0_459 (st₉ := [.inl (i + (1 : Int32)), .inr (.inr (some 30)), .inr (.inr (some 94))]) rfl rfl ?_
    obtain ⟨hg, h⟩ := h
    refine zf_one fm_0 dF0_460 (oo_sc hg) ?_
    refine zf_push fm_0 dF0_461 (v := .inr (.inr (some 30))) rfl ?_
    refine zf_push fm_0 dF0_462 (v := .inl i) rfl ?_
    refine zf_push fm_0 dF0_464 (v := .inl (2 : Int32)) rfl ?_
    refine zf_stk fm_0 dF0_465 (st₉ := [.inl (i + (2 : Int32)), .inr (.inr (some 30)), .inl (X.2 ((i + (1 : Int32))).toNatClampNeg), .inr (.inr (some 94))]) rfl rfl ?_
    obtain ⟨hg, h⟩ := h
    refine zf_one fm_0 dF0_466 (oo_sc hg) ?_
    refine zf_push fm_0 dF0_467 (v := .inr (.inr (some 30))) rfl ?_
    refine zf_push fm_0 dF0_468 (v := .inl i) rfl ?_
    refine zf_push fm_0 dF0_470 (v := .inl (3 : Int32)) rfl ?_
    refine zf_stk fm_0 dF0_471 (st₉ := [.inl (i + (3 : Int32)), .inr (.inr (some 30)), .inl (X.2 ((i + (2 : Int32))).toNatClampNeg), .inl (X.2 ((i + (1 : Int32))).toNatClampNeg), .inr (.inr (some 94))]) rfl rfl ?_
    obtain ⟨hg, h⟩ := h
    refine zf_one fm_0 dF0_472 (oo_sc hg) ?_
    refine zf_cv fm_0 dF0_473 v_14_120_12 hm_244 [.inl (X.2 ((i + (3 : Int32))).toNatClampNeg), .inl (X.2 ((i + (2 : Int32))).toNatClampNeg), .inl (X.2 ((i + (1 : Int32))).toNatClampNeg)] [] rfl (zT_rt hS2 s_94 rfl) ⟨by omega, by omega⟩ rfl (zw_mono h (zi_go ?_ ?_))
    · intro v4 S3 hv
      obtain ⟨hS3, h⟩ := hv
      refine zf_sto fm_0 dF0_476 [(6, .inl v4), (5, .inl v1), (0, .inr (.inr (some 30))), (1, .inr (.inr (some 64))), (2, .inr (.inr (some 94))), (3, .inr (.inr (some 125))), (4, .inl i)] rfl rfl rfl ?_
      refine zf_goto fm_0 dF0_478 (t := 957) rfl ?_
      exact zf_sub (ma_nd_of (ks := [0, 1, 2, 3, 4]) rfl (by decide)) (ma_nd_of (ks := [6, 5, 0, 1, 2, 3, 4]) rfl (by decide)) (ma_le_cons rfl (ma_le_cons rfl (ma_le_cons rfl (ma_le_cons rfl (ma_le_cons rfl (ma_le_nil _)))))) h
    · intro x S9 hx
      exact hx.elim
theorem gl_481 {X : Nat × (Nat → Int32)} {d w : Nat} {S : ma_S} {Q : Option ma_V → ma_S → Prop} (i : Int32) (hd : 13 ≤ d) (hw : 494 ≤ w) (hS : zT S) (h : (0 ≤ (i + (1 : Int32)) ∧ ((i + (1 : Int32))).toNatClampNeg < X.1) ∧ ((0 ≤ (i + (2 : Int32)) ∧ ((i + (2 : Int32))).toNatClampNeg < X.1) ∧ ((0 ≤ (i + (3 : Int32)) ∧ ((i + (3 : Int32))).toNatClampNeg < X.1) ∧ (ma_fp X 7 (d - 1) (w - 25) 0 [(0, .inr (.inr (some 64))), (1, .inl (X.2 ((i + (1 : Int32))).toNatClampNeg)), (2, .inl (X.2 ((i + (2 : Int32))).toNatClampNeg)), (3, .inl (X.2 ((i + (3 : Int32))).toNatClampNeg)), (4, .inr (.inr (some 125)))] [] S (zfi_ (fun v1 S2 => zT S2 ∧ ((0 ≤ (i + (1 : Int32)) ∧ ((i + (1 : Int32))).toNatClampNeg < X.1) ∧ ((0 ≤ (i + (2 : Int32)) ∧ ((i + (2 : Int32))).toNatClampNeg < X.1) ∧ ((0 ≤ (i + (3 : Int32)) ∧ ((i + (3 : Int32))).toNatClampNeg < X.1) ∧ (ma_wp X (d - 1) (w - 28) 247 0 [(0, .inr (.inr (some 94))), (1, .inl (X.2 ((i + (1 : Int32))).toNatClampNeg)), (2, .inl (X.2 ((i + (2 : Int32))).toNatClampNeg)), (3, .inl (X.2 ((i + (3 : Int32))).toNatClampNeg))] [] S2 (zi (fun v4 S3 => zT S3 ∧ (ma_fp X 0 d w 957 [(0, .inr (.inr (some 30))), (1, .inr (.inr (some 64))), (2, .inr (.inr (some 94))), (3, .inr (.inr (some 125))), (4, .inl i)] [] S3 Q)) (fun _ _ => False)))))))))))) : ma_fp X 0 d w 481 [(0, .inr (.inr (some 30))), (1, .inr (.inr (some 64))), (2, .inr (.inr (some 94))), (3, .inr (.inr (some 125))), (4, .inl i)] [] S Q := by
  refine zf_push fm_0 dF0_481 (v := .inr (.inr (some 64))) rfl ?_
  refine zf_push fm_0 dF0_482 (v := .inr (.inr (some 30))) rfl ?_
  refine zf_push fm_0 dF0_483 (v := .inl i) rfl ?_
  refine zf_push fm_0 dF0_485 (v := .inl (1 : Int32)) rfl ?_
  refine zf_stk fm_0 dF0_486 (st₉ := [.inl (i + (1 : Int32)), .inr (.inr (some 30)), .inr (.inr (some 64))]) rfl rfl ?_
  obtain ⟨hg, h⟩ := h
  refine zf_one fm_0 dF0_487 (oo_sc hg) ?_
  refine zf_push fm_0 dF0_488 (v := .inr (.inr (some 30))) rfl ?_
  refine zf_push fm_0 dF0_489 (v := .inl i) rfl ?_
  refine zf_push fm_0 dF0_491 (v := .inl (2 : Int32)) rfl ?_
  refine zf_stk fm_0 dF0_492 (st₉ := [.inl (i + (2 : Int32)), .inr (.inr (some 30)), .inl (X.2 ((i + (1 : Int32))).toNatClampNeg), .inr (.inr (some 64))]) rfl rfl ?_
  obtain ⟨hg, h⟩ := h
  refine zf_one fm_0 dF0_493 (oo_sc hg) ?_
  refine zf_push fm_0 dF0_494 (v := .inr (.inr (some 30))) rfl ?_
  refine zf_push fm_0 dF0_495 (v := .inl i) rfl ?_
  refine zf_push fm_0 dF0_497 (v := .inl (3 : Int32)) rfl ?_
  refine zf_stk fm_0 dF0_498 (st₉ := [.inl (i + (3 : Int32)), .inr (.inr (some 30)), .inl (X.2 ((i + (2 : Int32))).toNatClampNeg), .inl (X.2 ((i + (1 : Int32))).toNatClampNeg), .inr (.inr (some 64))]) rfl rfl ?_
  obtain ⟨hg, h⟩ := h
  refine zf_one fm_0 dF0_499 (oo_sc hg) ?_
  refine zf_push fm_0 dF0_500 (v := .inr (.inr (some 125))) rfl ?_
  refine zf_cw fm_0 dF0_501 cw_121 fm_7 [.inr (.inr (some 125)), .inl (X.2 ((i + (3 : Int32))).toNatClampNeg), .inl (X.2 ((i + (2 : Int32))).toNatClampNeg), .inl (X.2 ((i + (1 : Int32))).toNatClampNeg), .inr (.inr (some 64))] [] rfl (by omega) (by omega) rfl (zf_mono h (zfi_go ?_))
  · intro v1 S2 hv
    obtain ⟨hS2, h⟩ := hv
    refine zf_sto fm_0 dF0_504 [(5, .inl v1), (0, .inr (.inr (some 30))), (1, .inr (.inr (some 64))), (2, .inr (.inr (some 94))), (3, .inr (.inr (some 125))), (4, .inl i)] rfl rfl rfl ?_
    refine zf_push fm_0 dF0_506 (v := .inr (.inr (some 94))) rfl ?_
    refine zf_push fm_0 dF0_507 (v := .inr (.inr (some 30))) rfl ?_
    refine zf_push fm_0 dF0_508 (v := .inl i) rfl ?_
    refine zf_push fm_0 dF0_510 (v := .inl (1 : Int32)) rfl ?_
    refine zf_stk fm_0 dF0_511 (st₉ := [.inl (i + (1 : Int32)), .inr (.inr (some 30)), .inr (.inr (some 94))]) rfl rfl ?_
    obtain ⟨hg, h⟩ := h
    refine zf_one fm_0 dF0_512 (oo_sc hg) ?_
    refine zf_push fm_0 dF0_513 (v := .inr (.inr (some 30))) rfl ?_
    refine zf_push fm_0 dF0_514 (v := .inl i) rfl ?_
    refine zf_push fm_0 dF0_516 (v := .inl (2 : Int32)) rfl ?_
    refine zf_stk fm_0 dF0_517 (st₉ := [.inl (i + (2 : Int32)), .inr (.inr (some 30)), .inl (X.2 ((i + (1 : Int32))).toNatClampNeg), .inr (.inr (some 94))]) rfl rfl ?_
    obtain ⟨hg, h⟩ := h
    refine zf_one fm_0 dF0_518 (oo_sc hg) ?_
    refine zf_push fm_0 dF0_519 (v := .inr (.inr (some 30))) rfl ?_
    refine zf_push fm_0 dF0_520 (v := .inl i) rfl ?_
    refine zf_push fm_0 dF0_522 (v := .inl (3 : Int32)) rfl ?_
    refine zf_stk fm_0 dF0_523 (st₉ := [.inl (i + (3 : Int32)), .inr (.inr (some 30)), .inl (X.2 ((i + (2 : Int32))).toNatClampNeg), .inl (X.2 ((i + (1 : Int32))).toNatClampNeg), .inr (.inr (some 94))]) rfl rfl ?_
    obtain ⟨hg, h⟩ := h
    refine zf_one fm_0 dF0_524 (oo_sc hg) ?_
    refine zf_cv fm_0 dF0_525 v_14_123_12 hm_247 [.inl (X.2 ((i + (3 : Int32))).toNatClampNeg), .inl (X.2 ((i + (2 : Int32))).toNatClampNeg), .inl (X.2 ((i + (1 : Int32))).toNatClampNeg)] [] rfl (zT_rt hS2 s_94 rfl) ⟨by omega, by omega⟩ rfl (zw_mono h (zi_go ?_ ?_))
    · intro v4 S3 hv
      obtain ⟨hS3, h⟩ := hv
      refine zf_sto fm_0 dF0_528 [(6, .inl v4), (5, .inl v1), (0, .inr (.inr (some 30))), (1, .inr (.inr (some 64))), (2, .inr (.inr (some 94))), (3, .inr (.inr (some 125))), (4, .inl i)] rfl rfl rfl ?_
      refine zf_goto fm_0 dF0_530 (t := 957) rfl ?_
      exact zf_sub (ma_nd_of (ks := [0, 1, 2, 3, 4]) rfl (by decide)) (ma_nd_of (ks := [6, 5, 0, 1, 2, 3, 4]) rfl (by decide)) (ma_le_cons rfl (ma_le_cons rfl (ma_le_cons rfl (ma_le_cons rfl (ma_le_cons rfl (ma_le_nil _)))))) h
    · intro x S9 hx
      exact hx.elim
theorem gl_533 {X : Nat × (Nat → Int32)} {d w : Nat} {S : ma_S} {Q : Option ma_V → ma_S → Prop} (i : Int32) (hd : 13 ≤ d) (hw : 494 ≤ w) (hS : zT S) (h : (0 ≤ (i + (1 : Int32)) ∧ ((i + (1 : Int32))).toNatClampNeg < X.1) ∧ ((0 ≤ (i + (2 : Int32)) ∧ ((i + (2 : Int32))).toNatClampNeg < X.1) ∧ (ma_fp X 8 (d - 1) (w - 24) 0 [(0, .inr (.inr (some 64))), (1, .inl (X.2 ((i + (1 : Int32))).toNatClampNeg)), (2, .inl (X.2 ((i + (2 : Int32))).toNatClampNeg)), (3, .inr (.inr (some 125)))] [] S (zfi_ (fun v1 S2 => zT S2 ∧ ((0 ≤ (i + (1 : Int32)) ∧ ((i + (1 : Int32))).toNatClampNeg < X.1) ∧ ((0 ≤ (i + (2 : Int32)) ∧ ((i + (2 : Int32))).toNatClampNeg < X.1) ∧ (ma_wp X (d - 1) (w - 23) 249 0 [(0, .inr (.inr (some 94))), (1, .inl (X.2 ((i + (1 : Int32))).toNatClampNeg)), (2, .inl (X.2 ((i + (2 : Int32))).toNatClampNeg))] [] S2 (zi (fun v4 S3 => zT S3 ∧ (ma_fp X 0 d w 957 [(0, .inr (.inr (some 30))), (1, .inr (.inr (some 64))), (2, .inr (.inr (some 94))), (3, .inr (.inr (some 125))), (4, .inl i)] [] S3 Q)) (fun _ _ => False)))))))))) : ma_fp X 0 d w 533 [(0, .inr (.inr (some 30))), (1, .inr (.inr (some 64))), (2, .inr (.inr (some 94))), (3, .inr (.inr (some 125))), (4, .inl i)] [] S Q := by
  refine zf_push fm_0 dF0_533 (v := .inr (.inr (some 64))) rfl ?_
  refine zf_push fm_0 dF0_534 (v := .inr (.inr (some 30))) rfl ?_
  refine zf_push fm_0 dF0_535 (v := .inl i) rfl ?_
  refine zf_push fm_0 dF0_537 (v := .inl (1 : Int32)) rfl ?_
  refine zf_stk fm_0 dF0_538 (st₉ := [.inl (i + (1 : Int32)), .inr (.inr (some 30)), .inr (.inr (some 64))]) rfl rfl ?_
  obtain ⟨hg, h⟩ := h
  refine zf_one fm_0 dF0_539 (oo_sc hg) ?_
  refine zf_push fm_0 dF0_540 (v := .inr (.inr (some 30))) rfl ?_
  refine zf_push fm_0 dF0_541 (v := .inl i) rfl ?_
  refine zf_push fm_0 dF0_543 (v := .inl (2 : Int32)) rfl ?_
  refine zf_stk fm_0 dF0_544 (st₉ := [.inl (i + (2 : Int32)), .inr (.inr (some 30)), .inl (X.2 ((i + (1 : Int32))).toNatClampNeg), .inr (.inr (some 64))]) rfl rfl ?_
  obtain ⟨hg, h⟩ := h
  refine zf_one fm_0 dF0_545 (oo_sc hg) ?_
  refine zf_push fm_0 dF0_546 (v := .inr (.inr (some 125))) rfl ?_
  refine zf_cw fm_0 dF0_547 cw_124 fm_8 [.inr (.inr (some 125)), .inl (X.2 ((i + (2 : Int32))).toNatClampNeg), .inl (X.2 ((i + (1 : Int32))).toNatClampNeg), .inr (.inr (some 64))] [] rfl (by omega) (by omega) rfl (zf_mono h (zfi_go ?_))
  · intro v1 S2 hv
    obtain ⟨hS2, h⟩ := hv
    refine zf_sto fm_0 dF0_550 [(5, .inl v1), (0, .inr (.inr (some 30))), (1, .inr (.inr (some 64))), (2, .inr (.inr (some 94))), (3, .inr (.inr (some 125))), (4, .inl i)] rfl rfl rfl ?_
    refine zf_push fm_0 dF0_552 (v := .inr (.inr (some 94))) rfl ?_
    refine zf_push fm_0 dF0_553 (v := .inr (.inr (some 30))) rfl ?_
    refine zf_push fm_0 dF0_554 (v := .inl i) rfl ?_
    refine zf_push fm_0 dF0_556 (v := .inl (1 : Int32)) rfl ?_
    refine zf_stk fm_0 dF0_557 (st₉ := [.inl (i + (1 : Int32)), .inr (.inr (some 30)), .inr (.inr (some 94))]) rfl rfl ?_
    obtain ⟨hg, h⟩ := h
    refine zf_one fm_0 dF0_558 (oo_sc hg) ?_
    refine zf_push fm_0 dF0_559 (v := .inr (.inr (some 30))) rfl ?_
    refine zf_push fm_0 dF0_560 (v := .inl i) rfl ?_
    refine zf_push fm_0 dF0_562 (v := .inl (2 : Int32)) rfl ?_
    refine zf_stk fm_0 dF0_563 (st₉ := [.inl (i + (2 : Int32)), .inr (.inr (some 30)), .inl (X.2 ((i + (1 : Int32))).toNatClampNeg), .inr (.inr (some 94))]) rfl rfl ?_
    obtain ⟨hg, h⟩ := h
    refine zf_one fm_0 dF0_564 (oo_sc hg) ?_
    refine zf_cv fm_0 dF0_565 v_14_126_12 hm_249 [.inl (X.2 ((i + (2 : Int32))).toNatClampNeg), .inl (X.2 ((i + (1 : Int32))).toNatClampNeg)] [] rfl (zT_rt hS2 s_94 rfl) ⟨by omega, by omega⟩ rfl (zw_mono h (zi_go ?_ ?_))
    · intro v4 S3 hv
      obtain ⟨hS3, h⟩ := hv
      refine zf_sto fm_0 dF0_568 [(6, .inl v4), (5, .inl v1), (0, .inr (.inr (some 30))), (1, .inr (.inr (some 64))), (2, .inr (.inr (some 94))), (3, .inr (.inr (some 125))), (4, .inl i)] rfl rfl rfl ?_
      refine zf_goto fm_0 dF0_570 (t := 957) rfl ?_
      exact zf_sub (ma_nd_of (ks := [0, 1, 2, 3, 4]) rfl (by decide)) (ma_nd_of (ks := [6, 5, 0, 1, 2, 3, 4]) rfl (by decide)) (ma_le_cons rfl (ma_le_cons rfl (ma_le_cons rfl (ma_le_cons rfl (ma_le_cons rfl (ma_le_nil _)))))) h
    · intro x S9 hx
      exact hx.elim
theorem gl_573 {X : Nat × (Nat → Int32)} {d w : Nat} {S : ma_S} {Q : Option ma_V → ma_S → Prop} (i : Int32) (hd : 13 ≤ d) (hw : 494 ≤ w) (hS : zT S) (h : (0 ≤ (i + (1 : Int32)) ∧ ((i + (1 : Int32))).toNatClampNeg < X.1) ∧ ((0 ≤ (i + (2 : Int32)) ∧ ((i + (2 : Int32))).toNatClampNeg < X.1) ∧ (ma_fp X 9 (d - 1) (w - 24) 0 [(0, .inr (.inr (some 64))), (1, .inl (X.2 ((i + (1 : Int32))).toNatClampNeg)), (2, .inl (X.2 ((i + (2 : Int32))).toNatClampNeg)), (3, .inr (.inr (some 125)))] [] S (zfi_ (fun v1 S2 => zT S2 ∧ ((0 ≤ (i + (1 : Int32)) ∧ ((i + (1 : Int32))).toNatClampNeg < X.1) ∧ ((0 ≤ (i + (2 : Int32)) ∧ ((i + (2 : Int32))).toNatClampNeg < X.1) ∧ (ma_wp X (d - 1) (w - 24) 250 0 [(0, .inr (.inr (some 94))), (1, .inl (X.2 ((i + (1 : Int32))).toNatClampNeg)), (2, .inl (X.2 ((i + (2 : Int32))).toNatClampNeg))] [] S2 (zi (fun v4 S3 => zT S3 ∧ (ma_fp X 0 d w 957 [(0, .inr (.inr (some 30))), (1, .inr (.inr (some 64))), (2, .inr (.inr (some 94))), (3, .inr (.inr (some 125))), (4, .inl i)] [] S3 Q)) (fun _ _ => False)))))))))) : ma_fp X 0 d w 573 [(0, .inr (.inr (some 30))), (1, .inr (.inr (some 64))), (2, .inr (.inr (some 94))), (3, .inr (.inr (some 125))), (4, .inl i)] [] S Q := by
  refine zf_push fm_0 dF0_573 (v := .inr (.inr (some 64))) rfl ?_
  refine zf_push fm_0 dF0_574 (v := .inr (.inr (some 30))) rfl ?_
  refine zf_push fm_0 dF0_575 (v := .inl i) rfl ?_
  refine zf_push fm_0 dF0_577 (v := .inl (1 : Int32)) rfl ?_
  refine zf_stk fm_0 dF0_578 (st₉ := [.inl (i + (1 : Int32)), .inr (.inr (some 30)), .inr (.inr (some 64))]) rfl rfl ?_
  obtain ⟨hg, h⟩ := h
  refine zf_one fm_0 dF0_579 (oo_sc hg) ?_
  refine zf_push fm_0 dF0_580 (v := .inr (.inr (some 30))) rfl ?_
  refine zf_push fm_0 dF0_581 (v := .inl i) rfl ?_
  refine zf_push fm_0 dF0_583 (v := .inl (2 : Int32)) rfl ?_
  refine zf_stk fm_0 dF0_584 (st₉ := [.inl (i + (2 : Int32)), .inr (.inr (some 30)), .inl (X.2 ((i + (1 : Int32))).toNatClampNeg), .inr (.inr (some 64))]) rfl rfl ?_
  obtain ⟨hg, h⟩ := h
  refine zf_one fm_0 dF0_585 (oo_sc hg) ?_
  refine zf_push fm_0 dF0_586 (v := .inr (.inr (some 125))) rfl ?_
  refine zf_cw fm_0 dF0_587 cw_127 fm_9 [.inr (.inr (some 125)), .inl (X.2 ((i + (2 : Int32))).toNatClampNeg), .inl (X.2 ((i + (1 : Int32))).toNatClampNeg), .inr (.inr (some 64))] [] rfl (by omega) (by omega) rfl (zf_mono h (zfi_go ?_))
  · intro v1 S2 hv
    obtain ⟨hS2, h⟩ := hv
    refine zf_sto fm_0 dF0_590 [(5, .inl v1), (0, .inr (.inr (some 30))), (1, .inr (.inr (some 64))), (2, .inr (.inr (some 94))), (3, .inr (.inr (some 125))), (4, .inl i)] rfl rfl rfl ?_
    refine zf_push fm_0 dF0_592 (v := .inr (.inr (some 94))) rfl ?_
    refine zf_push fm_0 dF0_593 (v := .inr (.inr (some 30))) rfl ?_
    refine zf_push fm_0 dF0_594 (v := .inl i) rfl ?_
    refine zf_push fm_0 dF0_596 (v := .inl (1 : Int32)) rfl ?_
    refine zf_stk fm_0 dF0_597 (st₉ := [.inl (i + (1 : Int32)), .inr (.inr (some 30)), .inr (.inr (some 94))]) rfl rfl ?_
    obtain ⟨hg, h⟩ := h
    refine zf_one fm_0 dF0_598 (oo_sc hg) ?_
    refine zf_push fm_0 dF0_599 (v := .inr (.inr (some 30))) rfl ?_
    refine zf_push fm_0 dF0_600 (v := .inl i) rfl ?_
    refine zf_push fm_0 dF0_602 (v := .inl (2 : Int32)) rfl ?_
    refine zf_stk fm_0 dF0_603 (st₉ := [.inl (i + (2 : Int32)), .inr (.inr (some 30)), .inl (X.2 ((i + (1 : Int32))).toNatClampNeg), .inr (.inr (some 94))]) rfl rfl ?_
    obtain ⟨hg, h⟩ := h
    refine zf_one fm_0 dF0_604 (oo_sc hg) ?_
    refine zf_cv fm_0 dF0_605 v_14_129_12 hm_250 [.inl (X.2 ((i + (2 : Int32))).toNatClampNeg), .inl (X.2 ((i + (1 : Int32))).toNatClampNeg)] [] rfl (zT_rt hS2 s_94 rfl) ⟨by omega, by omega⟩ rfl (zw_mono h (zi_go ?_ ?_))
    · intro v4 S3 hv
      obtain ⟨hS3, h⟩ := hv
      refine zf_sto fm_0 dF0_608 [(6, .inl v4), (5, .inl v1), (0, .inr (.inr (some 30))), (1, .inr (.inr (some 64))), (2, .inr (.inr (some 94))), (3, .inr (.inr (some 125))), (4, .inl i)] rfl rfl rfl ?_
      refine zf_goto fm_0 dF0_610 (t := 957) rfl ?_
      exact zf_sub (ma_nd_of (ks := [0, 1, 2, 3, 4]) rfl (by decide)) (ma_nd_of (ks := [6, 5, 0, 1, 2, 3, 4]) rfl (by decide)) (ma_le_cons rfl (ma_le_cons rfl (ma_le_cons rfl (ma_le_cons rfl (ma_le_cons rfl (ma_le_nil _)))))) h
    · intro x S9 hx
      exact hx.elim
theorem gl_613 {X : Nat × (Nat → Int32)} {d w : Nat} {S : ma_S} {Q : Option ma_V → ma_S → Prop} (i : Int32) (hd : 13 ≤ d) (hw : 494 ≤ w) (hS : zT S) (h : (0 ≤ (i + (1 : Int32)) ∧ ((i + (1 : Int32))).toNatClampNeg < X.1) ∧ ((0 ≤ (i + (2 : Int32)) ∧ ((i + (2 : Int32))).toNatClampNeg < X.1) ∧ (ma_fp X 10 (d - 1) (w - 24) 0 [(0, .inr (.inr (some 64))), (1, .inl (X.2 ((i + (1 : Int32))).toNatClampNeg)), (2, .inl (X.2 ((i + (2 : Int32))).toNatClampNeg)), (3, .inr (.inr (some 125)))] [] S (zfi_ (fun v1 S2 => zT S2 ∧ ((0 ≤ (i + (1 : Int32)) ∧ ((i + (1 : Int32))).toNatClampNeg < X.1) ∧ ((0 ≤ (i + (2 : Int32)) ∧ ((i + (2 : Int32))).toNatClampNeg < X.1) ∧ (ma_wp X (d - 1) (w - 24) 251 0 [(0, .inr (.inr (some 94))), (1, .inl (X.2 ((i + (1 : Int32))).toNatClampNeg)), (2, .inl (X.2 ((i + (2 : Int32))).toNatClampNeg))] [] S2 (zi (fun v4 S3 => zT S3 ∧ (ma_fp X 0 d w 957 [(0, .inr (.inr (some 30))), (1, .inr (.inr (some 64))), (2, .inr (.inr (some 94))), (3, .inr (.inr (some 125))), (4, .inl i)] [] S3 Q)) (fun _ _ => False)))))))))) : ma_fp X 0 d w 613 [(0, .inr (.inr (some 30))), (1, .inr (.inr (some 64))), (2, .inr (.inr (some 94))), (3, .inr (.inr (some 125))), (4, .inl i)] [] S Q := by
  refine zf_push fm_0 dF0_613 (v := .inr (.inr (some 64))) rfl ?_
  refine zf_push fm_0 dF0_614 (v := .inr (.inr (some 30))) rfl ?_
  refine zf_push fm_0 dF0_615 (v := .inl i) rfl ?_
  refine zf_push fm_0 dF0_617 (v := .inl (1 : Int32)) rfl ?_
  refine zf_stk fm_0 dF0_618 (st₉ := [.inl (i + (1 : Int32)), .inr (.inr (some 30)), .inr (.inr (some 64))]) rfl rfl ?_
  obtain ⟨hg, h⟩ := h
  refine zf_one fm_0 dF0_619 (oo_sc hg) ?_
  refine zf_push fm_0 dF0_620 (v := .inr (.inr (some 30))) rfl ?_
  refine zf_push fm_0 dF0_621 (v := .inl i) rfl ?_
  refine zf_push fm_0 dF0_623 (v := .inl (2 : Int32)) rfl ?_
  refine zf_stk fm_0 dF0_624 (st₉ := [.inl (i + (2 : Int32)), .inr (.inr (some 30)), .inl (X.2 ((i + (1 : Int32))).toNatClampNeg), .inr (.inr (some 64))]) rfl rfl ?_
  obtain ⟨hg, h⟩ := h
  refine zf_one fm_0 dF0_625 (oo_sc hg) ?_
  refine zf_push fm_0 dF0_626 (v := .inr (.inr (some 125))) rfl ?_
  refine zf_cw fm_0 dF0_627 cw_130 fm_10 [.inr (.inr (some 125)), .inl (X.2 ((i + (2 : Int32))).toNatClampNeg), .inl (X.2 ((i + (1 : Int32))).toNatClampNeg), .inr (.inr (some 64))] [] rfl (by omega) (by omega) rfl (zf_mono h (zfi_go ?_))
  · intro v1 S2 hv
    obtain ⟨hS2, h⟩ := hv
    refine zf_sto fm_0 dF0_630 [(5, .inl v1), (0, .inr (.inr (some 30))), (1, .inr (.inr (some 64))), (2, .inr (.inr (some 94))), (3, .inr (.inr (some 125))), (4, .inl i)] rfl rfl rfl ?_
    refine zf_push fm_0 dF0_632 (v := .inr (.inr (some 94))) rfl ?_
    refine zf_push fm_0 dF0_633 (v := .inr (.inr (some 30))) rfl ?_
    refine zf_push fm_0 dF0_634 (v := .inl i) rfl ?_
    refine zf_push fm_0 dF0_636 (v := .inl (1 : Int32)) rfl ?_
    refine zf_stk fm_0 dF0_637 (st₉ := [.inl (i + (1 : Int32)), .inr (.inr (some 30)), .inr (.inr (some 94))]) rfl rfl ?_
    obtain ⟨hg, h⟩ := h
    refine zf_one fm_0 dF0_638 (oo_sc hg) ?_
    refine zf_push fm_0 dF0_639 (v := .inr (.inr (some 30))) rfl ?_
    refine zf_push fm_0 dF0_640 (v := .inl i) rfl ?_
    refine zf_push fm_0 dF0_642 (v := .inl (2 : Int32)) rfl ?_
    refine zf_stk fm_0 dF0_643 (st₉ := [.inl (i + (2 : Int32)), .inr (.inr (some 30)), .inl (X.2 ((i + (1 : Int32))).toNatClampNeg), .inr (.inr (some 94))]) rfl rfl ?_
    obtain ⟨hg, h⟩ := h
    refine zf_one fm_0 dF0_644 (oo_sc hg) ?_
    refine zf_cv fm_0 dF0_645 v_14_132_12 hm_251 [.inl (X.2 ((i + (2 : Int32))).toNatClampNeg), .inl (X.2 ((i + (1 : Int32))).toNatClampNeg)] [] rfl (zT_rt hS2 s_94 rfl) ⟨by omega, by omega⟩ rfl (zw_mono h (zi_go ?_ ?_))
    · intro v4 S3 hv
      obtain ⟨hS3, h⟩ := hv
      refine zf_sto fm_0 dF0_648 [(6, .inl v4), (5, .inl v1), (0, .inr (.inr (some 30))), (1, .inr (.inr (some 64))), (2, .inr (.inr (some 94))), (3, .inr (.inr (some 125))), (4, .inl i)] rfl rfl rfl ?_
      refine zf_goto fm_0 dF0_650 (t := 957) rfl ?_
      exact zf_sub (ma_nd_of (ks := [0, 1, 2, 3, 4]) rfl (by decide)) (ma_nd_of (ks := [6, 5, 0, 1, 2, 3, 4]) rfl (by decide)) (ma_le_cons rfl (ma_le_cons rfl (ma_le_cons rfl (ma_le_cons rfl (ma_le_cons rfl (ma_le_nil _)))))) h
    · intro x S9 hx
      exact hx.elim
theorem gl_653 {X : Nat × (Nat → Int32)} {d w : Nat} {S : ma_S} {Q : Option ma_V → ma_S → Prop} (i : Int32) (hd : 13 ≤ d) (hw : 494 ≤ w) (hS : zT S) (h : (0 ≤ (i + (1 : Int32)) ∧ ((i + (1 : Int32))).toNatClampNeg < X.1) ∧ ((0 ≤ (i + (2 : Int32)) ∧ ((i + (2 : Int32))).toNatClampNeg < X.1) ∧ (ma_fp X 11 (d - 1) (w - 24) 0 [(0, .inr (.inr (some 64))), (1, .inl (X.2 ((i + (1 : Int32))).toNatClampNeg)), (2, .inl (X.2 ((i + (2 : Int32))).toNatClampNeg)), (3, .inr (.inr (some 125)))] [] S (zfi_ (fun v1 S2 => zT S2 ∧ ((0 ≤ (i + (1 : Int32)) ∧ ((i + (1 : Int32))).toNatClampNeg < X.1) ∧ ((0 ≤ (i + (2 : Int32)) ∧ ((i + (2 : Int32))).toNatClampNeg < X.1) ∧ (ma_wp X (d - 1) (w - 23) 252 0 [(0, .inr (.inr (some 94))), (1, .inl (X.2 ((i + (1 : Int32))).toNatClampNeg)), (2, .inl (X.2 ((i + (2 : Int32))).toNatClampNeg))] [] S2 (zi (fun v4 S3 => zT S3 ∧ (ma_fp X 0 d w 957 [(0, .inr (.inr (some 30))), (1, .inr (.inr (some 64))), (2, .inr (.inr (some 94))), (3, .inr (.inr (some 125))), (4, .inl i)] [] S3 Q)) (fun _ _ => False)))))))))) : ma_fp X 0 d w 653 [(0, .inr (.inr (some 30))), (1, .inr (.inr (some 64))), (2, .inr (.inr (some 94))), (3, .inr (.inr (some 125))), (4, .inl i)] [] S Q := by
  refine zf_push fm_0 dF0_653 (v := .inr (.inr (some 64))) rfl ?_
  refine zf_push fm_0 dF0_654 (v := .inr (.inr (some 30))) rfl ?_
  refine zf_push fm_0 dF0_655 (v := .inl i) rfl ?_
  refine zf_push fm_0 dF0_657 (v := .inl (1 : Int32)) rfl ?_
  refine zf_stk fm_0 dF0_658 (st₉ := [.inl (i + (1 : Int32)), .inr (.inr (some 30)), .inr (.inr (some 64))]) rfl rfl ?_
  obtain ⟨hg, h⟩ := h
  refine zf_one fm_0 dF0_659 (oo_sc hg) ?_
  refine zf_push fm_0 dF0_660 (v := .inr (.inr (some 30))) rfl ?_
  refine zf_push fm_0 dF0_661 (v := .inl i) rfl ?_
  refine zf_push fm_0 dF0_663 (v := .inl (2 : Int32)) rfl ?_
  refine zf_stk fm_0 dF0_664 (st₉ := [.inl (i + (2 : Int32)), .inr (.inr (some 30)), .inl (X.2 ((i + (1 : Int32))).toNatClampNeg), .inr (.inr (some 64))]) rfl rfl ?_
  obtain ⟨hg, h⟩ := h
  refine zf_one fm_0 dF0_665 (oo_sc hg) ?_
  refine zf_push fm_0 dF0_666 (v := .inr (.inr (some 125))) rfl ?_
  refine zf_cw fm_0 dF0_667 cw_133 fm_11 [.inr (.inr (some 125)), .inl (X.2 ((i + (2 : Int32))).toNatClampNeg), .inl (X.2 ((i + (1 : Int32))).toNatClampNeg), .inr (.inr (some 64))] [] rfl (by omega) (by omega) rfl (zf_mono h (zfi_go ?_))
  · intro v1 S2 hv
    obtain ⟨hS2, h⟩ := hv
    refine zf_sto fm_0 dF0_670 [(5, .inl v1), (0, .inr (.inr (some 30))), (1, .inr (.inr (some 64))), (2, .inr (.inr (some 94))), (3, .inr (.inr (some 125))), (4, .inl i)] rfl rfl rfl ?_
    refine zf_push fm_0 dF0_672 (v := .inr (.inr (some 94))) rfl ?_
    refine zf_push fm_0 dF0_673 (v := .inr (.inr (some 30))) rfl ?_
    refine zf_push fm_0 dF0_674 (v := .inl i) rfl ?_
    refine zf_push fm_0 dF0_676 (v := .inl (1 : Int32)) rfl ?_
    refine zf_stk fm_0 dF0_677 (st₉ := [.inl (i + (1 : Int32)), .inr (.inr (some 30)), .inr (.inr (some 94))]) rfl rfl ?_
    obtain ⟨hg, h⟩ := h
    refine zf_one fm_0 dF0_678 (oo_sc hg) ?_
    refine zf_push fm_0 dF0_679 (v := .inr (.inr (some 30))) rfl ?_
    refine zf_push fm_0 dF0_680 (v := .inl i) rfl ?_
    refine zf_push fm_0 dF0_682 (v := .inl (2 : Int32)) rfl ?_
    refine zf_stk fm_0 dF0_683 (st₉ := [.inl (i + (2 : Int32)), .inr (.inr (some 30)), .inl (X.2 ((i + (1 : Int32))).toNatClampNeg), .inr (.inr (some 94))]) rfl rfl ?_
    obtain ⟨hg, h⟩ := h
    refine zf_one fm_0 dF0_684 (oo_sc hg) ?_
    refine zf_cv fm_0 dF0_685 v_14_135_12 hm_252 [.inl (X.2 ((i + (2 : Int32))).toNatClampNeg), .inl (X.2 ((i + (1 : Int32))).toNatClampNeg)] [] rfl (zT_rt hS2 s_94 rfl) ⟨by omega, by omega⟩ rfl (zw_mono h (zi_go ?_ ?_))
    · intro v4 S3 hv
      obtain ⟨hS3, h⟩ := hv
      refine zf_sto fm_0 dF0_688 [(6, .inl v4), (5, .inl v1), (0, .inr (.inr (some 30))), (1, .inr (.inr (some 64))), (2, .inr (.inr (some 94))), (3, .inr (.inr (some 125))), (4, .inl i)] rfl rfl rfl ?_
      refine zf_goto fm_0 dF0_690 (t := 957) rfl ?_
      exact zf_sub (ma_nd_of (ks := [0, 1, 2, 3, 4]) rfl (by decide)) (ma_nd_of (ks := [6, 5, 0, 1, 2, 3, 4]) rfl (by decide)) (ma_le_cons rfl (ma_le_cons rfl (ma_le_cons rfl (ma_le_cons rfl (ma_le_cons rfl (ma_le_nil _)))))) h
    · intro x S9 hx
      exact hx.elim
