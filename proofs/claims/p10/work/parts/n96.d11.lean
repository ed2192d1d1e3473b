/-! the law -/
theorem gl_453 {X : Nat × (Nat → Int32)} {d w : Nat} {S : ma_S} {Q : Option ma_V → ma_S → Prop} (i : Int32) (hd : 13 ≤ d) (hw : 494 ≤ w) (hS : zT S) (h : (0 ≤ (i + (1 : Int32)) ∧ ((i + (1 : Int32))).toNatClampNeg < X.1) ∧ ((0 ≤ (i + (2 : Int32)) ∧ ((i + (2 : Int32))).toNatClampNeg < X.1) ∧ ((0 ≤ (i + (3 : Int32)) ∧ ((i + (3 : Int32))).toNatClampNeg < X.1) ∧ (ma_fp X 7 (d - 1) (w - 25) 0 [(0, .inr (.inr (some 64))), (1, .inl (X.2 ((i + (1 : Int32))).toNatClampNeg)), (2, .inl (X.2 ((i + (2 : Int32))).toNatClampNeg)), (3, .inl (X.2 ((i + (3 : Int32))).toNatClampNeg)), (4, .inr (.inr (some 125)))] [] S (zfi_ (fun v1 S2 => zT S2 ∧ ((0 ≤ (i + (1 : Int32)) ∧ ((i + (1 : Int32))).toNatClampNeg < X.1) ∧ ((0 ≤ (i + (2 : Int32)) ∧ ((i + (2 : Int32))).toNatClampNeg < X.1) ∧ ((0 ≤ (i + (3 : Int32)) ∧ ((i + (3 : Int32))).toNatClampNeg < X.1) ∧ (ma_wp X (d - 1) (w - 28) 247 0 [(0, .inr (.inr (some 94))), (1, .inl (X.2 ((i + (1 : Int32))).toNatClampNeg)), (2, .inl (X.2 ((i + (2 : Int32))).toNatClampNeg)), (3, .inl (X.2 ((i + (3 : Int32))).toNatClampNeg))] [] S2 (zi (fun v4 S3 => zT S3 ∧ (ma_fp X 0 d w 957 [(0, .inr (.inr (some 30))), (1, .inr (.inr (some 64))), (2, .inr (.inr (some 94))), (3, .inr (.inr (some 125))), (4, .inl i)] [] S3 Q)) (fun _ _ => False)))))))))))) : ma_fp X 0 d w 453 [(0, .inr (.inr (some 30))), (1, .inr (.inr (some 64))), (2, .inr (.inr (some 94))), (3, .inr (.inr (some 125))), (4, .inl i)] [] S Q := by
  refine zf_push fm_0 dF0_453 (v := .inr (.inr (some 64))) rfl ?_
  refine zf_push fm_0 dF0_454 (v := .inr (.inr (some 30))) rfl ?_
  refine zf_push fm_0 dF0_455 (v := .inl i) rfl ?_
  refine zf_push fm_0 dF0_457 (v := .inl (1 : Int32)) rfl ?_
  refine zf_stk fm_0 dF0_458 (st₉ := [.inl (i + (1 : Int32)), .inr (.inr (some 30)), .inr (.inr (some 64))]) rfl rfl ?_
  obtain ⟨hg, h⟩ := h
  refine zf_one fm_0 dF0_459 (oo_sc hg) ?_
  refine zf_push fm_0 dF0_460 (v := .inr (.inr (some 30))) rfl ?_
  refine zf_push fm_0 dF0_461 (v := .inl i) rfl ?_
  refine zf_push fm_0 dF0_463 (v := .inl (2 : Int32)) rfl ?_
  refine zf_stk fm_0 dF0_464 (st₉ := [.inl (i + (2 : Int32)), .inr (.inr (some 30)), .inl (X.2 ((i + (1 : Int32))).toNatClampNeg), .inr (.inr (some 64))]) rfl rfl ?_
  obtain ⟨hg, h⟩ := h
  refine zf_one fm_0 dF0_465 (oo_sc hg) ?_
  refine zf_push fm_0 dF0_466 (v := .inr (.inr (some 30))) rfl ?_
  refine zf_push fm_0 dF0_467 (v := .inl i) rfl ?_
  refine zf_push fm_0 dF0_469 (v := .inl (3 : Int32)) rfl ?_
  refine zf_stk fm_0 dF0_470 (st₉ := [.inl (i + (3 : Int32)), .inr (.inr (some 30)), .inl (X.2 ((i + (2 : Int32))).toNatClampNeg), .inl (X.2 ((i + (1 : Int32))).toNatClampNeg), .inr (.inr (some 64))]) rfl rfl ?_
  obtain ⟨hg, h⟩ := h
  refine zf_one fm_0 dF0_471 (oo_sc hg) ?_
  refine zf_push fm_0 dF0_472 (v := .inr (.inr (some 125))) rfl ?_
  refine zf_cw fm_0 dF0_473 cw_118 fm_7 [.inr (.inr (some 125)), .inl (X.2 ((i + (3 : Int32))).toNatClampNeg), .inl (X.2 ((i + (2 : Int32))).toNatClampNeg), .inl (X.2 ((i + (1 : Int32))).toNatClampNeg), .inr (.inr (some 64))] [] rfl (by omega) (by omega) rfl (zf_mono h (zfi_go ?_))
  · intro v1 S2 hv
    obtain ⟨hS2, h⟩ := hv
    refine zf_sto fm_0 dF0_476 [(5, .inl v1), (0, .inr (.inr (some 30))), (1, .inr (.inr (some 64))), (2, .inr (.inr (some 94))), (3, .inr (.inr (some 125))), (4, .inl i)] rfl rfl rfl ?_
    refine zf_push fm_0 dF0_478 (v := .inr (.inr (some 94))) rfl ?_
    refine zf_push fm_0 dF0_479 (v := .inr (.inr (some 30))) rfl ?_
    refine zf_push fm_0 dF0_480 (v := .inl i) rfl ?_
    refine zf_push fm_0 dF0_482 (v := .inl (1 : Int32)) rfl ?_
    refine zf_stk fm_0 dF0_483 (st₉ := [.inl (i + (1 : Int32)), .inr (.inr (some 30)), .inr (.inr (some 94))]) rfl rfl ?_
    obtain ⟨hg, h⟩ := h
    refine zf_one fm_0 dF0_484 (oo_sc hg) ?_
    refine zf_push fm_0 dF0_485 (v := .inr (.inr (some 30))) rfl ?_
    refine zf_push fm_0 dF0_486 (v := .inl i) rfl ?_
    refine zf_push fm_0 dF0_488 (v := .inl (2 : Int32)) rfl ?_
    refine zf_stk fm_0 dF0_489 (st₉ := [.inl (i + (2 : Int32)), .inr (.inr (some 30)), .inl (X.2 ((i + (1 : Int32))).toNatClampNeg), .inr (.inr (some 94))]) rfl rfl ?_
    obtain ⟨hg, h⟩ := h
    refine zf_one fm_0 dF0_490 (oo_sc hg) ?_
    refine zf_push fm_0 dF0_491 (v := .inr (.inr (some 30))) rfl ?_
    refine zf_push fm_0 dF0_492 (v := .inl i) rfl ?_
    refine zf_push fm_0 dF0_494 (v := .inl (3 : Int32)) rfl ?_
    refine zf_stk fm_0 dF0_495 (st₉ := [.inl (i + (3 : Int32)), .inr (.inr (some 30)), .inl (X.2 ((i + (2 : Int32))).toNatClampNeg), .inl (X.2 ((i + (1 : Int32))).toNatClampNeg), .inr (.inr (some 94))]) rfl rfl ?_
    obtain ⟨hg, h⟩ := h
    refine zf_one fm_0 dF0_496 (oo_sc hg) ?_
    refine zf_cv fm_0 dF0_497 v_14_120_12 hm_247 [.inl (X.2 ((i + (3 : Int32))).toNatClampNeg), .inl (X.2 ((i + (2 : Int32))).toNatClampNeg), .inl (X.2 ((i + (1 : Int32))).toNatClampNeg)] [] rfl (zT_rt hS2 s_94 rfl) ⟨by omega, by omega⟩ rfl (zw_mono h (zi_go ?_ ?_))
    · intro v4 S3 hv
      obtain ⟨hS3, h⟩ := hv
      refine zf_sto fm_0 dF0_500 [(6, .inl v4), (5, .inl v1), (0, .inr (.inr (some 30))), (1, .inr (.inr (some 64))), (2, .inr (.inr (some 94))), (3, .inr (.inr (some 125))), (4, .inl i)] rfl rfl rfl ?_
      refine zf_goto fm_0 dF0_502 (t := 957) rfl ?_
      exact zf_sub (ma_nd_of (ks := [0, 1, 2, 3, 4]) rfl (by decide)) (ma_nd_of (ks := [6, 5, 0, 1, 2, 3, 4]) rfl (by decide)) (ma_le_cons rfl (ma_le_cons rfl (ma_le_cons rfl (ma_le_cons rfl (ma_le_cons rfl (ma_le_nil _)))))) h
    · intro x S9 hx
      exact hx.elim
theorem gl_505 {X : Nat × (Nat → Int32)} {d w : Nat} {S : ma_S} {Q : Option ma_V → ma_S → Prop} (i : Int32) (hd : 13 ≤ d) (hw : 494 ≤ w) (hS : zT S) (h : (0 ≤ (i + (1 : Int32)) ∧ ((i + (1 : Int32))).toNatClampNeg < X.1) ∧ ((0 ≤ (i + (2 : Int32)) ∧ ((i + (2 : Int32))).toNatClampNeg < X.1) ∧ (ma_fp X 8 (d - 1) (w - 24) 0 [(0, .inr (.inr (some 64))), (1, .inl (X.2 ((i + (1 : Int32))).toNatClampNeg)), (2, .inl (X.2 ((i + (2 : Int32))).toNatClampNeg)), (3, .inr (.inr (some 125)))] [] S (zfi_ (fun v1 S2 => zT S2 ∧ ((0 ≤ (i + (1 : Int32)) ∧ ((i + (1 : Int32))).toNatClampNeg < X.1) ∧ ((0 ≤ (i + (2 : Int32)) ∧ ((i + (2 : Int32))).toNatClampNeg < X.1) ∧ (ma_wp X (d - 1) (w - 23) 249 0 [(0, .inr (.inr (some 94))), (1, .inl (X.2 ((i + (1 : Int32))).toNatClampNeg)), (2, .inl (X.2 ((i + (2 : Int32))).toNatClampNeg))] [] S2 (zi (fun v4 S3 => zT S3 ∧ (ma_wp X (d - 1) (w - 20) 164 0 [(0, .inr (.inr (some 94)))] [] S3 (zi (fun v6 S5 => zT S5 ∧ (if v6 = v1 then (if v1 = 0 then (if (lg_cmp (mL S5 125 0) (v4.toInt64)) = 0 then (ma_fp X 0 d w 957 [(0, .inr (.inr (some 30))), (1, .inr (.inr (some 64))), (2, .inr (.inr (some 94))), (3, .inr (.inr (some 125))), (4, .inl i)] [] S5 Q) else (Q (some (.inl (0 : Int32))) S5)) else (ma_fp X 0 d w 957 [(0, .inr (.inr (some 30))), (1, .inr (.inr (some 64))), (2, .inr (.inr (some 94))), (3, .inr (.inr (some 125))), (4, .inl i)] [] S5 Q)) else (Q (some (.inl (0 : Int32))) S5))) (fun _ _ => False)))) (fun _ _ => False)))))))))) : ma_fp X 0 d w 505 [(0, .inr (.inr (some 30))), (1, .inr (.inr (some 64))), (2, .inr (.inr (some 94))), (3, .inr (.inr (some 125))), (4, .inl i)] [] S Q := by
  refine zf_push fm_0 dF0_505 (v := .inr (.inr (some 64))) rfl ?_
  refine zf_push fm_0 dF0_506 (v := .inr (.inr (some 30))) rfl ?_
  refine zf_push fm_0 dF0_507 (v := .inl i) rfl ?_
  refine zf_push fm_0 dF0_509 (v := .inl (1 : Int32)) rfl ?_
  refine zf_stk fm_0 dF0_510 (st₉ := [.inl (i + (1 : Int32)), .inr (.inr (some 30)), .inr (.inr (some 64))]) rfl rfl ?_
  obtain ⟨hg, h⟩ := h
  refine zf_one fm_0 dF0_511 (oo_sc hg) ?_
  refine zf_push fm_0 dF0_512 (v := .inr (.inr (some 30))) rfl ?_
  refine zf_push fm_0 dF0_513 (v := .inl i) rfl ?_
  refine zf_push fm_0 dF0_515 (v := .inl (2 : Int32)) rfl ?_
  refine zf_stk fm_0 dF0_516 (st₉ := [.inl (i + (2 : Int32)), .inr (.inr (some 30)), .inl (X.2 ((i + (1 : Int32))).toNatClampNeg), .inr (.inr (some 64))]) rfl rfl ?_
  obtain ⟨hg, h⟩ := h
  refine zf_one fm_0 dF0_517 (oo_sc hg) ?_
  refine zf_push fm_0 dF0_518 (v := .inr (.inr (some 125))) rfl ?_
  refine zf_cw fm_0 dF0_519 cw_121 fm_8 [.inr (.inr (some 125)), .inl (X.2 ((i + (2 : Int32))).toNatClampNeg), .inl (X.2 ((i + (1 : Int32))).toNatClampNeg), .inr (.inr (some 64))] [] rfl (by omega) (by omega) rfl (zf_mono h (zfi_go ?_))
  · intro v1 S2 hv
    obtain ⟨hS2, h⟩ := hv
    refine zf_sto fm_0 dF0_522 [(5, .inl v1), (0, .inr (.inr (some 30))), (1, .inr (.inr (some 64))), (2, .inr (.inr (some 94))), (3, .inr (.inr (some 125))), (4, .inl i)] rfl rfl rfl ?_
    refine zf_push fm_0 dF0_524 (v := .inr (.inr (some 94))) rfl ?_
    refine zf_push fm_0 dF0_525 (v := .inr (.inr (some 30))) rfl ?_
    refine zf_push fm_0 dF0_526 (v := .inl i) rfl ?_
    refine zf_push fm_0 dF0_528 (v := .inl (1 : Int32)) rfl ?_
    refine zf_stk fm_0 dF0_529 (st₉ := [.inl (i + (1 : Int32)), .inr (.inr (some 30)), .inr (.inr (some 94))]) rfl rfl ?_
    obtain ⟨hg, h⟩ := h
    refine zf_one fm_0 dF0_530 (oo_sc hg) ?_
    refine zf_push fm_0 dF0_531 (v := .inr (.inr (some 30))) rfl ?_
    refine zf_push fm_0 dF0_532 (v := .inl i) rfl ?_
    refine zf_push fm_0 dF0_534 (v := .inl (2 : Int32)) rfl ?_
    refine zf_stk fm_0 dF0_535 (st₉ := [.inl (i + (2 : Int32)), .inr (.inr (some 30)), .inl (X.2 ((i + (1 : Int32))).toNatClampNeg), .inr (.inr (some 94))]) rfl rfl ?_
    obtain ⟨hg, h⟩ := h
    refine zf_one fm_0 dF0_536 (oo_sc hg) ?_
    refine zf_cv fm_0 dF0_537 v_14_123_12 hm_249 [.inl (X.2 ((i + (2 : Int32))).toNatClampNeg), .inl (X.2 ((i + (1 : Int32))).toNatClampNeg)] [] rfl (zT_rt hS2 s_94 rfl) ⟨by omega, by omega⟩ rfl (zw_mono h (zi_go ?_ ?_))
    · intro v4 S3 hv
      obtain ⟨hS3, h⟩ := hv
      refine zf_sto fm_0 dF0_540 [(6, .inl v4), (5, .inl v1), (0, .inr (.inr (some 30))), (1, .inr (.inr (some 64))), (2, .inr (.inr (some 94))), (3, .inr (.inr (some 125))), (4, .inl i)] rfl rfl rfl ?_
      refine zf_push fm_0 dF0_542 (v := .inr (.inr (some 94))) rfl ?_
      refine zf_cv fm_0 dF0_543 v_14_124_12 hm_164 [] [] rfl (zT_rt hS3 s_94 rfl) ⟨by omega, by omega⟩ rfl (zw_mono h (zi_go ?_ ?_))
      · intro v6 S5 hv
        obtain ⟨hS5, h⟩ := hv
        refine zf_push fm_0 dF0_546 (v := .inl v1) rfl ?_
        refine zf_if2 fm_0 dF0_548 (t := 553) rfl zc2_eq ?_ ?_
        · intro hc
          rw [if_pos hc] at h
          refine zf_push fm_0 dF0_553 (v := .inl v1) rfl ?_
          refine zf_if0 fm_0 dF0_555 (t := 570) rfl zc0_ne ?_ ?_
          · intro hc
            rw [if_neg hc] at h
            refine zf_goto fm_0 dF0_570 (t := 957) rfl ?_
            exact zf_sub (ma_nd_of (ks := [0, 1, 2, 3, 4]) rfl (by decide)) (ma_nd_of (ks := [6, 5, 0, 1, 2, 3, 4]) rfl (by decide)) (ma_le_cons rfl (ma_le_cons rfl (ma_le_cons rfl (ma_le_cons rfl (ma_le_cons rfl (ma_le_nil _)))))) h
          · intro hc
            rw [if_pos (Classical.not_not.mp hc)] at h
            refine zf_push fm_0 dF0_558 (v := .inr (.inr (some 125))) rfl ?_
            refine zf_push fm_0 dF0_559 (v := .inl (0 : Int32)) rfl ?_
            refine zf_one fm_0 dF0_560 (oo_la (zT_is hS5 s_125) (zT_h hS5 s_125) (a := 0) rfl ⟨by decide, by decide⟩) ?_
            refine zf_push fm_0 dF0_561 (v := .inl v4) rfl ?_
            refine zf_stk fm_0 dF0_563 (st₉ := [.inr (.inl (v4.toInt64)), .inr (.inl (mL S5 125 0))]) rfl rfl ?_
            refine zf_stk fm_0 dF0_564 (st₉ := [.inl (lg_cmp (mL S5 125 0) (v4.toInt64))]) rfl rfl ?_
            refine zf_if0 fm_0 dF0_565 (t := 570) rfl zc0_eq ?_ ?_
            · intro hc
              rw [if_pos hc] at h
              refine zf_goto fm_0 dF0_570 (t := 957) rfl ?_
              exact zf_sub (ma_nd_of (ks := [0, 1, 2, 3, 4]) rfl (by decide)) (ma_nd_of (ks := [6, 5, 0, 1, 2, 3, 4]) rfl (by decide)) (ma_le_cons rfl (ma_le_cons rfl (ma_le_cons rfl (ma_le_cons rfl (ma_le_cons rfl (ma_le_nil _)))))) h
            · intro hc
              rw [if_neg hc] at h
              refine zf_push fm_0 dF0_568 (v := .inl (0 : Int32)) rfl ?_
              exact zf_bret fm_0 dF0_569 (by decide) h
        · intro hc
          rw [if_neg hc] at h
          refine zf_push fm_0 dF0_551 (v := .inl (0 : Int32)) rfl ?_
          exact zf_bret fm_0 dF0_552 (by decide) h
      · intro x S9 hx
        exact hx.elim
    · intro x S9 hx
      exact hx.elim
theorem gl_573 {X : Nat × (Nat → Int32)} {d w : Nat} {S : ma_S} {Q : Option ma_V → ma_S → Prop} (i : Int32) (hd : 13 ≤ d) (hw : 494 ≤ w) (hS : zT S) (h : (0 ≤ (i + (1 : Int32)) ∧ ((i + (1 : Int32))).toNatClampNeg < X.1) ∧ ((0 ≤ (i + (2 : Int32)) ∧ ((i + (2 : Int32))).toNatClampNeg < X.1) ∧ (ma_fp X 9 (d - 1) (w - 24) 0 [(0, .inr (.inr (some 64))), (1, .inl (X.2 ((i + (1 : Int32))).toNatClampNeg)), (2, .inl (X.2 ((i + (2 : Int32))).toNatClampNeg)), (3, .inr (.inr (some 125)))] [] S (zfi_ (fun v1 S2 => zT S2 ∧ ((0 ≤ (i + (1 : Int32)) ∧ ((i + (1 : Int32))).toNatClampNeg < X.1) ∧ ((0 ≤ (i + (2 : Int32)) ∧ ((i + (2 : Int32))).toNatClampNeg < X.1) ∧ (ma_wp X (d - 1) (w - 24) 250 0 [(0, .inr (.inr (some 94))), (1, .inl (X.2 ((i + (1 : Int32))).toNatClampNeg)), (2, .inl (X.2 ((i + (2 : Int32))).toNatClampNeg))] [] S2 (zi (fun v4 S3 => zT S3 ∧ (ma_fp X 0 d w 957 [(0, .inr (.inr (some 30))), (1, .inr (.inr (some 64))), (2, .inr (.inr (some 94))), (3, .inr (.inr (some 125))), (4, .inl i)] [] S3 Q)) (fun _ _ => False)))))))))) : ma_fp X 0 d w 573 [(0, .inr (.inr (some 30))), (1, .inr (.inr (some 64))), (2, .inr (.inr (some 94))), (3, .inr (.inr (some 125))), (4, .inl i)] [] S Q := by
  refine zf_push fm_0 dF0_573 (v := .inr (.inr (some 64))) rfl ?_
  refine zf_push fm_0 dF0_574 (v := .inr (.inr (some 30))) rfl ?_
  refine zf_push fm_0 dF0_575 (v := .inl i) rfl ?_
  refine zf_push fm_0 dF0_577 (v := .inl (1 : Int32)) rfl ?_
  refine zf_stk fm_0 dF0_578 (st₉ := [.inl (i + (1 : Int32)), .inr (.inr (some 30)), .inr (.inr (some 64))]) rfl rfl ?_
  obtain ⟨hg, h⟩ := h
  refine zf_one fm_0 dF0_579 (oo_sc hg) ?_
  refine zf_push fm_0 dF0_580 (v := .inr (.inr (some 30))) rfl ?_
  refine zf_push fm_0 dF0_581 (v := .inl i) rfl ?_
  refine zf_push fm_0 dF0_583 (v := .inl (2 : Int32)) rfl ?_
  refine zf_stk fm_0 dF0_584 (st₉ := [.inl (i + (2 : Int32)), .inr (.inr (some 30)), .inl (X.2 ((i + (1 : Int32))).toNatClampNeg), .inr (.inr (some 64))]) rfl rfl ?_
  obtain ⟨hg, h⟩ := h
  refine zf_one fm_0 dF0_585 (oo_sc hg) ?_
  refine zf_push fm_0 dF0_586 (v := .inr (.inr (some 125))) rfl ?_
  refine zf_cw fm_0 dF0_587 cw_127 fm_9 [.inr (.inr (some 125)), .inl (X.2 ((i + (2 : Int32))).toNatClampNeg), .inl (X.2 ((i + (1 : Int32))).toNatClampNeg), .inr (.inr (some 64))] [] rfl (by omega) (by omega) rfl (zf_mono h (zfi_go ?_))
  · intro v1 S2 hv
    obtain ⟨hS2, h⟩ := hv
    refine zf_sto fm_0 dF0_590 [(5, .inl v1), (0, .inr (.inr (some 30))), (1, .inr (.inr (some 64))), (2, .inr (.inr (some 94))), (3, .inr (.inr (some 125))), (4, .inl i)] rfl rfl rfl ?_
    refine zf_push fm_0 dF0_592 (v := .inr (.inr (some 94))) rfl ?_
    refine zf_push fm_0 dF0_593 (v := .inr (.inr (some 30))) rfl ?_
    refine zf_push fm_0 dF0_594 (v := .inl i) rfl ?_
    refine zf_push fm_0 dF0_596 (v := .inl (1 : Int32)) rfl ?_
    refine zf_stk fm_0 dF0_597 (st₉ := [.inl (i + (1 : Int32)), .inr (.inr (some 30)), .inr (.inr (some 94))]) rfl rfl ?_
    obtain ⟨hg, h⟩ := h
    refine zf_one fm_0 dF0_598 (oo_sc hg) ?_
    refine zf_push fm_0 dF0_599 (v := .inr (.inr (some 30))) rfl ?_
    refine zf_push fm_0 dF0_600 (v := .inl i) rfl ?_
    refine zf_push fm_0 dF0_602 (v := .inl (2 : Int32)) rfl ?_
    refine zf_stk fm_0 dF0_603 (st₉ := [.inl (i + (2 : Int32)), .inr (.inr (some 30)), .inl (X.2 ((i + (1 : Int32))).toNatClampNeg), .inr (.inr (some 94))]) rfl rfl ?_
    obtain ⟨hg, h⟩ := h
    refine zf_one fm_0 dF0_604 (oo_sc hg) ?_
    refine zf_cv fm_0 dF0_605 v_14_129_12 hm_250 [.inl (X.2 ((i + (2 : Int32))).toNatClampNeg), .inl (X.2 ((i + (1 : Int32))).toNatClampNeg)] [] rfl (zT_rt hS2 s_94 rfl) ⟨by omega, by omega⟩ rfl (zw_mono h (zi_go ?_ ?_))
    · intro v4 S3 hv
      obtain ⟨hS3, h⟩ := hv
      refine zf_sto fm_0 dF0_608 [(6, .inl v4), (5, .inl v1), (0, .inr (.inr (some 30))), (1, .inr (.inr (some 64))), (2, .inr (.inr (some 94))), (3, .inr (.inr (some 125))), (4, .inl i)] rfl rfl rfl ?_
      refine zf_goto fm_0 dF0_610 (t := 957) rfl ?_
      exact zf_sub (ma_nd_of (ks := [0, 1, 2, 3, 4]) rfl (by decide)) (ma_nd_of (ks := [6, 5, 0, 1, 2, 3, 4]) rfl (by decide)) (ma_le_cons rfl (ma_le_cons rfl (ma_le_cons rfl (ma_le_cons rfl (ma_le_cons rfl (ma_le_nil _)))))) h
    · intro x S9 hx
      exact hx.elim
theorem gl_613 {X : Nat × (Nat → Int32)} {d w : Nat} {S : ma_S} {Q : Option ma_V → ma_S → Prop} (i : Int32) (hd : 13 ≤ d) (hw : 494 ≤ w) (hS : zT S) (h : (0 ≤ (i + (1 : Int32)) ∧ ((i + (1 : Int32))).toNatClampNeg < X.1) ∧ ((0 ≤ (i + (2 : Int32)) ∧ ((i + (2 : Int32))).toNatClampNeg < X.1) ∧ (ma_fp X 10 (d - 1) (w - 24) 0 [(0, .inr (.inr (some 64))), (1, .inl (X.2 ((i + (1 : Int32))).toNatClampNeg)), (2, .inl (X.2 ((i + (2 : Int32))).toNatClampNeg)), (3, .inr (.inr (some 125)))] [] S (zfi_ (fun v1 S2 => zT S2 ∧ ((0 ≤ (i + (1 : Int32)) ∧ ((i + (1 : Int32))).toNatClampNeg < X.1) ∧ ((0 ≤ (i + (2 : Int32)) ∧ ((i + (2 : Int32))).toNatClampNeg < X.1) ∧ (ma_wp X (d - 1) (w - 24) 251 0 [(0, .inr (.inr (some 94))), (1, .inl (X.2 ((i + (1 : Int32))).toNatClampNeg)), (2, .inl (X.2 ((i + (2 : Int32))).toNatClampNeg))] [] S2 (zi (fun v4 S3 => zT S3 ∧ (ma_fp X 0 d w 957 [(0, .inr (.inr (some 30))), (1, .inr (.inr (some 64))), (2, .inr (.inr (some 94))), (3, .inr (.inr (some 125))), (4, .inl i)] [] S3 Q)) (fun _ _ => False)))))))))) : ma_fp X 0 d w 613 [(0, .inr (.inr (some 30))), (1, .inr (.inr (some 64))), (2, .inr (.inr (some 94))), (3, .inr (.inr (some 125))), (4, .inl i)] [] S Q := by
  refine zf_push fm_0 dF0_613 (v := .inr (.inr (some 64))) rfl ?_
  refine zf_push fm_0 dF0_614 (v := .inr (.inr (some 30))) rfl ?_
  refine zf_push fm_0 dF0_615 (v := .inl i) rfl ?_
  refine zf_push fm_0 dF0_617 (v := .inl (1 : Int32)) rfl ?_
  refine zf_stk fm_0 dF0_618 (st₉ := [.inl (i + (1 : Int32)), .inr (.inr (some 30)), .inr (.inr (some 64))]) rfl rfl ?_
  obtain ⟨hg, h⟩ := h
  refine zf_one fm_0 dF0_619 (oo_sc hg) ?_
  refine zf_push fm_0 dF0_620 (v := .inr (.inr (some 30))) rfl ?_
  refine zf_push fm_0 dF0_621 (v := .inl i) rfl ?_
  refine zf_push fm_0 dF0_623 (v := .inl (2 : Int32)) rfl ?_
  refine zf_stk fm_0 dF0_624 (st₉ := [.inl (i + (2 : Int32)), .inr (.inr (some 30)), .inl (X.2 ((i + (1 : Int32))).toNatClampNeg), .inr (.inr (some 64))]) rfl rfl ?_
  obtain ⟨hg, h⟩ := h
  refine zf_one fm_0 dF0_625 (oo_sc hg) ?_
  refine zf_push fm_0 dF0_626 (v := .inr (.inr (some 125))) rfl ?_
  refine zf_cw fm_0 dF0_627 cw_130 fm_10 [.inr (.inr (some 125)), .inl (X.2 ((i + (2 : Int32))).toNatClampNeg), .inl (X.2 ((i + (1 : Int32))).toNatClampNeg), .inr (.inr (some 64))] [] rfl (by omega) (by omega) rfl (zf_mono h (zfi_go ?_))
  · intro v1 S2 hv
    obtain ⟨hS2, h⟩ := hv
    refine zf_sto fm_0 dF0_630 [(5, .inl v1), (0, .inr (.inr (some 30))), (1, .inr (.inr (some 64))), (2, .inr (.inr (some 94))), (3, .inr (.inr (some 125))), (4, .inl i)] rfl rfl rfl ?_
    refine zf_push fm_0 dF0_632 (v := .inr (.inr (some 94))) rfl ?_
    refine zf_push fm_0 dF0_633 (v := .inr (.inr (some 30))) rfl ?_
    refine zf_push fm_0 dF0_634 (v := .inl i) rfl ?_
    refine zf_push fm_0 dF0_636 (v := .inl (1 : Int32)) rfl ?_
    refine zf_stk fm_0 dF0_637 (st₉ := [.inl (i + (1 : Int32)), .inr (.inr (some 30)), .inr (.inr (some 94))]) rfl rfl ?_
    obtain ⟨hg, h⟩ := h
    refine zf_one fm_0 dF0_638 (oo_sc hg) ?_
    refine zf_push fm_0 dF0_639 (v := .inr (.inr (some 30))) rfl ?_
    refine zf_push fm_0 dF0_640 (v := .inl i) rfl ?_
    refine zf_push fm_0 dF0_642 (v := .inl (2 : Int32)) rfl ?_
    refine zf_stk fm_0 dF0_643 (st₉ := [.inl (i + (2 : Int32)), .inr (.inr (some 30)), .inl (X.2 ((i + (1 : Int32))).toNatClampNeg), .inr (.inr (some 94))]) rfl rfl ?_
    obtain ⟨hg, h⟩ := h
    refine zf_one fm_0 dF0_644 (oo_sc hg) ?_
    refine zf_cv fm_0 dF0_645 v_14_132_12 hm_251 [.inl (X.2 ((i + (2 : Int32))).toNatClampNeg), .inl (X.2 ((i + (1 : Int32))).toNatClampNeg)] [] rfl (zT_rt hS2 s_94 rfl) ⟨by omega, by omega⟩ rfl (zw_mono h (zi_go ?_ ?_))
    · intro v4 S3 hv
      obtain ⟨hS3, h⟩ := hv
      refine zf_sto fm_0 dF0_648 [(6, .inl v4), (5, .inl v1), (0, .inr (.inr (some 30))), (1, .inr (.inr (some 64))), (2, .inr (.inr (some 94))), (3, .inr (.inr (some 125))), (4, .inl i)] rfl rfl rfl ?_
      refine zf_goto fm_0 dF0_650 (t := 957) rfl ?_
      exact zf_sub (ma_nd_of (ks := [0, 1, 2, 3, 4]) rfl (by decide)) (ma_nd_of (ks := [6, 5, 0, 1, 2, 3, 4]) rfl (by decide)) (ma_le_cons rfl (ma_le_cons rfl (ma_le_cons rfl (ma_le_cons rfl (ma_le_cons rfl (ma_le_nil _)))))) h
    · intro x S9 hx
      exact hx.elim
theorem gl_653 {X : Nat × (Nat → Int32)} {d w : Nat} {S : ma_S} {Q : Option ma_V → ma_S → Prop} (i : Int32) (hd : 13 ≤ d) (hw : 494 ≤ w) (hS : zT S) (h : (0 ≤ (i + (1 : Int32)) ∧ ((i + (1 : Int32))).toNatClampNeg < X.1) ∧ ((0 ≤ (i + (2 : Int32)) ∧ ((i + (2 : Int32))).toNatClampNeg < X.1) ∧ (ma_fp X 11 (d - 1) (w - 24) 0 [(0, .inr (.inr (some 64))), (1, .inl (X.2 ((i + (1 : Int32))).toNatClampNeg)), (2, .inl (X.2 ((i + (2 : Int32))).toNatClampNeg)), (3, .inr (.inr (some 125)))] [] S (zfi_ (fun v1 S2 => zT S2 ∧ ((0 ≤ (i + (1 : Int32)) ∧ ((i + (1 : Int32))).toNatClampNeg < X.1) ∧ ((0 ≤ (i + (2 : Int32)) ∧ ((i + (2 : Int32))).toNatClampNeg < X.1) ∧ (ma_wp X (d - 1) (w - 23) 252 0 [(0, .inr (.inr (some 94))), (1, .inl (X.2 ((i + (1 : Int32))).toNatClampNeg)), (2, .inl (X.2 ((i + (2 : Int32))).toNatClampNeg))] [] S2 (zi (fun v4 S3 => zT S3 ∧ (ma_fp X 0 d w 957 [(0, .inr (.inr (some 30))), (1, .inr (.inr (some 64))), (2, .inr (.inr (some 94))), (3, .inr (.inr (some 125))), (4, .inl i)] [] S3 Q)) (fun _ _ => False)))))))))) : ma_fp X 0 d w 653 [(0, .inr (.inr (some 30))), (1, .inr (.inr (some 64))), (2, .inr (.inr (some 94))), (3, .inr (.inr (some 125))), (4, .inl i)] [] S Q := by
  refine zf_push fm_0 dF0_653 (v := .inr (.inr (some 64))) rfl ?_
  refine zf_push fm_0 dF0_654 (v := .inr (.inr (some 30))) rfl ?_
  refine zf_push fm_0 dF0_655 (v := .inl i) rfl ?_
  refine zf_push fm_0 dF0_657 (v := .inl (1 : Int32)) rfl ?_
  refine zf_stk fm_0 dF0_658 (st₉ := [.inl (i + (1 : Int32)), .inr (.inr (some 30)), .inr (.inr (some 64))]) rfl rfl ?_
  obtain ⟨hg, h⟩ := h
  refine zf_one fm_0 dF0_659 (oo_sc hg) ?_
  refine zf_push fm_0 dF0_660 (v := .inr (.inr (some 30))) rfl ?_
  refine zf_push fm_0 dF0_661 (v := .inl i) rfl ?_
  refine zf_push fm_0 dF0_663 (v := .inl (2 : Int32)) rfl ?_
  refine zf_stk fm_0 dF0_664 (st₉ := [.inl (i + (2 : Int32)), .inr (.inr (some 30)), .inl (X.2 ((i + (1 : Int32))).toNatClampNeg), .inr (.inr (some 64))]) rfl rfl ?_
  obtain ⟨hg, h⟩ := h
  refine zf_one fm_0 dF0_665 (oo_sc hg) ?_
  refine zf_push fm_0 dF0_666 (v := .inr (.inr (some 125))) rfl ?_
  refine zf_cw fm_0 dF0_667 cw_133 fm_11 [.inr (.inr (some 125)), .inl (X.2 ((i + (2 : Int32))).toNatClampNeg), .inl (X.2 ((i + (1 : Int32))).toNatClampNeg), .inr (.inr (some 64))] [] rfl (by omega) (by omega) rfl (zf_mono h (zfi_go ?_))
  · intro v1 S2 hv
    obtain ⟨hS2, h⟩ := hv
    refine zf_sto fm_0 dF0_670 [(5, .inl v1), (0, .inr (.inr (some 30))), (1, .inr (.inr (some 64))), (2, .inr (.inr (some 94))), (3, .inr (.inr (some 125))), (4, .inl i)] rfl rfl rfl ?_
    refine zf_push fm_0 dF0_672 (v := .inr (.inr (some 94))) rfl ?_
    refine zf_push fm_0 dF0_673 (v := .inr (.inr (some 30))) rfl ?_
    refine zf_push fm_0 dF0_674 (v := .inl i) rfl ?_
    refine zf_push fm_0 dF0_676 (v := .inl (1 : Int32)) rfl ?_
    refine zf_stk fm_0 dF0_677 (st₉ := [.inl (i + (1 : Int32)), .inr (.inr (some 30)), .inr (.inr (some 94))]) rfl rfl ?_
    obtain ⟨hg, h⟩ := h
    refine zf_one fm_0 dF0_678 (oo_sc hg) ?_
    refine zf_push fm_0 dF0_679 (v := .inr (.inr (some 30))) rfl ?_
    refine zf_push fm_0 dF0_680 (v := .inl i) rfl ?_
    refine zf_push fm_0 dF0_682 (v := .inl (2 : Int32)) rfl ?_
    refine zf_stk fm_0 dF0_683 (st₉ := [.inl (i + (2 : Int32)), .inr (.inr (some 30)), .inl (X.2 ((i + (1 : Int32))).toNatClampNeg), .inr (.inr (some 94))]) rfl rfl ?_
    obtain ⟨hg, h⟩ := h
    refine zf_one fm_0 dF0_684 (oo_sc hg) ?_
    refine zf_cv fm_0 dF0_685 v_14_135_12 hm_252 [.inl (X.2 ((i + (2 : Int32))).toNatClampNeg), .inl (X.2 ((i + (1 : Int32))).toNatClampNeg)] [] rfl (zT_rt hS2 s_94 rfl) ⟨by omega, by omega⟩ rfl (zw_mono h (zi_go ?_ ?_))
    · intro v4 S3 hv
      obtain ⟨hS3, h⟩ := hv
      refine zf_sto fm_0 dF0_688 [(6, .inl v4), (5, .inl v1), (0, .inr (.inr (some 30))), (1, .inr (.inr (some 64))), (2, .inr (.inr (some 94))), (3, .inr (.inr (some 125))), (4, .inl i)] rfl rfl rfl ?_
      refine zf_goto fm_0 dF0_690 (t := 957) rfl ?_
      exact zf_sub (ma_nd_of (ks := [0, 1, 2, 3, 4]) rfl (by decide)) (ma_nd_of (ks := [6, 5, 0, 1, 2, 3, 4]) rfl (by decide)) (ma_le_cons rfl (ma_le_cons rfl (ma_le_cons rfl (ma_le_cons rfl (ma_le_cons rfl (ma_le_nil _)))))) h
    · intro x S9 hx
      exact hx.elim
theorem gl_693 {X : Nat × (Nat → Int32)} {d w : Nat} {S : ma_S} {Q : Option ma_V → ma_S → Prop} (i : Int32) (hd : 13 ≤ d) (hw : 494 ≤ w) (hS : zT S) (h : (0 ≤ (i + (1 : Int32)) ∧ ((i + (1 : Int32))).toNatClampNeg < X.1) ∧ ((0 ≤ (i + (2 : Int32)) ∧ ((i + (2 : Int32))).toNatClampNeg < X.1) ∧ (if (X.2 ((i + (2 : Int32))).toNatClampNeg) = 0 then (ma_fp X 12 (d - 1) (w - 24) 0 [(0, .inr (.inr (some 64))), (1, .inl (X.2 ((i + (1 : Int32))).toNatClampNeg)), (2, .inl (0 : Int32)), (3, .inr (.inr (some 125)))] [] S (zfi_ (fun v1 S2 => zT S2 ∧ ((0 ≤ (i + (1 : Int32)) ∧ ((i + (1 : Int32))).toNatClampNeg < X.1) ∧ ((0 ≤ (i + (2 : Int32)) ∧ ((i + (2 : Int32))).toNatClampNeg < X.1) ∧ (if (X.2 ((i + (2 : Int32))).toNatClampNeg) = 0 then (ma_wp X (d - 1) (w - 24) 253 0 [(0, .inr (.inr (some 94))), (1, .inl (X.2 ((i + (1 : Int32))).toNatClampNeg)), (2, .inl (0 : Int32))] [] S2 (zi (fun v4 S3 => zT S3 ∧ (ma_fp X 0 d w 957 [(0, .inr (.inr (some 30))), (1, .inr (.inr (some 64))), (2, .inr (.inr (some 94))), (3, .inr (.inr (some 125))), (4, .inl i)] [] S3 Q)) (fun _ _ => False))) else (ma_wp X (d - 1) (w - 24) 253 0 [(0, .inr (.inr (some 94))), (1, .inl (X.2 ((i + (1 : Int32))).toNatClampNeg)), (2, .inl (1 : Int32))] [] S2 (zi (fun v6 S5 => zT S5 ∧ (ma_fp X 0 d w 957 [(0, .inr (.inr (some 30))), (1, .inr (.inr (some 64))), (2, .inr (.inr (some 94))), (3, .inr (.inr (some 125))), (4, .inl i)] [] S5 Q)) (fun _ _ => False))))))))) else (ma_fp X 12 (d - 1) (w - 24) 0 [(0, .inr (.inr (some 64))), (1, .inl (X.2 ((i + (1 : Int32))).toNatClampNeg)), (2, .inl (1 : Int32)), (3, .inr (.inr (some 125)))] [] S (zfi_ (fun v7 S8 => zT S8 ∧ ((0 ≤ (i + (1 : Int32)) ∧ ((i + (1 : Int32))).toNatClampNeg < X.1) ∧ ((0 ≤ (i + (2 : Int32)) ∧ ((i + (2 : Int32))).toNatClampNeg < X.1) ∧ (if (X.2 ((i + (2 : Int32))).toNatClampNeg) = 0 then (ma_wp X (d - 1) (w - 24) 253 0 [(0, .inr (.inr (some 94))), (1, .inl (X.2 ((i + (1 : Int32))).toNatClampNeg)), (2, .inl (0 : Int32))] [] S8 (zi (fun v10 S9 => zT S9 ∧ (ma_fp X 0 d w 957 [(0, .inr (.inr (some 30))), (1, .inr (.inr (some 64))), (2, .inr (.inr (some 94))), (3, .inr (.inr (some 125))), (4, .inl i)] [] S9 Q)) (fun _ _ => False))) else (ma_wp X (d - 1) (w - 24) 253 0 [(0, .inr (.inr (some 94))), (1, .inl (X.2 ((i + (1 : Int32))).toNatClampNeg)), (2, .inl (1 : Int32))] [] S8 (zi (fun v12 S11 => zT S11 ∧ (ma_fp X 0 d w 957 [(0, .inr (.inr (some 30))), (1, .inr (.inr (some 64))), (2, .inr (.inr (some 94))), (3, .inr (.inr (some 125))), (4, .inl i)] [] S11 Q)) (fun _ _ => False)))))))))))) : ma_fp X 0 d w 693 [(0, .inr (.inr (some 30))), (1, .inr (.inr (some 64))), (2, .inr (.inr (some 94))), (3, .inr (.inr (some 125))), (4, .inl i)] [] S Q := by
  refine zf_push fm_0 dF0_693 (v := .inr (.inr (some 64))) rfl ?_
  refine zf_push fm_0 dF0_694 (v := .inr (.inr (some 30))) rfl ?_
  refine zf_push fm_0 dF0_695 (v := .inl i) rfl ?_
  refine zf_push fm_0 dF0_697 (v := .inl (1 : Int32)) rfl ?_
  refine zf_stk fm_0 dF0_698 (st₉ := [.inl (i + (1 : Int32)), .inr (.inr (some 30)), .inr (.inr (some 64))]) rfl rfl ?_
  obtain ⟨hg, h⟩ := h
  refine zf_one fm_0 dF0_699 (oo_sc hg) ?_
  refine zf_push fm_0 dF0_700 (v := .inr (.inr (some 30))) rfl ?_
  refine zf_push fm_0 dF0_701 (v := .inl i) rfl ?_
  refine zf_push fm_0 dF0_703 (v := .inl (2 : Int32)) rfl ?_
  refine zf_stk fm_0 dF0_704 (st₉ := [.inl (i + (2 : Int32)), .inr (.inr (some 30)), .inl (X.2 ((i + (1 : Int32))).toNatClampNeg), .inr (.inr (some 64))]) rfl rfl ?_
  obtain ⟨hg, h⟩ := h
  refine zf_one fm_0 dF0_705 (oo_sc hg) ?_
  refine zf_if0 fm_0 dF0_706 (t := 713) rfl zc0_eq ?_ ?_
  · intro hc
    rw [if_pos hc] at h
    refine zf_push fm_0 dF0_713 (v := .inl (0 : Int32)) rfl ?_
    refine zf_push fm_0 dF0_714 (v := .inr (.inr (some 125))) rfl ?_
    refine zf_cw fm_0 dF0_715 cw_136 fm_12 [.inr (.inr (some 125)), .inl (0 : Int32), .inl (X.2 ((i + (1 : Int32))).toNatClampNeg), .inr (.inr (some 64))] [] rfl (by omega) (by omega) rfl (zf_mono h (zfi_go ?_))
    · intro v1 S2 hv
      obtain ⟨hS2, h⟩ := hv
      refine zf_sto fm_0 dF0_718 [(5, .inl v1), (0, .inr (.inr (some 30))), (1, .inr (.inr (some 64))), (2, .inr (.inr (some 94))), (3, .inr (.inr (some 125))), (4, .inl i)] rfl rfl rfl ?_
      refine zf_push fm_0 dF0_720 (v := .inr (.inr (some 94))) rfl ?_
      refine zf_push fm_0 dF0_721 (v := .inr (.inr (some 30))) rfl ?_
      refine zf_push fm_0 dF0_722 (v := .inl i) rfl ?_
      refine zf_push fm_0 dF0_724 (v := .inl (1 : Int32)) rfl ?_
      refine zf_stk fm_0 dF0_725 (st₉ := [.inl (i + (1 : Int32)), .inr (.inr (some 30)), .inr (.inr (some 94))]) rfl rfl ?_
      obtain ⟨hg, h⟩ := h
      refine zf_one fm_0 dF0_726 (oo_sc hg) ?_
      refine zf_push fm_0 dF0_727 (v := .inr (.inr (some 30))) rfl ?_
      refine zf_push fm_0 dF0_728 (v := .inl i) rfl ?_
      refine zf_push fm_0 dF0_730 (v := .inl (2 : Int32)) rfl ?_
      refine zf_stk fm_0 dF0_731 (st₉ := [.inl (i + (2 : Int32)), .inr (.inr (some 30)), .inl (X.2 ((i + (1 : Int32))).toNatClampNeg), .inr (.inr (some 94))]) rfl rfl ?_
      obtain ⟨hg, h⟩ := h
      refine zf_one fm_0 dF0_732 (oo_sc hg) ?_
      refine zf_if0 fm_0 dF0_733 (t := 740) rfl zc0_eq ?_ ?_
      · intro hc
        rw [if_pos hc] at h
        refine zf_push fm_0 dF0_740 (v := .inl (0 : Int32)) rfl ?_
        refine zf_cv fm_0 dF0_741 v_14_139_12 hm_253 [.inl (0 : Int32), .inl (X.2 ((i + (1 : Int32))).toNatClampNeg)] [] rfl (zT_rt hS2 s_94 rfl) ⟨by omega, by omega⟩ rfl (zw_mono h (zi_go ?_ ?_))
        · intro v4 S3 hv
          obtain ⟨hS3, h⟩ := hv
          refine zf_sto fm_0 dF0_744 [(6, .inl v4), (5, .inl v1), (0, .inr (.inr (some 30))), (1, .inr (.inr (some 64))), (2, .inr (.inr (some 94))), (3, .inr (.inr (some 125))), (4, .inl i)] rfl rfl rfl ?_
          refine zf_goto fm_0 dF0_746 (t := 957) rfl ?_
          exact zf_sub (ma_nd_of (ks := [0, 1, 2, 3, 4]) rfl (by decide)) (ma_nd_of (ks := [6, 5, 0, 1, 2, 3, 4]) rfl (by decide)) (ma_le_cons rfl (ma_le_cons rfl (ma_le_cons rfl (ma_le_cons rfl (ma_le_cons rfl (ma_le_nil _)))))) h
        · intro x S9 hx
          exact hx.elim
      · intro hc
        rw [if_neg hc] at h
        refine zf_push fm_0 dF0_736 (v := .inl (1 : Int32)) rfl ?_
        refine zf_goto fm_0 dF0_737 (t := 741) rfl ?_
        refine zf_cv fm_0 dF0_741 v_14_139_12 hm_253 [.inl (1 : Int32), .inl (X.2 ((i + (1 : Int32))).toNatClampNeg)] [] rfl (zT_rt hS2 s_94 rfl) ⟨by omega, by omega⟩ rfl (zw_mono h (zi_go ?_ ?_))
        · intro v6 S5 hv
          obtain ⟨hS5, h⟩ := hv
          refine zf_sto fm_0 dF0_744 [(6, .inl v6), (5, .inl v1), (0, .inr (.inr (some 30))), (1, .inr (.inr (some 64))), (2, .inr (.inr (some 94))), (3, .inr (.inr (some 125))), (4, .inl i)] rfl rfl rfl ?_
          refine zf_goto fm_0 dF0_746 (t := 957) rfl ?_
          exact zf_sub (ma_nd_of (ks := [0, 1, 2, 3, 4]) rfl (by decide)) (ma_nd_of (ks := [6, 5, 0, 1, 2, 3, 4]) rfl (by decide)) (ma_le_cons rfl (ma_le_cons rfl (ma_le_cons rfl (ma_le_cons rfl (ma_le_cons rfl (ma_le_nil _)))))) h
        · intro x S9 hx
          exact hx.elim
  · intro hc
    rw [if_neg hc] at h
    refine zf_push fm_0 dF0_709 (v := .inl (1 : Int32)) rfl ?_
    refine zf_goto fm_0 dF0_710 (t := 714) rfl ?_
    refine zf_push fm_0 dF0_714 (v := .inr (.inr (some 125))) rfl ?_
    refine zf_cw fm_0 dF0_715 cw_136 fm_12 [.inr (.inr (some 125)), .inl (1 : Int32), .inl (X.2 ((i + (1 : Int32))).toNatClampNeg), .inr (.inr (some 64))] [] rfl (by omega) (by omega) rfl (zf_mono h (zfi_go ?_))
    · intro v7 S8 hv
      obtain ⟨hS8, h⟩ := hv
      refine zf_sto fm_0 dF0_718 [(5, .inl v7), (0, .inr (.inr (some 30))), (1, .inr (.inr (some 64))), (2, .inr (.inr (some 94))), (3, .inr (.inr (some 125))), (4, .inl i)] rfl rfl rfl ?_
      refine zf_push fm_0 dF0_720 (v := .inr (.inr (some 94))) rfl ?_
      refine zf_push fm_0 dF0_721 (v := .inr (.inr (some 30))) rfl ?_
      refine zf_push fm_0 dF0_722 (v := .inl i) rfl ?_
      refine zf_push fm_0 dF0_724 (v := .inl (1 : Int32)) rfl ?_
      refine zf_stk fm_0 dF0_725 (st₉ := [.inl (i + (1 : Int32)), .inr (.inr (some 30)), .inr (.inr (some 94))]) rfl rfl ?_
      obtain ⟨hg, h⟩ := h
      refine zf_one fm_0 dF0_726 (oo_sc hg) ?_
      refine zf_push fm_0 dF0_727 (v := .inr (.inr (some 30))) rfl ?_
      refine zf_push fm_0 dF0_728 (v := .inl i) rfl ?_
      refine zf_push fm_0 dF0_730 (v := .inl (2 : Int32)) rfl ?_
      refine zf_stk fm_0 dF0_731 (st₉ := [.inl (i + (2 : Int32)), .inr (.inr (some 30)), .inl (X.2 ((i + (1 : Int32))).toNatClampNeg), .inr (.inr (some 94))]) rfl rfl ?_
      obtain ⟨hg, h⟩ := h
      refine zf_one fm_0 dF0_732 (oo_sc hg) ?_
      refine zf_if0 fm_0 dF0_733 (t := 740) rfl zc0_eq ?_ ?_
      · intro hc
        rw [if_pos hc] at h
        refine zf_push fm_0 dF0_740 (v := .inl (0 : Int32)) rfl ?_
        refine zf_cv fm_0 dF0_741 v_14_139_12 hm_253 [.inl (0 : Int32), .inl (X.2 ((i + (1 : Int32))).toNatClampNeg)] [] rfl (zT_rt hS8 s_94 rfl) ⟨by omega, by omega⟩ rfl (zw_mono h (zi_go ?_ ?_))
        · intro v10 S9 hv
          obtain ⟨hS9, h⟩ := hv
          refine zf_sto fm_0 dF0_744 [(6, .inl v10), (5, .inl v7), (0, .inr (.inr (some 30))), (1, .inr (.inr (some 64))), (2, .inr (.inr (some 94))), (3, .inr (.inr (some 125))), (4, .inl i)] rfl rfl rfl ?_
          refine zf_goto fm_0 dF0_746 (t := 957) rfl ?_
          exact zf_sub (ma_nd_of (ks := [0, 1, 2, 3, 4]) rfl (by decide)) (ma_nd_of (ks := [6, 5, 0, 1, 2, 3, 4]) rfl (by decide)) (ma_le_cons rfl (ma_le_cons rfl (ma_le_cons rfl (ma_le_cons rfl (ma_le_cons rfl (ma_le_nil _)))))) h
        · intro x S9 hx
          exact hx.elim
      · intro hc
        rw [if_neg hc] at h
        refine zf_push fm_0 dF0_736 (v := .inl (1 : Int32)) rfl ?_
        refine zf_goto fm_0 dF0_737 (t := 741) rfl ?_
        refine zf_cv fm_0 dF0_741 v_14_139_12 hm_253 [.inl (1 : Int32), .inl (X.2 ((i + (1 : Int32))).toNatClampNeg)] [] rfl (zT_rt hS8 s_94 rfl) ⟨by omega, by omega⟩ rfl (zw_mono h (zi_go ?_ ?_))
        · intro v12 S11 hv
          obtain ⟨hS11, h⟩ := hv
          refine zf_sto fm_0 dF0_744 [(6, .inl v12), (5, .inl v7), (0, .inr (.inr (some 30))), (1, .inr (.inr (some 64))), (2, .inr (.inr (some 94))), (3, .inr (.inr (some 125))), (4, .inl i)] rfl rfl rfl ?_
          refine zf_goto fm_0 dF0_746 (t := 957) rfl ?_
          exact zf_sub (ma_nd_of (ks := [0, 1, 2, 3, 4]) rfl (by decide)) (ma_nd_of (ks := [6, 5, 0, 1, 2, 3, 4]) rfl (by decide)) (ma_le_cons rfl (ma_le_cons rfl (ma_le_cons rfl (ma_le_cons rfl (ma_le_cons rfl (ma_le_nil _)))))) h
        · intro x S9 hx
          exact hx.elim
theorem gl_749 {X : Nat × (Nat → Int32)} {d w : Nat} {S : ma_S} {Q : Option ma_V → ma_S → Prop} (i : Int32) (hd : 13 ≤ d) (hw : 494 ≤ w) (hS : zT S) (h : (0 ≤ (i + (1 : Int32)) ∧ ((i + (1 : Int32))).toNatClampNeg < X.1) ∧ (ma_fp X 13 (d - 1) (w - 23) 0 [(0, .inr (.inr (some 64))), (1, .inl (X.2 ((i + (1 : Int32))).toNatClampNeg)), (2, .inr (.inr (some 125)))] [] S (zfi_ (fun v1 S2 => zT S2 ∧ ((0 ≤ (i + (1 : Int32)) ∧ ((i + (1 : Int32))).toNatClampNeg < X.1) ∧ (ma_wp X (d - 1) (w - 23) 254 0 [(0, .inr (.inr (some 94))), (1, .inl (X.2 ((i + (1 : Int32))).toNatClampNeg))] [] S2 (zi (fun v4 S3 => zT S3 ∧ (ma_fp X 0 d w 957 [(0, .inr (.inr (some 30))), (1, .inr (.inr (some 64))), (2, .inr (.inr (some 94))), (3, .inr (.inr (some 125))), (4, .inl i)] [] S3 Q)) (fun _ _ => False)))))))) : ma_fp X 0 d w 749 [(0, .inr (.inr (some 30))), (1, .inr (.inr (some 64))), (2, .inr (.inr (some 94))), (3, .inr (.inr (some 125))), (4, .inl i)] [] S Q := by
  refine zf_push fm_0 dF0_749 (v := .inr (.inr (some 64))) rfl ?_
  refine zf_push fm_0 dF0_750 (v := .inr (.inr (some 30))) rfl ?_
  refine zf_push fm_0 dF0_751 (v := .inl i) rfl ?_
  refine zf_push fm_0 dF0_753 (v := .inl (1 : Int32)) rfl ?_
  refine zf_stk fm_0 dF0_754 (st₉ := [.inl (i + (1 : Int32)), .inr (.inr (some 30)), .inr (.inr (some 64))]) rfl rfl ?_
  obtain ⟨hg, h⟩ := h
  refine zf_one fm_0 dF0_755 (oo_sc hg) ?_
  refine zf_push fm_0 dF0_756 (v := .inr (.inr (some 125))) rfl ?_
  refine zf_cw fm_0 dF0_757 cw_140 fm_13 [.inr (.inr (some 125)), .inl (X.2 ((i + (1 : Int32))).toNatClampNeg), .inr (.inr (some 64))] [] rfl (by omega) (by omega) rfl (zf_mono h (zfi_go ?_))
  · intro v1 S2 hv
    obtain ⟨hS2, h⟩ := hv
    refine zf_sto fm_0 dF0_760 [(5, .inl v1), (0, .inr (.inr (some 30))), (1, .inr (.inr (some 64))), (2, .inr (.inr (some 94))), (3, .inr (.inr (some 125))), (4, .inl i)] rfl rfl rfl ?_
    refine zf_push fm_0 dF0_762 (v := .inr (.inr (some 94))) rfl ?_
    refine zf_push fm_0 dF0_763 (v := .inr (.inr (some 30))) rfl ?_
    refine zf_push fm_0 dF0_764 (v := .inl i) rfl ?_
    refine zf_push fm_0 dF0_766 (v := .inl (1 : Int32)) rfl ?_
    refine zf_stk fm_0 dF0_767 (st₉ := [.inl (i + (1 : Int32)), .inr (.inr (some 30)), .inr (.inr (some 94))]) rfl rfl ?_
    obtain ⟨hg, h⟩ := h
    refine zf_one fm_0 dF0_768 (oo_sc hg) ?_
    refine zf_cv fm_0 dF0_769 v_14_142_12 hm_254 [.inl (X.2 ((i + (1 : Int32))).toNatClampNeg)] [] rfl (zT_rt hS2 s_94 rfl) ⟨by omega, by omega⟩ rfl (zw_mono h (zi_go ?_ ?_))
    · intro v4 S3 hv
      obtain ⟨hS3, h⟩ := hv
      refine zf_sto fm_0 dF0_772 [(6, .inl v4), (5, .inl v1), (0, .inr (.inr (some 30))), (1, .inr (.inr (some 64))), (2, .inr (.inr (some 94))), (3, .inr (.inr (some 125))), (4, .inl i)] rfl rfl rfl ?_
      refine zf_goto fm_0 dF0_774 (t := 957) rfl ?_
      exact zf_sub (ma_nd_of (ks := [0, 1, 2, 3, 4]) rfl (by decide)) (ma_nd_of (ks := [6, 5, 0, 1, 2, 3, 4]) rfl (by decide)) (ma_le_cons rfl (ma_le_cons rfl (ma_le_cons rfl (ma_le_cons rfl (ma_le_cons rfl (ma_le_nil _)))))) h
    · intro x S9 hx
      exact hx.elim
theorem gl_777 {X : Nat × (Nat → Int32)} {d w : Nat} {S : ma_S} {Q : Option ma_V → ma_S → Prop} (i : Int32) (hd : 13 ≤ d) (hw : 494 ≤ w) (hS : zT S) (h : (0 ≤ (i + (1 : Int32)) ∧ ((i + (1 : Int32))).toNatClampNeg < X.1) ∧ (ma_fp X 14 (d - 1) (w - 23) 0 [(0, .inr (.inr (some 64))), (1, .inl (X.2 ((i + (1 : Int32))).toNatClampNeg)), (2, .inr (.inr (some 125)))] [] S (zfi_ (fun v1 S2 => zT S2 ∧ ((0 ≤ (i + (1 : Int32)) ∧ ((i + (1 : Int32))).toNatClampNeg < X.1) ∧ (ma_wp X (d - 1) (w - 23) 255 0 [(0, .inr (.inr (some 94))), (1, .inl (X.2 ((i + (1 : Int32))).toNatClampNeg))] [] S2 (zi (fun v4 S3 => zT S3 ∧ (ma_fp X 0 d w 957 [(0, .inr (.inr (some 30))), (1, .inr (.inr (some 64))), (2, .inr (.inr (some 94))), (3, .inr (.inr (some 125))), (4, .inl i)] [] S3 Q)) (fun _ _ => False)))))))) : ma_fp X 0 d w 777 [(0, .inr (.inr (some 30))), (1, .inr (.inr (some 64))), (2, .inr (.inr (some 94))), (3, .inr (.inr (some 125))), (4, .inl i)] [] S Q := by
  refine zf_push fm_0 dF0_777 (v := .inr (.inr (some 64))) rfl ?_
  refine zf_push fm_0 dF0_778 (v := .inr (.inr (some 30))) rfl ?_
  refine zf_push fm_0 dF0_779 (v := .inl i) rfl ?_
  refine zf_push fm_0 dF0_781 (v := .inl (1 : Int32)) rfl ?_
  refine zf_stk fm_0 dF0_782 (st₉ := [.inl (i + (1 : Int32)), .inr (.inr (some 30)), .inr (.inr (some 64))]) rfl rfl ?_
  obtain ⟨hg, h⟩ := h
  refine zf_one fm_0 dF0_783 (oo_sc hg) ?_
  refine zf_push fm_0 dF0_784 (v := .inr (.inr (some 125))) rfl ?_
  refine zf_cw fm_0 dF0_785 cw_143 fm_14 [.inr (.inr (some 125)), .inl (X.2 ((i + (1 : Int32))).toNatClampNeg), .inr (.inr (some 64))] [] rfl (by omega) (by omega) rfl (zf_mono h (zfi_go ?_))
  · intro v1 S2 hv
    obtain ⟨hS2, h⟩ := hv
    refine zf_sto fm_0 dF0_788 [(5, .inl v1), (0, .inr (.inr (some 30))), (1, .inr (.inr (some 64))), (2, .inr (.inr (some 94))), (3, .inr (.inr (some 125))), (4, .inl i)] rfl rfl rfl ?_
    refine zf_push fm_0 dF0_790 (v := .inr (.inr (some 94))) rfl ?_
    refine zf_push fm_0 dF0_791 (v := .inr (.inr (some 30))) rfl ?_
    refine zf_push fm_0 dF0_792 (v := .inl i) rfl ?_
    refine zf_push fm_0 dF0_794 (v := .inl (1 : Int32)) rfl ?_
    refine zf_stk fm_0 dF0_795 (st₉ := [.inl (i + (1 : Int32)), .inr (.inr (some 30)), .inr (.inr (some 94))]) rfl rfl ?_
    obtain ⟨hg, h⟩ := h
    refine zf_one fm_0 dF0_796 (oo_sc hg) ?_
    refine zf_cv fm_0 dF0_797 v_14_145_12 hm_255 [.inl (X.2 ((i + (1 : Int32))).toNatClampNeg)] [] rfl (zT_rt hS2 s_94 rfl) ⟨by omega, by omega⟩ rfl (zw_mono h (zi_go ?_ ?_))
    · intro v4 S3 hv
      obtain ⟨hS3, h⟩ := hv
      refine zf_sto fm_0 dF0_800 [(6, .inl v4), (5, .inl v1), (0, .inr (.inr (some 30))), (1, .inr (.inr (some 64))), (2, .inr (.inr (some 94))), (3, .inr (.inr (some 125))), (4, .inl i)] rfl rfl rfl ?_
      refine zf_goto fm_0 dF0_802 (t := 957) rfl ?_
      exact zf_sub (ma_nd_of (ks := [0, 1, 2, 3, 4]) rfl (by decide)) (ma_nd_of (ks := [6, 5, 0, 1, 2, 3, 4]) rfl (by decide)) (ma_le_cons rfl (ma_le_cons rfl (ma_le_cons rfl (ma_le_cons rfl (ma_le_cons rfl (ma_le_nil _)))))) h
    · intro x S9 hx
      exact hx.elim
theorem gl_805 {X : Nat × (Nat → Int32)} {d w : Nat} {S : ma_S} {Q : Option ma_V → ma_S → Prop} (i : Int32) (hd : 13 ≤ d) (hw : 494 ≤ w) (hS : zT S) (h : ma_fp X 15 (d - 1) (w - 22) 0 [(0, .inr (.inr (some 64))), (1, .inr (.inr (some 125)))] [] S (zfi_ (fun v1 S2 => zT S2 ∧ (ma_wp X (d - 1) (w - 21) 256 0 [(0, .inr (.inr (some 94)))] [] S2 (zi (fun v4 S3 => zT S3 ∧ (ma_fp X 0 d w 957 [(0, .inr (.inr (some 30))), (1, .inr (.inr (some 64))), (2, .inr (.inr (some 94))), (3, .inr (.inr (some 125))), (4, .inl i)] [] S3 Q)) (fun _ _ => False)))))) : ma_fp X 0 d w 805 [(0, .inr (.inr (some 30))), (1, .inr (.inr (some 64))), (2, .inr (.inr (some 94))), (3, .inr (.inr (some 125))), (4, .inl i)] [] S Q := by
  refine zf_push fm_0 dF0_805 (v := .inr (.inr (some 64))) rfl ?_
  refine zf_push fm_0 dF0_806 (v := .inr (.inr (some 125))) rfl ?_
  refine zf_cw fm_0 dF0_807 cw_146 fm_15 [.inr (.inr (some 125)), .inr (.inr (some 64))] [] rfl (by omega) (by omega) rfl (zf_mono h (zfi_go ?_))
  · intro v1 S2 hv
    obtain ⟨hS2, h⟩ := hv
    refine zf_sto fm_0 dF0_810 [(5, .inl v1), (0, .inr (.inr (some 30))), (1, .inr (.inr (some 64))), (2, .inr (.inr (some 94))), (3, .inr (.inr (some 125))), (4, .inl i)] rfl rfl rfl ?_
    refine zf_push fm_0 dF0_812 (v := .inr (.inr (some 94))) rfl ?_
    refine zf_cv fm_0 dF0_813 v_14_149_12 hm_256 [] [] rfl (zT_rt hS2 s_94 rfl) ⟨by omega, by omega⟩ rfl (zw_mono h (zi_go ?_ ?_))
    · intro v4 S3 hv
      obtain ⟨hS3, h⟩ := hv
      refine zf_sto fm_0 dF0_816 [(6, .inl v4), (5, .inl v1), (0, .inr (.inr (some 30))), (1, .inr (.inr (some 64))), (2, .inr (.inr (some 94))), (3, .inr (.inr (some 125))), (4, .inl i)] rfl rfl rfl ?_
      refine zf_goto fm_0 dF0_818 (t := 957) rfl ?_
      exact zf_sub (ma_nd_of (ks := [0, 1, 2, 3, 4]) rfl (by decide)) (ma_nd_of (ks := [6, 5, 0, 1, 2, 3, 4]) rfl (by decide)) (ma_le_cons rfl (ma_le_cons rfl (ma_le_cons rfl (ma_le_cons rfl (ma_le_cons rfl (ma_le_nil _)))))) h
    · intro x S9 hx
      exact hx.elim
theorem gl_821 {X : Nat × (Nat → Int32)} {d w : Nat} {S : ma_S} {Q : Option ma_V → ma_S → Prop} (i : Int32) (hd : 13 ≤ d) (hw : 494 ≤ w) (hS : zT S) (h : (0 ≤ (i + (1 : Int32)) ∧ ((i + (1 : Int32))).toNatClampNeg < X.1) ∧ (ma_fp X 16 (d - 1) (w - 23) 0 [(0, .inr (.inr (some 64))), (1, .inl (X.2 ((i + (1 : Int32))).toNatClampNeg)), (2, .inr (.inr (some 125)))] [] S (zfi_ (fun v1 S2 => zT S2 ∧ ((0 ≤ (i + (1 : Int32)) ∧ ((i + (1 : Int32))).toNatClampNeg < X.1) ∧ (ma_wp X (d - 1) (w - 23) 257 0 [(0, .inr (.inr (some 94))), (1, .inl (X.2 ((i + (1 : Int32))).toNatClampNeg))] [] S2 (zi (fun v4 S3 => zT S3 ∧ (ma_fp X 0 d w 957 [(0, .inr (.inr (some 30))), (1, .inr (.inr (some 64))), (2, .inr (.inr (some 94))), (3, .inr (.inr (some 125))), (4, .inl i)] [] S3 Q)) (fun _ _ => False)))))))) : ma_fp X 0 d w 821 [(0, .inr (.inr (some 30))), (1, .inr (.inr (some 64))), (2, .inr (.inr (some 94))), (3, .inr (.inr (some 125))), (4, .inl i)] [] S Q := by
  refine zf_push fm_0 dF0_821 (v := .inr (.inr (some 64))) rfl ?_
  refine zf_push fm_0 dF0_822 (v := .inr (.inr (some 30))) rfl ?_
  refine zf_push fm_0 dF0_823 (v := .inl i) rfl ?_
  refine zf_push fm_0 dF0_825 (v := .inl (1 : Int32)) rfl ?_
  refine zf_stk fm_0 dF0_826 (st₉ := [.inl (i + (1 : Int32)), .inr (.inr (some 30)), .inr (.inr (some 64))]) rfl rfl ?_
  obtain ⟨hg, h⟩ := h
  refine zf_one fm_0 dF0_827 (oo_sc hg) ?_
  refine zf_push fm_0 dF0_828 (v := .inr (.inr (some 125))) rfl ?_
  refine zf_cw fm_0 dF0_829 cw_150 fm_16 [.inr (.inr (some 125)), .inl (X.2 ((i + (1 : Int32))).toNatClampNeg), .inr (.inr (some 64))] [] rfl (by omega) (by omega) rfl (zf_mono h (zfi_go ?_))
  · intro v1 S2 hv
    obtain ⟨hS2, h⟩ := hv
    refine zf_sto fm_0 dF0_832 [(5, .inl v1), (0, .inr (.inr (some 30))), (1, .inr (.inr (some 64))), (2, .inr (.inr (some 94))), (3, .inr (.inr (some 125))), (4, .inl i)] rfl rfl rfl ?_
    refine zf_push fm_0 dF0_834 (v := .inr (.inr (some 94))) rfl ?_
    refine zf_push fm_0 dF0_835 (v := .inr (.inr (some 30))) rfl ?_
    refine zf_push fm_0 dF0_836 (v := .inl i) rfl ?_
    refine zf_push fm_0 dF0_838 (v := .inl (1 : Int32)) rfl ?_
    refine zf_stk fm_0 dF0_839 (st₉ := [.inl (i + (1 : Int32)), .inr (.inr (some 30)), .inr (.inr (some 94))]) rfl rfl ?_
    obtain ⟨hg, h⟩ := h
    refine zf_one fm_0 dF0_840 (oo_sc hg) ?_
    refine zf_cv fm_0 dF0_841 v_14_152_12 hm_257 [.inl (X.2 ((i + (1 : Int32))).toNatClampNeg)] [] rfl (zT_rt hS2 s_94 rfl) ⟨by omega, by omega⟩ rfl (zw_mono h (zi_go ?_ ?_))
    · intro v4 S3 hv
      obtain ⟨hS3, h⟩ := hv
      refine zf_sto fm_0 dF0_844 [(6, .inl v4), (5, .inl v1), (0, .inr (.inr (some 30))), (1, .inr (.inr (some 64))), (2, .inr (.inr (some 94))), (3, .inr (.inr (some 125))), (4, .inl i)] rfl rfl rfl ?_
      refine zf_goto fm_0 dF0_846 (t := 957) rfl ?_
      exact zf_sub (ma_nd_of (ks := [0, 1, 2, 3, 4]) rfl (by decide)) (ma_nd_of (ks := [6, 5, 0, 1, 2, 3, 4]) rfl (by decide)) (ma_le_cons rfl (ma_le_cons rfl (ma_le_cons rfl (ma_le_cons rfl (ma_le_cons rfl (ma_le_nil _)))))) h
    · intro x S9 hx
      exact hx.elim
theorem gl_849 {X : Nat × (Nat → Int32)} {d w : Nat} {S : ma_S} {Q : Option ma_V → ma_S → Prop} (i : Int32) (hd : 13 ≤ d) (hw : 494 ≤ w) (hS : zT S) (h : (0 ≤ (i + (1 : Int32)) ∧ ((i + (1 : Int32))).toNatClampNeg < X.1) ∧ ((0 ≤ (i + (2 : Int32)) ∧ ((i + (2 : Int32))).toNatClampNeg < X.1) ∧ (ma_fp X 17 (d - 1) (w - 24) 0 [(0, .inr (.inr (some 64))), (1, .inl (X.2 ((i + (1 : Int32))).toNatClampNeg)), (2, .inl (X.2 ((i + (2 : Int32))).toNatClampNeg)), (3, .inr (.inr (some 125)))] [] S (zfi_ (fun v1 S2 => zT S2 ∧ ((0 ≤ (i + (1 : Int32)) ∧ ((i + (1 : Int32))).toNatClampNeg < X.1) ∧ ((0 ≤ (i + (2 : Int32)) ∧ ((i + (2 : Int32))).toNatClampNeg < X.1) ∧ (ma_wp X (d - 1) (w - 23) 258 0 [(0, .inr (.inr (some 94))), (1, .inl (X.2 ((i + (1 : Int32))).toNatClampNeg)), (2, .inl (X.2 ((i + (2 : Int32))).toNatClampNeg))] [] S2 (zi (fun v4 S3 => zT S3 ∧ (ma_fp X 0 d w 957 [(0, .inr (.inr (some 30))), (1, .inr (.inr (some 64))), (2, .inr (.inr (some 94))), (3, .inr (.inr (some 125))), (4, .inl i)] [] S3 Q)) (fun _ _ => False)))))))))) : ma_fp X 0 d w 849 [(0, .inr (.inr (some 30))), (1, .inr (.inr (some 64))), (2, .inr (.inr (some 94))), (3, .inr (.inr (some 125))), (4, .inl i)] [] S Q := by
  refine zf_push fm_0 dF0_849 (v := .inr (.inr (some 64))) rfl ?_
  refine zf_push fm_0 dF0_850 (v := .inr (.inr (some 30))) rfl ?_
  refine zf_push fm_0 dF0_851 (v := .inl i) rfl ?_
  refine zf_push fm_0 dF0_853 (v := .inl (1 : Int32)) rfl ?_
  refine zf_stk fm_0 dF0_854 (st₉ := [.inl (i + (1 : Int32)), .inr (.inr (some 30)), .inr (.inr (some 64))]) rfl rfl ?_
  obtain ⟨hg, h⟩ := h
  refine zf_one fm_0 dF0_855 (oo_sc hg) ?_
  refine zf_push fm_0 dF0_856 (v := .inr (.inr (some 30))) rfl ?_
  refine zf_push fm_0 dF0_857 (v := .inl i) rfl ?_
  refine zf_push fm_0 dF0_859 (v := .inl (2 : Int32)) rfl ?_
  refine zf_stk fm_0 dF0_860 (st₉ := [.inl (i + (2 : Int32)), .inr (.inr (some 30)), .inl (X.2 ((i + (1 : Int32))).toNatClampNeg), .inr (.inr (some 64))]) rfl rfl ?_
  obtain ⟨hg, h⟩ := h
  refine zf_one fm_0 dF0_861 (oo_sc hg) ?_
  refine zf_push fm_0 dF0_862 (v := .inr (.inr (some 125))) rfl ?_
  refine zf_cw fm_0 dF0_863 cw_153 fm_17 [.inr (.inr (some 125)), .inl (X.2 ((i + (2 : Int32))).toNatClampNeg), .inl (X.2 ((i + (1 : Int32))).toNatClampNeg), .inr (.inr (some 64))] [] rfl (by omega) (by omega) rfl (zf_mono h (zfi_go ?_))
  · intro v1 S2 hv
    obtain ⟨hS2, h⟩ := hv
    refine zf_sto fm_0 dF0_866 [(5, .inl v1), (0, .inr (.inr (some 30))), (1, .inr (.inr (some 64))), (2, .inr (.inr (some 94))), (3, .inr (.inr (some 125))), (4, .inl i)] rfl rfl rfl ?_
    refine zf_push fm_0 dF0_868 (v := .inr (.inr (some 94))) rfl ?_
    refine zf_push fm_0 dF0_869 (v := .inr (.inr (some 30))) rfl ?_
    refine zf_push fm_0 dF0_870 (v := .inl i) rfl ?_
    refine zf_push fm_0 dF0_872 (v := .inl (1 : Int32)) rfl ?_
    refine zf_stk fm_0 dF0_873 (st₉ := [.inl (i + (1 : Int32)), .inr (.inr (some 30)), .inr (.inr (some 94))]) rfl rfl ?_
    obtain ⟨hg, h⟩ := h
    refine zf_one fm_0 dF0_874 (oo_sc hg) ?_
    refine zf_push fm_0 dF0_875 (v := .inr (.inr (some 30))) rfl ?_
    refine zf_push fm_0 dF0_876 (v := .inl i) rfl ?_
    refine zf_push fm_0 dF0_878 (v := .inl (2 : Int32)) rfl ?_
    refine zf_stk fm_0 dF0_879 (st₉ := [.inl (i + (2 : Int32)), .inr (.inr (some 30)), .inl (X.2 ((i + (1 : Int32))).toNatClampNeg), .inr (.inr (some 94))]) rfl rfl ?_
    obtain ⟨hg, h⟩ := h
    refine zf_one fm_0 dF0_880 (oo_sc hg) ?_
    refine zf_cv fm_0 dF0_881 v_14_155_12 hm_258 [.inl (X.2 ((i + (2 : Int32))).toNatClampNeg), .inl (X.2 ((i + (1 : Int32))).toNatClampNeg)] [] rfl (zT_rt hS2 s_94 rfl) ⟨by omega, by omega⟩ rfl (zw_mono h (zi_go ?_ ?_))
    · intro v4 S3 hv
      obtain ⟨hS3, h⟩ := hv
      refine zf_sto fm_0 dF0_884 [(6, .inl v4), (5, .inl v1), (0, .inr (.inr (some 30))), (1, .inr (.inr (some 64))), (2, .inr (.inr (some 94))), (3, .inr (.inr (some 125))), (4, .inl i)] rfl rfl rfl ?_
      refine zf_goto fm_0 dF0_886 (t := 957) rfl ?_
      exact zf_sub (ma_nd_of (ks := [0, 1, 2, 3, 4]) rfl (by decide)) (ma_nd_of (ks := [6, 5, 0, 1, 2, 3, 4]) rfl (by decide)) (ma_le_cons rfl (ma_le_cons rfl (ma_le_cons rfl (ma_le_cons rfl (ma_le_cons rfl (ma_le_nil _)))))) h
    · intro x S9 hx
      exact hx.elim
theorem gl_889 {X : Nat × (Nat → Int32)} {d w : Nat} {S : ma_S} {Q : Option ma_V → ma_S → Prop} (i : Int32) (hd : 13 ≤ d) (hw : 494 ≤ w) (hS : zT S) (h : (0 ≤ (i + (1 : Int32)) ∧ ((i + (1 : Int32))).toNatClampNeg < X.1) ∧ ((0 ≤ (i + (2 : Int32)) ∧ ((i + (2 : Int32))).toNatClampNeg < X.1) ∧ (ma_fp X 18 (d - 1) (w - 24) 0 [(0, .inr (.inr (some 64))), (1, .inl (X.2 ((i + (1 : Int32))).toNatClampNeg)), (2, .inl (X.2 ((i + (2 : Int32))).toNatClampNeg)), (3, .inr (.inr (some 125)))] [] S (zfi_ (fun v1 S2 => zT S2 ∧ ((0 ≤ (i + (1 : Int32)) ∧ ((i + (1 : Int32))).toNatClampNeg < X.1) ∧ ((0 ≤ (i + (2 : Int32)) ∧ ((i + (2 : Int32))).toNatClampNeg < X.1) ∧ (ma_wp X (d - 1) (w - 25) 259 0 [(0, .inr (.inr (some 94))), (1, .inl (X.2 ((i + (1 : Int32))).toNatClampNeg)), (2, .inl (X.2 ((i + (2 : Int32))).toNatClampNeg))] [] S2 (zi (fun v4 S3 => zT S3 ∧ (ma_fp X 0 d w 957 [(0, .inr (.inr (some 30))), (1, .inr (.inr (some 64))), (2, .inr (.inr (some 94))), (3, .inr (.inr (some 125))), (4, .inl i)] [] S3 Q)) (fun _ _ => False)))))))))) : ma_fp X 0 d w 889 [(0, .inr (.inr (some 30))), (1, .inr (.inr (some 64))), (2, .inr (.inr (some 94))), (3, .inr (.inr (some 125))), (4, .inl i)] [] S Q := by
  refine zf_push fm_0 dF0_889 (v := .inr (.inr (some 64))) rfl ?_
  refine zf_push fm_0 dF0_890 (v := .inr (.inr (some 30))) rfl ?_
  refine zf_push fm_0 dF0_891 (v := .inl i) rfl ?_
  refine zf_push fm_0 dF0_893 (v := .inl (1 : Int32)) rfl ?_
  refine zf_stk fm_0 dF0_894 (st₉ := [.inl (i + (1 : Int32)), .inr (.inr (some 30)), .inr (.inr (some 64))]) rfl rfl ?_
  obtain ⟨hg, h⟩ := h
  refine zf_one fm_0 dF0_895 (oo_sc hg) ?_
  refine zf_push fm_0 dF0_896 (v := .inr (.inr (some 30))) rfl ?_
  refine zf_push fm_0 dF0_897 (v := .inl i) rfl ?_
  refine zf_push fm_0 dF0_899 (v := .inl (2 : Int32)) rfl ?_
  refine zf_stk fm_0 dF0_900 (st₉ := [.inl (i + (2 : Int32)), .inr (.inr (some 30)), .inl (X.2 ((i + (1 : Int32))).toNatClampNeg), .inr (.inr (some 64))]) rfl rfl ?_
  obtain ⟨hg, h⟩ := h
  refine zf_one fm_0 dF0_901 (oo_sc hg) ?_
  refine zf_push fm_0 dF0_902 (v := .inr (.inr (some 125))) rfl ?_
  refine zf_cw fm_0 dF0_903 cw_156 fm_18 [.inr (.inr (some 125)), .inl (X.2 ((i + (2 : Int32))).toNatClampNeg), .inl (X.2 ((i + (1 : Int32))).toNatClampNeg), .inr (.inr (some 64))] [] rfl (by omega) (by omega) rfl (zf_mono h (zfi_go ?_))
  · intro v1 S2 hv
    obtain ⟨hS2, h⟩ := hv
    refine zf_sto fm_0 dF0_906 [(5, .inl v1), (0, .inr (.inr (some 30))), (1, .inr (.inr (some 64))), (2, .inr (.inr (some 94))), (3, .inr (.inr (some 125))), (4, .inl i)] rfl rfl rfl ?_
    refine zf_push fm_0 dF0_908 (v := .inr (.inr (some 94))) rfl ?_
    refine zf_push fm_0 dF0_909 (v := .inr (.inr (some 30))) rfl ?_
    refine zf_push fm_0 dF0_910 (v := .inl i) rfl ?_
    refine zf_push fm_0 dF0_912 (v := .inl (1 : Int32)) rfl ?_
    refine zf_stk fm_0 dF0_913 (st₉ := [.inl (i + (1 : Int32)), .inr (.inr (some 30)), .inr (.inr (some 94))]) rfl rfl ?_
    obtain ⟨hg, h⟩ := h
    refine zf_one fm_0 dF0_914 (oo_sc hg) ?_
    refine zf_push fm_0 dF0_915 (v := .inr (.inr (some 30))) rfl ?_
    refine zf_push fm_0 dF0_916 (v := .inl i) rfl ?_
    refine zf_push fm_0 dF0_918 (v := .inl (2 : Int32)) rfl ?_
    refine zf_stk fm_0 dF0_919 (st₉ := [.inl (i + (2 : Int32)), .inr (.inr (some 30)), .inl (X.2 ((i + (1 : Int32))).toNatClampNeg), .inr (.inr (some 94))]) rfl rfl ?_
    obtain ⟨hg, h⟩ := h
    refine zf_one fm_0 dF0_920 (oo_sc hg) ?_
    refine zf_cv fm_0 dF0_921 v_14_158_12 hm_259 [.inl (X.2 ((i + (2 : Int32))).toNatClampNeg), .inl (X.2 ((i + (1 : Int32))).toNatClampNeg)] [] rfl (zT_rt hS2 s_94 rfl) ⟨by omega, by omega⟩ rfl (zw_mono h (zi_go ?_ ?_))
    · intro v4 S3 hv
      obtain ⟨hS3, h⟩ := hv
      refine zf_sto fm_0 dF0_924 [(6, .inl v4), (5, .inl v1), (0, .inr (.inr (some 30))), (1, .inr (.inr (some 64))), (2, .inr (.inr (some 94))), (3, .inr (.inr (some 125))), (4, .inl i)] rfl rfl rfl ?_
      refine zf_goto fm_0 dF0_926 (t := 957) rfl ?_
      exact zf_sub (ma_nd_of (ks := [0, 1, 2, 3, 4]) rfl (by decide)) (ma_nd_of (ks := [6, 5, 0, 1, 2, 3, 4]) rfl (by decide)) (ma_le_cons rfl (ma_le_cons rfl (ma_le_cons rfl (ma_le_cons rfl (ma_le_cons rfl (ma_le_nil _)))))) h
    · intro x S9 hx
      exact hx.elim
theorem gl_929 {X : Nat × (Nat → Int32)} {d w : Nat} {S : ma_S} {Q : Option ma_V → ma_S → Prop} (i : Int32) (hd : 13 ≤ d) (hw : 494 ≤ w) (hS : zT S) (h : (0 ≤ (i + (1 : Int32)) ∧ ((i + (1 : Int32))).toNatClampNeg < X.1) ∧ (ma_fp X 19 (d - 1) (w - 23) 0 [(0, .inr (.inr (some 64))), (1, .inl (X.2 ((i + (1 : Int32))).toNatClampNeg)), (2, .inr (.inr (some 125)))] [] S (zfi_ (fun v1 S2 => zT S2 ∧ ((0 ≤ (i + (1 : Int32)) ∧ ((i + (1 : Int32))).toNatClampNeg < X.1) ∧ (ma_wp X (d - 1) (w - 21) 260 0 [(0, .inr (.inr (some 94))), (1, .inl (X.2 ((i + (1 : Int32))).toNatClampNeg))] [] S2 (zi (fun v4 S3 => zT S3 ∧ (ma_fp X 0 d w 957 [(0, .inr (.inr (some 30))), (1, .inr (.inr (some 64))), (2, .inr (.inr (some 94))), (3, .inr (.inr (some 125))), (4, .inl i)] [] S3 Q)) (fun _ _ => False)))))))) : ma_fp X 0 d w 929 [(0, .inr (.inr (some 30))), (1, .inr (.inr (some 64))), (2, .inr (.inr (some 94))), (3, .inr (.inr (some 125))), (4, .inl i)] [] S Q := by
  refine zf_push fm_0 dF0_929 (v := .inr (.inr (some 64))) rfl ?_
  refine zf_push fm_0 dF0_930 (v := .inr (.inr (some 30))) rfl ?_
  refine zf_push fm_0 dF0_931 (v := .inl i) rfl ?_
  refine zf_push fm_0 dF0_933 (v := .inl (1 : Int32)) rfl ?_
  refine zf_stk fm_0 dF0_934 (st₉ := [.inl (i + (1 : Int32)), .inr (.inr (some 30)), .inr (.inr (some 64))]) rfl rfl ?_
  obtain ⟨hg, h⟩ := h
  refine zf_one fm_0 dF0_935 (oo_sc hg) ?_
  refine zf_push fm_0 dF0_936 (v := .inr (.inr (some 125))) rfl ?_
  refine zf_cw fm_0 dF0_937 cw_159 fm_19 [.inr (.inr (some 125)), .inl (X.2 ((i + (1 : Int32))).toNatClampNeg), .inr (.inr (some 64))] [] rfl (by omega) (by omega) rfl (zf_mono h (zfi_go ?_))
  · intro v1 S2 hv
    obtain ⟨hS2, h⟩ := hv
    refine zf_sto fm_0 dF0_940 [(5, .inl v1), (0, .inr (.inr (some 30))), (1, .inr (.inr (some 64))), (2, .inr (.inr (some 94))), (3, .inr (.inr (some 125))), (4, .inl i)] rfl rfl rfl ?_
    refine zf_push fm_0 dF0_942 (v := .inr (.inr (some 94))) rfl ?_
    refine zf_push fm_0 dF0_943 (v := .inr (.inr (some 30))) rfl ?_
    refine zf_push fm_0 dF0_944 (v := .inl i) rfl ?_
    refine zf_push fm_0 dF0_946 (v := .inl (1 : Int32)) rfl ?_
    refine zf_stk fm_0 dF0_947 (st₉ := [.inl (i + (1 : Int32)), .inr (.inr (some 30)), .inr (.inr (some 94))]) rfl rfl ?_
    obtain ⟨hg, h⟩ := h
    refine zf_one fm_0 dF0_948 (oo_sc hg) ?_
    refine zf_cv fm_0 dF0_949 v_14_161_12 hm_260 [.inl (X.2 ((i + (1 : Int32))).toNatClampNeg)] [] rfl (zT_rt hS2 s_94 rfl) ⟨by omega, by omega⟩ rfl (zw_mono h (zi_go ?_ ?_))
    · intro v4 S3 hv
      obtain ⟨hS3, h⟩ := hv
      refine zf_sto fm_0 dF0_952 [(6, .inl v4), (5, .inl v1), (0, .inr (.inr (some 30))), (1, .inr (.inr (some 64))), (2, .inr (.inr (some 94))), (3, .inr (.inr (some 125))), (4, .inl i)] rfl rfl rfl ?_
      refine zf_goto fm_0 dF0_954 (t := 957) rfl ?_
      exact zf_sub (ma_nd_of (ks := [0, 1, 2, 3, 4]) rfl (by decide)) (ma_nd_of (ks := [6, 5, 0, 1, 2, 3, 4]) rfl (by decide)) (ma_le_cons rfl (ma_le_cons rfl (ma_le_cons rfl (ma_le_cons rfl (ma_le_cons rfl (ma_le_nil _)))))) h
    · intro x S9 hx
      exact hx.elim
