/-! the class behind (written by wip/tools/gen95c.py) -/
theorem g_128_64_0 {X : Nat × (Nat → Int32)} {d w : Nat} {S : ma_S} {Q : Option ma_V ⊕ Nat → ma_S → Prop}  (hd : 8 ≤ d) (hw : 163 ≤ w) (hS : zT S) (h : ma_wp X (d - 1) (w - 21) 129 0 [(0, .inr (.inr (some 64)))] [] (ma_put S 64 3 (.inl (0 : Int32))) (zi (fun v2 S1 => zT S1 ∧ (ma_wp X (d - 1) (w - 20) 130 0 [(0, .inr (.inr (some 64)))] [] S1 (zi (fun v4 S3 => zT S3 ∧ (if v4 = (0 : Int32) then (ma_wp X (d - 1) (w - 21) 129 0 [(0, .inr (.inr (some 64)))] [] S3 (zi (fun v6 S5 => zT S5 ∧ (ma_wp X ((d - 1) - 1) ((w - 21) - 25) 134 0 [(0, .inr (.inr (some 64))), (1, .inl (16 : Int32)), (2, .inl (1500 : Int32))] [] S5 (zi (fun v8 S7 => zT S7 ∧ (if v8 = (-1 : Int32) then (Q (.inl (some (.inl (-1 : Int32)))) (ma_put S7 66 0 (.inl v8))) else (ma_wp X (d - 1) (w - 21) 129 0 [(0, .inr (.inr (some 64)))] [] (ma_put S7 66 0 (.inl v8)) (zi (fun v10 S9 => zT S9 ∧ (ma_wp X ((d - 1) - 1) ((w - 21) - 20) 135 0 [(0, .inr (.inr (some 64)))] [] S9 (zi (fun v12 S11 => zT S11 ∧ (if v12 = (-1 : Int32) then (Q (.inl (some (.inl (-1 : Int32)))) (ma_put S11 66 1 (.inl v12))) else (if v4 = (-1 : Int32) then (Q (.inl (some (.inl (-1 : Int32)))) (ma_put S11 66 1 (.inl v12))) else (ma_wp X (d - 1) (w - 21) 129 0 [(0, .inr (.inr (some 64)))] [] (ma_put S11 66 1 (.inl v12)) (zi (fun v14 S13 => zT S13 ∧ (if v14 = 0 then (Q (.inl (some (.inl v4))) S13) else (Q (.inl (some (.inl (-1 : Int32)))) S13))) (fun x S9 => Q (.inr x) S9)))))) (fun _ _ => False)))) (fun x S9 => Q (.inr x) S9))))) (fun _ _ => False)))) (fun x S9 => Q (.inr x) S9))) else (if v4 = (1 : Int32) then (ma_wp X (d - 1) (w - 21) 129 0 [(0, .inr (.inr (some 64)))] [] S3 (zi (fun v16 S15 => zT S15 ∧ (ma_wp X ((d - 1) - 1) ((w - 21) - 25) 134 0 [(0, .inr (.inr (some 64))), (1, .inl (16 : Int32)), (2, .inl (1500 : Int32))] [] S15 (zi (fun v18 S17 => zT S17 ∧ (if v18 = (-1 : Int32) then (Q (.inl (some (.inl (-1 : Int32)))) (ma_put S17 66 0 (.inl v18))) else (if v4 = (-1 : Int32) then (Q (.inl (some (.inl (-1 : Int32)))) (ma_put S17 66 0 (.inl v18))) else (ma_wp X (d - 1) (w - 21) 129 0 [(0, .inr (.inr (some 64)))] [] (ma_put S17 66 0 (.inl v18)) (zi (fun v20 S19 => zT S19 ∧ (if v20 = 0 then (Q (.inl (some (.inl v4))) S19) else (Q (.inl (some (.inl (-1 : Int32)))) S19))) (fun x S9 => Q (.inr x) S9)))))) (fun _ _ => False)))) (fun x S9 => Q (.inr x) S9))) else (if v4 = (2 : Int32) then (ma_wp X (d - 1) (w - 21) 129 0 [(0, .inr (.inr (some 64)))] [] S3 (zi (fun v22 S21 => zT S21 ∧ (ma_wp X ((d - 1) - 1) ((w - 21) - 25) 134 0 [(0, .inr (.inr (some 64))), (1, .inl (16 : Int32)), (2, .inl (1500 : Int32))] [] S21 (zi (fun v24 S23 => zT S23 ∧ (if v24 = (-1 : Int32) then (Q (.inl (some (.inl (-1 : Int32)))) (ma_put S23 66 0 (.inl v24))) else (if v4 = (-1 : Int32) then (Q (.inl (some (.inl (-1 : Int32)))) (ma_put S23 66 0 (.inl v24))) else (ma_wp X (d - 1) (w - 21) 129 0 [(0, .inr (.inr (some 64)))] [] (ma_put S23 66 0 (.inl v24)) (zi (fun v26 S25 => zT S25 ∧ (if v26 = 0 then (Q (.inl (some (.inl v4))) S25) else (Q (.inl (some (.inl (-1 : Int32)))) S25))) (fun x S9 => Q (.inr x) S9)))))) (fun _ _ => False)))) (fun x S9 => Q (.inr x) S9))) else (if v4 = (3 : Int32) then (ma_wp X (d - 1) (w - 21) 129 0 [(0, .inr (.inr (some 64)))] [] S3 (zi (fun v28 S27 => zT S27 ∧ (ma_wp X ((d - 1) - 1) ((w - 21) - 25) 134 0 [(0, .inr (.inr (some 64))), (1, .inl (16 : Int32)), (2, .inl (1500 : Int32))] [] S27 (zi (fun v30 S29 => zT S29 ∧ (if v30 = (-1 : Int32) then (Q (.inl (some (.inl (-1 : Int32)))) (ma_put S29 66 0 (.inl v30))) else (ma_wp X (d - 1) (w - 21) 129 0 [(0, .inr (.inr (some 64)))] [] (ma_put S29 66 0 (.inl v30)) (zi (fun v32 S31 => zT S31 ∧ (ma_wp X ((d - 1) - 1) ((w - 21) - 25) 134 0 [(0, .inr (.inr (some 64))), (1, .inl (16 : Int32)), (2, .inl (1500 : Int32))] [] S31 (zi (fun v34 S33 => zT S33 ∧ (if v34 = (-1 : Int32) then (Q (.inl (some (.inl (-1 : Int32)))) (ma_put S33 66 1 (.inl v34))) else (ma_wp X (d - 1) (w - 21) 129 0 [(0, .inr (.inr (some 64)))] [] (ma_put S33 66 1 (.inl v34)) (zi (fun v36 S35 => zT S35 ∧ (ma_wp X ((d - 1) - 1) ((w - 21) - 25) 134 0 [(0, .inr (.inr (some 64))), (1, .inl (1 : Int32)), (2, .inl (7 : Int32))] [] S35 (zi (fun v38 S37 => zT S37 ∧ (if v38 = (-1 : Int32) then (Q (.inl (some (.inl (-1 : Int32)))) (ma_put S37 66 2 (.inl v38))) else (ma_wp X (d - 1) (w - 21) 129 0 [(0, .inr (.inr (some 64)))] [] (ma_put S37 66 2 (.inl v38)) (zi (fun v40 S39 => zT S39 ∧ (ma_wp X ((d - 1) - 1) ((w - 21) - 25) 134 0 [(0, .inr (.inr (some 64))), (1, .inl (4 : Int32)), (2, .inl (64 : Int32))] [] S39 (zi (fun v42 S41 => zT S41 ∧ (if v42 = (-1 : Int32) then (Q (.inl (some (.inl (-1 : Int32)))) (ma_put S41 66 3 (.inl v42))) else (if v4 = (-1 : Int32) then (Q (.inl (some (.inl (-1 : Int32)))) (ma_put S41 66 3 (.inl v42))) else (ma_wp X (d - 1) (w - 21) 129 0 [(0, .inr (.inr (some 64)))] [] (ma_put S41 66 3 (.inl v42)) (zi (fun v44 S43 => zT S43 ∧ (if v44 = 0 then (Q (.inl (some (.inl v4))) S43) else (Q (.inl (some (.inl (-1 : Int32)))) S43))) (fun x S9 => Q (.inr x) S9)))))) (fun _ _ => False)))) (fun x S9 => Q (.inr x) S9))))) (fun _ _ => False)))) (fun x S9 => Q (.inr x) S9))))) (fun _ _ => False)))) (fun x S9 => Q (.inr x) S9))))) (fun _ _ => False)))) (fun x S9 => Q (.inr x) S9))) else (if v4 = (4 : Int32) then (ma_wp X (d - 1) (w - 21) 129 0 [(0, .inr (.inr (some 64)))] [] S3 (zi (fun v46 S45 => zT S45 ∧ (ma_wp X ((d - 1) - 1) ((w - 21) - 25) 134 0 [(0, .inr (.inr (some 64))), (1, .inl (16 : Int32)), (2, .inl (1500 : Int32))] [] S45 (zi (fun v48 S47 => zT S47 ∧ (if v48 = (-1 : Int32) then (Q (.inl (some (.inl (-1 : Int32)))) (ma_put S47 66 0 (.inl v48))) else (ma_wp X (d - 1) (w - 21) 129 0 [(0, .inr (.inr (some 64)))] [] (ma_put S47 66 0 (.inl v48)) (zi (fun v50 S49 => zT S49 ∧ (ma_wp X ((d - 1) - 1) ((w - 21) - 20) 135 0 [(0, .inr (.inr (some 64)))] [] S49 (zi (fun v52 S51 => zT S51 ∧ (if v52 = (-1 : Int32) then (Q (.inl (some (.inl (-1 : Int32)))) (ma_put S51 66 1 (.inl v52))) else (if v4 = (-1 : Int32) then (Q (.inl (some (.inl (-1 : Int32)))) (ma_put S51 66 1 (.inl v52))) else (ma_wp X (d - 1) (w - 21) 129 0 [(0, .inr (.inr (some 64)))] [] (ma_put S51 66 1 (.inl v52)) (zi (fun v54 S53 => zT S53 ∧ (if v54 = 0 then (Q (.inl (some (.inl v4))) S53) else (Q (.inl (some (.inl (-1 : Int32)))) S53))) (fun x S9 => Q (.inr x) S9)))))) (fun _ _ => False)))) (fun x S9 => Q (.inr x) S9))))) (fun _ _ => False)))) (fun x S9 => Q (.inr x) S9))) else (if v4 = (5 : Int32) then (ma_wp X (d - 1) (w - 21) 129 0 [(0, .inr (.inr (some 64)))] [] S3 (zi (fun v56 S55 => zT S55 ∧ (ma_wp X ((d - 1) - 1) ((w - 21) - 25) 134 0 [(0, .inr (.inr (some 64))), (1, .inl (16 : Int32)), (2, .inl (1500 : Int32))] [] S55 (zi (fun v58 S57 => zT S57 ∧ (if v58 = (-1 : Int32) then (Q (.inl (some (.inl (-1 : Int32)))) (ma_put S57 66 0 (.inl v58))) else (ma_wp X (d - 1) (w - 21) 129 0 [(0, .inr (.inr (some 64)))] [] (ma_put S57 66 0 (.inl v58)) (zi (fun v60 S59 => zT S59 ∧ (ma_wp X ((d - 1) - 1) ((w - 21) - 20) 135 0 [(0, .inr (.inr (some 64)))] [] S59 (zi (fun v62 S61 => zT S61 ∧ (if v62 = (-1 : Int32) then (Q (.inl (some (.inl (-1 : Int32)))) (ma_put S61 66 1 (.inl v62))) else (ma_wp X (d - 1) (w - 21) 129 0 [(0, .inr (.inr (some 64)))] [] (ma_put S61 66 1 (.inl v62)) (zi (fun v64 S63 => zT S63 ∧ (ma_wp X ((d - 1) - 1) ((w - 21) - 25) 134 0 [(0, .inr (.inr (some 64))), (1, .inl (1 : Int32)), (2, .inl (50 : Int32))] [] S63 (zi (fun v66 S65 => zT S65 ∧ (if v66 = (-1 : Int32) then (Q (.inl (some (.inl (-1 : Int32)))) (ma_put S65 66 2 (.inl v66))) else (ma_wp X (d - 1) (w - 21) 129 0 [(0, .inr (.inr (some 64)))] [] (ma_put S65 66 2 (.inl v66)) (zi (fun v68 S67 => zT S67 ∧ (ma_wp X ((d - 1) - 1) ((w - 21) - 20) 136 0 [(0, .inr (.inr (some 64)))] [] S67 (zi (fun v70 S69 => zT S69 ∧ (if v70 = (-1 : Int32) then (Q (.inl (some (.inl (-1 : Int32)))) (ma_put S69 66 3 (.inl v70))) else (if v4 = (-1 : Int32) then (Q (.inl (some (.inl (-1 : Int32)))) (ma_put S69 66 3 (.inl v70))) else (ma_wp X (d - 1) (w - 21) 129 0 [(0, .inr (.inr (some 64)))] [] (ma_put S69 66 3 (.inl v70)) (zi (fun v72 S71 => zT S71 ∧ (if v72 = 0 then (Q (.inl (some (.inl v4))) S71) else (Q (.inl (some (.inl (-1 : Int32)))) S71))) (fun x S9 => Q (.inr x) S9)))))) (fun _ _ => False)))) (fun x S9 => Q (.inr x) S9))))) (fun _ _ => False)))) (fun x S9 => Q (.inr x) S9))))) (fun _ _ => False)))) (fun x S9 => Q (.inr x) S9))))) (fun _ _ => False)))) (fun x S9 => Q (.inr x) S9))) else (if v4 = (6 : Int32) then (ma_wp X (d - 1) (w - 21) 129 0 [(0, .inr (.inr (some 64)))] [] S3 (zi (fun v74 S73 => zT S73 ∧ (ma_wp X ((d - 1) - 1) ((w - 21) - 25) 134 0 [(0, .inr (.inr (some 64))), (1, .inl (16 : Int32)), (2, .inl (1500 : Int32))] [] S73 (zi (fun v76 S75 => zT S75 ∧ (if v76 = (-1 : Int32) then (Q (.inl (some (.inl (-1 : Int32)))) (ma_put S75 66 0 (.inl v76))) else (ma_wp X (d - 1) (w - 21) 129 0 [(0, .inr (.inr (some 64)))] [] (ma_put S75 66 0 (.inl v76)) (zi (fun v78 S77 => zT S77 ∧ (ma_wp X ((d - 1) - 1) ((w - 21) - 25) 134 0 [(0, .inr (.inr (some 64))), (1, .inl (16 : Int32)), (2, .inl (if ((mI S77 66 0) / (4 : Int32)) < (256 : Int32) then ((mI S77 66 0) / (4 : Int32)) else (256 : Int32)))] [] S77 (zi (fun v80 S79 => zT S79 ∧ (if v80 = (-1 : Int32) then (Q (.inl (some (.inl (-1 : Int32)))) (ma_put S79 66 1 (.inl v80))) else (ma_wp X (d - 1) (w - 21) 129 0 [(0, .inr (.inr (some 64)))] [] (ma_put S79 66 1 (.inl v80)) (zi (fun v82 S81 => zT S81 ∧ (ma_wp X ((d - 1) - 1) ((w - 21) - 25) 134 0 [(0, .inr (.inr (some 64))), (1, .inl (0 : Int32)), (2, .inl (100 : Int32))] [] S81 (zi (fun v84 S83 => zT S83 ∧ (if v84 = (-1 : Int32) then (Q (.inl (some (.inl (-1 : Int32)))) (ma_put S83 66 2 (.inl v84))) else (if v4 = (-1 : Int32) then (Q (.inl (some (.inl (-1 : Int32)))) (ma_put S83 66 2 (.inl v84))) else (ma_wp X (d - 1) (w - 21) 129 0 [(0, .inr (.inr (some 64)))] [] (ma_put S83 66 2 (.inl v84)) (zi (fun v86 S85 => zT S85 ∧ (if v86 = 0 then (Q (.inl (some (.inl v4))) S85) else (Q (.inl (some (.inl (-1 : Int32)))) S85))) (fun x S9 => Q (.inr x) S9)))))) (fun _ _ => False)))) (fun x S9 => Q (.inr x) S9))))) (fun _ _ => False)))) (fun x S9 => Q (.inr x) S9))))) (fun _ _ => False)))) (fun x S9 => Q (.inr x) S9))) else (if v4 = (-1 : Int32) then (Q (.inl (some (.inl (-1 : Int32)))) S3) else (ma_wp X (d - 1) (w - 21) 129 0 [(0, .inr (.inr (some 64)))] [] S3 (zi (fun v88 S87 => zT S87 ∧ (if v88 = 0 then (Q (.inl (some (.inl v4))) S87) else (Q (.inl (some (.inl (-1 : Int32)))) S87))) (fun x S9 => Q (.inr x) S9)))))))))))) (fun x S9 => Q (.inr x) S9)))) (fun x S9 => Q (.inr x) S9))) : ma_wp X d w 128 0 [(0, .inr (.inr (some 64)))] [] S Q := by
  refine zw_push hm_128 dX11_readPolicy_0 (v := .inr (.inr (some 64))) rfl ?_
  refine zw_push hm_128 dX11_readPolicy_1 (v := .inl (0 : Int32)) rfl ?_
  refine zw_pf hm_128 dX11_readPolicy_2 (zT_is hS s_64) (zT_t hS s_64) p_11_275_11 zk_int ?_
  refine zw_push hm_128 dX11_readPolicy_5 (v := .inr (.inr (some 64))) rfl ?_
  refine zw_cv hm_128 dX11_readPolicy_6 v_11_278_11 hm_129 [] [] rfl (zT_rt (zT_pi hS) s_64 rfl) ⟨by omega, by omega⟩ rfl (zw_mono h (zi_go ?_ ?_))
  · intro v2 S1 hv
    obtain ⟨hS1, h⟩ := hv
    refine zw_stk hm_128 dX11_readPolicy_9 (st' := []) rfl rfl ?_
    refine zw_push hm_128 dX11_readPolicy_10 (v := .inr (.inr (some 64))) rfl ?_
    refine zw_cv hm_128 dX11_readPolicy_11 v_11_281_11 hm_130 [] [] rfl (zT_rt hS1 s_64 rfl) ⟨by omega, by omega⟩ rfl (zw_mono h (zi_go ?_ ?_))
    · intro v4 S3 hv
      obtain ⟨hS3, h⟩ := hv
      refine zw_sto hm_128 dX11_readPolicy_14 [(1, .inl v4), (0, .inr (.inr (some 64)))] rfl rfl rfl ?_
      refine zw_push hm_128 dX11_readPolicy_15 (v := .inl v4) rfl ?_
      refine zw_cs hm_128 dX11_readPolicy_16 pn_11_284 sl_11_284 hm_132 [.inl v4] [] rfl ⟨by omega, by omega⟩ rfl ?_
      show ma_wp X (d - 1) (w - 20) 132 0 [(0, .inl v4)] [] S3 _
      refine zw_push hm_132 dX11_partsOf_0 (v := .inl v4) rfl ?_
      by_cases hc0 : v4 = (0 : Int32)
      · rw [if_pos hc0] at h
        refine zw_jmp hm_132 dX11_partsOf_1 (t := 44) (st' := []) rfl rfl rfl (ma_jmp_tab (by rw [hc0]; decide +kernel)) ?_
        refine zw_txc hm_132 dX11_partsOf_44 txi_11_319 ?_
        refine zw_aret hm_132 dX11_partsOf_47 ?_
        show ma_wp X d w 128 19 [(1, .inl v4), (0, .inr (.inr (some 64)))] [.inr (.inr (some 7))] S3 _
        refine zw_sto hm_128 dX11_readPolicy_19 [(2, .inr (.inr (some 7))), (1, .inl v4), (0, .inr (.inr (some 64)))] rfl rfl rfl ?_
        refine zw_push hm_128 dX11_readPolicy_20 (v := .inl (0 : Int32)) rfl ?_
        refine zw_sto hm_128 dX11_readPolicy_21 [(3, .inl (0 : Int32)), (2, .inr (.inr (some 7))), (1, .inl v4), (0, .inr (.inr (some 64)))] rfl rfl rfl ?_
        refine zw_push hm_128 dX11_readPolicy_22 (v := .inl (0 : Int32)) rfl ?_
        refine zw_push hm_128 dX11_readPolicy_23 (v := .inr (.inr (some 7))) rfl ?_
        refine zw_cv hm_128 dX11_readPolicy_24 v_11_288_17 hm_277 [] [.inl (0 : Int32)] rfl rfl ⟨by omega, by omega⟩ rfl (tx_len (v := (2 : Int32)) (by decide) (by omega) (by omega) rfl rfl ?_)
        show ma_wp X d w 128 27 [(3, .inl (0 : Int32)), (2, .inr (.inr (some 7))), (1, .inl v4), (0, .inr (.inr (some 64)))] [.inl (2 : Int32), .inl (0 : Int32)] S3 _
        refine zw_if2 hm_128 dX11_readPolicy_27 (t := 73) rfl zc2_ge (fun hc => absurd hc (by decide)) (fun _ => ?_)
        refine zw_push hm_128 dX11_readPolicy_30 (v := .inl (0 : Int32)) rfl ?_
        refine zw_push hm_128 dX11_readPolicy_31 (v := .inl (4 : Int32)) rfl ?_
        refine zw_if2 hm_128 dX11_readPolicy_32 (t := 73) rfl zc2_ge (fun hc => absurd hc (by decide)) (fun _ => ?_)
        refine zw_push hm_128 dX11_readPolicy_35 (v := .inr (.inr (some 64))) rfl ?_
        refine zw_cv hm_128 dX11_readPolicy_36 v_11_278_11 hm_129 [] [] rfl (zT_rt hS3 s_64 rfl) ⟨by omega, by omega⟩ rfl (zw_mono h (zi_go ?_ ?_))
        · intro v6 S5 hv
          obtain ⟨hS5, h⟩ := hv
          refine zw_stk hm_128 dX11_readPolicy_39 (st' := []) rfl rfl ?_
          refine zw_push hm_128 dX11_readPolicy_40 (v := .inr (.inr (some 64))) rfl ?_
          refine zw_gf hm_128 dX11_readPolicy_41 (v := .inr (.inr (some 66))) (zT_is hS5 s_64) (zT_t hS5 s_64) rfl f_11_13_11 (zT_f hS5 r_64_4) ?_
          refine zw_push hm_128 dX11_readPolicy_44 (v := .inl (0 : Int32)) rfl ?_
          refine zw_push hm_128 dX11_readPolicy_45 (v := .inr (.inr (some 64))) rfl ?_
          refine zw_push hm_128 dX11_readPolicy_46 (v := .inr (.inr (some 7))) rfl ?_
          refine zw_push hm_128 dX11_readPolicy_47 (v := .inl (0 : Int32)) rfl ?_
          refine zw_cv hm_128 dX11_readPolicy_48 v_11_293_17 hm_279 [.inl (0 : Int32)] [.inr (.inr (some 64)), .inl (0 : Int32), .inr (.inr (some 66))] rfl rfl ⟨by omega, by omega⟩ rfl (tx_char (v := (114 : Int32)) (by decide) (by omega) (by omega) (by decide) (by decide) (by decide) (by decide) ?_)
          show ma_wp X d w 128 51 [(3, .inl (0 : Int32)), (2, .inr (.inr (some 7))), (1, .inl v4), (0, .inr (.inr (some 64)))] [.inl (114 : Int32), .inr (.inr (some 64)), .inl (0 : Int32), .inr (.inr (some 66))] S5 _
          refine zw_cv hm_128 dX11_readPolicy_51 v_11_297_11 hm_133 [.inl (114 : Int32)] [.inl (0 : Int32), .inr (.inr (some 66))] rfl (zT_rt hS5 s_64 rfl) ⟨by omega, by omega⟩ rfl ?_
          show ma_wp X (d - 1) (w - 21) 133 0 [(0, .inr (.inr (some 64))), (1, .inl (114 : Int32))] [] S5 _
          refine zw_push hm_133 dX11_partToken_0 (v := .inl (114 : Int32)) rfl ?_
          refine zw_jmp hm_133 dX11_partToken_1 (t := 68) (st' := []) rfl rfl rfl (by decide +kernel) ?_
          refine zw_push hm_133 dX11_partToken_68 (v := .inr (.inr (some 64))) rfl ?_
          refine zw_push hm_133 dX11_partToken_69 (v := .inl (16 : Int32)) rfl ?_
          refine zw_push hm_133 dX11_partToken_71 (v := .inl (1500 : Int32)) rfl ?_
          refine zw_cv hm_133 dX11_partToken_74 v_11_331_11 hm_134 [.inl (1500 : Int32), .inl (16 : Int32)] [] rfl (zT_rt hS5 s_64 rfl) ⟨by omega, by omega⟩ rfl (zw_mono h (zi_go ?_ ?_))
          · intro v8 S7 hv
            obtain ⟨hS7, h⟩ := hv
            refine zw_iret hm_133 dX11_partToken_77 ?_
            show ma_wp X d w 128 54 [(3, .inl (0 : Int32)), (2, .inr (.inr (some 7))), (1, .inl v4), (0, .inr (.inr (some 64)))] [.inl v8, .inl (0 : Int32), .inr (.inr (some 66))] S7 _
            refine zw_ias hm_128 dX11_readPolicy_54 (zT_is hS7 s_66) (zT_h hS7 s_66) rfl ⟨by decide, by decide⟩ ?_
            refine zw_push hm_128 dX11_readPolicy_55 (v := .inr (.inr (some 64))) rfl ?_
            refine zw_gf hm_128 dX11_readPolicy_56 (v := .inr (.inr (some 66))) (zT_is (zT_pi hS7) s_64) (zT_t (zT_pi hS7) s_64) rfl f_11_13_11 (zT_f (zT_pi hS7) r_64_4) ?_
            refine zw_push hm_128 dX11_readPolicy_59 (v := .inl (0 : Int32)) rfl ?_
            refine zw_ia hm_128 dX11_readPolicy_60 (zT_is (zT_pi hS7) s_66) (zT_h (zT_pi hS7) s_66) rfl ⟨by decide, by decide⟩ ?_
            show ma_wp X d w 128 61 [(3, .inl (0 : Int32)), (2, .inr (.inr (some 7))), (1, .inl v4), (0, .inr (.inr (some 64)))] [.inl v8] (ma_put S7 66 0 (.inl v8)) _
            refine zw_push hm_128 dX11_readPolicy_61 (v := .inl (-1 : Int32)) rfl ?_
            refine zw_if2 hm_128 dX11_readPolicy_62 (t := 67) rfl zc2_ne ?_ ?_
            · intro hc
              rw [if_neg hc] at h
              refine zw_sto hm_128 dX11_readPolicy_67 [(3, .inl (1 : Int32)), (2, .inr (.inr (some 7))), (1, .inl v4), (0, .inr (.inr (some 64)))] rfl rfl rfl ?_
              refine zw_goto hm_128 dX11_readPolicy_70 (t := 22) rfl ?_
              refine zw_push hm_128 dX11_readPolicy_22 (v := .inl (1 : Int32)) rfl ?_
              refine zw_push hm_128 dX11_readPolicy_23 (v := .inr (.inr (some 7))) rfl ?_
              refine zw_cv hm_128 dX11_readPolicy_24 v_11_288_17 hm_277 [] [.inl (1 : Int32)] rfl rfl ⟨by omega, by omega⟩ rfl (tx_len (v := (2 : Int32)) (by decide) (by omega) (by omega) rfl rfl ?_)
              show ma_wp X d w 128 27 [(3, .inl (1 : Int32)), (2, .inr (.inr (some 7))), (1, .inl v4), (0, .inr (.inr (some 64)))] [.inl (2 : Int32), .inl (1 : Int32)] (ma_put S7 66 0 (.inl v8)) _
              refine zw_if2 hm_128 dX11_readPolicy_27 (t := 73) rfl zc2_ge (fun hc => absurd hc (by decide)) (fun _ => ?_)
              refine zw_push hm_128 dX11_readPolicy_30 (v := .inl (1 : Int32)) rfl ?_
              refine zw_push hm_128 dX11_readPolicy_31 (v := .inl (4 : Int32)) rfl ?_
              refine zw_if2 hm_128 dX11_readPolicy_32 (t := 73) rfl zc2_ge (fun hc => absurd hc (by decide)) (fun _ => ?_)
              refine zw_push hm_128 dX11_readPolicy_35 (v := .inr (.inr (some 64))) rfl ?_
              refine zw_cv hm_128 dX11_readPolicy_36 v_11_278_11 hm_129 [] [] rfl (zT_rt (zT_pi hS7) s_64 rfl) ⟨by omega, by omega⟩ rfl (zw_mono h (zi_go ?_ ?_))
              · intro v10 S9 hv
                obtain ⟨hS9, h⟩ := hv
                refine zw_stk hm_128 dX11_readPolicy_39 (st' := []) rfl rfl ?_
                refine zw_push hm_128 dX11_readPolicy_40 (v := .inr (.inr (some 64))) rfl ?_
                refine zw_gf hm_128 dX11_readPolicy_41 (v := .inr (.inr (some 66))) (zT_is hS9 s_64) (zT_t hS9 s_64) rfl f_11_13_11 (zT_f hS9 r_64_4) ?_
                refine zw_push hm_128 dX11_readPolicy_44 (v := .inl (1 : Int32)) rfl ?_
                refine zw_push hm_128 dX11_readPolicy_45 (v := .inr (.inr (some 64))) rfl ?_
                refine zw_push hm_128 dX11_readPolicy_46 (v := .inr (.inr (some 7))) rfl ?_
                refine zw_push hm_128 dX11_readPolicy_47 (v := .inl (1 : Int32)) rfl ?_
                refine zw_cv hm_128 dX11_readPolicy_48 v_11_293_17 hm_279 [.inl (1 : Int32)] [.inr (.inr (some 64)), .inl (1 : Int32), .inr (.inr (some 66))] rfl rfl ⟨by omega, by omega⟩ rfl (tx_char (v := (102 : Int32)) (by decide) (by omega) (by omega) (by decide) (by decide) (by decide) (by decide) ?_)
                show ma_wp X d w 128 51 [(3, .inl (1 : Int32)), (2, .inr (.inr (some 7))), (1, .inl v4), (0, .inr (.inr (some 64)))] [.inl (102 : Int32), .inr (.inr (some 64)), .inl (1 : Int32), .inr (.inr (some 66))] S9 _
                refine zw_cv hm_128 dX11_readPolicy_51 v_11_297_11 hm_133 [.inl (102 : Int32)] [.inl (1 : Int32), .inr (.inr (some 66))] rfl (zT_rt hS9 s_64 rfl) ⟨by omega, by omega⟩ rfl ?_
                show ma_wp X (d - 1) (w - 21) 133 0 [(0, .inr (.inr (some 64))), (1, .inl (102 : Int32))] [] S9 _
                refine zw_push hm_133 dX11_partToken_0 (v := .inl (102 : Int32)) rfl ?_
                refine zw_jmp hm_133 dX11_partToken_1 (t := 131) (st' := []) rfl rfl rfl (by decide +kernel) ?_
                refine zw_push hm_133 dX11_partToken_131 (v := .inr (.inr (some 64))) rfl ?_
                refine zw_cv hm_133 dX11_partToken_132 v_11_340_11 hm_135 [] [] rfl (zT_rt hS9 s_64 rfl) ⟨by omega, by omega⟩ rfl (zw_mono h (zi_go ?_ ?_))
                · intro v12 S11 hv
                  obtain ⟨hS11, h⟩ := hv
                  refine zw_iret hm_133 dX11_partToken_135 ?_
                  show ma_wp X d w 128 54 [(3, .inl (1 : Int32)), (2, .inr (.inr (some 7))), (1, .inl v4), (0, .inr (.inr (some 64)))] [.inl v12, .inl (1 : Int32), .inr (.inr (some 66))] S11 _
                  refine zw_ias hm_128 dX11_readPolicy_54 (zT_is hS11 s_66) (zT_h hS11 s_66) rfl ⟨by decide, by decide⟩ ?_
                  refine zw_push hm_128 dX11_readPolicy_55 (v := .inr (.inr (some 64))) rfl ?_
                  refine zw_gf hm_128 dX11_readPolicy_56 (v := .inr (.inr (some 66))) (zT_is (zT_pi hS11) s_64) (zT_t (zT_pi hS11) s_64) rfl f_11_13_11 (zT_f (zT_pi hS11) r_64_4) ?_
                  refine zw_push hm_128 dX11_readPolicy_59 (v := .inl (1 : Int32)) rfl ?_
                  refine zw_ia hm_128 dX11_readPolicy_60 (zT_is (zT_pi hS11) s_66) (zT_h (zT_pi hS11) s_66) rfl ⟨by decide, by decide⟩ ?_
                  show ma_wp X d w 128 61 [(3, .inl (1 : Int32)), (2, .inr (.inr (some 7))), (1, .inl v4), (0, .inr (.inr (some 64)))] [.inl v12] (ma_put S11 66 1 (.inl v12)) _
                  refine zw_push hm_128 dX11_readPolicy_61 (v := .inl (-1 : Int32)) rfl ?_
                  refine zw_if2 hm_128 dX11_readPolicy_62 (t := 67) rfl zc2_ne ?_ ?_
                  · intro hc
                    rw [if_neg hc] at h
                    refine zw_sto hm_128 dX11_readPolicy_67 [(3, .inl (2 : Int32)), (2, .inr (.inr (some 7))), (1, .inl v4), (0, .inr (.inr (some 64)))] rfl rfl rfl ?_
                    refine zw_goto hm_128 dX11_readPolicy_70 (t := 22) rfl ?_
                    refine zw_push hm_128 dX11_readPolicy_22 (v := .inl (2 : Int32)) rfl ?_
                    refine zw_push hm_128 dX11_readPolicy_23 (v := .inr (.inr (some 7))) rfl ?_
                    refine zw_cv hm_128 dX11_readPolicy_24 v_11_288_17 hm_277 [] [.inl (2 : Int32)] rfl rfl ⟨by omega, by omega⟩ rfl (tx_len (v := (2 : Int32)) (by decide) (by omega) (by omega) rfl rfl ?_)
                    show ma_wp X d w 128 27 [(3, .inl (2 : Int32)), (2, .inr (.inr (some 7))), (1, .inl v4), (0, .inr (.inr (some 64)))] [.inl (2 : Int32), .inl (2 : Int32)] (ma_put S11 66 1 (.inl v12)) _
                    refine zw_if2 hm_128 dX11_readPolicy_27 (t := 73) rfl zc2_ge (fun _ => ?_) (fun hc => absurd (by decide) hc)
                    refine zw_push hm_128 dX11_readPolicy_73 (v := .inl v4) rfl ?_
                    refine zw_push hm_128 dX11_readPolicy_74 (v := .inl (-1 : Int32)) rfl ?_
                    refine zw_if2 hm_128 dX11_readPolicy_75 (t := 85) rfl zc2_eq ?_ ?_
                    · intro hc
                      rw [if_pos hc] at h
                      refine zw_push hm_128 dX11_readPolicy_85 (v := .inl (-1 : Int32)) rfl ?_
                      exact zw_iret hm_128 dX11_readPolicy_86 h
                    · intro hc
                      rw [if_neg hc] at h
                      refine zw_push hm_128 dX11_readPolicy_78 (v := .inr (.inr (some 64))) rfl ?_
                      refine zw_cv hm_128 dX11_readPolicy_79 v_11_278_11 hm_129 [] [] rfl (zT_rt (zT_pi hS11) s_64 rfl) ⟨by omega, by omega⟩ rfl (zw_mono h (zi_go ?_ ?_))
                      · intro v14 S13 hv
                        obtain ⟨hS13, h⟩ := hv
                        refine zw_if0 hm_128 dX11_readPolicy_82 (t := 87) rfl zc0_eq ?_ ?_
                        · intro hc
                          rw [if_pos hc] at h
                          refine zw_push hm_128 dX11_readPolicy_87 (v := .inl v4) rfl ?_
                          exact zw_iret hm_128 dX11_readPolicy_88 h
                        · intro hc
                          rw [if_neg hc] at h
                          refine zw_push hm_128 dX11_readPolicy_85 (v := .inl (-1 : Int32)) rfl ?_
                          exact zw_iret hm_128 dX11_readPolicy_86 h
                      · intro x S9 hx
                        exact ⟨by decide, hx⟩
                  · intro hc
                    rw [if_pos (Classical.not_not.mp hc)] at h
                    refine zw_push hm_128 dX11_readPolicy_65 (v := .inl (-1 : Int32)) rfl ?_
                    exact zw_iret hm_128 dX11_readPolicy_66 h
                · intro x S9 hx
                  exact hx.elim
              · intro x S9 hx
                exact ⟨by decide, hx⟩
            · intro hc
              rw [if_pos (Classical.not_not.mp hc)] at h
              refine zw_push hm_128 dX11_readPolicy_65 (v := .inl (-1 : Int32)) rfl ?_
              exact zw_iret hm_128 dX11_readPolicy_66 h
          · intro x S9 hx
            exact hx.elim
        · intro x S9 hx
          exact ⟨by decide, hx⟩
      rw [if_neg hc0] at h
      by_cases hc1 : v4 = (1 : Int32)
      · rw [if_pos hc1] at h
        refine zw_jmp hm_132 dX11_partsOf_1 (t := 48) (st' := []) rfl rfl rfl (ma_jmp_tab (by rw [hc1]; decide +kernel)) ?_
        refine zw_txc hm_132 dX11_partsOf_48 txi_11_321 ?_
        refine zw_aret hm_132 dX11_partsOf_51 ?_
        show ma_wp X d w 128 19 [(1, .inl v4), (0, .inr (.inr (some 64)))] [.inr (.inr (some 8))] S3 _
        refine zw_sto hm_128 dX11_readPolicy_19 [(2, .inr (.inr (some 8))), (1, .inl v4), (0, .inr (.inr (some 64)))] rfl rfl rfl ?_
        refine zw_push hm_128 dX11_readPolicy_20 (v := .inl (0 : Int32)) rfl ?_
        refine zw_sto hm_128 dX11_readPolicy_21 [(3, .inl (0 : Int32)), (2, .inr (.inr (some 8))), (1, .inl v4), (0, .inr (.inr (some 64)))] rfl rfl rfl ?_
        refine zw_push hm_128 dX11_readPolicy_22 (v := .inl (0 : Int32)) rfl ?_
        refine zw_push hm_128 dX11_readPolicy_23 (v := .inr (.inr (some 8))) rfl ?_
        refine zw_cv hm_128 dX11_readPolicy_24 v_11_288_17 hm_277 [] [.inl (0 : Int32)] rfl rfl ⟨by omega, by omega⟩ rfl (tx_len (v := (1 : Int32)) (by decide) (by omega) (by omega) rfl rfl ?_)
        show ma_wp X d w 128 27 [(3, .inl (0 : Int32)), (2, .inr (.inr (some 8))), (1, .inl v4), (0, .inr (.inr (some 64)))] [.inl (1 : Int32), .inl (0 : Int32)] S3 _
        refine zw_if2 hm_128 dX11_readPolicy_27 (t := 73) rfl zc2_ge (fun hc => absurd hc (by decide)) (fun _ => ?_)
        refine zw_push hm_128 dX11_readPolicy_30 (v := .inl (0 : Int32)) rfl ?_
        refine zw_push hm_128 dX11_readPolicy_31 (v := .inl (4 : Int32)) rfl ?_
        refine zw_if2 hm_128 dX11_readPolicy_32 (t := 73) rfl zc2_ge (fun hc => absurd hc (by decide)) (fun _ => ?_)
        refine zw_push hm_128 dX11_readPolicy_35 (v := .inr (.inr (some 64))) rfl ?_
        refine zw_cv hm_128 dX11_readPolicy_36 v_11_278_11 hm_129 [] [] rfl (zT_rt hS3 s_64 rfl) ⟨by omega, by omega⟩ rfl (zw_mono h (zi_go ?_ ?_))
        · intro v16 S15 hv
          obtain ⟨hS15, h⟩ := hv
          refine zw_stk hm_128 dX11_readPolicy_39 (st' := []) rfl rfl ?_
          refine zw_push hm_128 dX11_readPolicy_40 (v := .inr (.inr (some 64))) rfl ?_
          refine zw_gf hm_128 dX11_readPolicy_41 (v := .inr (.inr (some 66))) (zT_is hS15 s_64) (zT_t hS15 s_64) rfl f_11_13_11 (zT_f hS15 r_64_4) ?_
          refine zw_push hm_128 dX11_readPolicy_44 (v := .inl (0 : Int32)) rfl ?_
          refine zw_push hm_128 dX11_readPolicy_45 (v := .inr (.inr (some 64))) rfl ?_
          refine zw_push hm_128 dX11_readPolicy_46 (v := .inr (.inr (some 8))) rfl ?_
          refine zw_push hm_128 dX11_readPolicy_47 (v := .inl (0 : Int32)) rfl ?_
          refine zw_cv hm_128 dX11_readPolicy_48 v_11_293_17 hm_279 [.inl (0 : Int32)] [.inr (.inr (some 64)), .inl (0 : Int32), .inr (.inr (some 66))] rfl rfl ⟨by omega, by omega⟩ rfl (tx_char (v := (114 : Int32)) (by decide) (by omega) (by omega) (by decide) (by decide) (by decide) (by decide) ?_)
          show ma_wp X d w 128 51 [(3, .inl (0 : Int32)), (2, .inr (.inr (some 8))), (1, .inl v4), (0, .inr (.inr (some 64)))] [.inl (114 : Int32), .inr (.inr (some 64)), .inl (0 : Int32), .inr (.inr (some 66))] S15 _
          refine zw_cv hm_128 dX11_readPolicy_51 v_11_297_11 hm_133 [.inl (114 : Int32)] [.inl (0 : Int32), .inr (.inr (some 66))] rfl (zT_rt hS15 s_64 rfl) ⟨by omega, by omega⟩ rfl ?_
          show ma_wp X (d - 1) (w - 21) 133 0 [(0, .inr (.inr (some 64))), (1, .inl (114 : Int32))] [] S15 _
          refine zw_push hm_133 dX11_partToken_0 (v := .inl (114 : Int32)) rfl ?_
          refine zw_jmp hm_133 dX11_partToken_1 (t := 68) (st' := []) rfl rfl rfl (by decide +kernel) ?_
          refine zw_push hm_133 dX11_partToken_68 (v := .inr (.inr (some 64))) rfl ?_
          refine zw_push hm_133 dX11_partToken_69 (v := .inl (16 : Int32)) rfl ?_
          refine zw_push hm_133 dX11_partToken_71 (v := .inl (1500 : Int32)) rfl ?_
          refine zw_cv hm_133 dX11_partToken_74 v_11_331_11 hm_134 [.inl (1500 : Int32), .inl (16 : Int32)] [] rfl (zT_rt hS15 s_64 rfl) ⟨by omega, by omega⟩ rfl (zw_mono h (zi_go ?_ ?_))
          · intro v18 S17 hv
            obtain ⟨hS17, h⟩ := hv
            refine zw_iret hm_133 dX11_partToken_77 ?_
            show ma_wp X d w 128 54 [(3, .inl (0 : Int32)), (2, .inr (.inr (some 8))), (1, .inl v4), (0, .inr (.inr (some 64)))] [.inl v18, .inl (0 : Int32), .inr (.inr (some 66))] S17 _
            refine zw_ias hm_128 dX11_readPolicy_54 (zT_is hS17 s_66) (zT_h hS17 s_66) rfl ⟨by decide, by decide⟩ ?_
            refine zw_push hm_128 dX11_readPolicy_55 (v := .inr (.inr (some 64))) rfl ?_
            refine zw_gf hm_128 dX11_readPolicy_56 (v := .inr (.inr (some 66))) (zT_is (zT_pi hS17) s_64) (zT_t (zT_pi hS17) s_64) rfl f_11_13_11 (zT_f (zT_pi hS17) r_64_4) ?_
            refine zw_push hm_128 dX11_readPolicy_59 (v := .inl (0 : Int32)) rfl ?_
            refine zw_ia hm_128 dX11_readPolicy_60 (zT_is (zT_pi hS17) s_66) (zT_h (zT_pi hS17) s_66) rfl ⟨by decide, by decide⟩ ?_
            show ma_wp X d w 128 61 [(3, .inl (0 : Int32)), (2, .inr (.inr (some 8))), (1, .inl v4), (0, .inr (.inr (some 64)))] [.inl v18] (ma_put S17 66 0 (.inl v18)) _
            refine zw_push hm_128 dX11_readPolicy_61 (v := .inl (-1 : Int32)) rfl ?_
            refine zw_if2 hm_128 dX11_readPolicy_62 (t := 67) rfl zc2_ne ?_ ?_
            · intro hc
              rw [if_neg hc] at h
              refine zw_sto hm_128 dX11_readPolicy_67 [(3, .inl (1 : Int32)), (2, .inr (.inr (some 8))), (1, .inl v4), (0, .inr (.inr (some 64)))] rfl rfl rfl ?_
              refine zw_goto hm_128 dX11_readPolicy_70 (t := 22) rfl ?_
              refine zw_push hm_128 dX11_readPolicy_22 (v := .inl (1 : Int32)) rfl ?_
              refine zw_push hm_128 dX11_readPolicy_23 (v := .inr (.inr (some 8))) rfl ?_
              refine zw_cv hm_128 dX11_readPolicy_24 v_11_288_17 hm_277 [] [.inl (1 : Int32)] rfl rfl ⟨by omega, by omega⟩ rfl (tx_len (v := (1 : Int32)) (by decide) (by omega) (by omega) rfl rfl ?_)
              show ma_wp X d w 128 27 [(3, .inl (1 : Int32)), (2, .inr (.inr (some 8))), (1, .inl v4), (0, .inr (.inr (some 64)))] [.inl (1 : Int32), .inl (1 : Int32)] (ma_put S17 66 0 (.inl v18)) _
              refine zw_if2 hm_128 dX11_readPolicy_27 (t := 73) rfl zc2_ge (fun _ => ?_) (fun hc => absurd (by decide) hc)
              refine zw_push hm_128 dX11_readPolicy_73 (v := .inl v4) rfl ?_
              refine zw_push hm_128 dX11_readPolicy_74 (v := .inl (-1 : Int32)) rfl ?_
              refine zw_if2 hm_128 dX11_readPolicy_75 (t := 85) rfl zc2_eq ?_ ?_
              · intro hc
                rw [if_pos hc] at h
                refine zw_push hm_128 dX11_readPolicy_85 (v := .inl (-1 : Int32)) rfl ?_
                exact zw_iret hm_128 dX11_readPolicy_86 h
              · intro hc
                rw [if_neg hc] at h
                refine zw_push hm_128 dX11_readPolicy_78 (v := .inr (.inr (some 64))) rfl ?_
                refine zw_cv hm_128 dX11_readPolicy_79 v_11_278_11 hm_129 [] [] rfl (zT_rt (zT_pi hS17) s_64 rfl) ⟨by omega, by omega⟩ rfl (zw_mono h (zi_go ?_ ?_))
                · intro v20 S19 hv
                  obtain ⟨hS19, h⟩ := hv
                  refine zw_if0 hm_128 dX11_readPolicy_82 (t := 87) rfl zc0_eq ?_ ?_
                  · intro hc
                    rw [if_pos hc] at h
                    refine zw_push hm_128 dX11_readPolicy_87 (v := .inl v4) rfl ?_
                    exact zw_iret hm_128 dX11_readPolicy_88 h
                  · intro hc
                    rw [if_neg hc] at h
                    refine zw_push hm_128 dX11_readPolicy_85 (v := .inl (-1 : Int32)) rfl ?_
                    exact zw_iret hm_128 dX11_readPolicy_86 h
                · intro x S9 hx
                  exact ⟨by decide, hx⟩
            · intro hc
              rw [if_pos (Classical.not_not.mp hc)] at h
              refine zw_push hm_128 dX11_readPolicy_65 (v := .inl (-1 : Int32)) rfl ?_
              exact zw_iret hm_128 dX11_readPolicy_66 h
          · intro x S9 hx
            exact hx.elim
        · intro x S9 hx
          exact ⟨by decide, hx⟩
      rw [if_neg hc1] at h
      by_cases hc2 : v4 = (2 : Int32)
      · rw [if_pos hc2] at h
        refine zw_jmp hm_132 dX11_partsOf_1 (t := 52) (st' := []) rfl rfl rfl (ma_jmp_tab (by rw [hc2]; decide +kernel)) ?_
        refine zw_txc hm_132 dX11_partsOf_52 txi_11_321 ?_
        refine zw_aret hm_132 dX11_partsOf_55 ?_
        show ma_wp X d w 128 19 [(1, .inl v4), (0, .inr (.inr (some 64)))] [.inr (.inr (some 8))] S3 _
        refine zw_sto hm_128 dX11_readPolicy_19 [(2, .inr (.inr (some 8))), (1, .inl v4), (0, .inr (.inr (some 64)))] rfl rfl rfl ?_
        refine zw_push hm_128 dX11_readPolicy_20 (v := .inl (0 : Int32)) rfl ?_
        refine zw_sto hm_128 dX11_readPolicy_21 [(3, .inl (0 : Int32)), (2, .inr (.inr (some 8))), (1, .inl v4), (0, .inr (.inr (some 64)))] rfl rfl rfl ?_
        refine zw_push hm_128 dX11_readPolicy_22 (v := .inl (0 : Int32)) rfl ?_
        refine zw_push hm_128 dX11_readPolicy_23 (v := .inr (.inr (some 8))) rfl ?_
        refine zw_cv hm_128 dX11_readPolicy_24 v_11_288_17 hm_277 [] [.inl (0 : Int32)] rfl rfl ⟨by omega, by omega⟩ rfl (tx_len (v := (1 : Int32)) (by decide) (by omega) (by omega) rfl rfl ?_)
        show ma_wp X d w 128 27 [(3, .inl (0 : Int32)), (2, .inr (.inr (some 8))), (1, .inl v4), (0, .inr (.inr (some 64)))] [.inl (1 : Int32), .inl (0 : Int32)] S3 _
        refine zw_if2 hm_128 dX11_readPolicy_27 (t := 73) rfl zc2_ge (fun hc => absurd hc (by decide)) (fun _ => ?_)
        refine zw_push hm_128 dX11_readPolicy_30 (v := .inl (0 : Int32)) rfl ?_
        refine zw_push hm_128 dX11_readPolicy_31 (v := .inl (4 : Int32)) rfl ?_
        refine zw_if2 hm_128 dX11_readPolicy_32 (t := 73) rfl zc2_ge (fun hc => absurd hc (by decide)) (fun _ => ?_)
        refine zw_push hm_128 dX11_readPolicy_35 (v := .inr (.inr (some 64))) rfl ?_
        refine zw_cv hm_128 dX11_readPolicy_36 v_11_278_11 hm_129 [] [] rfl (zT_rt hS3 s_64 rfl) ⟨by omega, by omega⟩ rfl (zw_mono h (zi_go ?_ ?_))
        · intro v22 S21 hv
          obtain ⟨hS21, h⟩ := hv
          refine zw_stk hm_128 dX11_readPolicy_39 (st' := []) rfl rfl ?_
          refine zw_push hm_128 dX11_readPolicy_40 (v := .inr (.inr (some 64))) rfl ?_
          refine zw_gf hm_128 dX11_readPolicy_41 (v := .inr (.inr (some 66))) (zT_is hS21 s_64) (zT_t hS21 s_64) rfl f_11_13_11 (zT_f hS21 r_64_4) ?_
          refine zw_push hm_128 dX11_readPolicy_44 (v := .inl (0 : Int32)) rfl ?_
          refine zw_push hm_128 dX11_readPolicy_45 (v := .inr (.inr (some 64))) rfl ?_
          refine zw_push hm_128 dX11_readPolicy_46 (v := .inr (.inr (some 8))) rfl ?_
          refine zw_push hm_128 dX11_readPolicy_47 (v := .inl (0 : Int32)) rfl ?_
          refine zw_cv hm_128 dX11_readPolicy_48 v_11_293_17 hm_279 [.inl (0 : Int32)] [.inr (.inr (some 64)), .inl (0 : Int32), .inr (.inr (some 66))] rfl rfl ⟨by omega, by omega⟩ rfl (tx_char (v := (114 : Int32)) (by decide) (by omega) (by omega) (by decide) (by decide) (by decide) (by decide) ?_)
          show ma_wp X d w 128 51 [(3, .inl (0 : Int32)), (2, .inr (.inr (some 8))), (1, .inl v4), (0, .inr (.inr (some 64)))] [.inl (114 : Int32), .inr (.inr (some 64)), .inl (0 : Int32), .inr (.inr (some 66))] S21 _
          refine zw_cv hm_128 dX11_readPolicy_51 v_11_297_11 hm_133 [.inl (114 : Int32)] [.inl (0 : Int32), .inr (.inr (some 66))] rfl (zT_rt hS21 s_64 rfl) ⟨by omega, by omega⟩ rfl ?_
          show ma_wp X (d - 1) (w - 21) 133 0 [(0, .inr (.inr (some 64))), (1, .inl (114 : Int32))] [] S21 _
          refine zw_push hm_133 dX11_partToken_0 (v := .inl (114 : Int32)) rfl ?_
          refine zw_jmp hm_133 dX11_partToken_1 (t := 68) (st' := []) rfl rfl rfl (by decide +kernel) ?_
          refine zw_push hm_133 dX11_partToken_68 (v := .inr (.inr (some 64))) rfl ?_
          refine zw_push hm_133 dX11_partToken_69 (v := .inl (16 : Int32)) rfl ?_
          refine zw_push hm_133 dX11_partToken_71 (v := .inl (1500 : Int32)) rfl ?_
          refine zw_cv hm_133 dX11_partToken_74 v_11_331_11 hm_134 [.inl (1500 : Int32), .inl (16 : Int32)] [] rfl (zT_rt hS21 s_64 rfl) ⟨by omega, by omega⟩ rfl (zw_mono h (zi_go ?_ ?_))
          · intro v24 S23 hv
            obtain ⟨hS23, h⟩ := hv
            refine zw_iret hm_133 dX11_partToken_77 ?_
            show ma_wp X d w 128 54 [(3, .inl (0 : Int32)), (2, .inr (.inr (some 8))), (1, .inl v4), (0, .inr (.inr (some 64)))] [.inl v24, .inl (0 : Int32), .inr (.inr (some 66))] S23 _
            refine zw_ias hm_128 dX11_readPolicy_54 (zT_is hS23 s_66) (zT_h hS23 s_66) rfl ⟨by decide, by decide⟩ ?_
            refine zw_push hm_128 dX11_readPolicy_55 (v := .inr (.inr (some 64))) rfl ?_
            refine zw_gf hm_128 dX11_readPolicy_56 (v := .inr (.inr (some 66))) (zT_is (zT_pi hS23) s_64) (zT_t (zT_pi hS23) s_64) rfl f_11_13_11 (zT_f (zT_pi hS23) r_64_4) ?_
            refine zw_push hm_128 dX11_readPolicy_59 (v := .inl (0 : Int32)) rfl ?_
            refine zw_ia hm_128 dX11_readPolicy_60 (zT_is (zT_pi hS23) s_66) (zT_h (zT_pi hS23) s_66) rfl ⟨by decide, by decide⟩ ?_
            show ma_wp X d w 128 61 [(3, .inl (0 : Int32)), (2, .inr (.inr (some 8))), (1, .inl v4), (0, .inr (.inr (some 64)))] [.inl v24] (ma_put S23 66 0 (.inl v24)) _
            refine zw_push hm_128 dX11_readPolicy_61 (v := .inl (-1 : Int32)) rfl ?_
            refine zw_if2 hm_128 dX11_readPolicy_62 (t := 67) rfl zc2_ne ?_ ?_
            · intro hc
              rw [if_neg hc] at h
              refine zw_sto hm_128 dX11_readPolicy_67 [(3, .inl (1 : Int32)), (2, .inr (.inr (some 8))), (1, .inl v4), (0, .inr (.inr (some 64)))] rfl rfl rfl ?_
              refine zw_goto hm_128 dX11_readPolicy_70 (t := 22) rfl ?_
              refine zw_push hm_128 dX11_readPolicy_22 (v := .inl (1 : Int32)) rfl ?_
              refine zw_push hm_128 dX11_readPolicy_23 (v := .inr (.inr (some 8))) rfl ?_
              refine zw_cv hm_128 dX11_readPolicy_24 v_11_288_17 hm_277 [] [.inl (1 : Int32)] rfl rfl ⟨by omega, by omega⟩ rfl (tx_len (v := (1 : Int32)) (by decide) (by omega) (by omega) rfl rfl ?_)
              show ma_wp X d w 128 27 [(3, .inl (1 : Int32)), (2, .inr (.inr (some 8))), (1, .inl v4), (0, .inr (.inr (some 64)))] [.inl (1 : Int32), .inl (1 : Int32)] (ma_put S23 66 0 (.inl v24)) _
              refine zw_if2 hm_128 dX11_readPolicy_27 (t := 73) rfl zc2_ge (fun _ => ?_) (fun hc => absurd (by decide) hc)
              refine zw_push hm_128 dX11_readPolicy_73 (v := .inl v4) rfl ?_
              refine zw_push hm_128 dX11_readPolicy_74 (v := .inl (-1 : Int32)) rfl ?_
              refine zw_if2 hm_128 dX11_readPolicy_75 (t := 85) rfl zc2_eq ?_ ?_
              · intro hc
                rw [if_pos hc] at h
                refine zw_push hm_128 dX11_readPolicy_85 (v := .inl (-1 : Int32)) rfl ?_
                exact zw_iret hm_128 dX11_readPolicy_86 h
              · intro hc
                rw [if_neg hc] at h
                refine zw_push hm_128 dX11_readPolicy_78 (v := .inr (.inr (some 64))) rfl ?_
                refine zw_cv hm_128 dX11_readPolicy_79 v_11_278_11 hm_129 [] [] rfl (zT_rt (zT_pi hS23) s_64 rfl) ⟨by omega, by omega⟩ rfl (zw_mono h (zi_go ?_ ?_))
                · intro v26 S25 hv
                  obtain ⟨hS25, h⟩ := hv
                  refine zw_if0 hm_128 dX11_readPolicy_82 (t := 87) rfl zc0_eq ?_ ?_
                  · intro hc
                    rw [if_pos hc] at h
                    refine zw_push hm_128 dX11_readPolicy_87 (v := .inl v4) rfl ?_
                    exact zw_iret hm_128 dX11_readPolicy_88 h
                  · intro hc
                    rw [if_neg hc] at h
                    refine zw_push hm_128 dX11_readPolicy_85 (v := .inl (-1 : Int32)) rfl ?_
                    exact zw_iret hm_128 dX11_readPolicy_86 h
                · intro x S9 hx
                  exact ⟨by decide, hx⟩
            · intro hc
              rw [if_pos (Classical.not_not.mp hc)] at h
              refine zw_push hm_128 dX11_readPolicy_65 (v := .inl (-1 : Int32)) rfl ?_
              exact zw_iret hm_128 dX11_readPolicy_66 h
          · intro x S9 hx
            exact hx.elim
        · intro x S9 hx
          exact ⟨by decide, hx⟩
      rw [if_neg hc2] at h
      by_cases hc3 : v4 = (3 : Int32)
      · rw [if_pos hc3] at h
        refine zw_jmp hm_132 dX11_partsOf_1 (t := 56) (st' := []) rfl rfl rfl (ma_jmp_tab (by rw [hc3]; decide +kernel)) ?_
        refine zw_txc hm_132 dX11_partsOf_56 txi_11_323 ?_
        refine zw_aret hm_132 dX11_partsOf_59 ?_
        show ma_wp X d w 128 19 [(1, .inl v4), (0, .inr (.inr (some 64)))] [.inr (.inr (some 9))] S3 _
        refine zw_sto hm_128 dX11_readPolicy_19 [(2, .inr (.inr (some 9))), (1, .inl v4), (0, .inr (.inr (some 64)))] rfl rfl rfl ?_
        refine zw_push hm_128 dX11_readPolicy_20 (v := .inl (0 : Int32)) rfl ?_
        refine zw_sto hm_128 dX11_readPolicy_21 [(3, .inl (0 : Int32)), (2, .inr (.inr (some 9))), (1, .inl v4), (0, .inr (.inr (some 64)))] rfl rfl rfl ?_
        refine zw_push hm_128 dX11_readPolicy_22 (v := .inl (0 : Int32)) rfl ?_
        refine zw_push hm_128 dX11_readPolicy_23 (v := .inr (.inr (some 9))) rfl ?_
        refine zw_cv hm_128 dX11_readPolicy_24 v_11_288_17 hm_277 [] [.inl (0 : Int32)] rfl rfl ⟨by omega, by omega⟩ rfl (tx_len (v := (4 : Int32)) (by decide) (by omega) (by omega) rfl rfl ?_)
        show ma_wp X d w 128 27 [(3, .inl (0 : Int32)), (2, .inr (.inr (some 9))), (1, .inl v4), (0, .inr (.inr (some 64)))] [.inl (4 : Int32), .inl (0 : Int32)] S3 _
        refine zw_if2 hm_128 dX11_readPolicy_27 (t := 73) rfl zc2_ge (fun hc => absurd hc (by decide)) (fun _ => ?_)
        refine zw_push hm_128 dX11_readPolicy_30 (v := .inl (0 : Int32)) rfl ?_
        refine zw_push hm_128 dX11_readPolicy_31 (v := .inl (4 : Int32)) rfl ?_
        refine zw_if2 hm_128 dX11_readPolicy_32 (t := 73) rfl zc2_ge (fun hc => absurd hc (by decide)) (fun _ => ?_)
        refine zw_push hm_128 dX11_readPolicy_35 (v := .inr (.inr (some 64))) rfl ?_
        refine zw_cv hm_128 dX11_readPolicy_36 v_11_278_11 hm_129 [] [] rfl (zT_rt hS3 s_64 rfl) ⟨by omega, by omega⟩ rfl (zw_mono h (zi_go ?_ ?_))
        · intro v28 S27 hv
          obtain ⟨hS27, h⟩ := hv
          refine zw_stk hm_128 dX11_readPolicy_39 (st' := []) rfl rfl ?_
          refine zw_push hm_128 dX11_readPolicy_40 (v := .inr (.inr (some 64))) rfl ?_
          refine zw_gf hm_128 dX11_readPolicy_41 (v := .inr (.inr (some 66))) (zT_is hS27 s_64) (zT_t hS27 s_64) rfl f_11_13_11 (zT_f hS27 r_64_4) ?_
          refine zw_push hm_128 dX11_readPolicy_44 (v := .inl (0 : Int32)) rfl ?_
          refine zw_push hm_128 dX11_readPolicy_45 (v := .inr (.inr (some 64))) rfl ?_
          refine zw_push hm_128 dX11_readPolicy_46 (v := .inr (.inr (some 9))) rfl ?_
          refine zw_push hm_128 dX11_readPolicy_47 (v := .inl (0 : Int32)) rfl ?_
          refine zw_cv hm_128 dX11_readPolicy_48 v_11_293_17 hm_279 [.inl (0 : Int32)] [.inr (.inr (some 64)), .inl (0 : Int32), .inr (.inr (some 66))] rfl rfl ⟨by omega, by omega⟩ rfl (tx_char (v := (114 : Int32)) (by decide) (by omega) (by omega) (by decide) (by decide) (by decide) (by decide) ?_)
          show ma_wp X d w 128 51 [(3, .inl (0 : Int32)), (2, .inr (.inr (some 9))), (1, .inl v4), (0, .inr (.inr (some 64)))] [.inl (114 : Int32), .inr (.inr (some 64)), .inl (0 : Int32), .inr (.inr (some 66))] S27 _
          refine zw_cv hm_128 dX11_readPolicy_51 v_11_297_11 hm_133 [.inl (114 : Int32)] [.inl (0 : Int32), .inr (.inr (some 66))] rfl (zT_rt hS27 s_64 rfl) ⟨by omega, by omega⟩ rfl ?_
          show ma_wp X (d - 1) (w - 21) 133 0 [(0, .inr (.inr (some 64))), (1, .inl (114 : Int32))] [] S27 _
          refine zw_push hm_133 dX11_partToken_0 (v := .inl (114 : Int32)) rfl ?_
          refine zw_jmp hm_133 dX11_partToken_1 (t := 68) (st' := []) rfl rfl rfl (by decide +kernel) ?_
          refine zw_push hm_133 dX11_partToken_68 (v := .inr (.inr (some 64))) rfl ?_
          refine zw_push hm_133 dX11_partToken_69 (v := .inl (16 : Int32)) rfl ?_
          refine zw_push hm_133 dX11_partToken_71 (v := .inl (1500 : Int32)) rfl ?_
          refine zw_cv hm_133 dX11_partToken_74 v_11_331_11 hm_134 [.inl (1500 : Int32), .inl (16 : Int32)] [] rfl (zT_rt hS27 s_64 rfl) ⟨by omega, by omega⟩ rfl (zw_mono h (zi_go ?_ ?_))
          · intro v30 S29 hv
            obtain ⟨hS29, h⟩ := hv
            refine zw_iret hm_133 dX11_partToken_77 ?_
            show ma_wp X d w 128 54 [(3, .inl (0 : Int32)), (2, .inr (.inr (some 9))), (1, .inl v4), (0, .inr (.inr (some 64)))] [.inl v30, .inl (0 : Int32), .inr (.inr (some 66))] S29 _
            refine zw_ias hm_128 dX11_readPolicy_54 (zT_is hS29 s_66) (zT_h hS29 s_66) rfl ⟨by decide, by decide⟩ ?_
            refine zw_push hm_128 dX11_readPolicy_55 (v := .inr (.inr (some 64))) rfl ?_
            refine zw_gf hm_128 dX11_readPolicy_56 (v := .inr (.inr (some 66))) (zT_is (zT_pi hS29) s_64) (zT_t (zT_pi hS29) s_64) rfl f_11_13_11 (zT_f (zT_pi hS29) r_64_4) ?_
            refine zw_push hm_128 dX11_readPolicy_59 (v := .inl (0 : Int32)) rfl ?_
            refine zw_ia hm_128 dX11_readPolicy_60 (zT_is (zT_pi hS29) s_66) (zT_h (zT_pi hS29) s_66) rfl ⟨by decide, by decide⟩ ?_
            show ma_wp X d w 128 61 [(3, .inl (0 : Int32)), (2, .inr (.inr (some 9))), (1, .inl v4), (0, .inr (.inr (some 64)))] [.inl v30] (ma_put S29 66 0 (.inl v30)) _
            refine zw_push hm_128 dX11_readPolicy_61 (v := .inl (-1 : Int32)) rfl ?_
            refine zw_if2 hm_128 dX11_readPolicy_62 (t := 67) rfl zc2_ne ?_ ?_
            · intro hc
              rw [if_neg hc] at h
              refine zw_sto hm_128 dX11_readPolicy_67 [(3, .inl (1 : Int32)), (2, .inr (.inr (some 9))), (1, .inl v4), (0, .inr (.inr (some 64)))] rfl rfl rfl ?_
              refine zw_goto hm_128 dX11_readPolicy_70 (t := 22) rfl ?_
              refine zw_push hm_128 dX11_readPolicy_22 (v := .inl (1 : Int32)) rfl ?_
              refine zw_push hm_128 dX11_readPolicy_23 (v := .inr (.inr (some 9))) rfl ?_
              refine zw_cv hm_128 dX11_readPolicy_24 v_11_288_17 hm_277 [] [.inl (1 : Int32)] rfl rfl ⟨by omega, by omega⟩ rfl (tx_len (v := (4 : Int32)) (by decide) (by omega) (by omega) rfl rfl ?_)
              show ma_wp X d w 128 27 [(3, .inl (1 : Int32)), (2, .inr (.inr (some 9))), (1, .inl v4), (0, .inr (.inr (some 64)))] [.inl (4 : Int32), .inl (1 : Int32)] (ma_put S29 66 0 (.inl v30)) _
              refine zw_if2 hm_128 dX11_readPolicy_27 (t := 73) rfl zc2_ge (fun hc => absurd hc (by decide)) (fun _ => ?_)
              refine zw_push hm_128 dX11_readPolicy_30 (v := .inl (1 : Int32)) rfl ?_
              refine zw_push hm_128 dX11_readPolicy_31 (v := .inl (4 : Int32)) rfl ?_
              refine zw_if2 hm_128 dX11_readPolicy_32 (t := 73) rfl zc2_ge (fun hc => absurd hc (by decide)) (fun _ => ?_)
              refine zw_push hm_128 dX11_readPolicy_35 (v := .inr (.inr (some 64))) rfl ?_
              refine zw_cv hm_128 dX11_readPolicy_36 v_11_278_11 hm_129 [] [] rfl (zT_rt (zT_pi hS29) s_64 rfl) ⟨by omega, by omega⟩ rfl (zw_mono h (zi_go ?_ ?_))
              · intro v32 S31 hv
                obtain ⟨hS31, h⟩ := hv
                refine zw_stk hm_128 dX11_readPolicy_39 (st' := []) rfl rfl ?_
                refine zw_push hm_128 dX11_readPolicy_40 (v := .inr (.inr (some 64))) rfl ?_
                refine zw_gf hm_128 dX11_readPolicy_41 (v := .inr (.inr (some 66))) (zT_is hS31 s_64) (zT_t hS31 s_64) rfl f_11_13_11 (zT_f hS31 r_64_4) ?_
                refine zw_push hm_128 dX11_readPolicy_44 (v := .inl (1 : Int32)) rfl ?_
                refine zw_push hm_128 dX11_readPolicy_45 (v := .inr (.inr (some 64))) rfl ?_
                refine zw_push hm_128 dX11_readPolicy_46 (v := .inr (.inr (some 9))) rfl ?_
                refine zw_push hm_128 dX11_readPolicy_47 (v := .inl (1 : Int32)) rfl ?_
                refine zw_cv hm_128 dX11_readPolicy_48 v_11_293_17 hm_279 [.inl (1 : Int32)] [.inr (.inr (some 64)), .inl (1 : Int32), .inr (.inr (some 66))] rfl rfl ⟨by omega, by omega⟩ rfl (tx_char (v := (114 : Int32)) (by decide) (by omega) (by omega) (by decide) (by decide) (by decide) (by decide) ?_)
                show ma_wp X d w 128 51 [(3, .inl (1 : Int32)), (2, .inr (.inr (some 9))), (1, .inl v4), (0, .inr (.inr (some 64)))] [.inl (114 : Int32), .inr (.inr (some 64)), .inl (1 : Int32), .inr (.inr (some 66))] S31 _
                refine zw_cv hm_128 dX11_readPolicy_51 v_11_297_11 hm_133 [.inl (114 : Int32)] [.inl (1 : Int32), .inr (.inr (some 66))] rfl (zT_rt hS31 s_64 rfl) ⟨by omega, by omega⟩ rfl ?_
                show ma_wp X (d - 1) (w - 21) 133 0 [(0, .inr (.inr (some 64))), (1, .inl (114 : Int32))] [] S31 _
                refine zw_push hm_133 dX11_partToken_0 (v := .inl (114 : Int32)) rfl ?_
                refine zw_jmp hm_133 dX11_partToken_1 (t := 68) (st' := []) rfl rfl rfl (by decide +kernel) ?_
                refine zw_push hm_133 dX11_partToken_68 (v := .inr (.inr (some 64))) rfl ?_
                refine zw_push hm_133 dX11_partToken_69 (v := .inl (16 : Int32)) rfl ?_
                refine zw_push hm_133 dX11_partToken_71 (v := .inl (1500 : Int32)) rfl ?_
                refine zw_cv hm_133 dX11_partToken_74 v_11_331_11 hm_134 [.inl (1500 : Int32), .inl (16 : Int32)] [] rfl (zT_rt hS31 s_64 rfl) ⟨by omega, by omega⟩ rfl (zw_mono h (zi_go ?_ ?_))
                · intro v34 S33 hv
                  obtain ⟨hS33, h⟩ := hv
                  refine zw_iret hm_133 dX11_partToken_77 ?_
                  show ma_wp X d w 128 54 [(3, .inl (1 : Int32)), (2, .inr (.inr (some 9))), (1, .inl v4), (0, .inr (.inr (some 64)))] [.inl v34, .inl (1 : Int32), .inr (.inr (some 66))] S33 _
                  refine zw_ias hm_128 dX11_readPolicy_54 (zT_is hS33 s_66) (zT_h hS33 s_66) rfl ⟨by decide, by decide⟩ ?_
                  refine zw_push hm_128 dX11_readPolicy_55 (v := .inr (.inr (some 64))) rfl ?_
                  refine zw_gf hm_128 dX11_readPolicy_56 (v := .inr (.inr (some 66))) (zT_is (zT_pi hS33) s_64) (zT_t (zT_pi hS33) s_64) rfl f_11_13_11 (zT_f (zT_pi hS33) r_64_4) ?_
                  refine zw_push hm_128 dX11_readPolicy_59 (v := .inl (1 : Int32)) rfl ?_
                  refine zw_ia hm_128 dX11_readPolicy_60 (zT_is (zT_pi hS33) s_66) (zT_h (zT_pi hS33) s_66) rfl ⟨by decide, by decide⟩ ?_
                  show ma_wp X d w 128 61 [(3, .inl (1 : Int32)), (2, .inr (.inr (some 9))), (1, .inl v4), (0, .inr (.inr (some 64)))] [.inl v34] (ma_put S33 66 1 (.inl v34)) _
                  refine zw_push hm_128 dX11_readPolicy_61 (v := .inl (-1 : Int32)) rfl ?_
                  refine zw_if2 hm_128 dX11_readPolicy_62 (t := 67) rfl zc2_ne ?_ ?_
                  · intro hc
                    rw [if_neg hc] at h
                    refine zw_sto hm_128 dX11_readPolicy_67 [(3, .inl (2 : Int32)), (2, .inr (.inr (some 9))), (1, .inl v4), (0, .inr (.inr (some 64)))] rfl rfl rfl ?_
                    refine zw_goto hm_128 dX11_readPolicy_70 (t := 22) rfl ?_
                    refine zw_push hm_128 dX11_readPolicy_22 (v := .inl (2 : Int32)) rfl ?_
                    refine zw_push hm_128 dX11_readPolicy_23 (v := .inr (.inr (some 9))) rfl ?_
                    refine zw_cv hm_128 dX11_readPolicy_24 v_11_288_17 hm_277 [] [.inl (2 : Int32)] rfl rfl ⟨by omega, by omega⟩ rfl (tx_len (v := (4 : Int32)) (by decide) (by omega) (by omega) rfl rfl ?_)
                    show ma_wp X d w 128 27 [(3, .inl (2 : Int32)), (2, .inr (.inr (some 9))), (1, .inl v4), (0, .inr (.inr (some 64)))] [.inl (4 : Int32), .inl (2 : Int32)] (ma_put S33 66 1 (.inl v34)) _
                    refine zw_if2 hm_128 dX11_readPolicy_27 (t := 73) rfl zc2_ge (fun hc => absurd hc (by decide)) (fun _ => ?_)
                    refine zw_push hm_128 dX11_readPolicy_30 (v := .inl (2 : Int32)) rfl ?_
                    refine zw_push hm_128 dX11_readPolicy_31 (v := .inl (4 : Int32)) rfl ?_
                    refine zw_if2 hm_128 dX11_readPolicy_32 (t := 73) rfl zc2_ge (fun hc => absurd hc (by decide)) (fun _ => ?_)
                    refine zw_push hm_128 dX11_readPolicy_35 (v := .inr (.inr (some 64))) rfl ?_
                    refine zw_cv hm_128 dX11_readPolicy_36 v_11_278_11 hm_129 [] [] rfl (zT_rt (zT_pi hS33) s_64 rfl) ⟨by omega, by omega⟩ rfl (zw_mono h (zi_go ?_ ?_))
                    · intro v36 S35 hv
                      obtain ⟨hS35, h⟩ := hv
                      refine zw_stk hm_128 dX11_readPolicy_39 (st' := []) rfl rfl ?_
                      refine zw_push hm_128 dX11_readPolicy_40 (v := .inr (.inr (some 64))) rfl ?_
                      refine zw_gf hm_128 dX11_readPolicy_41 (v := .inr (.inr (some 66))) (zT_is hS35 s_64) (zT_t hS35 s_64) rfl f_11_13_11 (zT_f hS35 r_64_4) ?_
                      refine zw_push hm_128 dX11_readPolicy_44 (v := .inl (2 : Int32)) rfl ?_
                      refine zw_push hm_128 dX11_readPolicy_45 (v := .inr (.inr (some 64))) rfl ?_
                      refine zw_push hm_128 dX11_readPolicy_46 (v := .inr (.inr (some 9))) rfl ?_
                      refine zw_push hm_128 dX11_readPolicy_47 (v := .inl (2 : Int32)) rfl ?_
                      refine zw_cv hm_128 dX11_readPolicy_48 v_11_293_17 hm_279 [.inl (2 : Int32)] [.inr (.inr (some 64)), .inl (2 : Int32), .inr (.inr (some 66))] rfl rfl ⟨by omega, by omega⟩ rfl (tx_char (v := (97 : Int32)) (by decide) (by omega) (by omega) (by decide) (by decide) (by decide) (by decide) ?_)
                      show ma_wp X d w 128 51 [(3, .inl (2 : Int32)), (2, .inr (.inr (some 9))), (1, .inl v4), (0, .inr (.inr (some 64)))] [.inl (97 : Int32), .inr (.inr (some 64)), .inl (2 : Int32), .inr (.inr (some 66))] S35 _
                      refine zw_cv hm_128 dX11_readPolicy_51 v_11_297_11 hm_133 [.inl (97 : Int32)] [.inl (2 : Int32), .inr (.inr (some 66))] rfl (zT_rt hS35 s_64 rfl) ⟨by omega, by omega⟩ rfl ?_
                      show ma_wp X (d - 1) (w - 21) 133 0 [(0, .inr (.inr (some 64))), (1, .inl (97 : Int32))] [] S35 _
                      refine zw_push hm_133 dX11_partToken_0 (v := .inl (97 : Int32)) rfl ?_
                      refine zw_jmp hm_133 dX11_partToken_1 (t := 78) (st' := []) rfl rfl rfl (by decide +kernel) ?_
                      refine zw_push hm_133 dX11_partToken_78 (v := .inr (.inr (some 64))) rfl ?_
                      refine zw_push hm_133 dX11_partToken_79 (v := .inl (1 : Int32)) rfl ?_
                      refine zw_push hm_133 dX11_partToken_80 (v := .inl (7 : Int32)) rfl ?_
                      refine zw_cv hm_133 dX11_partToken_82 v_11_331_11 hm_134 [.inl (7 : Int32), .inl (1 : Int32)] [] rfl (zT_rt hS35 s_64 rfl) ⟨by omega, by omega⟩ rfl (zw_mono h (zi_go ?_ ?_))
                      · intro v38 S37 hv
                        obtain ⟨hS37, h⟩ := hv
                        refine zw_iret hm_133 dX11_partToken_85 ?_
                        show ma_wp X d w 128 54 [(3, .inl (2 : Int32)), (2, .inr (.inr (some 9))), (1, .inl v4), (0, .inr (.inr (some 64)))] [.inl v38, .inl (2 : Int32), .inr (.inr (some 66))] S37 _
                        refine zw_ias hm_128 dX11_readPolicy_54 (zT_is hS37 s_66) (zT_h hS37 s_66) rfl ⟨by decide, by decide⟩ ?_
                        refine zw_push hm_128 dX11_readPolicy_55 (v := .inr (.inr (some 64))) rfl ?_
                        refine zw_gf hm_128 dX11_readPolicy_56 (v := .inr (.inr (some 66))) (zT_is (zT_pi hS37) s_64) (zT_t (zT_pi hS37) s_64) rfl f_11_13_11 (zT_f (zT_pi hS37) r_64_4) ?_
                        refine zw_push hm_128 dX11_readPolicy_59 (v := .inl (2 : Int32)) rfl ?_
                        refine zw_ia hm_128 dX11_readPolicy_60 (zT_is (zT_pi hS37) s_66) (zT_h (zT_pi hS37) s_66) rfl ⟨by decide, by decide⟩ ?_
                        show ma_wp X d w 128 61 [(3, .inl (2 : Int32)), (2, .inr (.inr (some 9))), (1, .inl v4), (0, .inr (.inr (some 64)))] [.inl v38] (ma_put S37 66 2 (.inl v38)) _
                        refine zw_push hm_128 dX11_readPolicy_61 (v := .inl (-1 : Int32)) rfl ?_
                        refine zw_if2 hm_128 dX11_readPolicy_62 (t := 67) rfl zc2_ne ?_ ?_
                        · intro hc
                          rw [if_neg hc] at h
                          refine zw_sto hm_128 dX11_readPolicy_67 [(3, .inl (3 : Int32)), (2, .inr (.inr (some 9))), (1, .inl v4), (0, .inr (.inr (some 64)))] rfl rfl rfl ?_
                          refine zw_goto hm_128 dX11_readPolicy_70 (t := 22) rfl ?_
                          refine zw_push hm_128 dX11_readPolicy_22 (v := .inl (3 : Int32)) rfl ?_
                          refine zw_push hm_128 dX11_readPolicy_23 (v := .inr (.inr (some 9))) rfl ?_
                          refine zw_cv hm_128 dX11_readPolicy_24 v_11_288_17 hm_277 [] [.inl (3 : Int32)] rfl rfl ⟨by omega, by omega⟩ rfl (tx_len (v := (4 : Int32)) (by decide) (by omega) (by omega) rfl rfl ?_)
                          show ma_wp X d w 128 27 [(3, .inl (3 : Int32)), (2, .inr (.inr (some 9))), (1, .inl v4), (0, .inr (.inr (some 64)))] [.inl (4 : Int32), .inl (3 : Int32)] (ma_put S37 66 2 (.inl v38)) _
                          refine zw_if2 hm_128 dX11_readPolicy_27 (t := 73) rfl zc2_ge (fun hc => absurd hc (by decide)) (fun _ => ?_)
                          refine zw_push hm_128 dX11_readPolicy_30 (v := .inl (3 : Int32)) rfl ?_
                          refine zw_push hm_128 dX11_readPolicy_31 (v := .inl (4 : Int32)) rfl ?_
                          refine zw_if2 hm_128 dX11_readPolicy_32 (t := 73) rfl zc2_ge (fun hc => absurd hc (by decide)) (fun _ => ?_)
                          refine zw_push hm_128 dX11_readPolicy_35 (v := .inr (.inr (some 64))) rfl ?_
                          refine zw_cv hm_128 dX11_readPolicy_36 v_11_278_11 hm_129 [] [] rfl (zT_rt (zT_pi hS37) s_64 rfl) ⟨by omega, by omega⟩ rfl (zw_mono h (zi_go ?_ ?_))
                          · intro v40 S39 hv
                            obtain ⟨hS39, h⟩ := hv
                            refine zw_stk hm_128 dX11_readPolicy_39 (st' := []) rfl rfl ?_
                            refine zw_push hm_128 dX11_readPolicy_40 (v := .inr (.inr (some 64))) rfl ?_
                            refine zw_gf hm_128 dX11_readPolicy_41 (v := .inr (.inr (some 66))) (zT_is hS39 s_64) (zT_t hS39 s_64) rfl f_11_13_11 (zT_f hS39 r_64_4) ?_
                            refine zw_push hm_128 dX11_readPolicy_44 (v := .inl (3 : Int32)) rfl ?_
                            refine zw_push hm_128 dX11_readPolicy_45 (v := .inr (.inr (some 64))) rfl ?_
                            refine zw_push hm_128 dX11_readPolicy_46 (v := .inr (.inr (some 9))) rfl ?_
                            refine zw_push hm_128 dX11_readPolicy_47 (v := .inl (3 : Int32)) rfl ?_
                            refine zw_cv hm_128 dX11_readPolicy_48 v_11_293_17 hm_279 [.inl (3 : Int32)] [.inr (.inr (some 64)), .inl (3 : Int32), .inr (.inr (some 66))] rfl rfl ⟨by omega, by omega⟩ rfl (tx_char (v := (99 : Int32)) (by decide) (by omega) (by omega) (by decide) (by decide) (by decide) (by decide) ?_)
                            show ma_wp X d w 128 51 [(3, .inl (3 : Int32)), (2, .inr (.inr (some 9))), (1, .inl v4), (0, .inr (.inr (some 64)))] [.inl (99 : Int32), .inr (.inr (some 64)), .inl (3 : Int32), .inr (.inr (some 66))] S39 _
                            refine zw_cv hm_128 dX11_readPolicy_51 v_11_297_11 hm_133 [.inl (99 : Int32)] [.inl (3 : Int32), .inr (.inr (some 66))] rfl (zT_rt hS39 s_64 rfl) ⟨by omega, by omega⟩ rfl ?_
                            show ma_wp X (d - 1) (w - 21) 133 0 [(0, .inr (.inr (some 64))), (1, .inl (99 : Int32))] [] S39 _
                            refine zw_push hm_133 dX11_partToken_0 (v := .inl (99 : Int32)) rfl ?_
                            refine zw_jmp hm_133 dX11_partToken_1 (t := 86) (st' := []) rfl rfl rfl (by decide +kernel) ?_
                            refine zw_push hm_133 dX11_partToken_86 (v := .inr (.inr (some 64))) rfl ?_
                            refine zw_push hm_133 dX11_partToken_87 (v := .inl (4 : Int32)) rfl ?_
                            refine zw_push hm_133 dX11_partToken_88 (v := .inl (64 : Int32)) rfl ?_
                            refine zw_cv hm_133 dX11_partToken_90 v_11_331_11 hm_134 [.inl (64 : Int32), .inl (4 : Int32)] [] rfl (zT_rt hS39 s_64 rfl) ⟨by omega, by omega⟩ rfl (zw_mono h (zi_go ?_ ?_))
                            · intro v42 S41 hv
                              obtain ⟨hS41, h⟩ := hv
                              refine zw_iret hm_133 dX11_partToken_93 ?_
                              show ma_wp X d w 128 54 [(3, .inl (3 : Int32)), (2, .inr (.inr (some 9))), (1, .inl v4), (0, .inr (.inr (some 64)))] [.inl v42, .inl (3 : Int32), .inr (.inr (some 66))] S41 _
                              refine zw_ias hm_128 dX11_readPolicy_54 (zT_is hS41 s_66) (zT_h hS41 s_66) rfl ⟨by decide, by decide⟩ ?_
                              refine zw_push hm_128 dX11_readPolicy_55 (v := .inr (.inr (some 64))) rfl ?_
                              refine zw_gf hm_128 dX11_readPolicy_56 (v := .inr (.inr (some 66))) (zT_is (zT_pi hS41) s_64) (zT_t (zT_pi hS41) s_64) rfl f_11_13_11 (zT_f (zT_pi hS41) r_64_4) ?_
                              refine zw_push hm_128 dX11_readPolicy_59 (v := .inl (3 : Int32)) rfl ?_
                              refine zw_ia hm_128 dX11_readPolicy_60 (zT_is (zT_pi hS41) s_66) (zT_h (zT_pi hS41) s_66) rfl ⟨by decide, by decide⟩ ?_
                              show ma_wp X d w 128 61 [(3, .inl (3 : Int32)), (2, .inr (.inr (some 9))), (1, .inl v4), (0, .inr (.inr (some 64)))] [.inl v42] (ma_put S41 66 3 (.inl v42)) _
                              refine zw_push hm_128 dX11_readPolicy_61 (v := .inl (-1 : Int32)) rfl ?_
                              refine zw_if2 hm_128 dX11_readPolicy_62 (t := 67) rfl zc2_ne ?_ ?_
                              · intro hc
                                rw [if_neg hc] at h
                                refine zw_sto hm_128 dX11_readPolicy_67 [(3, .inl (4 : Int32)), (2, .inr (.inr (some 9))), (1, .inl v4), (0, .inr (.inr (some 64)))] rfl rfl rfl ?_
                                refine zw_goto hm_128 dX11_readPolicy_70 (t := 22) rfl ?_
                                refine zw_push hm_128 dX11_readPolicy_22 (v := .inl (4 : Int32)) rfl ?_
                                refine zw_push hm_128 dX11_readPolicy_23 (v := .inr (.inr (some 9))) rfl ?_
                                refine zw_cv hm_128 dX11_readPolicy_24 v_11_288_17 hm_277 [] [.inl (4 : Int32)] rfl rfl ⟨by omega, by omega⟩ rfl (tx_len (v := (4 : Int32)) (by decide) (by omega) (by omega) rfl rfl ?_)
                                show ma_wp X d w 128 27 [(3, .inl (4 : Int32)), (2, .inr (.inr (some 9))), (1, .inl v4), (0, .inr (.inr (some 64)))] [.inl (4 : Int32), .inl (4 : Int32)] (ma_put S41 66 3 (.inl v42)) _
                                refine zw_if2 hm_128 dX11_readPolicy_27 (t := 73) rfl zc2_ge (fun _ => ?_) (fun hc => absurd (by decide) hc)
                                refine zw_push hm_128 dX11_readPolicy_73 (v := .inl v4) rfl ?_
                                refine zw_push hm_128 dX11_readPolicy_74 (v := .inl (-1 : Int32)) rfl ?_
                                refine zw_if2 hm_128 dX11_readPolicy_75 (t := 85) rfl zc2_eq ?_ ?_
                                · intro hc
                                  rw [if_pos hc] at h
                                  refine zw_push hm_128 dX11_readPolicy_85 (v := .inl (-1 : Int32)) rfl ?_
                                  exact zw_iret hm_128 dX11_readPolicy_86 h
                                · intro hc
                                  rw [if_neg hc] at h
                                  refine zw_push hm_128 dX11_readPolicy_78 (v := .inr (.inr (some 64))) rfl ?_
                                  refine zw_cv hm_128 dX11_readPolicy_79 v_11_278_11 hm_129 [] [] rfl (zT_rt (zT_pi hS41) s_64 rfl) ⟨by omega, by omega⟩ rfl (zw_mono h (zi_go ?_ ?_))
                                  · intro v44 S43 hv
                                    obtain ⟨hS43, h⟩ := hv
                                    refine zw_if0 hm_128 dX11_readPolicy_82 (t := 87) rfl zc0_eq ?_ ?_
                                    · intro hc
                                      rw [if_pos hc] at h
                                      refine zw_push hm_128 dX11_readPolicy_87 (v := .inl v4) rfl ?_
                                      exact zw_iret hm_128 dX11_readPolicy_88 h
                                    · intro hc
                                      rw [if_neg hc] at h
                                      refine zw_push hm_128 dX11_readPolicy_85 (v := .inl (-1 : Int32)) rfl ?_
                                      exact zw_iret hm_128 dX11_readPolicy_86 h
                                  · intro x S9 hx
                                    exact ⟨by decide, hx⟩
                              · intro hc
                                rw [if_pos (Classical.not_not.mp hc)] at h
                                refine zw_push hm_128 dX11_readPolicy_65 (v := .inl (-1 : Int32)) rfl ?_
                                exact zw_iret hm_128 dX11_readPolicy_66 h
                            · intro x S9 hx
                              exact hx.elim
                          · intro x S9 hx
                            exact ⟨by decide, hx⟩
                        · intro hc
                          rw [if_pos (Classical.not_not.mp hc)] at h
                          refine zw_push hm_128 dX11_readPolicy_65 (v := .inl (-1 : Int32)) rfl ?_
                          exact zw_iret hm_128 dX11_readPolicy_66 h
                      · intro x S9 hx
                        exact hx.elim
                    · intro x S9 hx
                      exact ⟨by decide, hx⟩
                  · intro hc
                    rw [if_pos (Classical.not_not.mp hc)] at h
                    refine zw_push hm_128 dX11_readPolicy_65 (v := .inl (-1 : Int32)) rfl ?_
                    exact zw_iret hm_128 dX11_readPolicy_66 h
                · intro x S9 hx
                  exact hx.elim
              · intro x S9 hx
                exact ⟨by decide, hx⟩
            · intro hc
              rw [if_pos (Classical.not_not.mp hc)] at h
              refine zw_push hm_128 dX11_readPolicy_65 (v := .inl (-1 : Int32)) rfl ?_
              exact zw_iret hm_128 dX11_readPolicy_66 h
          · intro x S9 hx
            exact hx.elim
        · intro x S9 hx
          exact ⟨by decide, hx⟩
      rw [if_neg hc3] at h
      by_cases hc4 : v4 = (4 : Int32)
      · rw [if_pos hc4] at h
        refine zw_jmp hm_132 dX11_partsOf_1 (t := 60) (st' := []) rfl rfl rfl (ma_jmp_tab (by rw [hc4]; decide +kernel)) ?_
        refine zw_txc hm_132 dX11_partsOf_60 txi_11_319 ?_
        refine zw_aret hm_132 dX11_partsOf_63 ?_
        show ma_wp X d w 128 19 [(1, .inl v4), (0, .inr (.inr (some 64)))] [.inr (.inr (some 7))] S3 _
        refine zw_sto hm_128 dX11_readPolicy_19 [(2, .inr (.inr (some 7))), (1, .inl v4), (0, .inr (.inr (some 64)))] rfl rfl rfl ?_
        refine zw_push hm_128 dX11_readPolicy_20 (v := .inl (0 : Int32)) rfl ?_
        refine zw_sto hm_128 dX11_readPolicy_21 [(3, .inl (0 : Int32)), (2, .inr (.inr (some 7))), (1, .inl v4), (0, .inr (.inr (some 64)))] rfl rfl rfl ?_
        refine zw_push hm_128 dX11_readPolicy_22 (v := .inl (0 : Int32)) rfl ?_
        refine zw_push hm_128 dX11_readPolicy_23 (v := .inr (.inr (some 7))) rfl ?_
        refine zw_cv hm_128 dX11_readPolicy_24 v_11_288_17 hm_277 [] [.inl (0 : Int32)] rfl rfl ⟨by omega, by omega⟩ rfl (tx_len (v := (2 : Int32)) (by decide) (by omega) (by omega) rfl rfl ?_)
        show ma_wp X d w 128 27 [(3, .inl (0 : Int32)), (2, .inr (.inr (some 7))), (1, .inl v4), (0, .inr (.inr (some 64)))] [.inl (2 : Int32), .inl (0 : Int32)] S3 _
        refine zw_if2 hm_128 dX11_readPolicy_27 (t := 73) rfl zc2_ge (fun hc => absurd hc (by decide)) (fun _ => ?_)
        refine zw_push hm_128 dX11_readPolicy_30 (v := .inl (0 : Int32)) rfl ?_
        refine zw_push hm_128 dX11_readPolicy_31 (v := .inl (4 : Int32)) rfl ?_
        refine zw_if2 hm_128 dX11_readPolicy_32 (t := 73) rfl zc2_ge (fun hc => absurd hc (by decide)) (fun _ => ?_)
        refine zw_push hm_128 dX11_readPolicy_35 (v := .inr (.inr (some 64))) rfl ?_
        refine zw_cv hm_128 dX11_readPolicy_36 v_11_278_11 hm_129 [] [] rfl (zT_rt hS3 s_64 rfl) ⟨by omega, by omega⟩ rfl (zw_mono h (zi_go ?_ ?_))
        · intro v46 S45 hv
          obtain ⟨hS45, h⟩ := hv
          refine zw_stk hm_128 dX11_readPolicy_39 (st' := []) rfl rfl ?_
          refine zw_push hm_128 dX11_readPolicy_40 (v := .inr (.inr (some 64))) rfl ?_
          refine zw_gf hm_128 dX11_readPolicy_41 (v := .inr (.inr (some 66))) (zT_is hS45 s_64) (zT_t hS45 s_64) rfl f_11_13_11 (zT_f hS45 r_64_4) ?_
          refine zw_push hm_128 dX11_readPolicy_44 (v := .inl (0 : Int32)) rfl ?_
          refine zw_push hm_128 dX11_readPolicy_45 (v := .inr (.inr (some 64))) rfl ?_
          refine zw_push hm_128 dX11_readPolicy_46 (v := .inr (.inr (some 7))) rfl ?_
          refine zw_push hm_128 dX11_readPolicy_47 (v := .inl (0 : Int32)) rfl ?_
          refine zw_cv hm_128 dX11_readPolicy_48 v_11_293_17 hm_279 [.inl (0 : Int32)] [.inr (.inr (some 64)), .inl (0 : Int32), .inr (.inr (some 66))] rfl rfl ⟨by omega, by omega⟩ rfl (tx_char (v := (114 : Int32)) (by decide) (by omega) (by omega) (by decide) (by decide) (by decide) (by decide) ?_)
          show ma_wp X d w 128 51 [(3, .inl (0 : Int32)), (2, .inr (.inr (some 7))), (1, .inl v4), (0, .inr (.inr (some 64)))] [.inl (114 : Int32), .inr (.inr (some 64)), .inl (0 : Int32), .inr (.inr (some 66))] S45 _
          refine zw_cv hm_128 dX11_readPolicy_51 v_11_297_11 hm_133 [.inl (114 : Int32)] [.inl (0 : Int32), .inr (.inr (some 66))] rfl (zT_rt hS45 s_64 rfl) ⟨by omega, by omega⟩ rfl ?_
          show ma_wp X (d - 1) (w - 21) 133 0 [(0, .inr (.inr (some 64))), (1, .inl (114 : Int32))] [] S45 _
          refine zw_push hm_133 dX11_partToken_0 (v := .inl (114 : Int32)) rfl ?_
          refine zw_jmp hm_133 dX11_partToken_1 (t := 68) (st' := []) rfl rfl rfl (by decide +kernel) ?_
          refine zw_push hm_133 dX11_partToken_68 (v := .inr (.inr (some 64))) rfl ?_
          refine zw_push hm_133 dX11_partToken_69 (v := .inl (16 : Int32)) rfl ?_
          refine zw_push hm_133 dX11_partToken_71 (v := .inl (1500 : Int32)) rfl ?_
          refine zw_cv hm_133 dX11_partToken_74 v_11_331_11 hm_134 [.inl (1500 : Int32), .inl (16 : Int32)] [] rfl (zT_rt hS45 s_64 rfl) ⟨by omega, by omega⟩ rfl (zw_mono h (zi_go ?_ ?_))
          · intro v48 S47 hv
            obtain ⟨hS47, h⟩ := hv
            refine zw_iret hm_133 dX11_partToken_77 ?_
            show ma_wp X d w 128 54 [(3, .inl (0 : Int32)), (2, .inr (.inr (some 7))), (1, .inl v4), (0, .inr (.inr (some 64)))] [.inl v48, .inl (0 : Int32), .inr (.inr (some 66))] S47 _
            refine zw_ias hm_128 dX11_readPolicy_54 (zT_is hS47 s_66) (zT_h hS47 s_66) rfl ⟨by decide, by decide⟩ ?_
            refine zw_push hm_128 dX11_readPolicy_55 (v := .inr (.inr (some 64))) rfl ?_
            refine zw_gf hm_128 dX11_readPolicy_56 (v := .inr (.inr (some 66))) (zT_is (zT_pi hS47) s_64) (zT_t (zT_pi hS47) s_64) rfl f_11_13_11 (zT_f (zT_pi hS47) r_64_4) ?_
            refine zw_push hm_128 dX11_readPolicy_59 (v := .inl (0 : Int32)) rfl ?_
            refine zw_ia hm_128 dX11_readPolicy_60 (zT_is (zT_pi hS47) s_66) (zT_h (zT_pi hS47) s_66) rfl ⟨by decide, by decide⟩ ?_
            show ma_wp X d w 128 61 [(3, .inl (0 : Int32)), (2, .inr (.inr (some 7))), (1, .inl v4), (0, .inr (.inr (some 64)))] [.inl v48] (ma_put S47 66 0 (.inl v48)) _
            refine zw_push hm_128 dX11_readPolicy_61 (v := .inl (-1 : Int32)) rfl ?_
            refine zw_if2 hm_128 dX11_readPolicy_62 (t := 67) rfl zc2_ne ?_ ?_
            · intro hc
              rw [if_neg hc] at h
              refine zw_sto hm_128 dX11_readPolicy_67 [(3, .inl (1 : Int32)), (2, .inr (.inr (some 7))), (1, .inl v4), (0, .inr (.inr (some 64)))] rfl rfl rfl ?_
              refine zw_goto hm_128 dX11_readPolicy_70 (t := 22) rfl ?_
              refine zw_push hm_128 dX11_readPolicy_22 (v := .inl (1 : Int32)) rfl ?_
              refine zw_push hm_128 dX11_readPolicy_23 (v := .inr (.inr (some 7))) rfl ?_
              refine zw_cv hm_128 dX11_readPolicy_24 v_11_288_17 hm_277 [] [.inl (1 : Int32)] rfl rfl ⟨by omega, by omega⟩ rfl (tx_len (v := (2 : Int32)) (by decide) (by omega) (by omega) rfl rfl ?_)
              show ma_wp X d w 128 27 [(3, .inl (1 : Int32)), (2, .inr (.inr (some 7))), (1, .inl v4), (0, .inr (.inr (some 64)))] [.inl (2 : Int32), .inl (1 : Int32)] (ma_put S47 66 0 (.inl v48)) _
              refine zw_if2 hm_128 dX11_readPolicy_27 (t := 73) rfl zc2_ge (fun hc => absurd hc (by decide)) (fun _ => ?_)
              refine zw_push hm_128 dX11_readPolicy_30 (v := .inl (1 : Int32)) rfl ?_
              refine zw_push hm_128 dX11_readPolicy_31 (v := .inl (4 : Int32)) rfl ?_
              refine zw_if2 hm_128 dX11_readPolicy_32 (t := 73) rfl zc2_ge (fun hc => absurd hc (by decide)) (fun _ => ?_)
              refine zw_push hm_128 dX11_readPolicy_35 (v := .inr (.inr (some 64))) rfl ?_
              refine zw_cv hm_128 dX11_readPolicy_36 v_11_278_11 hm_129 [] [] rfl (zT_rt (zT_pi hS47) s_64 rfl) ⟨by omega, by omega⟩ rfl (zw_mono h (zi_go ?_ ?_))
              · intro v50 S49 hv
                obtain ⟨hS49, h⟩ := hv
                refine zw_stk hm_128 dX11_readPolicy_39 (st' := []) rfl rfl ?_
                refine zw_push hm_128 dX11_readPolicy_40 (v := .inr (.inr (some 64))) rfl ?_
                refine zw_gf hm_128 dX11_readPolicy_41 (v := .inr (.inr (some 66))) (zT_is hS49 s_64) (zT_t hS49 s_64) rfl f_11_13_11 (zT_f hS49 r_64_4) ?_
                refine zw_push hm_128 dX11_readPolicy_44 (v := .inl (1 : Int32)) rfl ?_
                refine zw_push hm_128 dX11_readPolicy_45 (v := .inr (.inr (some 64))) rfl ?_
                refine zw_push hm_128 dX11_readPolicy_46 (v := .inr (.inr (some 7))) rfl ?_
                refine zw_push hm_128 dX11_readPolicy_47 (v := .inl (1 : Int32)) rfl ?_
                refine zw_cv hm_128 dX11_readPolicy_48 v_11_293_17 hm_279 [.inl (1 : Int32)] [.inr (.inr (some 64)), .inl (1 : Int32), .inr (.inr (some 66))] rfl rfl ⟨by omega, by omega⟩ rfl (tx_char (v := (102 : Int32)) (by decide) (by omega) (by omega) (by decide) (by decide) (by decide) (by decide) ?_)
                show ma_wp X d w 128 51 [(3, .inl (1 : Int32)), (2, .inr (.inr (some 7))), (1, .inl v4), (0, .inr (.inr (some 64)))] [.inl (102 : Int32), .inr (.inr (some 64)), .inl (1 : Int32), .inr (.inr (some 66))] S49 _
                refine zw_cv hm_128 dX11_readPolicy_51 v_11_297_11 hm_133 [.inl (102 : Int32)] [.inl (1 : Int32), .inr (.inr (some 66))] rfl (zT_rt hS49 s_64 rfl) ⟨by omega, by omega⟩ rfl ?_
                show ma_wp X (d - 1) (w - 21) 133 0 [(0, .inr (.inr (some 64))), (1, .inl (102 : Int32))] [] S49 _
                refine zw_push hm_133 dX11_partToken_0 (v := .inl (102 : Int32)) rfl ?_
                refine zw_jmp hm_133 dX11_partToken_1 (t := 131) (st' := []) rfl rfl rfl (by decide +kernel) ?_
                refine zw_push hm_133 dX11_partToken_131 (v := .inr (.inr (some 64))) rfl ?_
                refine zw_cv hm_133 dX11_partToken_132 v_11_340_11 hm_135 [] [] rfl (zT_rt hS49 s_64 rfl) ⟨by omega, by omega⟩ rfl (zw_mono h (zi_go ?_ ?_))
                · intro v52 S51 hv
                  obtain ⟨hS51, h⟩ := hv
                  refine zw_iret hm_133 dX11_partToken_135 ?_
                  show ma_wp X d w 128 54 [(3, .inl (1 : Int32)), (2, .inr (.inr (some 7))), (1, .inl v4), (0, .inr (.inr (some 64)))] [.inl v52, .inl (1 : Int32), .inr (.inr (some 66))] S51 _
                  refine zw_ias hm_128 dX11_readPolicy_54 (zT_is hS51 s_66) (zT_h hS51 s_66) rfl ⟨by decide, by decide⟩ ?_
                  refine zw_push hm_128 dX11_readPolicy_55 (v := .inr (.inr (some 64))) rfl ?_
                  refine zw_gf hm_128 dX11_readPolicy_56 (v := .inr (.inr (some 66))) (zT_is (zT_pi hS51) s_64) (zT_t (zT_pi hS51) s_64) rfl f_11_13_11 (zT_f (zT_pi hS51) r_64_4) ?_
                  refine zw_push hm_128 dX11_readPolicy_59 (v := .inl (1 : Int32)) rfl ?_
                  refine zw_ia hm_128 dX11_readPolicy_60 (zT_is (zT_pi hS51) s_66) (zT_h (zT_pi hS51) s_66) rfl ⟨by decide, by decide⟩ ?_
                  show ma_wp X d w 128 61 [(3, .inl (1 : Int32)), (2, .inr (.inr (some 7))), (1, .inl v4), (0, .inr (.inr (some 64)))] [.inl v52] (ma_put S51 66 1 (.inl v52)) _
                  refine zw_push hm_128 dX11_readPolicy_61 (v := .inl (-1 : Int32)) rfl ?_
                  refine zw_if2 hm_128 dX11_readPolicy_62 (t := 67) rfl zc2_ne ?_ ?_
                  · intro hc
                    rw [if_neg hc] at h
                    refine zw_sto hm_128 dX11_readPolicy_67 [(3, .inl (2 : Int32)), (2, .inr (.inr (some 7))), (1, .inl v4), (0, .inr (.inr (some 64)))] rfl rfl rfl ?_
                    refine zw_goto hm_128 dX11_readPolicy_70 (t := 22) rfl ?_
                    refine zw_push hm_128 dX11_readPolicy_22 (v := .inl (2 : Int32)) rfl ?_
                    refine zw_push hm_128 dX11_readPolicy_23 (v := .inr (.inr (some 7))) rfl ?_
                    refine zw_cv hm_128 dX11_readPolicy_24 v_11_288_17 hm_277 [] [.inl (2 : Int32)] rfl rfl ⟨by omega, by omega⟩ rfl (tx_len (v := (2 : Int32)) (by decide) (by omega) (by omega) rfl rfl ?_)
                    show ma_wp X d w 128 27 [(3, .inl (2 : Int32)), (2, .inr (.inr (some 7))), (1, .inl v4), (0, .inr (.inr (some 64)))] [.inl (2 : Int32), .inl (2 : Int32)] (ma_put S51 66 1 (.inl v52)) _
                    refine zw_if2 hm_128 dX11_readPolicy_27 (t := 73) rfl zc2_ge (fun _ => ?_) (fun hc => absurd (by decide) hc)
                    refine zw_push hm_128 dX11_readPolicy_73 (v := .inl v4) rfl ?_
                    refine zw_push hm_128 dX11_readPolicy_74 (v := .inl (-1 : Int32)) rfl ?_
                    refine zw_if2 hm_128 dX11_readPolicy_75 (t := 85) rfl zc2_eq ?_ ?_
                    · intro hc
                      rw [if_pos hc] at h
                      refine zw_push hm_128 dX11_readPolicy_85 (v := .inl (-1 : Int32)) rfl ?_
                      exact zw_iret hm_128 dX11_readPolicy_86 h
                    · intro hc
                      rw [if_neg hc] at h
                      refine zw_push hm_128 dX11_readPolicy_78 (v := .inr (.inr (some 64))) rfl ?_
                      refine zw_cv hm_128 dX11_readPolicy_79 v_11_278_11 hm_129 [] [] rfl (zT_rt (zT_pi hS51) s_64 rfl) ⟨by omega, by omega⟩ rfl (zw_mono h (zi_go ?_ ?_))
                      · intro v54 S53 hv
                        obtain ⟨hS53, h⟩ := hv
                        refine zw_if0 hm_128 dX11_readPolicy_82 (t := 87) rfl zc0_eq ?_ ?_
                        · intro hc
                          rw [if_pos hc] at h
                          refine zw_push hm_128 dX11_readPolicy_87 (v := .inl v4) rfl ?_
                          exact zw_iret hm_128 dX11_readPolicy_88 h
                        · intro hc
                          rw [if_neg hc] at h
                          refine zw_push hm_128 dX11_readPolicy_85 (v := .inl (-1 : Int32)) rfl ?_
                          exact zw_iret hm_128 dX11_readPolicy_86 h
                      · intro x S9 hx
                        exact ⟨by decide, hx⟩
                  · intro hc
                    rw [if_pos (Classical.not_not.mp hc)] at h
                    refine zw_push hm_128 dX11_readPolicy_65 (v := .inl (-1 : Int32)) rfl ?_
                    exact zw_iret hm_128 dX11_readPolicy_66 h
                · intro x S9 hx
                  exact hx.elim
              · intro x S9 hx
                exact ⟨by decide, hx⟩
            · intro hc
              rw [if_pos (Classical.not_not.mp hc)] at h
              refine zw_push hm_128 dX11_readPolicy_65 (v := .inl (-1 : Int32)) rfl ?_
              exact zw_iret hm_128 dX11_readPolicy_66 h
          · intro x S9 hx
            exact hx.elim
        · intro x S9 hx
          exact ⟨by decide, hx⟩
      rw [if_neg hc4] at h
      by_cases hc5 : v4 = (5 : Int32)
      · rw [if_pos hc5] at h
        refine zw_jmp hm_132 dX11_partsOf_1 (t := 64) (st' := []) rfl rfl rfl (ma_jmp_tab (by rw [hc5]; decide +kernel)) ?_
        refine zw_txc hm_132 dX11_partsOf_64 txi_11_325 ?_
        refine zw_aret hm_132 dX11_partsOf_67 ?_
        show ma_wp X d w 128 19 [(1, .inl v4), (0, .inr (.inr (some 64)))] [.inr (.inr (some 10))] S3 _
        refine zw_sto hm_128 dX11_readPolicy_19 [(2, .inr (.inr (some 10))), (1, .inl v4), (0, .inr (.inr (some 64)))] rfl rfl rfl ?_
        refine zw_push hm_128 dX11_readPolicy_20 (v := .inl (0 : Int32)) rfl ?_
        refine zw_sto hm_128 dX11_readPolicy_21 [(3, .inl (0 : Int32)), (2, .inr (.inr (some 10))), (1, .inl v4), (0, .inr (.inr (some 64)))] rfl rfl rfl ?_
        refine zw_push hm_128 dX11_readPolicy_22 (v := .inl (0 : Int32)) rfl ?_
        refine zw_push hm_128 dX11_readPolicy_23 (v := .inr (.inr (some 10))) rfl ?_
        refine zw_cv hm_128 dX11_readPolicy_24 v_11_288_17 hm_277 [] [.inl (0 : Int32)] rfl rfl ⟨by omega, by omega⟩ rfl (tx_len (v := (4 : Int32)) (by decide) (by omega) (by omega) rfl rfl ?_)
        show ma_wp X d w 128 27 [(3, .inl (0 : Int32)), (2, .inr (.inr (some 10))), (1, .inl v4), (0, .inr (.inr (some 64)))] [.inl (4 : Int32), .inl (0 : Int32)] S3 _
        refine zw_if2 hm_128 dX11_readPolicy_27 (t := 73) rfl zc2_ge (fun hc => absurd hc (by decide)) (fun _ => ?_)
        refine zw_push hm_128 dX11_readPolicy_30 (v := .inl (0 : Int32)) rfl ?_
        refine zw_push hm_128 dX11_readPolicy_31 (v := .inl (4 : Int32)) rfl ?_
        refine zw_if2 hm_128 dX11_readPolicy_32 (t := 73) rfl zc2_ge (fun hc => absurd hc (by decide)) (fun _ => ?_)
        refine zw_push hm_128 dX11_readPolicy_35 (v := .inr (.inr (some 64))) rfl ?_
        refine zw_cv hm_128 dX11_readPolicy_36 v_11_278_11 hm_129 [] [] rfl (zT_rt hS3 s_64 rfl) ⟨by omega, by omega⟩ rfl (zw_mono h (zi_go ?_ ?_))
        · intro v56 S55 hv
          obtain ⟨hS55, h⟩ := hv
          refine zw_stk hm_128 dX11_readPolicy_39 (st' := []) rfl rfl ?_
          refine zw_push hm_128 dX11_readPolicy_40 (v := .inr (.inr (some 64))) rfl ?_
          refine zw_gf hm_128 dX11_readPolicy_41 (v := .inr (.inr (some 66))) (zT_is hS55 s_64) (zT_t hS55 s_64) rfl f_11_13_11 (zT_f hS55 r_64_4) ?_
          refine zw_push hm_128 dX11_readPolicy_44 (v := .inl (0 : Int32)) rfl ?_
          refine zw_push hm_128 dX11_readPolicy_45 (v := .inr (.inr (some 64))) rfl ?_
          refine zw_push hm_128 dX11_readPolicy_46 (v := .inr (.inr (some 10))) rfl ?_
          refine zw_push hm_128 dX11_readPolicy_47 (v := .inl (0 : Int32)) rfl ?_
          refine zw_cv hm_128 dX11_readPolicy_48 v_11_293_17 hm_279 [.inl (0 : Int32)] [.inr (.inr (some 64)), .inl (0 : Int32), .inr (.inr (some 66))] rfl rfl ⟨by omega, by omega⟩ rfl (tx_char (v := (114 : Int32)) (by decide) (by omega) (by omega) (by decide) (by decide) (by decide) (by decide) ?_)
          show ma_wp X d w 128 51 [(3, .inl (0 : Int32)), (2, .inr (.inr (some 10))), (1, .inl v4), (0, .inr (.inr (some 64)))] [.inl (114 : Int32), .inr (.inr (some 64)), .inl (0 : Int32), .inr (.inr (some 66))] S55 _
          refine zw_cv hm_128 dX11_readPolicy_51 v_11_297_11 hm_133 [.inl (114 : Int32)] [.inl (0 : Int32), .inr (.inr (some 66))] rfl (zT_rt hS55 s_64 rfl) ⟨by omega, by omega⟩ rfl ?_
          show ma_wp X (d - 1) (w - 21) 133 0 [(0, .inr (.inr (some 64))), (1, .inl (114 : Int32))] [] S55 _
          refine zw_push hm_133 dX11_partToken_0 (v := .inl (114 : Int32)) rfl ?_
          refine zw_jmp hm_133 dX11_partToken_1 (t := 68) (st' := []) rfl rfl rfl (by decide +kernel) ?_
          refine zw_push hm_133 dX11_partToken_68 (v := .inr (.inr (some 64))) rfl ?_
          refine zw_push hm_133 dX11_partToken_69 (v := .inl (16 : Int32)) rfl ?_
          refine zw_push hm_133 dX11_partToken_71 (v := .inl (1500 : Int32)) rfl ?_
          refine zw_cv hm_133 dX11_partToken_74 v_11_331_11 hm_134 [.inl (1500 : Int32), .inl (16 : Int32)] [] rfl (zT_rt hS55 s_64 rfl) ⟨by omega, by omega⟩ rfl (zw_mono h (zi_go ?_ ?_))
          · intro v58 S57 hv
            obtain ⟨hS57, h⟩ := hv
            refine zw_iret hm_133 dX11_partToken_77 ?_
            show ma_wp X d w 128 54 [(3, .inl (0 : Int32)), (2, .inr (.inr (some 10))), (1, .inl v4), (0, .inr (.inr (some 64)))] [.inl v58, .inl (0 : Int32), .inr (.inr (some 66))] S57 _
            refine zw_ias hm_128 dX11_readPolicy_54 (zT_is hS57 s_66) (zT_h hS57 s_66) rfl ⟨by decide, by decide⟩ ?_
            refine zw_push hm_128 dX11_readPolicy_55 (v := .inr (.inr (some 64))) rfl ?_
            refine zw_gf hm_128 dX11_readPolicy_56 (v := .inr (.inr (some 66))) (zT_is (zT_pi hS57) s_64) (zT_t (zT_pi hS57) s_64) rfl f_11_13_11 (zT_f (zT_pi hS57) r_64_4) ?_
            refine zw_push hm_128 dX11_readPolicy_59 (v := .inl (0 : Int32)) rfl ?_
            refine zw_ia hm_128 dX11_readPolicy_60 (zT_is (zT_pi hS57) s_66) (zT_h (zT_pi hS57) s_66) rfl ⟨by decide, by decide⟩ ?_
            show ma_wp X d w 128 61 [(3, .inl (0 : Int32)), (2, .inr (.inr (some 10))), (1, .inl v4), (0, .inr (.inr (some 64)))] [.inl v58] (ma_put S57 66 0 (.inl v58)) _
            refine zw_push hm_128 dX11_readPolicy_61 (v := .inl (-1 : Int32)) rfl ?_
            refine zw_if2 hm_128 dX11_readPolicy_62 (t := 67) rfl zc2_ne ?_ ?_
            · intro hc
              rw [if_neg hc] at h
              refine zw_sto hm_128 dX11_readPolicy_67 [(3, .inl (1 : Int32)), (2, .inr (.inr (some 10))), (1, .inl v4), (0, .inr (.inr (some 64)))] rfl rfl rfl ?_
              refine zw_goto hm_128 dX11_readPolicy_70 (t := 22) rfl ?_
              refine zw_push hm_128 dX11_readPolicy_22 (v := .inl (1 : Int32)) rfl ?_
              refine zw_push hm_128 dX11_readPolicy_23 (v := .inr (.inr (some 10))) rfl ?_
              refine zw_cv hm_128 dX11_readPolicy_24 v_11_288_17 hm_277 [] [.inl (1 : Int32)] rfl rfl ⟨by omega, by omega⟩ rfl (tx_len (v := (4 : Int32)) (by decide) (by omega) (by omega) rfl rfl ?_)
              show ma_wp X d w 128 27 [(3, .inl (1 : Int32)), (2, .inr (.inr (some 10))), (1, .inl v4), (0, .inr (.inr (some 64)))] [.inl (4 : Int32), .inl (1 : Int32)] (ma_put S57 66 0 (.inl v58)) _
              refine zw_if2 hm_128 dX11_readPolicy_27 (t := 73) rfl zc2_ge (fun hc => absurd hc (by decide)) (fun _ => ?_)
              refine zw_push hm_128 dX11_readPolicy_30 (v := .inl (1 : Int32)) rfl ?_
              refine zw_push hm_128 dX11_readPolicy_31 (v := .inl (4 : Int32)) rfl ?_
              refine zw_if2 hm_128 dX11_readPolicy_32 (t := 73) rfl zc2_ge (fun hc => absurd hc (by decide)) (fun _ => ?_)
              refine zw_push hm_128 dX11_readPolicy_35 (v := .inr (.inr (some 64))) rfl ?_
              refine zw_cv hm_128 dX11_readPolicy_36 v_11_278_11 hm_129 [] [] rfl (zT_rt (zT_pi hS57) s_64 rfl) ⟨by omega, by omega⟩ rfl (zw_mono h (zi_go ?_ ?_))
              · intro v60 S59 hv
                obtain ⟨hS59, h⟩ := hv
                refine zw_stk hm_128 dX11_readPolicy_39 (st' := []) rfl rfl ?_
                refine zw_push hm_128 dX11_readPolicy_40 (v := .inr (.inr (some 64))) rfl ?_
                refine zw_gf hm_128 dX11_readPolicy_41 (v := .inr (.inr (some 66))) (zT_is hS59 s_64) (zT_t hS59 s_64) rfl f_11_13_11 (zT_f hS59 r_64_4) ?_
                refine zw_push hm_128 dX11_readPolicy_44 (v := .inl (1 : Int32)) rfl ?_
                refine zw_push hm_128 dX11_readPolicy_45 (v := .inr (.inr (some 64))) rfl ?_
                refine zw_push hm_128 dX11_readPolicy_46 (v := .inr (.inr (some 10))) rfl ?_
                refine zw_push hm_128 dX11_readPolicy_47 (v := .inl (1 : Int32)) rfl ?_
                refine zw_cv hm_128 dX11_readPolicy_48 v_11_293_17 hm_279 [.inl (1 : Int32)] [.inr (.inr (some 64)), .inl (1 : Int32), .inr (.inr (some 66))] rfl rfl ⟨by omega, by omega⟩ rfl (tx_char (v := (102 : Int32)) (by decide) (by omega) (by omega) (by decide) (by decide) (by decide) (by decide) ?_)
                show ma_wp X d w 128 51 [(3, .inl (1 : Int32)), (2, .inr (.inr (some 10))), (1, .inl v4), (0, .inr (.inr (some 64)))] [.inl (102 : Int32), .inr (.inr (some 64)), .inl (1 : Int32), .inr (.inr (some 66))] S59 _
                refine zw_cv hm_128 dX11_readPolicy_51 v_11_297_11 hm_133 [.inl (102 : Int32)] [.inl (1 : Int32), .inr (.inr (some 66))] rfl (zT_rt hS59 s_64 rfl) ⟨by omega, by omega⟩ rfl ?_
                show ma_wp X (d - 1) (w - 21) 133 0 [(0, .inr (.inr (some 64))), (1, .inl (102 : Int32))] [] S59 _
                refine zw_push hm_133 dX11_partToken_0 (v := .inl (102 : Int32)) rfl ?_
                refine zw_jmp hm_133 dX11_partToken_1 (t := 131) (st' := []) rfl rfl rfl (by decide +kernel) ?_
                refine zw_push hm_133 dX11_partToken_131 (v := .inr (.inr (some 64))) rfl ?_
                refine zw_cv hm_133 dX11_partToken_132 v_11_340_11 hm_135 [] [] rfl (zT_rt hS59 s_64 rfl) ⟨by omega, by omega⟩ rfl (zw_mono h (zi_go ?_ ?_))
                · intro v62 S61 hv
                  obtain ⟨hS61, h⟩ := hv
                  refine zw_iret hm_133 dX11_partToken_135 ?_
                  show ma_wp X d w 128 54 [(3, .inl (1 : Int32)), (2, .inr (.inr (some 10))), (1, .inl v4), (0, .inr (.inr (some 64)))] [.inl v62, .inl (1 : Int32), .inr (.inr (some 66))] S61 _
                  refine zw_ias hm_128 dX11_readPolicy_54 (zT_is hS61 s_66) (zT_h hS61 s_66) rfl ⟨by decide, by decide⟩ ?_
                  refine zw_push hm_128 dX11_readPolicy_55 (v := .inr (.inr (some 64))) rfl ?_
                  refine zw_gf hm_128 dX11_readPolicy_56 (v := .inr (.inr (some 66))) (zT_is (zT_pi hS61) s_64) (zT_t (zT_pi hS61) s_64) rfl f_11_13_11 (zT_f (zT_pi hS61) r_64_4) ?_
                  refine zw_push hm_128 dX11_readPolicy_59 (v := .inl (1 : Int32)) rfl ?_
                  refine zw_ia hm_128 dX11_readPolicy_60 (zT_is (zT_pi hS61) s_66) (zT_h (zT_pi hS61) s_66) rfl ⟨by decide, by decide⟩ ?_
                  show ma_wp X d w 128 61 [(3, .inl (1 : Int32)), (2, .inr (.inr (some 10))), (1, .inl v4), (0, .inr (.inr (some 64)))] [.inl v62] (ma_put S61 66 1 (.inl v62)) _
                  refine zw_push hm_128 dX11_readPolicy_61 (v := .inl (-1 : Int32)) rfl ?_
                  refine zw_if2 hm_128 dX11_readPolicy_62 (t := 67) rfl zc2_ne ?_ ?_
                  · intro hc
                    rw [if_neg hc] at h
                    refine zw_sto hm_128 dX11_readPolicy_67 [(3, .inl (2 : Int32)), (2, .inr (.inr (some 10))), (1, .inl v4), (0, .inr (.inr (some 64)))] rfl rfl rfl ?_
                    refine zw_goto hm_128 dX11_readPolicy_70 (t := 22) rfl ?_
                    refine zw_push hm_128 dX11_readPolicy_22 (v := .inl (2 : Int32)) rfl ?_
                    refine zw_push hm_128 dX11_readPolicy_23 (v := .inr (.inr (some 10))) rfl ?_
                    refine zw_cv hm_128 dX11_readPolicy_24 v_11_288_17 hm_277 [] [.inl (2 : Int32)] rfl rfl ⟨by omega, by omega⟩ rfl (tx_len (v := (4 : Int32)) (by decide) (by omega) (by omega) rfl rfl ?_)
                    show ma_wp X d w 128 27 [(3, .inl (2 : Int32)), (2, .inr (.inr (some 10))), (1, .inl v4), (0, .inr (.inr (some 64)))] [.inl (4 : Int32), .inl (2 : Int32)] (ma_put S61 66 1 (.inl v62)) _
                    refine zw_if2 hm_128 dX11_readPolicy_27 (t := 73) rfl zc2_ge (fun hc => absurd hc (by decide)) (fun _ => ?_)
                    refine zw_push hm_128 dX11_readPolicy_30 (v := .inl (2 : Int32)) rfl ?_
                    refine zw_push hm_128 dX11_readPolicy_31 (v := .inl (4 : Int32)) rfl ?_
                    refine zw_if2 hm_128 dX11_readPolicy_32 (t := 73) rfl zc2_ge (fun hc => absurd hc (by decide)) (fun _ => ?_)
                    refine zw_push hm_128 dX11_readPolicy_35 (v := .inr (.inr (some 64))) rfl ?_
                    refine zw_cv hm_128 dX11_readPolicy_36 v_11_278_11 hm_129 [] [] rfl (zT_rt (zT_pi hS61) s_64 rfl) ⟨by omega, by omega⟩ rfl (zw_mono h (zi_go ?_ ?_))
                    · intro v64 S63 hv
                      obtain ⟨hS63, h⟩ := hv
                      refine zw_stk hm_128 dX11_readPolicy_39 (st' := []) rfl rfl ?_
                      refine zw_push hm_128 dX11_readPolicy_40 (v := .inr (.inr (some 64))) rfl ?_
                      refine zw_gf hm_128 dX11_readPolicy_41 (v := .inr (.inr (some 66))) (zT_is hS63 s_64) (zT_t hS63 s_64) rfl f_11_13_11 (zT_f hS63 r_64_4) ?_
                      refine zw_push hm_128 dX11_readPolicy_44 (v := .inl (2 : Int32)) rfl ?_
                      refine zw_push hm_128 dX11_readPolicy_45 (v := .inr (.inr (some 64))) rfl ?_
                      refine zw_push hm_128 dX11_readPolicy_46 (v := .inr (.inr (some 10))) rfl ?_
                      refine zw_push hm_128 dX11_readPolicy_47 (v := .inl (2 : Int32)) rfl ?_
                      refine zw_cv hm_128 dX11_readPolicy_48 v_11_293_17 hm_279 [.inl (2 : Int32)] [.inr (.inr (some 64)), .inl (2 : Int32), .inr (.inr (some 66))] rfl rfl ⟨by omega, by omega⟩ rfl (tx_char (v := (116 : Int32)) (by decide) (by omega) (by omega) (by decide) (by decide) (by decide) (by decide) ?_)
                      show ma_wp X d w 128 51 [(3, .inl (2 : Int32)), (2, .inr (.inr (some 10))), (1, .inl v4), (0, .inr (.inr (some 64)))] [.inl (116 : Int32), .inr (.inr (some 64)), .inl (2 : Int32), .inr (.inr (some 66))] S63 _
                      refine zw_cv hm_128 dX11_readPolicy_51 v_11_297_11 hm_133 [.inl (116 : Int32)] [.inl (2 : Int32), .inr (.inr (some 66))] rfl (zT_rt hS63 s_64 rfl) ⟨by omega, by omega⟩ rfl ?_
                      show ma_wp X (d - 1) (w - 21) 133 0 [(0, .inr (.inr (some 64))), (1, .inl (116 : Int32))] [] S63 _
                      refine zw_push hm_133 dX11_partToken_0 (v := .inl (116 : Int32)) rfl ?_
                      refine zw_jmp hm_133 dX11_partToken_1 (t := 94) (st' := []) rfl rfl rfl (by decide +kernel) ?_
                      refine zw_push hm_133 dX11_partToken_94 (v := .inr (.inr (some 64))) rfl ?_
                      refine zw_push hm_133 dX11_partToken_95 (v := .inl (1 : Int32)) rfl ?_
                      refine zw_push hm_133 dX11_partToken_96 (v := .inl (50 : Int32)) rfl ?_
                      refine zw_cv hm_133 dX11_partToken_98 v_11_331_11 hm_134 [.inl (50 : Int32), .inl (1 : Int32)] [] rfl (zT_rt hS63 s_64 rfl) ⟨by omega, by omega⟩ rfl (zw_mono h (zi_go ?_ ?_))
                      · intro v66 S65 hv
                        obtain ⟨hS65, h⟩ := hv
                        refine zw_iret hm_133 dX11_partToken_101 ?_
                        show ma_wp X d w 128 54 [(3, .inl (2 : Int32)), (2, .inr (.inr (some 10))), (1, .inl v4), (0, .inr (.inr (some 64)))] [.inl v66, .inl (2 : Int32), .inr (.inr (some 66))] S65 _
                        refine zw_ias hm_128 dX11_readPolicy_54 (zT_is hS65 s_66) (zT_h hS65 s_66) rfl ⟨by decide, by decide⟩ ?_
                        refine zw_push hm_128 dX11_readPolicy_55 (v := .inr (.inr (some 64))) rfl ?_
                        refine zw_gf hm_128 dX11_readPolicy_56 (v := .inr (.inr (some 66))) (zT_is (zT_pi hS65) s_64) (zT_t (zT_pi hS65) s_64) rfl f_11_13_11 (zT_f (zT_pi hS65) r_64_4) ?_
                        refine zw_push hm_128 dX11_readPolicy_59 (v := .inl (2 : Int32)) rfl ?_
                        refine zw_ia hm_128 dX11_readPolicy_60 (zT_is (zT_pi hS65) s_66) (zT_h (zT_pi hS65) s_66) rfl ⟨by decide, by decide⟩ ?_
                        show ma_wp X d w 128 61 [(3, .inl (2 : Int32)), (2, .inr (.inr (some 10))), (1, .inl v4), (0, .inr (.inr (some 64)))] [.inl v66] (ma_put S65 66 2 (.inl v66)) _
                        refine zw_push hm_128 dX11_readPolicy_61 (v := .inl (-1 : Int32)) rfl ?_
                        refine zw_if2 hm_128 dX11_readPolicy_62 (t := 67) rfl zc2_ne ?_ ?_
                        · intro hc
                          rw [if_neg hc] at h
                          refine zw_sto hm_128 dX11_readPolicy_67 [(3, .inl (3 : Int32)), (2, .inr (.inr (some 10))), (1, .inl v4), (0, .inr (.inr (some 64)))] rfl rfl rfl ?_
                          refine zw_goto hm_128 dX11_readPolicy_70 (t := 22) rfl ?_
                          refine zw_push hm_128 dX11_readPolicy_22 (v := .inl (3 : Int32)) rfl ?_
                          refine zw_push hm_128 dX11_readPolicy_23 (v := .inr (.inr (some 10))) rfl ?_
                          refine zw_cv hm_128 dX11_readPolicy_24 v_11_288_17 hm_277 [] [.inl (3 : Int32)] rfl rfl ⟨by omega, by omega⟩ rfl (tx_len (v := (4 : Int32)) (by decide) (by omega) (by omega) rfl rfl ?_)
                          show ma_wp X d w 128 27 [(3, .inl (3 : Int32)), (2, .inr (.inr (some 10))), (1, .inl v4), (0, .inr (.inr (some 64)))] [.inl (4 : Int32), .inl (3 : Int32)] (ma_put S65 66 2 (.inl v66)) _
                          refine zw_if2 hm_128 dX11_readPolicy_27 (t := 73) rfl zc2_ge (fun hc => absurd hc (by decide)) (fun _ => ?_)
                          refine zw_push hm_128 dX11_readPolicy_30 (v := .inl (3 : Int32)) rfl ?_
                          refine zw_push hm_128 dX11_readPolicy_31 (v := .inl (4 : Int32)) rfl ?_
                          refine zw_if2 hm_128 dX11_readPolicy_32 (t := 73) rfl zc2_ge (fun hc => absurd hc (by decide)) (fun _ => ?_)
                          refine zw_push hm_128 dX11_readPolicy_35 (v := .inr (.inr (some 64))) rfl ?_
                          refine zw_cv hm_128 dX11_readPolicy_36 v_11_278_11 hm_129 [] [] rfl (zT_rt (zT_pi hS65) s_64 rfl) ⟨by omega, by omega⟩ rfl (zw_mono h (zi_go ?_ ?_))
                          · intro v68 S67 hv
                            obtain ⟨hS67, h⟩ := hv
                            refine zw_stk hm_128 dX11_readPolicy_39 (st' := []) rfl rfl ?_
                            refine zw_push hm_128 dX11_readPolicy_40 (v := .inr (.inr (some 64))) rfl ?_
                            refine zw_gf hm_128 dX11_readPolicy_41 (v := .inr (.inr (some 66))) (zT_is hS67 s_64) (zT_t hS67 s_64) rfl f_11_13_11 (zT_f hS67 r_64_4) ?_
                            refine zw_push hm_128 dX11_readPolicy_44 (v := .inl (3 : Int32)) rfl ?_
                            refine zw_push hm_128 dX11_readPolicy_45 (v := .inr (.inr (some 64))) rfl ?_
                            refine zw_push hm_128 dX11_readPolicy_46 (v := .inr (.inr (some 10))) rfl ?_
                            refine zw_push hm_128 dX11_readPolicy_47 (v := .inl (3 : Int32)) rfl ?_
                            refine zw_cv hm_128 dX11_readPolicy_48 v_11_293_17 hm_279 [.inl (3 : Int32)] [.inr (.inr (some 64)), .inl (3 : Int32), .inr (.inr (some 66))] rfl rfl ⟨by omega, by omega⟩ rfl (tx_char (v := (98 : Int32)) (by decide) (by omega) (by omega) (by decide) (by decide) (by decide) (by decide) ?_)
                            show ma_wp X d w 128 51 [(3, .inl (3 : Int32)), (2, .inr (.inr (some 10))), (1, .inl v4), (0, .inr (.inr (some 64)))] [.inl (98 : Int32), .inr (.inr (some 64)), .inl (3 : Int32), .inr (.inr (some 66))] S67 _
                            refine zw_cv hm_128 dX11_readPolicy_51 v_11_297_11 hm_133 [.inl (98 : Int32)] [.inl (3 : Int32), .inr (.inr (some 66))] rfl (zT_rt hS67 s_64 rfl) ⟨by omega, by omega⟩ rfl ?_
                            show ma_wp X (d - 1) (w - 21) 133 0 [(0, .inr (.inr (some 64))), (1, .inl (98 : Int32))] [] S67 _
                            refine zw_push hm_133 dX11_partToken_0 (v := .inl (98 : Int32)) rfl ?_
                            refine zw_jmp hm_133 dX11_partToken_1 (t := 136) (st' := []) rfl rfl rfl (by decide +kernel) ?_
                            refine zw_push hm_133 dX11_partToken_136 (v := .inr (.inr (some 64))) rfl ?_
                            refine zw_cv hm_133 dX11_partToken_137 v_11_343_11 hm_136 [] [] rfl (zT_rt hS67 s_64 rfl) ⟨by omega, by omega⟩ rfl (zw_mono h (zi_go ?_ ?_))
                            · intro v70 S69 hv
                              obtain ⟨hS69, h⟩ := hv
                              refine zw_iret hm_133 dX11_partToken_140 ?_
                              show ma_wp X d w 128 54 [(3, .inl (3 : Int32)), (2, .inr (.inr (some 10))), (1, .inl v4), (0, .inr (.inr (some 64)))] [.inl v70, .inl (3 : Int32), .inr (.inr (some 66))] S69 _
                              refine zw_ias hm_128 dX11_readPolicy_54 (zT_is hS69 s_66) (zT_h hS69 s_66) rfl ⟨by decide, by decide⟩ ?_
                              refine zw_push hm_128 dX11_readPolicy_55 (v := .inr (.inr (some 64))) rfl ?_
                              refine zw_gf hm_128 dX11_readPolicy_56 (v := .inr (.inr (some 66))) (zT_is (zT_pi hS69) s_64) (zT_t (zT_pi hS69) s_64) rfl f_11_13_11 (zT_f (zT_pi hS69) r_64_4) ?_
                              refine zw_push hm_128 dX11_readPolicy_59 (v := .inl (3 : Int32)) rfl ?_
                              refine zw_ia hm_128 dX11_readPolicy_60 (zT_is (zT_pi hS69) s_66) (zT_h (zT_pi hS69) s_66) rfl ⟨by decide, by decide⟩ ?_
                              show ma_wp X d w 128 61 [(3, .inl (3 : Int32)), (2, .inr (.inr (some 10))), (1, .inl v4), (0, .inr (.inr (some 64)))] [.inl v70] (ma_put S69 66 3 (.inl v70)) _
                              refine zw_push hm_128 dX11_readPolicy_61 (v := .inl (-1 : Int32)) rfl ?_
                              refine zw_if2 hm_128 dX11_readPolicy_62 (t := 67) rfl zc2_ne ?_ ?_
                              · intro hc
                                rw [if_neg hc] at h
                                refine zw_sto hm_128 dX11_readPolicy_67 [(3, .inl (4 : Int32)), (2, .inr (.inr (some 10))), (1, .inl v4), (0, .inr (.inr (some 64)))] rfl rfl rfl ?_
                                refine zw_goto hm_128 dX11_readPolicy_70 (t := 22) rfl ?_
                                refine zw_push hm_128 dX11_readPolicy_22 (v := .inl (4 : Int32)) rfl ?_
                                refine zw_push hm_128 dX11_readPolicy_23 (v := .inr (.inr (some 10))) rfl ?_
                                refine zw_cv hm_128 dX11_readPolicy_24 v_11_288_17 hm_277 [] [.inl (4 : Int32)] rfl rfl ⟨by omega, by omega⟩ rfl (tx_len (v := (4 : Int32)) (by decide) (by omega) (by omega) rfl rfl ?_)
                                show ma_wp X d w 128 27 [(3, .inl (4 : Int32)), (2, .inr (.inr (some 10))), (1, .inl v4), (0, .inr (.inr (some 64)))] [.inl (4 : Int32), .inl (4 : Int32)] (ma_put S69 66 3 (.inl v70)) _
                                refine zw_if2 hm_128 dX11_readPolicy_27 (t := 73) rfl zc2_ge (fun _ => ?_) (fun hc => absurd (by decide) hc)
                                refine zw_push hm_128 dX11_readPolicy_73 (v := .inl v4) rfl ?_
                                refine zw_push hm_128 dX11_readPolicy_74 (v := .inl (-1 : Int32)) rfl ?_
                                refine zw_if2 hm_128 dX11_readPolicy_75 (t := 85) rfl zc2_eq ?_ ?_
                                · intro hc
                                  rw [if_pos hc] at h
                                  refine zw_push hm_128 dX11_readPolicy_85 (v := .inl (-1 : Int32)) rfl ?_
                                  exact zw_iret hm_128 dX11_readPolicy_86 h
                                · intro hc
                                  rw [if_neg hc] at h
                                  refine zw_push hm_128 dX11_readPolicy_78 (v := .inr (.inr (some 64))) rfl ?_
                                  refine zw_cv hm_128 dX11_readPolicy_79 v_11_278_11 hm_129 [] [] rfl (zT_rt (zT_pi hS69) s_64 rfl) ⟨by omega, by omega⟩ rfl (zw_mono h (zi_go ?_ ?_))
                                  · intro v72 S71 hv
                                    obtain ⟨hS71, h⟩ := hv
                                    refine zw_if0 hm_128 dX11_readPolicy_82 (t := 87) rfl zc0_eq ?_ ?_
                                    · intro hc
                                      rw [if_pos hc] at h
                                      refine zw_push hm_128 dX11_readPolicy_87 (v := .inl v4) rfl ?_
                                      exact zw_iret hm_128 dX11_readPolicy_88 h
                                    · intro hc
                                      rw [if_neg hc] at h
                                      refine zw_push hm_128 dX11_readPolicy_85 (v := .inl (-1 : Int32)) rfl ?_
                                      exact zw_iret hm_128 dX11_readPolicy_86 h
                                  · intro x S9 hx
                                    exact ⟨by decide, hx⟩
                              · intro hc
                                rw [if_pos (Classical.not_not.mp hc)] at h
                                refine zw_push hm_128 dX11_readPolicy_65 (v := .inl (-1 : Int32)) rfl ?_
                                exact zw_iret hm_128 dX11_readPolicy_66 h
                            · intro x S9 hx
                              exact hx.elim
                          · intro x S9 hx
                            exact ⟨by decide, hx⟩
                        · intro hc
                          rw [if_pos (Classical.not_not.mp hc)] at h
                          refine zw_push hm_128 dX11_readPolicy_65 (v := .inl (-1 : Int32)) rfl ?_
                          exact zw_iret hm_128 dX11_readPolicy_66 h
                      · intro x S9 hx
                        exact hx.elim
                    · intro x S9 hx
                      exact ⟨by decide, hx⟩
                  · intro hc
                    rw [if_pos (Classical.not_not.mp hc)] at h
                    refine zw_push hm_128 dX11_readPolicy_65 (v := .inl (-1 : Int32)) rfl ?_
                    exact zw_iret hm_128 dX11_readPolicy_66 h
                · intro x S9 hx
                  exact hx.elim
              · intro x S9 hx
                exact ⟨by decide, hx⟩
            · intro hc
              rw [if_pos (Classical.not_not.mp hc)] at h
              refine zw_push hm_128 dX11_readPolicy_65 (v := .inl (-1 : Int32)) rfl ?_
              exact zw_iret hm_128 dX11_readPolicy_66 h
          · intro x S9 hx
            exact hx.elim
        · intro x S9 hx
          exact ⟨by decide, hx⟩
      rw [if_neg hc5] at h
      by_cases hc6 : v4 = (6 : Int32)
      · rw [if_pos hc6] at h
        refine zw_jmp hm_132 dX11_partsOf_1 (t := 68) (st' := []) rfl rfl rfl (ma_jmp_tab (by rw [hc6]; decide +kernel)) ?_
        refine zw_txc hm_132 dX11_partsOf_68 txi_11_327 ?_
        refine zw_aret hm_132 dX11_partsOf_71 ?_
        show ma_wp X d w 128 19 [(1, .inl v4), (0, .inr (.inr (some 64)))] [.inr (.inr (some 11))] S3 _
        refine zw_sto hm_128 dX11_readPolicy_19 [(2, .inr (.inr (some 11))), (1, .inl v4), (0, .inr (.inr (some 64)))] rfl rfl rfl ?_
        refine zw_push hm_128 dX11_readPolicy_20 (v := .inl (0 : Int32)) rfl ?_
        refine zw_sto hm_128 dX11_readPolicy_21 [(3, .inl (0 : Int32)), (2, .inr (.inr (some 11))), (1, .inl v4), (0, .inr (.inr (some 64)))] rfl rfl rfl ?_
        refine zw_push hm_128 dX11_readPolicy_22 (v := .inl (0 : Int32)) rfl ?_
        refine zw_push hm_128 dX11_readPolicy_23 (v := .inr (.inr (some 11))) rfl ?_
        refine zw_cv hm_128 dX11_readPolicy_24 v_11_288_17 hm_277 [] [.inl (0 : Int32)] rfl rfl ⟨by omega, by omega⟩ rfl (tx_len (v := (3 : Int32)) (by decide) (by omega) (by omega) rfl rfl ?_)
        show ma_wp X d w 128 27 [(3, .inl (0 : Int32)), (2, .inr (.inr (some 11))), (1, .inl v4), (0, .inr (.inr (some 64)))] [.inl (3 : Int32), .inl (0 : Int32)] S3 _
        refine zw_if2 hm_128 dX11_readPolicy_27 (t := 73) rfl zc2_ge (fun hc => absurd hc (by decide)) (fun _ => ?_)
        refine zw_push hm_128 dX11_readPolicy_30 (v := .inl (0 : Int32)) rfl ?_
        refine zw_push hm_128 dX11_readPolicy_31 (v := .inl (4 : Int32)) rfl ?_
        refine zw_if2 hm_128 dX11_readPolicy_32 (t := 73) rfl zc2_ge (fun hc => absurd hc (by decide)) (fun _ => ?_)
        refine zw_push hm_128 dX11_readPolicy_35 (v := .inr (.inr (some 64))) rfl ?_
        refine zw_cv hm_128 dX11_readPolicy_36 v_11_278_11 hm_129 [] [] rfl (zT_rt hS3 s_64 rfl) ⟨by omega, by omega⟩ rfl (zw_mono h (zi_go ?_ ?_))
        · intro v74 S73 hv
          obtain ⟨hS73, h⟩ := hv
          refine zw_stk hm_128 dX11_readPolicy_39 (st' := []) rfl rfl ?_
          refine zw_push hm_128 dX11_readPolicy_40 (v := .inr (.inr (some 64))) rfl ?_
          refine zw_gf hm_128 dX11_readPolicy_41 (v := .inr (.inr (some 66))) (zT_is hS73 s_64) (zT_t hS73 s_64) rfl f_11_13_11 (zT_f hS73 r_64_4) ?_
          refine zw_push hm_128 dX11_readPolicy_44 (v := .inl (0 : Int32)) rfl ?_
          refine zw_push hm_128 dX11_readPolicy_45 (v := .inr (.inr (some 64))) rfl ?_
          refine zw_push hm_128 dX11_readPolicy_46 (v := .inr (.inr (some 11))) rfl ?_
          refine zw_push hm_128 dX11_readPolicy_47 (v := .inl (0 : Int32)) rfl ?_
          refine zw_cv hm_128 dX11_readPolicy_48 v_11_293_17 hm_279 [.inl (0 : Int32)] [.inr (.inr (some 64)), .inl (0 : Int32), .inr (.inr (some 66))] rfl rfl ⟨by omega, by omega⟩ rfl (tx_char (v := (114 : Int32)) (by decide) (by omega) (by omega) (by decide) (by decide) (by decide) (by decide) ?_)
          show ma_wp X d w 128 51 [(3, .inl (0 : Int32)), (2, .inr (.inr (some 11))), (1, .inl v4), (0, .inr (.inr (some 64)))] [.inl (114 : Int32), .inr (.inr (some 64)), .inl (0 : Int32), .inr (.inr (some 66))] S73 _
          refine zw_cv hm_128 dX11_readPolicy_51 v_11_297_11 hm_133 [.inl (114 : Int32)] [.inl (0 : Int32), .inr (.inr (some 66))] rfl (zT_rt hS73 s_64 rfl) ⟨by omega, by omega⟩ rfl ?_
          show ma_wp X (d - 1) (w - 21) 133 0 [(0, .inr (.inr (some 64))), (1, .inl (114 : Int32))] [] S73 _
          refine zw_push hm_133 dX11_partToken_0 (v := .inl (114 : Int32)) rfl ?_
          refine zw_jmp hm_133 dX11_partToken_1 (t := 68) (st' := []) rfl rfl rfl (by decide +kernel) ?_
          refine zw_push hm_133 dX11_partToken_68 (v := .inr (.inr (some 64))) rfl ?_
          refine zw_push hm_133 dX11_partToken_69 (v := .inl (16 : Int32)) rfl ?_
          refine zw_push hm_133 dX11_partToken_71 (v := .inl (1500 : Int32)) rfl ?_
          refine zw_cv hm_133 dX11_partToken_74 v_11_331_11 hm_134 [.inl (1500 : Int32), .inl (16 : Int32)] [] rfl (zT_rt hS73 s_64 rfl) ⟨by omega, by omega⟩ rfl (zw_mono h (zi_go ?_ ?_))
          · intro v76 S75 hv
            obtain ⟨hS75, h⟩ := hv
            refine zw_iret hm_133 dX11_partToken_77 ?_
            show ma_wp X d w 128 54 [(3, .inl (0 : Int32)), (2, .inr (.inr (some 11))), (1, .inl v4), (0, .inr (.inr (some 64)))] [.inl v76, .inl (0 : Int32), .inr (.inr (some 66))] S75 _
            refine zw_ias hm_128 dX11_readPolicy_54 (zT_is hS75 s_66) (zT_h hS75 s_66) rfl ⟨by decide, by decide⟩ ?_
            refine zw_push hm_128 dX11_readPolicy_55 (v := .inr (.inr (some 64))) rfl ?_
            refine zw_gf hm_128 dX11_readPolicy_56 (v := .inr (.inr (some 66))) (zT_is (zT_pi hS75) s_64) (zT_t (zT_pi hS75) s_64) rfl f_11_13_11 (zT_f (zT_pi hS75) r_64_4) ?_
            refine zw_push hm_128 dX11_readPolicy_59 (v := .inl (0 : Int32)) rfl ?_
            refine zw_ia hm_128 dX11_readPolicy_60 (zT_is (zT_pi hS75) s_66) (zT_h (zT_pi hS75) s_66) rfl ⟨by decide, by decide⟩ ?_
            show ma_wp X d w 128 61 [(3, .inl (0 : Int32)), (2, .inr (.inr (some 11))), (1, .inl v4), (0, .inr (.inr (some 64)))] [.inl v76] (ma_put S75 66 0 (.inl v76)) _
            refine zw_push hm_128 dX11_readPolicy_61 (v := .inl (-1 : Int32)) rfl ?_
            refine zw_if2 hm_128 dX11_readPolicy_62 (t := 67) rfl zc2_ne ?_ ?_
            · intro hc
              rw [if_neg hc] at h
              refine zw_sto hm_128 dX11_readPolicy_67 [(3, .inl (1 : Int32)), (2, .inr (.inr (some 11))), (1, .inl v4), (0, .inr (.inr (some 64)))] rfl rfl rfl ?_
              refine zw_goto hm_128 dX11_readPolicy_70 (t := 22) rfl ?_
              refine zw_push hm_128 dX11_readPolicy_22 (v := .inl (1 : Int32)) rfl ?_
              refine zw_push hm_128 dX11_readPolicy_23 (v := .inr (.inr (some 11))) rfl ?_
              refine zw_cv hm_128 dX11_readPolicy_24 v_11_288_17 hm_277 [] [.inl (1 : Int32)] rfl rfl ⟨by omega, by omega⟩ rfl (tx_len (v := (3 : Int32)) (by decide) (by omega) (by omega) rfl rfl ?_)
              show ma_wp X d w 128 27 [(3, .inl (1 : Int32)), (2, .inr (.inr (some 11))), (1, .inl v4), (0, .inr (.inr (some 64)))] [.inl (3 : Int32), .inl (1 : Int32)] (ma_put S75 66 0 (.inl v76)) _
              refine zw_if2 hm_128 dX11_readPolicy_27 (t := 73) rfl zc2_ge (fun hc => absurd hc (by decide)) (fun _ => ?_)
              refine zw_push hm_128 dX11_readPolicy_30 (v := .inl (1 : Int32)) rfl ?_
              refine zw_push hm_128 dX11_readPolicy_31 (v := .inl (4 : Int32)) rfl ?_
              refine zw_if2 hm_128 dX11_readPolicy_32 (t := 73) rfl zc2_ge (fun hc => absurd hc (by decide)) (fun _ => ?_)
              refine zw_push hm_128 dX11_readPolicy_35 (v := .inr (.inr (some 64))) rfl ?_
              refine zw_cv hm_128 dX11_readPolicy_36 v_11_278_11 hm_129 [] [] rfl (zT_rt (zT_pi hS75) s_64 rfl) ⟨by omega, by omega⟩ rfl (zw_mono h (zi_go ?_ ?_))
              · intro v78 S77 hv
                obtain ⟨hS77, h⟩ := hv
                refine zw_stk hm_128 dX11_readPolicy_39 (st' := []) rfl rfl ?_
                refine zw_push hm_128 dX11_readPolicy_40 (v := .inr (.inr (some 64))) rfl ?_
                refine zw_gf hm_128 dX11_readPolicy_41 (v := .inr (.inr (some 66))) (zT_is hS77 s_64) (zT_t hS77 s_64) rfl f_11_13_11 (zT_f hS77 r_64_4) ?_
                refine zw_push hm_128 dX11_readPolicy_44 (v := .inl (1 : Int32)) rfl ?_
                refine zw_push hm_128 dX11_readPolicy_45 (v := .inr (.inr (some 64))) rfl ?_
                refine zw_push hm_128 dX11_readPolicy_46 (v := .inr (.inr (some 11))) rfl ?_
                refine zw_push hm_128 dX11_readPolicy_47 (v := .inl (1 : Int32)) rfl ?_
                refine zw_cv hm_128 dX11_readPolicy_48 v_11_293_17 hm_279 [.inl (1 : Int32)] [.inr (.inr (some 64)), .inl (1 : Int32), .inr (.inr (some 66))] rfl rfl ⟨by omega, by omega⟩ rfl (tx_char (v := (122 : Int32)) (by decide) (by omega) (by omega) (by decide) (by decide) (by decide) (by decide) ?_)
                show ma_wp X d w 128 51 [(3, .inl (1 : Int32)), (2, .inr (.inr (some 11))), (1, .inl v4), (0, .inr (.inr (some 64)))] [.inl (122 : Int32), .inr (.inr (some 64)), .inl (1 : Int32), .inr (.inr (some 66))] S77 _
                refine zw_cv hm_128 dX11_readPolicy_51 v_11_297_11 hm_133 [.inl (122 : Int32)] [.inl (1 : Int32), .inr (.inr (some 66))] rfl (zT_rt hS77 s_64 rfl) ⟨by omega, by omega⟩ rfl ?_
                show ma_wp X (d - 1) (w - 21) 133 0 [(0, .inr (.inr (some 64))), (1, .inl (122 : Int32))] [] S77 _
                refine zw_push hm_133 dX11_partToken_0 (v := .inl (122 : Int32)) rfl ?_
                refine zw_jmp hm_133 dX11_partToken_1 (t := 102) (st' := []) rfl rfl rfl (by decide +kernel) ?_
                refine zw_push hm_133 dX11_partToken_102 (v := .inr (.inr (some 64))) rfl ?_
                refine zw_push hm_133 dX11_partToken_103 (v := .inl (16 : Int32)) rfl ?_
                refine zw_push hm_133 dX11_partToken_105 (v := .inl (256 : Int32)) rfl ?_
                refine zw_push hm_133 dX11_partToken_108 (v := .inr (.inr (some 64))) rfl ?_
                refine zw_gf hm_133 dX11_partToken_109 (v := .inr (.inr (some 66))) (zT_is hS77 s_64) (zT_t hS77 s_64) rfl f_11_13_11 (zT_f hS77 r_64_4) ?_
                refine zw_push hm_133 dX11_partToken_112 (v := .inl (0 : Int32)) rfl ?_
                refine zw_ia hm_133 dX11_partToken_113 (zT_is hS77 s_66) (zT_h hS77 s_66) rfl ⟨by decide, by decide⟩ ?_
                show ma_wp X (d - 1) (w - 21) 133 114 [(0, .inr (.inr (some 64))), (1, .inl (122 : Int32))] [.inl (mI S77 66 0), .inl (256 : Int32), .inl (16 : Int32), .inr (.inr (some 64))] S77 _
                refine zw_push hm_133 dX11_partToken_114 (v := .inl (4 : Int32)) rfl ?_
                refine zw_stk hm_133 dX11_partToken_115 (st' := [.inl ((mI S77 66 0) / (4 : Int32)), .inl (256 : Int32), .inl (16 : Int32), .inr (.inr (some 64))]) rfl rfl ?_
                refine zw_min hm_133 dX11_partToken_116 pr_11_335 (by omega) (by show 2 + 13 ≤ (w - 21); omega) (fun _ _ _ _ z => by cases z) ?_
                refine zw_cv hm_133 dX11_partToken_119 v_11_331_11 hm_134 [.inl (if ((mI S77 66 0) / (4 : Int32)) < (256 : Int32) then ((mI S77 66 0) / (4 : Int32)) else (256 : Int32)), .inl (16 : Int32)] [] rfl (zT_rt hS77 s_64 rfl) ⟨by omega, by omega⟩ rfl (zw_mono h (zi_go ?_ ?_))
                · intro v80 S79 hv
                  obtain ⟨hS79, h⟩ := hv
                  refine zw_iret hm_133 dX11_partToken_122 ?_
                  show ma_wp X d w 128 54 [(3, .inl (1 : Int32)), (2, .inr (.inr (some 11))), (1, .inl v4), (0, .inr (.inr (some 64)))] [.inl v80, .inl (1 : Int32), .inr (.inr (some 66))] S79 _
                  refine zw_ias hm_128 dX11_readPolicy_54 (zT_is hS79 s_66) (zT_h hS79 s_66) rfl ⟨by decide, by decide⟩ ?_
                  refine zw_push hm_128 dX11_readPolicy_55 (v := .inr (.inr (some 64))) rfl ?_
                  refine zw_gf hm_128 dX11_readPolicy_56 (v := .inr (.inr (some 66))) (zT_is (zT_pi hS79) s_64) (zT_t (zT_pi hS79) s_64) rfl f_11_13_11 (zT_f (zT_pi hS79) r_64_4) ?_
                  refine zw_push hm_128 dX11_readPolicy_59 (v := .inl (1 : Int32)) rfl ?_
                  refine zw_ia hm_128 dX11_readPolicy_60 (zT_is (zT_pi hS79) s_66) (zT_h (zT_pi hS79) s_66) rfl ⟨by decide, by decide⟩ ?_
                  show ma_wp X d w 128 61 [(3, .inl (1 : Int32)), (2, .inr (.inr (some 11))), (1, .inl v4), (0, .inr (.inr (some 64)))] [.inl v80] (ma_put S79 66 1 (.inl v80)) _
                  refine zw_push hm_128 dX11_readPolicy_61 (v := .inl (-1 : Int32)) rfl ?_
                  refine zw_if2 hm_128 dX11_readPolicy_62 (t := 67) rfl zc2_ne ?_ ?_
                  · intro hc
                    rw [if_neg hc] at h
                    refine zw_sto hm_128 dX11_readPolicy_67 [(3, .inl (2 : Int32)), (2, .inr (.inr (some 11))), (1, .inl v4), (0, .inr (.inr (some 64)))] rfl rfl rfl ?_
                    refine zw_goto hm_128 dX11_readPolicy_70 (t := 22) rfl ?_
                    refine zw_push hm_128 dX11_readPolicy_22 (v := .inl (2 : Int32)) rfl ?_
                    refine zw_push hm_128 dX11_readPolicy_23 (v := .inr (.inr (some 11))) rfl ?_
                    refine zw_cv hm_128 dX11_readPolicy_24 v_11_288_17 hm_277 [] [.inl (2 : Int32)] rfl rfl ⟨by omega, by omega⟩ rfl (tx_len (v := (3 : Int32)) (by decide) (by omega) (by omega) rfl rfl ?_)
                    show ma_wp X d w 128 27 [(3, .inl (2 : Int32)), (2, .inr (.inr (some 11))), (1, .inl v4), (0, .inr (.inr (some 64)))] [.inl (3 : Int32), .inl (2 : Int32)] (ma_put S79 66 1 (.inl v80)) _
                    refine zw_if2 hm_128 dX11_readPolicy_27 (t := 73) rfl zc2_ge (fun hc => absurd hc (by decide)) (fun _ => ?_)
                    refine zw_push hm_128 dX11_readPolicy_30 (v := .inl (2 : Int32)) rfl ?_
                    refine zw_push hm_128 dX11_readPolicy_31 (v := .inl (4 : Int32)) rfl ?_
                    refine zw_if2 hm_128 dX11_readPolicy_32 (t := 73) rfl zc2_ge (fun hc => absurd hc (by decide)) (fun _ => ?_)
                    refine zw_push hm_128 dX11_readPolicy_35 (v := .inr (.inr (some 64))) rfl ?_
                    refine zw_cv hm_128 dX11_readPolicy_36 v_11_278_11 hm_129 [] [] rfl (zT_rt (zT_pi hS79) s_64 rfl) ⟨by omega, by omega⟩ rfl (zw_mono h (zi_go ?_ ?_))
                    · intro v82 S81 hv
                      obtain ⟨hS81, h⟩ := hv
                      refine zw_stk hm_128 dX11_readPolicy_39 (st' := []) rfl rfl ?_
                      refine zw_push hm_128 dX11_readPolicy_40 (v := .inr (.inr (some 64))) rfl ?_
                      refine zw_gf hm_128 dX11_readPolicy_41 (v := .inr (.inr (some 66))) (zT_is hS81 s_64) (zT_t hS81 s_64) rfl f_11_13_11 (zT_f hS81 r_64_4) ?_
                      refine zw_push hm_128 dX11_readPolicy_44 (v := .inl (2 : Int32)) rfl ?_
                      refine zw_push hm_128 dX11_readPolicy_45 (v := .inr (.inr (some 64))) rfl ?_
                      refine zw_push hm_128 dX11_readPolicy_46 (v := .inr (.inr (some 11))) rfl ?_
                      refine zw_push hm_128 dX11_readPolicy_47 (v := .inl (2 : Int32)) rfl ?_
                      refine zw_cv hm_128 dX11_readPolicy_48 v_11_293_17 hm_279 [.inl (2 : Int32)] [.inr (.inr (some 64)), .inl (2 : Int32), .inr (.inr (some 66))] rfl rfl ⟨by omega, by omega⟩ rfl (tx_char (v := (115 : Int32)) (by decide) (by omega) (by omega) (by decide) (by decide) (by decide) (by decide) ?_)
                      show ma_wp X d w 128 51 [(3, .inl (2 : Int32)), (2, .inr (.inr (some 11))), (1, .inl v4), (0, .inr (.inr (some 64)))] [.inl (115 : Int32), .inr (.inr (some 64)), .inl (2 : Int32), .inr (.inr (some 66))] S81 _
                      refine zw_cv hm_128 dX11_readPolicy_51 v_11_297_11 hm_133 [.inl (115 : Int32)] [.inl (2 : Int32), .inr (.inr (some 66))] rfl (zT_rt hS81 s_64 rfl) ⟨by omega, by omega⟩ rfl ?_
                      show ma_wp X (d - 1) (w - 21) 133 0 [(0, .inr (.inr (some 64))), (1, .inl (115 : Int32))] [] S81 _
                      refine zw_push hm_133 dX11_partToken_0 (v := .inl (115 : Int32)) rfl ?_
                      refine zw_jmp hm_133 dX11_partToken_1 (t := 123) (st' := []) rfl rfl rfl (by decide +kernel) ?_
                      refine zw_push hm_133 dX11_partToken_123 (v := .inr (.inr (some 64))) rfl ?_
                      refine zw_push hm_133 dX11_partToken_124 (v := .inl (0 : Int32)) rfl ?_
                      refine zw_push hm_133 dX11_partToken_125 (v := .inl (100 : Int32)) rfl ?_
                      refine zw_cv hm_133 dX11_partToken_127 v_11_331_11 hm_134 [.inl (100 : Int32), .inl (0 : Int32)] [] rfl (zT_rt hS81 s_64 rfl) ⟨by omega, by omega⟩ rfl (zw_mono h (zi_go ?_ ?_))
                      · intro v84 S83 hv
                        obtain ⟨hS83, h⟩ := hv
                        refine zw_iret hm_133 dX11_partToken_130 ?_
                        show ma_wp X d w 128 54 [(3, .inl (2 : Int32)), (2, .inr (.inr (some 11))), (1, .inl v4), (0, .inr (.inr (some 64)))] [.inl v84, .inl (2 : Int32), .inr (.inr (some 66))] S83 _
                        refine zw_ias hm_128 dX11_readPolicy_54 (zT_is hS83 s_66) (zT_h hS83 s_66) rfl ⟨by decide, by decide⟩ ?_
                        refine zw_push hm_128 dX11_readPolicy_55 (v := .inr (.inr (some 64))) rfl ?_
                        refine zw_gf hm_128 dX11_readPolicy_56 (v := .inr (.inr (some 66))) (zT_is (zT_pi hS83) s_64) (zT_t (zT_pi hS83) s_64) rfl f_11_13_11 (zT_f (zT_pi hS83) r_64_4) ?_
                        refine zw_push hm_128 dX11_readPolicy_59 (v := .inl (2 : Int32)) rfl ?_
                        refine zw_ia hm_128 dX11_readPolicy_60 (zT_is (zT_pi hS83) s_66) (zT_h (zT_pi hS83) s_66) rfl ⟨by decide, by decide⟩ ?_
                        show ma_wp X d w 128 61 [(3, .inl (2 : Int32)), (2, .inr (.inr (some 11))), (1, .inl v4), (0, .inr (.inr (some 64)))] [.inl v84] (ma_put S83 66 2 (.inl v84)) _
                        refine zw_push hm_128 dX11_readPolicy_61 (v := .inl (-1 : Int32)) rfl ?_
                        refine zw_if2 hm_128 dX11_readPolicy_62 (t := 67) rfl zc2_ne ?_ ?_
                        · intro hc
                          rw [if_neg hc] at h
                          refine zw_sto hm_128 dX11_readPolicy_67 [(3, .inl (3 : Int32)), (2, .inr (.inr (some 11))), (1, .inl v4), (0, .inr (.inr (some 64)))] rfl rfl rfl ?_
                          refine zw_goto hm_128 dX11_readPolicy_70 (t := 22) rfl ?_
                          refine zw_push hm_128 dX11_readPolicy_22 (v := .inl (3 : Int32)) rfl ?_
                          refine zw_push hm_128 dX11_readPolicy_23 (v := .inr (.inr (some 11))) rfl ?_
                          refine zw_cv hm_128 dX11_readPolicy_24 v_11_288_17 hm_277 [] [.inl (3 : Int32)] rfl rfl ⟨by omega, by omega⟩ rfl (tx_len (v := (3 : Int32)) (by decide) (by omega) (by omega) rfl rfl ?_)
                          show ma_wp X d w 128 27 [(3, .inl (3 : Int32)), (2, .inr (.inr (some 11))), (1, .inl v4), (0, .inr (.inr (some 64)))] [.inl (3 : Int32), .inl (3 : Int32)] (ma_put S83 66 2 (.inl v84)) _
                          refine zw_if2 hm_128 dX11_readPolicy_27 (t := 73) rfl zc2_ge (fun _ => ?_) (fun hc => absurd (by decide) hc)
                          refine zw_push hm_128 dX11_readPolicy_73 (v := .inl v4) rfl ?_
                          refine zw_push hm_128 dX11_readPolicy_74 (v := .inl (-1 : Int32)) rfl ?_
                          refine zw_if2 hm_128 dX11_readPolicy_75 (t := 85) rfl zc2_eq ?_ ?_
                          · intro hc
                            rw [if_pos hc] at h
                            refine zw_push hm_128 dX11_readPolicy_85 (v := .inl (-1 : Int32)) rfl ?_
                            exact zw_iret hm_128 dX11_readPolicy_86 h
                          · intro hc
                            rw [if_neg hc] at h
                            refine zw_push hm_128 dX11_readPolicy_78 (v := .inr (.inr (some 64))) rfl ?_
                            refine zw_cv hm_128 dX11_readPolicy_79 v_11_278_11 hm_129 [] [] rfl (zT_rt (zT_pi hS83) s_64 rfl) ⟨by omega, by omega⟩ rfl (zw_mono h (zi_go ?_ ?_))
                            · intro v86 S85 hv
                              obtain ⟨hS85, h⟩ := hv
                              refine zw_if0 hm_128 dX11_readPolicy_82 (t := 87) rfl zc0_eq ?_ ?_
                              · intro hc
                                rw [if_pos hc] at h
                                refine zw_push hm_128 dX11_readPolicy_87 (v := .inl v4) rfl ?_
                                exact zw_iret hm_128 dX11_readPolicy_88 h
                              · intro hc
                                rw [if_neg hc] at h
                                refine zw_push hm_128 dX11_readPolicy_85 (v := .inl (-1 : Int32)) rfl ?_
                                exact zw_iret hm_128 dX11_readPolicy_86 h
                            · intro x S9 hx
                              exact ⟨by decide, hx⟩
                        · intro hc
                          rw [if_pos (Classical.not_not.mp hc)] at h
                          refine zw_push hm_128 dX11_readPolicy_65 (v := .inl (-1 : Int32)) rfl ?_
                          exact zw_iret hm_128 dX11_readPolicy_66 h
                      · intro x S9 hx
                        exact hx.elim
                    · intro x S9 hx
                      exact ⟨by decide, hx⟩
                  · intro hc
                    rw [if_pos (Classical.not_not.mp hc)] at h
                    refine zw_push hm_128 dX11_readPolicy_65 (v := .inl (-1 : Int32)) rfl ?_
                    exact zw_iret hm_128 dX11_readPolicy_66 h
                · intro x S9 hx
                  exact hx.elim
              · intro x S9 hx
                exact ⟨by decide, hx⟩
            · intro hc
              rw [if_pos (Classical.not_not.mp hc)] at h
              refine zw_push hm_128 dX11_readPolicy_65 (v := .inl (-1 : Int32)) rfl ?_
              exact zw_iret hm_128 dX11_readPolicy_66 h
          · intro x S9 hx
            exact hx.elim
        · intro x S9 hx
          exact ⟨by decide, hx⟩
      rw [if_neg hc6] at h
      refine zw_jmp hm_132 dX11_partsOf_1 (t := 72) (st' := []) rfl rfl rfl (ma_jmp_def (m := 7) (by decide) (fun j hj => by
          have hj2 : j = 0 ∨ j = 1 ∨ j = 2 ∨ j = 3 ∨ j = 4 ∨ j = 5 ∨ j = 6 := by omega
          rcases hj2 with rfl | rfl | rfl | rfl | rfl | rfl | rfl
          · exact hc0
          · exact hc1
          · exact hc2
          · exact hc3
          · exact hc4
          · exact hc5
          · exact hc6
          ) rfl) ?_
      refine zw_txc hm_132 dX11_partsOf_72 txi_11_329 ?_
      refine zw_aret hm_132 dX11_partsOf_75 ?_
      show ma_wp X d w 128 19 [(1, .inl v4), (0, .inr (.inr (some 64)))] [.inr (.inr (some 12))] S3 _
      refine zw_sto hm_128 dX11_readPolicy_19 [(2, .inr (.inr (some 12))), (1, .inl v4), (0, .inr (.inr (some 64)))] rfl rfl rfl ?_
      refine zw_push hm_128 dX11_readPolicy_20 (v := .inl (0 : Int32)) rfl ?_
      refine zw_sto hm_128 dX11_readPolicy_21 [(3, .inl (0 : Int32)), (2, .inr (.inr (some 12))), (1, .inl v4), (0, .inr (.inr (some 64)))] rfl rfl rfl ?_
      refine zw_push hm_128 dX11_readPolicy_22 (v := .inl (0 : Int32)) rfl ?_
      refine zw_push hm_128 dX11_readPolicy_23 (v := .inr (.inr (some 12))) rfl ?_
      refine zw_cv hm_128 dX11_readPolicy_24 v_11_288_17 hm_277 [] [.inl (0 : Int32)] rfl rfl ⟨by omega, by omega⟩ rfl (tx_len (v := (0 : Int32)) (by decide) (by omega) (by omega) rfl rfl ?_)
      show ma_wp X d w 128 27 [(3, .inl (0 : Int32)), (2, .inr (.inr (some 12))), (1, .inl v4), (0, .inr (.inr (some 64)))] [.inl (0 : Int32), .inl (0 : Int32)] S3 _
      refine zw_if2 hm_128 dX11_readPolicy_27 (t := 73) rfl zc2_ge (fun _ => ?_) (fun hc => absurd (by decide) hc)
      refine zw_push hm_128 dX11_readPolicy_73 (v := .inl v4) rfl ?_
      refine zw_push hm_128 dX11_readPolicy_74 (v := .inl (-1 : Int32)) rfl ?_
      refine zw_if2 hm_128 dX11_readPolicy_75 (t := 85) rfl zc2_eq ?_ ?_
      · intro hc
        rw [if_pos hc] at h
        refine zw_push hm_128 dX11_readPolicy_85 (v := .inl (-1 : Int32)) rfl ?_
        exact zw_iret hm_128 dX11_readPolicy_86 h
      · intro hc
        rw [if_neg hc] at h
        refine zw_push hm_128 dX11_readPolicy_78 (v := .inr (.inr (some 64))) rfl ?_
        refine zw_cv hm_128 dX11_readPolicy_79 v_11_278_11 hm_129 [] [] rfl (zT_rt hS3 s_64 rfl) ⟨by omega, by omega⟩ rfl (zw_mono h (zi_go ?_ ?_))
        · intro v88 S87 hv
          obtain ⟨hS87, h⟩ := hv
          refine zw_if0 hm_128 dX11_readPolicy_82 (t := 87) rfl zc0_eq ?_ ?_
          · intro hc
            rw [if_pos hc] at h
            refine zw_push hm_128 dX11_readPolicy_87 (v := .inl v4) rfl ?_
            exact zw_iret hm_128 dX11_readPolicy_88 h
          · intro hc
            rw [if_neg hc] at h
            refine zw_push hm_128 dX11_readPolicy_85 (v := .inl (-1 : Int32)) rfl ?_
            exact zw_iret hm_128 dX11_readPolicy_86 h
        · intro x S9 hx
          exact ⟨by decide, hx⟩
    · intro x S9 hx
      exact ⟨by decide, hx⟩
  · intro x S9 hx
    exact ⟨by decide, hx⟩
theorem sp_128_64 {X : Nat × (Nat → Int32)} {d w : Nat} {f : Nat → Nat → Int32} {r : Nat → Nat → Option Nat} {C Z N : Nat} {Q : Option ma_V ⊕ Nat → ma_S → Prop} {S : ma_S}  (hd : 8 ≤ d) (hw : 163 ≤ w) (hI : zA f r C Z N S)  (K : ∀ v S', zA f r C Z N S' → (v.toInt = -1 ∨ (0 ≤ v.toInt ∧ v.toInt ≤ 6 ∧ 0 ≤ (mI S' 66 0).toInt ∧ (v.toInt = 3 → 0 ≤ (mI S' 66 1).toInt) ∧ (v.toInt = 6 → 0 ≤ (mI S' 66 1).toInt))) → Q (.inl (some (.inl v))) S') : ma_wp X d w 128 0 [(0, .inr (.inr (some 64)))] [] S Q := by
  refine g_128_64_0  (by omega) (by omega) (zG_T hI) ?_
  have li2 : (0 : Int32).toInt = 0 := rfl
  have hI1 : zA f r C Z N (ma_put S 64 3 (.inl (0 : Int32))) := zG_sp hI (0) (100) rfl (by decide) (by decide) (by decide) (show zA_x (mI S) from zG_x hI) (by omega) (by omega)
  refine sp_129_64  (by omega) (by omega) (zA_dn_zX hI1)  (fun v2 S1 hL_S1 hp_v2 => zi_n ⟨zG_T hL_S1, ?_⟩)
  have hI_S1 := zA_up_zX hI1 hL_S1
  refine sp_130_64  (by omega) (by omega) (zA_dn_zX hI_S1)  (fun v4 S3 hL_S3 hp_v4 => zi_n ⟨zG_T hL_S3, ?_⟩)
  have hI_S3 := zA_up_zX hI_S1 hL_S3
  have b3 := i_bd v4
  refine zd (fun h4 => ?_) (fun h4 => ?_)
  · skip
    have g5 := i_eq h4
    refine sp_129_64  (by omega) (by omega) (zA_dn_zX hI_S3)  (fun v6 S5 hL_S5 hp_v6 => zi_n ⟨zG_T hL_S5, ?_⟩)
    have hI_S5 := zA_up_zX hI_S3 hL_S5
    have li6 : (16 : Int32).toInt = 16 := rfl
    have li7 : (1500 : Int32).toInt = 1500 := rfl
    refine sp_134_64 ((16 : Int32)) ((1500 : Int32)) (by omega) (by omega) (zA_dn_zX hI_S5)  (fun v8 S7 hL_S7 hp_v8 => zi_n ⟨zG_T hL_S7, ?_⟩)
    have hI_S7 := zA_up_zX hI_S5 hL_S7
    have b8 := i_bd v8
    have li9 : (-1 : Int32).toInt = -1 := rfl
    refine zd (fun h10 => ?_) (fun h10 => ?_)
    · skip
      have g11 := i_eq h10
      have hI12 : zA f r C Z N (ma_put S7 66 0 (.inl v8)) := zG_sa hI_S7 (-1) (1500) rfl (by decide) (by decide) (by decide) (show zA_x (mI S7) from zG_x hI_S7) (by omega) (by omega)
      have f13 := zG_a hI 4 (-1) (1500) (c := 66) (k := 1) (by decide) (by decide)
      have q14 : (mI S1 66 1).toInt = (mI S 66 1).toInt := zG_zi (f := mI (ma_put S 64 3 (.inl (0 : Int32)))) hL_S1 rfl
      have f15 := zG_a hI_S1 4 (-1) (1500) (c := 66) (k := 1) (by decide) (by decide)
      have q16 : (mI S3 66 1).toInt = (mI S1 66 1).toInt := zG_zi (f := mI S1) hL_S3 rfl
      have f17 := zG_a hI_S3 4 (-1) (1500) (c := 66) (k := 1) (by decide) (by decide)
      have q18 : (mI S5 66 1).toInt = (mI S3 66 1).toInt := zG_zi (f := mI S3) hL_S5 rfl
      have f19 := zG_a hI_S5 4 (-1) (1500) (c := 66) (k := 1) (by decide) (by decide)
      have q20 : (mI S7 66 1).toInt = (mI S5 66 1).toInt := zG_zi (f := mI S5) hL_S7 rfl
      have f21 := zG_a hI_S7 4 (-1) (1500) (c := 66) (k := 1) (by decide) (by decide)
      exact K ((-1 : Int32)) _ hI12 (show (-1 : Int32).toInt = -1 ∨ (0 ≤ (-1 : Int32).toInt ∧ (-1 : Int32).toInt ≤ 6 ∧ 0 ≤ v8.toInt ∧ ((-1 : Int32).toInt = 3 → 0 ≤ (mI S7 66 1).toInt) ∧ ((-1 : Int32).toInt = 6 → 0 ≤ (mI S7 66 1).toInt)) from by omega)
    · skip
      have g22 := i_ne h10
      have hI23 : zA f r C Z N (ma_put S7 66 0 (.inl v8)) := zG_sa hI_S7 (-1) (1500) rfl (by decide) (by decide) (by decide) (show zA_x (mI S7) from zG_x hI_S7) (by omega) (by omega)
      refine sp_129_64  (by omega) (by omega) (zA_dn_zX hI23)  (fun v10 S9 hL_S9 hp_v10 => zi_n ⟨zG_T hL_S9, ?_⟩)
      have hI_S9 := zA_up_zX hI23 hL_S9
      refine sp_135_64  (by omega) (by omega) (zA_dn_zX hI_S9)  (fun v12 S11 hL_S11 hp_v12 => zi_n ⟨zG_T hL_S11, ?_⟩)
      have hI_S11 := zA_up_zX hI_S9 hL_S11
      have b24 := i_bd v12
      refine zd (fun h25 => ?_) (fun h25 => ?_)
      · skip
        have g26 := i_eq h25
        have hI27 : zA f r C Z N (ma_put S11 66 1 (.inl v12)) := zG_sa hI_S11 (-1) (1500) rfl (by decide) (by decide) (by decide) (show zA_x (mI S11) from zG_x hI_S11) (by omega) (by omega)
        have q28 : (mI S9 66 0).toInt = v8.toInt := zG_zi (f := mI (ma_put S7 66 0 (.inl v8))) hL_S9 rfl
        have f29 := zG_a hI_S9 4 (-1) (1500) (c := 66) (k := 0) (by decide) (by decide)
        have q30 : (mI S11 66 0).toInt = (mI S9 66 0).toInt := zG_zi (f := mI S9) hL_S11 rfl
        have f31 := zG_a hI_S11 4 (-1) (1500) (c := 66) (k := 0) (by decide) (by decide)
        exact K ((-1 : Int32)) _ hI27 (show (-1 : Int32).toInt = -1 ∨ (0 ≤ (-1 : Int32).toInt ∧ (-1 : Int32).toInt ≤ 6 ∧ 0 ≤ (mI S11 66 0).toInt ∧ ((-1 : Int32).toInt = 3 → 0 ≤ v12.toInt) ∧ ((-1 : Int32).toInt = 6 → 0 ≤ v12.toInt)) from by omega)
      · skip
        have g32 := i_ne h25
        refine zd (fun h33 => ?_) (fun h33 => ?_)
        · skip
          have g34 := i_eq h33
          have hI35 : zA f r C Z N (ma_put S11 66 1 (.inl v12)) := zG_sa hI_S11 (-1) (1500) rfl (by decide) (by decide) (by decide) (show zA_x (mI S11) from zG_x hI_S11) (by omega) (by omega)
          have q36 : (mI S9 66 0).toInt = v8.toInt := zG_zi (f := mI (ma_put S7 66 0 (.inl v8))) hL_S9 rfl
          have f37 := zG_a hI_S9 4 (-1) (1500) (c := 66) (k := 0) (by decide) (by decide)
          have q38 : (mI S11 66 0).toInt = (mI S9 66 0).toInt := zG_zi (f := mI S9) hL_S11 rfl
          have f39 := zG_a hI_S11 4 (-1) (1500) (c := 66) (k := 0) (by decide) (by decide)
          exact K ((-1 : Int32)) _ hI35 (show (-1 : Int32).toInt = -1 ∨ (0 ≤ (-1 : Int32).toInt ∧ (-1 : Int32).toInt ≤ 6 ∧ 0 ≤ (mI S11 66 0).toInt ∧ ((-1 : Int32).toInt = 3 → 0 ≤ v12.toInt) ∧ ((-1 : Int32).toInt = 6 → 0 ≤ v12.toInt)) from by omega)
        · skip
          have g40 := i_ne h33
          have hI41 : zA f r C Z N (ma_put S11 66 1 (.inl v12)) := zG_sa hI_S11 (-1) (1500) rfl (by decide) (by decide) (by decide) (show zA_x (mI S11) from zG_x hI_S11) (by omega) (by omega)
          refine sp_129_64  (by omega) (by omega) (zA_dn_zX hI41)  (fun v14 S13 hL_S13 hp_v14 => zi_n ⟨zG_T hL_S13, ?_⟩)
          have hI_S13 := zA_up_zX hI41 hL_S13
          have b42 := i_bd v14
          refine zd (fun h43 => ?_) (fun h43 => ?_)
          · skip
            have g44 := i_eq h43
            have q45 : (mI S9 66 0).toInt = v8.toInt := zG_zi (f := mI (ma_put S7 66 0 (.inl v8))) hL_S9 rfl
            have f46 := zG_a hI_S9 4 (-1) (1500) (c := 66) (k := 0) (by decide) (by decide)
            have q47 : (mI S11 66 0).toInt = (mI S9 66 0).toInt := zG_zi (f := mI S9) hL_S11 rfl
            have f48 := zG_a hI_S11 4 (-1) (1500) (c := 66) (k := 0) (by decide) (by decide)
            have q49 : (mI S13 66 0).toInt = (mI S11 66 0).toInt := zG_zi (f := mI (ma_put S11 66 1 (.inl v12))) hL_S13 rfl
            have f50 := zG_a hI_S13 4 (-1) (1500) (c := 66) (k := 0) (by decide) (by decide)
            have q51 : (mI S13 66 1).toInt = v12.toInt := zG_zi (f := mI (ma_put S11 66 1 (.inl v12))) hL_S13 rfl
            have f52 := zG_a hI_S13 4 (-1) (1500) (c := 66) (k := 1) (by decide) (by decide)
            exact K (v4) _ hI_S13 (show v4.toInt = -1 ∨ (0 ≤ v4.toInt ∧ v4.toInt ≤ 6 ∧ 0 ≤ (mI S13 66 0).toInt ∧ (v4.toInt = 3 → 0 ≤ (mI S13 66 1).toInt) ∧ (v4.toInt = 6 → 0 ≤ (mI S13 66 1).toInt)) from by omega)
          · skip
            have g53 := i_ne h43
            have q54 : (mI S9 66 0).toInt = v8.toInt := zG_zi (f := mI (ma_put S7 66 0 (.inl v8))) hL_S9 rfl
            have f55 := zG_a hI_S9 4 (-1) (1500) (c := 66) (k := 0) (by decide) (by decide)
            have q56 : (mI S11 66 0).toInt = (mI S9 66 0).toInt := zG_zi (f := mI S9) hL_S11 rfl
            have f57 := zG_a hI_S11 4 (-1) (1500) (c := 66) (k := 0) (by decide) (by decide)
            have q58 : (mI S13 66 0).toInt = (mI S11 66 0).toInt := zG_zi (f := mI (ma_put S11 66 1 (.inl v12))) hL_S13 rfl
            have f59 := zG_a hI_S13 4 (-1) (1500) (c := 66) (k := 0) (by decide) (by decide)
            have q60 : (mI S13 66 1).toInt = v12.toInt := zG_zi (f := mI (ma_put S11 66 1 (.inl v12))) hL_S13 rfl
            have f61 := zG_a hI_S13 4 (-1) (1500) (c := 66) (k := 1) (by decide) (by decide)
            exact K ((-1 : Int32)) _ hI_S13 (show (-1 : Int32).toInt = -1 ∨ (0 ≤ (-1 : Int32).toInt ∧ (-1 : Int32).toInt ≤ 6 ∧ 0 ≤ (mI S13 66 0).toInt ∧ ((-1 : Int32).toInt = 3 → 0 ≤ (mI S13 66 1).toInt) ∧ ((-1 : Int32).toInt = 6 → 0 ≤ (mI S13 66 1).toInt)) from by omega)
  · skip
    have g62 := i_ne h4
    have li63 : (1 : Int32).toInt = 1 := rfl
    refine zd (fun h64 => ?_) (fun h64 => ?_)
    · skip
      have g65 := i_eq h64
      refine sp_129_64  (by omega) (by omega) (zA_dn_zX hI_S3)  (fun v16 S15 hL_S15 hp_v16 => zi_n ⟨zG_T hL_S15, ?_⟩)
      have hI_S15 := zA_up_zX hI_S3 hL_S15
      have li66 : (16 : Int32).toInt = 16 := rfl
      have li67 : (1500 : Int32).toInt = 1500 := rfl
      refine sp_134_64 ((16 : Int32)) ((1500 : Int32)) (by omega) (by omega) (zA_dn_zX hI_S15)  (fun v18 S17 hL_S17 hp_v18 => zi_n ⟨zG_T hL_S17, ?_⟩)
      have hI_S17 := zA_up_zX hI_S15 hL_S17
      have b68 := i_bd v18
      have li69 : (-1 : Int32).toInt = -1 := rfl
      refine zd (fun h70 => ?_) (fun h70 => ?_)
      · skip
        have g71 := i_eq h70
        have hI72 : zA f r C Z N (ma_put S17 66 0 (.inl v18)) := zG_sa hI_S17 (-1) (1500) rfl (by decide) (by decide) (by decide) (show zA_x (mI S17) from zG_x hI_S17) (by omega) (by omega)
        have f73 := zG_a hI 4 (-1) (1500) (c := 66) (k := 1) (by decide) (by decide)
        have q74 : (mI S1 66 1).toInt = (mI S 66 1).toInt := zG_zi (f := mI (ma_put S 64 3 (.inl (0 : Int32)))) hL_S1 rfl
        have f75 := zG_a hI_S1 4 (-1) (1500) (c := 66) (k := 1) (by decide) (by decide)
        have q76 : (mI S3 66 1).toInt = (mI S1 66 1).toInt := zG_zi (f := mI S1) hL_S3 rfl
        have f77 := zG_a hI_S3 4 (-1) (1500) (c := 66) (k := 1) (by decide) (by decide)
        have q78 : (mI S15 66 1).toInt = (mI S3 66 1).toInt := zG_zi (f := mI S3) hL_S15 rfl
        have f79 := zG_a hI_S15 4 (-1) (1500) (c := 66) (k := 1) (by decide) (by decide)
        have q80 : (mI S17 66 1).toInt = (mI S15 66 1).toInt := zG_zi (f := mI S15) hL_S17 rfl
        have f81 := zG_a hI_S17 4 (-1) (1500) (c := 66) (k := 1) (by decide) (by decide)
        exact K ((-1 : Int32)) _ hI72 (show (-1 : Int32).toInt = -1 ∨ (0 ≤ (-1 : Int32).toInt ∧ (-1 : Int32).toInt ≤ 6 ∧ 0 ≤ v18.toInt ∧ ((-1 : Int32).toInt = 3 → 0 ≤ (mI S17 66 1).toInt) ∧ ((-1 : Int32).toInt = 6 → 0 ≤ (mI S17 66 1).toInt)) from by omega)
      · skip
        have g82 := i_ne h70
        refine zd (fun h83 => ?_) (fun h83 => ?_)
        · skip
          have g84 := i_eq h83
          have hI85 : zA f r C Z N (ma_put S17 66 0 (.inl v18)) := zG_sa hI_S17 (-1) (1500) rfl (by decide) (by decide) (by decide) (show zA_x (mI S17) from zG_x hI_S17) (by omega) (by omega)
          have f86 := zG_a hI 4 (-1) (1500) (c := 66) (k := 1) (by decide) (by decide)
          have q87 : (mI S1 66 1).toInt = (mI S 66 1).toInt := zG_zi (f := mI (ma_put S 64 3 (.inl (0 : Int32)))) hL_S1 rfl
          have f88 := zG_a hI_S1 4 (-1) (1500) (c := 66) (k := 1) (by decide) (by decide)
          have q89 : (mI S3 66 1).toInt = (mI S1 66 1).toInt := zG_zi (f := mI S1) hL_S3 rfl
          have f90 := zG_a hI_S3 4 (-1) (1500) (c := 66) (k := 1) (by decide) (by decide)
          have q91 : (mI S15 66 1).toInt = (mI S3 66 1).toInt := zG_zi (f := mI S3) hL_S15 rfl
          have f92 := zG_a hI_S15 4 (-1) (1500) (c := 66) (k := 1) (by decide) (by decide)
          have q93 : (mI S17 66 1).toInt = (mI S15 66 1).toInt := zG_zi (f := mI S15) hL_S17 rfl
          have f94 := zG_a hI_S17 4 (-1) (1500) (c := 66) (k := 1) (by decide) (by decide)
          exact K ((-1 : Int32)) _ hI85 (show (-1 : Int32).toInt = -1 ∨ (0 ≤ (-1 : Int32).toInt ∧ (-1 : Int32).toInt ≤ 6 ∧ 0 ≤ v18.toInt ∧ ((-1 : Int32).toInt = 3 → 0 ≤ (mI S17 66 1).toInt) ∧ ((-1 : Int32).toInt = 6 → 0 ≤ (mI S17 66 1).toInt)) from by omega)
        · skip
          have g95 := i_ne h83
          have hI96 : zA f r C Z N (ma_put S17 66 0 (.inl v18)) := zG_sa hI_S17 (-1) (1500) rfl (by decide) (by decide) (by decide) (show zA_x (mI S17) from zG_x hI_S17) (by omega) (by omega)
          refine sp_129_64  (by omega) (by omega) (zA_dn_zX hI96)  (fun v20 S19 hL_S19 hp_v20 => zi_n ⟨zG_T hL_S19, ?_⟩)
          have hI_S19 := zA_up_zX hI96 hL_S19
          have b97 := i_bd v20
          refine zd (fun h98 => ?_) (fun h98 => ?_)
          · skip
            have g99 := i_eq h98
            have q100 : (mI S19 66 0).toInt = v18.toInt := zG_zi (f := mI (ma_put S17 66 0 (.inl v18))) hL_S19 rfl
            have f101 := zG_a hI_S19 4 (-1) (1500) (c := 66) (k := 0) (by decide) (by decide)
            have f102 := zG_a hI 4 (-1) (1500) (c := 66) (k := 1) (by decide) (by decide)
            have q103 : (mI S1 66 1).toInt = (mI S 66 1).toInt := zG_zi (f := mI (ma_put S 64 3 (.inl (0 : Int32)))) hL_S1 rfl
            have f104 := zG_a hI_S1 4 (-1) (1500) (c := 66) (k := 1) (by decide) (by decide)
            have q105 : (mI S3 66 1).toInt = (mI S1 66 1).toInt := zG_zi (f := mI S1) hL_S3 rfl
            have f106 := zG_a hI_S3 4 (-1) (1500) (c := 66) (k := 1) (by decide) (by decide)
            have q107 : (mI S15 66 1).toInt = (mI S3 66 1).toInt := zG_zi (f := mI S3) hL_S15 rfl
            have f108 := zG_a hI_S15 4 (-1) (1500) (c := 66) (k := 1) (by decide) (by decide)
            have q109 : (mI S17 66 1).toInt = (mI S15 66 1).toInt := zG_zi (f := mI S15) hL_S17 rfl
            have f110 := zG_a hI_S17 4 (-1) (1500) (c := 66) (k := 1) (by decide) (by decide)
            have q111 : (mI S19 66 1).toInt = (mI S17 66 1).toInt := zG_zi (f := mI (ma_put S17 66 0 (.inl v18))) hL_S19 rfl
            have f112 := zG_a hI_S19 4 (-1) (1500) (c := 66) (k := 1) (by decide) (by decide)
            exact K (v4) _ hI_S19 (show v4.toInt = -1 ∨ (0 ≤ v4.toInt ∧ v4.toInt ≤ 6 ∧ 0 ≤ (mI S19 66 0).toInt ∧ (v4.toInt = 3 → 0 ≤ (mI S19 66 1).toInt) ∧ (v4.toInt = 6 → 0 ≤ (mI S19 66 1).toInt)) from by omega)
          · skip
            have g113 := i_ne h98
            have q114 : (mI S19 66 0).toInt = v18.toInt := zG_zi (f := mI (ma_put S17 66 0 (.inl v18))) hL_S19 rfl
            have f115 := zG_a hI_S19 4 (-1) (1500) (c := 66) (k := 0) (by decide) (by decide)
            have f116 := zG_a hI 4 (-1) (1500) (c := 66) (k := 1) (by decide) (by decide)
            have q117 : (mI S1 66 1).toInt = (mI S 66 1).toInt := zG_zi (f := mI (ma_put S 64 3 (.inl (0 : Int32)))) hL_S1 rfl
            have f118 := zG_a hI_S1 4 (-1) (1500) (c := 66) (k := 1) (by decide) (by decide)
            have q119 : (mI S3 66 1).toInt = (mI S1 66 1).toInt := zG_zi (f := mI S1) hL_S3 rfl
            have f120 := zG_a hI_S3 4 (-1) (1500) (c := 66) (k := 1) (by decide) (by decide)
            have q121 : (mI S15 66 1).toInt = (mI S3 66 1).toInt := zG_zi (f := mI S3) hL_S15 rfl
            have f122 := zG_a hI_S15 4 (-1) (1500) (c := 66) (k := 1) (by decide) (by decide)
            have q123 : (mI S17 66 1).toInt = (mI S15 66 1).toInt := zG_zi (f := mI S15) hL_S17 rfl
            have f124 := zG_a hI_S17 4 (-1) (1500) (c := 66) (k := 1) (by decide) (by decide)
            have q125 : (mI S19 66 1).toInt = (mI S17 66 1).toInt := zG_zi (f := mI (ma_put S17 66 0 (.inl v18))) hL_S19 rfl
            have f126 := zG_a hI_S19 4 (-1) (1500) (c := 66) (k := 1) (by decide) (by decide)
            exact K ((-1 : Int32)) _ hI_S19 (show (-1 : Int32).toInt = -1 ∨ (0 ≤ (-1 : Int32).toInt ∧ (-1 : Int32).toInt ≤ 6 ∧ 0 ≤ (mI S19 66 0).toInt ∧ ((-1 : Int32).toInt = 3 → 0 ≤ (mI S19 66 1).toInt) ∧ ((-1 : Int32).toInt = 6 → 0 ≤ (mI S19 66 1).toInt)) from by omega)
    · skip
      have g127 := i_ne h64
      have li128 : (2 : Int32).toInt = 2 := rfl
      refine zd (fun h129 => ?_) (fun h129 => ?_)
      · skip
        have g130 := i_eq h129
        refine sp_129_64  (by omega) (by omega) (zA_dn_zX hI_S3)  (fun v22 S21 hL_S21 hp_v22 => zi_n ⟨zG_T hL_S21, ?_⟩)
        have hI_S21 := zA_up_zX hI_S3 hL_S21
        have li131 : (16 : Int32).toInt = 16 := rfl
        have li132 : (1500 : Int32).toInt = 1500 := rfl
        refine sp_134_64 ((16 : Int32)) ((1500 : Int32)) (by omega) (by omega) (zA_dn_zX hI_S21)  (fun v24 S23 hL_S23 hp_v24 => zi_n ⟨zG_T hL_S23, ?_⟩)
        have hI_S23 := zA_up_zX hI_S21 hL_S23
        have b133 := i_bd v24
        have li134 : (-1 : Int32).toInt = -1 := rfl
        refine zd (fun h135 => ?_) (fun h135 => ?_)
        · skip
          have g136 := i_eq h135
          have hI137 : zA f r C Z N (ma_put S23 66 0 (.inl v24)) := zG_sa hI_S23 (-1) (1500) rfl (by decide) (by decide) (by decide) (show zA_x (mI S23) from zG_x hI_S23) (by omega) (by omega)
          have f138 := zG_a hI 4 (-1) (1500) (c := 66) (k := 1) (by decide) (by decide)
          have q139 : (mI S1 66 1).toInt = (mI S 66 1).toInt := zG_zi (f := mI (ma_put S 64 3 (.inl (0 : Int32)))) hL_S1 rfl
          have f140 := zG_a hI_S1 4 (-1) (1500) (c := 66) (k := 1) (by decide) (by decide)
          have q141 : (mI S3 66 1).toInt = (mI S1 66 1).toInt := zG_zi (f := mI S1) hL_S3 rfl
          have f142 := zG_a hI_S3 4 (-1) (1500) (c := 66) (k := 1) (by decide) (by decide)
          have q143 : (mI S21 66 1).toInt = (mI S3 66 1).toInt := zG_zi (f := mI S3) hL_S21 rfl
          have f144 := zG_a hI_S21 4 (-1) (1500) (c := 66) (k := 1) (by decide) (by decide)
          have q145 : (mI S23 66 1).toInt = (mI S21 66 1).toInt := zG_zi (f := mI S21) hL_S23 rfl
          have f146 := zG_a hI_S23 4 (-1) (1500) (c := 66) (k := 1) (by decide) (by decide)
          exact K ((-1 : Int32)) _ hI137 (show (-1 : Int32).toInt = -1 ∨ (0 ≤ (-1 : Int32).toInt ∧ (-1 : Int32).toInt ≤ 6 ∧ 0 ≤ v24.toInt ∧ ((-1 : Int32).toInt = 3 → 0 ≤ (mI S23 66 1).toInt) ∧ ((-1 : Int32).toInt = 6 → 0 ≤ (mI S23 66 1).toInt)) from by omega)
        · skip
          have g147 := i_ne h135
          refine zd (fun h148 => ?_) (fun h148 => ?_)
          · skip
            have g149 := i_eq h148
            have hI150 : zA f r C Z N (ma_put S23 66 0 (.inl v24)) := zG_sa hI_S23 (-1) (1500) rfl (by decide) (by decide) (by decide) (show zA_x (mI S23) from zG_x hI_S23) (by omega) (by omega)
            have f151 := zG_a hI 4 (-1) (1500) (c := 66) (k := 1) (by decide) (by decide)
            have q152 : (mI S1 66 1).toInt = (mI S 66 1).toInt := zG_zi (f := mI (ma_put S 64 3 (.inl (0 : Int32)))) hL_S1 rfl
            have f153 := zG_a hI_S1 4 (-1) (1500) (c := 66) (k := 1) (by decide) (by decide)
            have q154 : (mI S3 66 1).toInt = (mI S1 66 1).toInt := zG_zi (f := mI S1) hL_S3 rfl
            have f155 := zG_a hI_S3 4 (-1) (1500) (c := 66) (k := 1) (by decide) (by decide)
            have q156 : (mI S21 66 1).toInt = (mI S3 66 1).toInt := zG_zi (f := mI S3) hL_S21 rfl
            have f157 := zG_a hI_S21 4 (-1) (1500) (c := 66) (k := 1) (by decide) (by decide)
            have q158 : (mI S23 66 1).toInt = (mI S21 66 1).toInt := zG_zi (f := mI S21) hL_S23 rfl
            have f159 := zG_a hI_S23 4 (-1) (1500) (c := 66) (k := 1) (by decide) (by decide)
            exact K ((-1 : Int32)) _ hI150 (show (-1 : Int32).toInt = -1 ∨ (0 ≤ (-1 : Int32).toInt ∧ (-1 : Int32).toInt ≤ 6 ∧ 0 ≤ v24.toInt ∧ ((-1 : Int32).toInt = 3 → 0 ≤ (mI S23 66 1).toInt) ∧ ((-1 : Int32).toInt = 6 → 0 ≤ (mI S23 66 1).toInt)) from by omega)
          · skip
            have g160 := i_ne h148
            have hI161 : zA f r C Z N (ma_put S23 66 0 (.inl v24)) := zG_sa hI_S23 (-1) (1500) rfl (by decide) (by decide) (by decide) (show zA_x (mI S23) from zG_x hI_S23) (by omega) (by omega)
            refine sp_129_64  (by omega) (by omega) (zA_dn_zX hI161)  (fun v26 S25 hL_S25 hp_v26 => zi_n ⟨zG_T hL_S25, ?_⟩)
            have hI_S25 := zA_up_zX hI161 hL_S25
            have b162 := i_bd v26
            refine zd (fun h163 => ?_) (fun h163 => ?_)
            · skip
              have g164 := i_eq h163
              have q165 : (mI S25 66 0).toInt = v24.toInt := zG_zi (f := mI (ma_put S23 66 0 (.inl v24))) hL_S25 rfl
              have f166 := zG_a hI_S25 4 (-1) (1500) (c := 66) (k := 0) (by decide) (by decide)
              have f167 := zG_a hI 4 (-1) (1500) (c := 66) (k := 1) (by decide) (by decide)
              have q168 : (mI S1 66 1).toInt = (mI S 66 1).toInt := zG_zi (f := mI (ma_put S 64 3 (.inl (0 : Int32)))) hL_S1 rfl
              have f169 := zG_a hI_S1 4 (-1) (1500) (c := 66) (k := 1) (by decide) (by decide)
              have q170 : (mI S3 66 1).toInt = (mI S1 66 1).toInt := zG_zi (f := mI S1) hL_S3 rfl
              have f171 := zG_a hI_S3 4 (-1) (1500) (c := 66) (k := 1) (by decide) (by decide)
              have q172 : (mI S21 66 1).toInt = (mI S3 66 1).toInt := zG_zi (f := mI S3) hL_S21 rfl
              have f173 := zG_a hI_S21 4 (-1) (1500) (c := 66) (k := 1) (by decide) (by decide)
              have q174 : (mI S23 66 1).toInt = (mI S21 66 1).toInt := zG_zi (f := mI S21) hL_S23 rfl
              have f175 := zG_a hI_S23 4 (-1) (1500) (c := 66) (k := 1) (by decide) (by decide)
              have q176 : (mI S25 66 1).toInt = (mI S23 66 1).toInt := zG_zi (f := mI (ma_put S23 66 0 (.inl v24))) hL_S25 rfl
              have f177 := zG_a hI_S25 4 (-1) (1500) (c := 66) (k := 1) (by decide) (by decide)
              exact K (v4) _ hI_S25 (show v4.toInt = -1 ∨ (0 ≤ v4.toInt ∧ v4.toInt ≤ 6 ∧ 0 ≤ (mI S25 66 0).toInt ∧ (v4.toInt = 3 → 0 ≤ (mI S25 66 1).toInt) ∧ (v4.toInt = 6 → 0 ≤ (mI S25 66 1).toInt)) from by omega)
            · skip
              have g178 := i_ne h163
              have q179 : (mI S25 66 0).toInt = v24.toInt := zG_zi (f := mI (ma_put S23 66 0 (.inl v24))) hL_S25 rfl
              have f180 := zG_a hI_S25 4 (-1) (1500) (c := 66) (k := 0) (by decide) (by decide)
              have f181 := zG_a hI 4 (-1) (1500) (c := 66) (k := 1) (by decide) (by decide)
              have q182 : (mI S1 66 1).toInt = (mI S 66 1).toInt := zG_zi (f := mI (ma_put S 64 3 (.inl (0 : Int32)))) hL_S1 rfl
              have f183 := zG_a hI_S1 4 (-1) (1500) (c := 66) (k := 1) (by decide) (by decide)
              have q184 : (mI S3 66 1).toInt = (mI S1 66 1).toInt := zG_zi (f := mI S1) hL_S3 rfl
              have f185 := zG_a hI_S3 4 (-1) (1500) (c := 66) (k := 1) (by decide) (by decide)
              have q186 : (mI S21 66 1).toInt = (mI S3 66 1).toInt := zG_zi (f := mI S3) hL_S21 rfl
              have f187 := zG_a hI_S21 4 (-1) (1500) (c := 66) (k := 1) (by decide) (by decide)
              have q188 : (mI S23 66 1).toInt = (mI S21 66 1).toInt := zG_zi (f := mI S21) hL_S23 rfl
              have f189 := zG_a hI_S23 4 (-1) (1500) (c := 66) (k := 1) (by decide) (by decide)
              have q190 : (mI S25 66 1).toInt = (mI S23 66 1).toInt := zG_zi (f := mI (ma_put S23 66 0 (.inl v24))) hL_S25 rfl
              have f191 := zG_a hI_S25 4 (-1) (1500) (c := 66) (k := 1) (by decide) (by decide)
              exact K ((-1 : Int32)) _ hI_S25 (show (-1 : Int32).toInt = -1 ∨ (0 ≤ (-1 : Int32).toInt ∧ (-1 : Int32).toInt ≤ 6 ∧ 0 ≤ (mI S25 66 0).toInt ∧ ((-1 : Int32).toInt = 3 → 0 ≤ (mI S25 66 1).toInt) ∧ ((-1 : Int32).toInt = 6 → 0 ≤ (mI S25 66 1).toInt)) from by omega)
      · skip
        have g192 := i_ne h129
        have li193 : (3 : Int32).toInt = 3 := rfl
        refine zd (fun h194 => ?_) (fun h194 => ?_)
        · skip
          have g195 := i_eq h194
          refine sp_129_64  (by omega) (by omega) (zA_dn_zX hI_S3)  (fun v28 S27 hL_S27 hp_v28 => zi_n ⟨zG_T hL_S27, ?_⟩)
          have hI_S27 := zA_up_zX hI_S3 hL_S27
          have li196 : (16 : Int32).toInt = 16 := rfl
          have li197 : (1500 : Int32).toInt = 1500 := rfl
          refine sp_134_64 ((16 : Int32)) ((1500 : Int32)) (by omega) (by omega) (zA_dn_zX hI_S27)  (fun v30 S29 hL_S29 hp_v30 => zi_n ⟨zG_T hL_S29, ?_⟩)
          have hI_S29 := zA_up_zX hI_S27 hL_S29
          have b198 := i_bd v30
          have li199 : (-1 : Int32).toInt = -1 := rfl
          refine zd (fun h200 => ?_) (fun h200 => ?_)
          · skip
            have g201 := i_eq h200
            have hI202 : zA f r C Z N (ma_put S29 66 0 (.inl v30)) := zG_sa hI_S29 (-1) (1500) rfl (by decide) (by decide) (by decide) (show zA_x (mI S29) from zG_x hI_S29) (by omega) (by omega)
            have f203 := zG_a hI 4 (-1) (1500) (c := 66) (k := 1) (by decide) (by decide)
            have q204 : (mI S1 66 1).toInt = (mI S 66 1).toInt := zG_zi (f := mI (ma_put S 64 3 (.inl (0 : Int32)))) hL_S1 rfl
            have f205 := zG_a hI_S1 4 (-1) (1500) (c := 66) (k := 1) (by decide) (by decide)
            have q206 : (mI S3 66 1).toInt = (mI S1 66 1).toInt := zG_zi (f := mI S1) hL_S3 rfl
            have f207 := zG_a hI_S3 4 (-1) (1500) (c := 66) (k := 1) (by decide) (by decide)
            have q208 : (mI S27 66 1).toInt = (mI S3 66 1).toInt := zG_zi (f := mI S3) hL_S27 rfl
            have f209 := zG_a hI_S27 4 (-1) (1500) (c := 66) (k := 1) (by decide) (by decide)
            have q210 : (mI S29 66 1).toInt = (mI S27 66 1).toInt := zG_zi (f := mI S27) hL_S29 rfl
            have f211 := zG_a hI_S29 4 (-1) (1500) (c := 66) (k := 1) (by decide) (by decide)
            exact K ((-1 : Int32)) _ hI202 (show (-1 : Int32).toInt = -1 ∨ (0 ≤ (-1 : Int32).toInt ∧ (-1 : Int32).toInt ≤ 6 ∧ 0 ≤ v30.toInt ∧ ((-1 : Int32).toInt = 3 → 0 ≤ (mI S29 66 1).toInt) ∧ ((-1 : Int32).toInt = 6 → 0 ≤ (mI S29 66 1).toInt)) from by omega)
          · skip
            have g212 := i_ne h200
            have hI213 : zA f r C Z N (ma_put S29 66 0 (.inl v30)) := zG_sa hI_S29 (-1) (1500) rfl (by decide) (by decide) (by decide) (show zA_x (mI S29) from zG_x hI_S29) (by omega) (by omega)
            refine sp_129_64  (by omega) (by omega) (zA_dn_zX hI213)  (fun v32 S31 hL_S31 hp_v32 => zi_n ⟨zG_T hL_S31, ?_⟩)
            have hI_S31 := zA_up_zX hI213 hL_S31
            refine sp_134_64 ((16 : Int32)) ((1500 : Int32)) (by omega) (by omega) (zA_dn_zX hI_S31)  (fun v34 S33 hL_S33 hp_v34 => zi_n ⟨zG_T hL_S33, ?_⟩)
            have hI_S33 := zA_up_zX hI_S31 hL_S33
            have b214 := i_bd v34
            refine zd (fun h215 => ?_) (fun h215 => ?_)
            · skip
              have g216 := i_eq h215
              have hI217 : zA f r C Z N (ma_put S33 66 1 (.inl v34)) := zG_sa hI_S33 (-1) (1500) rfl (by decide) (by decide) (by decide) (show zA_x (mI S33) from zG_x hI_S33) (by omega) (by omega)
              have q218 : (mI S31 66 0).toInt = v30.toInt := zG_zi (f := mI (ma_put S29 66 0 (.inl v30))) hL_S31 rfl
              have f219 := zG_a hI_S31 4 (-1) (1500) (c := 66) (k := 0) (by decide) (by decide)
              have q220 : (mI S33 66 0).toInt = (mI S31 66 0).toInt := zG_zi (f := mI S31) hL_S33 rfl
              have f221 := zG_a hI_S33 4 (-1) (1500) (c := 66) (k := 0) (by decide) (by decide)
              exact K ((-1 : Int32)) _ hI217 (show (-1 : Int32).toInt = -1 ∨ (0 ≤ (-1 : Int32).toInt ∧ (-1 : Int32).toInt ≤ 6 ∧ 0 ≤ (mI S33 66 0).toInt ∧ ((-1 : Int32).toInt = 3 → 0 ≤ v34.toInt) ∧ ((-1 : Int32).toInt = 6 → 0 ≤ v34.toInt)) from by omega)
            · skip
              have g222 := i_ne h215
              have hI223 : zA f r C Z N (ma_put S33 66 1 (.inl v34)) := zG_sa hI_S33 (-1) (1500) rfl (by decide) (by decide) (by decide) (show zA_x (mI S33) from zG_x hI_S33) (by omega) (by omega)
              refine sp_129_64  (by omega) (by omega) (zA_dn_zX hI223)  (fun v36 S35 hL_S35 hp_v36 => zi_n ⟨zG_T hL_S35, ?_⟩)
              have hI_S35 := zA_up_zX hI223 hL_S35
              have li224 : (7 : Int32).toInt = 7 := rfl
              refine sp_134_64 ((1 : Int32)) ((7 : Int32)) (by omega) (by omega) (zA_dn_zX hI_S35)  (fun v38 S37 hL_S37 hp_v38 => zi_n ⟨zG_T hL_S37, ?_⟩)
              have hI_S37 := zA_up_zX hI_S35 hL_S37
              have b225 := i_bd v38
              refine zd (fun h226 => ?_) (fun h226 => ?_)
              · skip
                have g227 := i_eq h226
                have hI228 : zA f r C Z N (ma_put S37 66 2 (.inl v38)) := zG_sa hI_S37 (-1) (1500) rfl (by decide) (by decide) (by decide) (show zA_x (mI S37) from zG_x hI_S37) (by omega) (by omega)
                have q229 : (mI S31 66 0).toInt = v30.toInt := zG_zi (f := mI (ma_put S29 66 0 (.inl v30))) hL_S31 rfl
                have f230 := zG_a hI_S31 4 (-1) (1500) (c := 66) (k := 0) (by decide) (by decide)
                have q231 : (mI S33 66 0).toInt = (mI S31 66 0).toInt := zG_zi (f := mI S31) hL_S33 rfl
                have f232 := zG_a hI_S33 4 (-1) (1500) (c := 66) (k := 0) (by decide) (by decide)
                have q233 : (mI S35 66 0).toInt = (mI S33 66 0).toInt := zG_zi (f := mI (ma_put S33 66 1 (.inl v34))) hL_S35 rfl
                have f234 := zG_a hI_S35 4 (-1) (1500) (c := 66) (k := 0) (by decide) (by decide)
                have q235 : (mI S37 66 0).toInt = (mI S35 66 0).toInt := zG_zi (f := mI S35) hL_S37 rfl
                have f236 := zG_a hI_S37 4 (-1) (1500) (c := 66) (k := 0) (by decide) (by decide)
                have q237 : (mI S35 66 1).toInt = v34.toInt := zG_zi (f := mI (ma_put S33 66 1 (.inl v34))) hL_S35 rfl
                have f238 := zG_a hI_S35 4 (-1) (1500) (c := 66) (k := 1) (by decide) (by decide)
                have q239 : (mI S37 66 1).toInt = (mI S35 66 1).toInt := zG_zi (f := mI S35) hL_S37 rfl
                have f240 := zG_a hI_S37 4 (-1) (1500) (c := 66) (k := 1) (by decide) (by decide)
                exact K ((-1 : Int32)) _ hI228 (show (-1 : Int32).toInt = -1 ∨ (0 ≤ (-1 : Int32).toInt ∧ (-1 : Int32).toInt ≤ 6 ∧ 0 ≤ (mI S37 66 0).toInt ∧ ((-1 : Int32).toInt = 3 → 0 ≤ (mI S37 66 1).toInt) ∧ ((-1 : Int32).toInt = 6 → 0 ≤ (mI S37 66 1).toInt)) from by omega)
              · skip
                have g241 := i_ne h226
                have hI242 : zA f r C Z N (ma_put S37 66 2 (.inl v38)) := zG_sa hI_S37 (-1) (1500) rfl (by decide) (by decide) (by decide) (show zA_x (mI S37) from zG_x hI_S37) (by omega) (by omega)
                refine sp_129_64  (by omega) (by omega) (zA_dn_zX hI242)  (fun v40 S39 hL_S39 hp_v40 => zi_n ⟨zG_T hL_S39, ?_⟩)
                have hI_S39 := zA_up_zX hI242 hL_S39
                have li243 : (4 : Int32).toInt = 4 := rfl
                have li244 : (64 : Int32).toInt = 64 := rfl
                refine sp_134_64 ((4 : Int32)) ((64 : Int32)) (by omega) (by omega) (zA_dn_zX hI_S39)  (fun v42 S41 hL_S41 hp_v42 => zi_n ⟨zG_T hL_S41, ?_⟩)
                have hI_S41 := zA_up_zX hI_S39 hL_S41
                have b245 := i_bd v42
                refine zd (fun h246 => ?_) (fun h246 => ?_)
                · skip
                  have g247 := i_eq h246
                  have hI248 : zA f r C Z N (ma_put S41 66 3 (.inl v42)) := zG_sa hI_S41 (-1) (1500) rfl (by decide) (by decide) (by decide) (show zA_x (mI S41) from zG_x hI_S41) (by omega) (by omega)
                  have q249 : (mI S31 66 0).toInt = v30.toInt := zG_zi (f := mI (ma_put S29 66 0 (.inl v30))) hL_S31 rfl
                  have f250 := zG_a hI_S31 4 (-1) (1500) (c := 66) (k := 0) (by decide) (by decide)
                  have q251 : (mI S33 66 0).toInt = (mI S31 66 0).toInt := zG_zi (f := mI S31) hL_S33 rfl
                  have f252 := zG_a hI_S33 4 (-1) (1500) (c := 66) (k := 0) (by decide) (by decide)
                  have q253 : (mI S35 66 0).toInt = (mI S33 66 0).toInt := zG_zi (f := mI (ma_put S33 66 1 (.inl v34))) hL_S35 rfl
                  have f254 := zG_a hI_S35 4 (-1) (1500) (c := 66) (k := 0) (by decide) (by decide)
                  have q255 : (mI S37 66 0).toInt = (mI S35 66 0).toInt := zG_zi (f := mI S35) hL_S37 rfl
                  have f256 := zG_a hI_S37 4 (-1) (1500) (c := 66) (k := 0) (by decide) (by decide)
                  have q257 : (mI S39 66 0).toInt = (mI S37 66 0).toInt := zG_zi (f := mI (ma_put S37 66 2 (.inl v38))) hL_S39 rfl
                  have f258 := zG_a hI_S39 4 (-1) (1500) (c := 66) (k := 0) (by decide) (by decide)
                  have q259 : (mI S41 66 0).toInt = (mI S39 66 0).toInt := zG_zi (f := mI S39) hL_S41 rfl
                  have f260 := zG_a hI_S41 4 (-1) (1500) (c := 66) (k := 0) (by decide) (by decide)
                  have q261 : (mI S35 66 1).toInt = v34.toInt := zG_zi (f := mI (ma_put S33 66 1 (.inl v34))) hL_S35 rfl
                  have f262 := zG_a hI_S35 4 (-1) (1500) (c := 66) (k := 1) (by decide) (by decide)
                  have q263 : (mI S37 66 1).toInt = (mI S35 66 1).toInt := zG_zi (f := mI S35) hL_S37 rfl
                  have f264 := zG_a hI_S37 4 (-1) (1500) (c := 66) (k := 1) (by decide) (by decide)
                  have q265 : (mI S39 66 1).toInt = (mI S37 66 1).toInt := zG_zi (f := mI (ma_put S37 66 2 (.inl v38))) hL_S39 rfl
                  have f266 := zG_a hI_S39 4 (-1) (1500) (c := 66) (k := 1) (by decide) (by decide)
                  have q267 : (mI S41 66 1).toInt = (mI S39 66 1).toInt := zG_zi (f := mI S39) hL_S41 rfl
                  have f268 := zG_a hI_S41 4 (-1) (1500) (c := 66) (k := 1) (by decide) (by decide)
                  exact K ((-1 : Int32)) _ hI248 (show (-1 : Int32).toInt = -1 ∨ (0 ≤ (-1 : Int32).toInt ∧ (-1 : Int32).toInt ≤ 6 ∧ 0 ≤ (mI S41 66 0).toInt ∧ ((-1 : Int32).toInt = 3 → 0 ≤ (mI S41 66 1).toInt) ∧ ((-1 : Int32).toInt = 6 → 0 ≤ (mI S41 66 1).toInt)) from by omega)
                · skip
                  have g269 := i_ne h246
                  refine zd (fun h270 => ?_) (fun h270 => ?_)
                  · skip
                    have g271 := i_eq h270
                    have hI272 : zA f r C Z N (ma_put S41 66 3 (.inl v42)) := zG_sa hI_S41 (-1) (1500) rfl (by decide) (by decide) (by decide) (show zA_x (mI S41) from zG_x hI_S41) (by omega) (by omega)
                    have q273 : (mI S31 66 0).toInt = v30.toInt := zG_zi (f := mI (ma_put S29 66 0 (.inl v30))) hL_S31 rfl
                    have f274 := zG_a hI_S31 4 (-1) (1500) (c := 66) (k := 0) (by decide) (by decide)
                    have q275 : (mI S33 66 0).toInt = (mI S31 66 0).toInt := zG_zi (f := mI S31) hL_S33 rfl
                    have f276 := zG_a hI_S33 4 (-1) (1500) (c := 66) (k := 0) (by decide) (by decide)
                    have q277 : (mI S35 66 0).toInt = (mI S33 66 0).toInt := zG_zi (f := mI (ma_put S33 66 1 (.inl v34))) hL_S35 rfl
                    have f278 := zG_a hI_S35 4 (-1) (1500) (c := 66) (k := 0) (by decide) (by decide)
                    have q279 : (mI S37 66 0).toInt = (mI S35 66 0).toInt := zG_zi (f := mI S35) hL_S37 rfl
                    have f280 := zG_a hI_S37 4 (-1) (1500) (c := 66) (k := 0) (by decide) (by decide)
                    have q281 : (mI S39 66 0).toInt = (mI S37 66 0).toInt := zG_zi (f := mI (ma_put S37 66 2 (.inl v38))) hL_S39 rfl
                    have f282 := zG_a hI_S39 4 (-1) (1500) (c := 66) (k := 0) (by decide) (by decide)
                    have q283 : (mI S41 66 0).toInt = (mI S39 66 0).toInt := zG_zi (f := mI S39) hL_S41 rfl
                    have f284 := zG_a hI_S41 4 (-1) (1500) (c := 66) (k := 0) (by decide) (by decide)
                    have q285 : (mI S35 66 1).toInt = v34.toInt := zG_zi (f := mI (ma_put S33 66 1 (.inl v34))) hL_S35 rfl
                    have f286 := zG_a hI_S35 4 (-1) (1500) (c := 66) (k := 1) (by decide) (by decide)
                    have q287 : (mI S37 66 1).toInt = (mI S35 66 1).toInt := zG_zi (f := mI S35) hL_S37 rfl
                    have f288 := zG_a hI_S37 4 (-1) (1500) (c := 66) (k := 1) (by decide) (by decide)
                    have q289 : (mI S39 66 1).toInt = (mI S37 66 1).toInt := zG_zi (f := mI (ma_put S37 66 2 (.inl v38))) hL_S39 rfl
                    have f290 := zG_a hI_S39 4 (-1) (1500) (c := 66) (k := 1) (by decide) (by decide)
                    have q291 : (mI S41 66 1).toInt = (mI S39 66 1).toInt := zG_zi (f := mI S39) hL_S41 rfl
                    have f292 := zG_a hI_S41 4 (-1) (1500) (c := 66) (k := 1) (by decide) (by decide)
                    exact K ((-1 : Int32)) _ hI272 (show (-1 : Int32).toInt = -1 ∨ (0 ≤ (-1 : Int32).toInt ∧ (-1 : Int32).toInt ≤ 6 ∧ 0 ≤ (mI S41 66 0).toInt ∧ ((-1 : Int32).toInt = 3 → 0 ≤ (mI S41 66 1).toInt) ∧ ((-1 : Int32).toInt = 6 → 0 ≤ (mI S41 66 1).toInt)) from by omega)
                  · skip
                    have g293 := i_ne h270
                    have hI294 : zA f r C Z N (ma_put S41 66 3 (.inl v42)) := zG_sa hI_S41 (-1) (1500) rfl (by decide) (by decide) (by decide) (show zA_x (mI S41) from zG_x hI_S41) (by omega) (by omega)
                    refine sp_129_64  (by omega) (by omega) (zA_dn_zX hI294)  (fun v44 S43 hL_S43 hp_v44 => zi_n ⟨zG_T hL_S43, ?_⟩)
                    have hI_S43 := zA_up_zX hI294 hL_S43
                    have b295 := i_bd v44
                    refine zd (fun h296 => ?_) (fun h296 => ?_)
                    · skip
                      have g297 := i_eq h296
                      have q298 : (mI S31 66 0).toInt = v30.toInt := zG_zi (f := mI (ma_put S29 66 0 (.inl v30))) hL_S31 rfl
                      have f299 := zG_a hI_S31 4 (-1) (1500) (c := 66) (k := 0) (by decide) (by decide)
                      have q300 : (mI S33 66 0).toInt = (mI S31 66 0).toInt := zG_zi (f := mI S31) hL_S33 rfl
                      have f301 := zG_a hI_S33 4 (-1) (1500) (c := 66) (k := 0) (by decide) (by decide)
                      have q302 : (mI S35 66 0).toInt = (mI S33 66 0).toInt := zG_zi (f := mI (ma_put S33 66 1 (.inl v34))) hL_S35 rfl
                      have f303 := zG_a hI_S35 4 (-1) (1500) (c := 66) (k := 0) (by decide) (by decide)
                      have q304 : (mI S37 66 0).toInt = (mI S35 66 0).toInt := zG_zi (f := mI S35) hL_S37 rfl
                      have f305 := zG_a hI_S37 4 (-1) (1500) (c := 66) (k := 0) (by decide) (by decide)
                      have q306 : (mI S39 66 0).toInt = (mI S37 66 0).toInt := zG_zi (f := mI (ma_put S37 66 2 (.inl v38))) hL_S39 rfl
                      have f307 := zG_a hI_S39 4 (-1) (1500) (c := 66) (k := 0) (by decide) (by decide)
                      have q308 : (mI S41 66 0).toInt = (mI S39 66 0).toInt := zG_zi (f := mI S39) hL_S41 rfl
                      have f309 := zG_a hI_S41 4 (-1) (1500) (c := 66) (k := 0) (by decide) (by decide)
                      have q310 : (mI S43 66 0).toInt = (mI S41 66 0).toInt := zG_zi (f := mI (ma_put S41 66 3 (.inl v42))) hL_S43 rfl
                      have f311 := zG_a hI_S43 4 (-1) (1500) (c := 66) (k := 0) (by decide) (by decide)
                      have q312 : (mI S35 66 1).toInt = v34.toInt := zG_zi (f := mI (ma_put S33 66 1 (.inl v34))) hL_S35 rfl
                      have f313 := zG_a hI_S35 4 (-1) (1500) (c := 66) (k := 1) (by decide) (by decide)
                      have q314 : (mI S37 66 1).toInt = (mI S35 66 1).toInt := zG_zi (f := mI S35) hL_S37 rfl
                      have f315 := zG_a hI_S37 4 (-1) (1500) (c := 66) (k := 1) (by decide) (by decide)
                      have q316 : (mI S39 66 1).toInt = (mI S37 66 1).toInt := zG_zi (f := mI (ma_put S37 66 2 (.inl v38))) hL_S39 rfl
                      have f317 := zG_a hI_S39 4 (-1) (1500) (c := 66) (k := 1) (by decide) (by decide)
                      have q318 : (mI S41 66 1).toInt = (mI S39 66 1).toInt := zG_zi (f := mI S39) hL_S41 rfl
                      have f319 := zG_a hI_S41 4 (-1) (1500) (c := 66) (k := 1) (by decide) (by decide)
                      have q320 : (mI S43 66 1).toInt = (mI S41 66 1).toInt := zG_zi (f := mI (ma_put S41 66 3 (.inl v42))) hL_S43 rfl
                      have f321 := zG_a hI_S43 4 (-1) (1500) (c := 66) (k := 1) (by decide) (by decide)
                      exact K (v4) _ hI_S43 (show v4.toInt = -1 ∨ (0 ≤ v4.toInt ∧ v4.toInt ≤ 6 ∧ 0 ≤ (mI S43 66 0).toInt ∧ (v4.toInt = 3 → 0 ≤ (mI S43 66 1).toInt) ∧ (v4.toInt = 6 → 0 ≤ (mI S43 66 1).toInt)) from by omega)
                    · skip
                      have g322 := i_ne h296
                      have q323 : (mI S31 66 0).toInt = v30.toInt := zG_zi (f := mI (ma_put S29 66 0 (.inl v30))) hL_S31 rfl
                      have f324 := zG_a hI_S31 4 (-1) (1500) (c := 66) (k := 0) (by decide) (by decide)
                      have q325 : (mI S33 66 0).toInt = (mI S31 66 0).toInt := zG_zi (f := mI S31) hL_S33 rfl
                      have f326 := zG_a hI_S33 4 (-1) (1500) (c := 66) (k := 0) (by decide) (by decide)
                      have q327 : (mI S35 66 0).toInt = (mI S33 66 0).toInt := zG_zi (f := mI (ma_put S33 66 1 (.inl v34))) hL_S35 rfl
                      have f328 := zG_a hI_S35 4 (-1) (1500) (c := 66) (k := 0) (by decide) (by decide)
                      have q329 : (mI S37 66 0).toInt = (mI S35 66 0).toInt := zG_zi (f := mI S35) hL_S37 rfl
                      have f330 := zG_a hI_S37 4 (-1) (1500) (c := 66) (k := 0) (by decide) (by decide)
                      have q331 : (mI S39 66 0).toInt = (mI S37 66 0).toInt := zG_zi (f := mI (ma_put S37 66 2 (.inl v38))) hL_S39 rfl
                      have f332 := zG_a hI_S39 4 (-1) (1500) (c := 66) (k := 0) (by decide) (by decide)
                      have q333 : (mI S41 66 0).toInt = (mI S39 66 0).toInt := zG_zi (f := mI S39) hL_S41 rfl
                      have f334 := zG_a hI_S41 4 (-1) (1500) (c := 66) (k := 0) (by decide) (by decide)
                      have q335 : (mI S43 66 0).toInt = (mI S41 66 0).toInt := zG_zi (f := mI (ma_put S41 66 3 (.inl v42))) hL_S43 rfl
                      have f336 := zG_a hI_S43 4 (-1) (1500) (c := 66) (k := 0) (by decide) (by decide)
                      have q337 : (mI S35 66 1).toInt = v34.toInt := zG_zi (f := mI (ma_put S33 66 1 (.inl v34))) hL_S35 rfl
                      have f338 := zG_a hI_S35 4 (-1) (1500) (c := 66) (k := 1) (by decide) (by decide)
                      have q339 : (mI S37 66 1).toInt = (mI S35 66 1).toInt := zG_zi (f := mI S35) hL_S37 rfl
                      have f340 := zG_a hI_S37 4 (-1) (1500) (c := 66) (k := 1) (by decide) (by decide)
                      have q341 : (mI S39 66 1).toInt = (mI S37 66 1).toInt := zG_zi (f := mI (ma_put S37 66 2 (.inl v38))) hL_S39 rfl
                      have f342 := zG_a hI_S39 4 (-1) (1500) (c := 66) (k := 1) (by decide) (by decide)
                      have q343 : (mI S41 66 1).toInt = (mI S39 66 1).toInt := zG_zi (f := mI S39) hL_S41 rfl
                      have f344 := zG_a hI_S41 4 (-1) (1500) (c := 66) (k := 1) (by decide) (by decide)
                      have q345 : (mI S43 66 1).toInt = (mI S41 66 1).toInt := zG_zi (f := mI (ma_put S41 66 3 (.inl v42))) hL_S43 rfl
                      have f346 := zG_a hI_S43 4 (-1) (1500) (c := 66) (k := 1) (by decide) (by decide)
                      exact K ((-1 : Int32)) _ hI_S43 (show (-1 : Int32).toInt = -1 ∨ (0 ≤ (-1 : Int32).toInt ∧ (-1 : Int32).toInt ≤ 6 ∧ 0 ≤ (mI S43 66 0).toInt ∧ ((-1 : Int32).toInt = 3 → 0 ≤ (mI S43 66 1).toInt) ∧ ((-1 : Int32).toInt = 6 → 0 ≤ (mI S43 66 1).toInt)) from by omega)
        · skip
          have g347 := i_ne h194
          have li348 : (4 : Int32).toInt = 4 := rfl
          refine zd (fun h349 => ?_) (fun h349 => ?_)
          · skip
            have g350 := i_eq h349
            refine sp_129_64  (by omega) (by omega) (zA_dn_zX hI_S3)  (fun v46 S45 hL_S45 hp_v46 => zi_n ⟨zG_T hL_S45, ?_⟩)
            have hI_S45 := zA_up_zX hI_S3 hL_S45
            have li351 : (16 : Int32).toInt = 16 := rfl
            have li352 : (1500 : Int32).toInt = 1500 := rfl
            refine sp_134_64 ((16 : Int32)) ((1500 : Int32)) (by omega) (by omega) (zA_dn_zX hI_S45)  (fun v48 S47 hL_S47 hp_v48 => zi_n ⟨zG_T hL_S47, ?_⟩)
            have hI_S47 := zA_up_zX hI_S45 hL_S47
            have b353 := i_bd v48
            have li354 : (-1 : Int32).toInt = -1 := rfl
            refine zd (fun h355 => ?_) (fun h355 => ?_)
            · skip
              have g356 := i_eq h355
              have hI357 : zA f r C Z N (ma_put S47 66 0 (.inl v48)) := zG_sa hI_S47 (-1) (1500) rfl (by decide) (by decide) (by decide) (show zA_x (mI S47) from zG_x hI_S47) (by omega) (by omega)
              have f358 := zG_a hI 4 (-1) (1500) (c := 66) (k := 1) (by decide) (by decide)
              have q359 : (mI S1 66 1).toInt = (mI S 66 1).toInt := zG_zi (f := mI (ma_put S 64 3 (.inl (0 : Int32)))) hL_S1 rfl
              have f360 := zG_a hI_S1 4 (-1) (1500) (c := 66) (k := 1) (by decide) (by decide)
              have q361 : (mI S3 66 1).toInt = (mI S1 66 1).toInt := zG_zi (f := mI S1) hL_S3 rfl
              have f362 := zG_a hI_S3 4 (-1) (1500) (c := 66) (k := 1) (by decide) (by decide)
              have q363 : (mI S45 66 1).toInt = (mI S3 66 1).toInt := zG_zi (f := mI S3) hL_S45 rfl
              have f364 := zG_a hI_S45 4 (-1) (1500) (c := 66) (k := 1) (by decide) (by decide)
              have q365 : (mI S47 66 1).toInt = (mI S45 66 1).toInt := zG_zi (f := mI S45) hL_S47 rfl
              have f366 := zG_a hI_S47 4 (-1) (1500) (c := 66) (k := 1) (by decide) (by decide)
              exact K ((-1 : Int32)) _ hI357 (show (-1 : Int32).toInt = -1 ∨ (0 ≤ (-1 : Int32).toInt ∧ (-1 : Int32).toInt ≤ 6 ∧ 0 ≤ v48.toInt ∧ ((-1 : Int32).toInt = 3 → 0 ≤ (mI S47 66 1).toInt) ∧ ((-1 : Int32).toInt = 6 → 0 ≤ (mI S47 66 1).toInt)) from by omega)
            · skip
              have g367 := i_ne h355
              have hI368 : zA f r C Z N (ma_put S47 66 0 (.inl v48)) := zG_sa hI_S47 (-1) (1500) rfl (by decide) (by decide) (by decide) (show zA_x (mI S47) from zG_x hI_S47) (by omega) (by omega)
              refine sp_129_64  (by omega) (by omega) (zA_dn_zX hI368)  (fun v50 S49 hL_S49 hp_v50 => zi_n ⟨zG_T hL_S49, ?_⟩)
              have hI_S49 := zA_up_zX hI368 hL_S49
              refine sp_135_64  (by omega) (by omega) (zA_dn_zX hI_S49)  (fun v52 S51 hL_S51 hp_v52 => zi_n ⟨zG_T hL_S51, ?_⟩)
              have hI_S51 := zA_up_zX hI_S49 hL_S51
              have b369 := i_bd v52
              refine zd (fun h370 => ?_) (fun h370 => ?_)
              · skip
                have g371 := i_eq h370
                have hI372 : zA f r C Z N (ma_put S51 66 1 (.inl v52)) := zG_sa hI_S51 (-1) (1500) rfl (by decide) (by decide) (by decide) (show zA_x (mI S51) from zG_x hI_S51) (by omega) (by omega)
                have q373 : (mI S49 66 0).toInt = v48.toInt := zG_zi (f := mI (ma_put S47 66 0 (.inl v48))) hL_S49 rfl
                have f374 := zG_a hI_S49 4 (-1) (1500) (c := 66) (k := 0) (by decide) (by decide)
                have q375 : (mI S51 66 0).toInt = (mI S49 66 0).toInt := zG_zi (f := mI S49) hL_S51 rfl
                have f376 := zG_a hI_S51 4 (-1) (1500) (c := 66) (k := 0) (by decide) (by decide)
                exact K ((-1 : Int32)) _ hI372 (show (-1 : Int32).toInt = -1 ∨ (0 ≤ (-1 : Int32).toInt ∧ (-1 : Int32).toInt ≤ 6 ∧ 0 ≤ (mI S51 66 0).toInt ∧ ((-1 : Int32).toInt = 3 → 0 ≤ v52.toInt) ∧ ((-1 : Int32).toInt = 6 → 0 ≤ v52.toInt)) from by omega)
              · skip
                have g377 := i_ne h370
                refine zd (fun h378 => ?_) (fun h378 => ?_)
                · skip
                  have g379 := i_eq h378
                  have hI380 : zA f r C Z N (ma_put S51 66 1 (.inl v52)) := zG_sa hI_S51 (-1) (1500) rfl (by decide) (by decide) (by decide) (show zA_x (mI S51) from zG_x hI_S51) (by omega) (by omega)
                  have q381 : (mI S49 66 0).toInt = v48.toInt := zG_zi (f := mI (ma_put S47 66 0 (.inl v48))) hL_S49 rfl
                  have f382 := zG_a hI_S49 4 (-1) (1500) (c := 66) (k := 0) (by decide) (by decide)
                  have q383 : (mI S51 66 0).toInt = (mI S49 66 0).toInt := zG_zi (f := mI S49) hL_S51 rfl
                  have f384 := zG_a hI_S51 4 (-1) (1500) (c := 66) (k := 0) (by decide) (by decide)
                  exact K ((-1 : Int32)) _ hI380 (show (-1 : Int32).toInt = -1 ∨ (0 ≤ (-1 : Int32).toInt ∧ (-1 : Int32).toInt ≤ 6 ∧ 0 ≤ (mI S51 66 0).toInt ∧ ((-1 : Int32).toInt = 3 → 0 ≤ v52.toInt) ∧ ((-1 : Int32).toInt = 6 → 0 ≤ v52.toInt)) from by omega)
                · skip
                  have g385 := i_ne h378
                  have hI386 : zA f r C Z N (ma_put S51 66 1 (.inl v52)) := zG_sa hI_S51 (-1) (1500) rfl (by decide) (by decide) (by decide) (show zA_x (mI S51) from zG_x hI_S51) (by omega) (by omega)
                  refine sp_129_64  (by omega) (by omega) (zA_dn_zX hI386)  (fun v54 S53 hL_S53 hp_v54 => zi_n ⟨zG_T hL_S53, ?_⟩)
                  have hI_S53 := zA_up_zX hI386 hL_S53
                  have b387 := i_bd v54
                  refine zd (fun h388 => ?_) (fun h388 => ?_)
                  · skip
                    have g389 := i_eq h388
                    have q390 : (mI S49 66 0).toInt = v48.toInt := zG_zi (f := mI (ma_put S47 66 0 (.inl v48))) hL_S49 rfl
                    have f391 := zG_a hI_S49 4 (-1) (1500) (c := 66) (k := 0) (by decide) (by decide)
                    have q392 : (mI S51 66 0).toInt = (mI S49 66 0).toInt := zG_zi (f := mI S49) hL_S51 rfl
                    have f393 := zG_a hI_S51 4 (-1) (1500) (c := 66) (k := 0) (by decide) (by decide)
                    have q394 : (mI S53 66 0).toInt = (mI S51 66 0).toInt := zG_zi (f := mI (ma_put S51 66 1 (.inl v52))) hL_S53 rfl
                    have f395 := zG_a hI_S53 4 (-1) (1500) (c := 66) (k := 0) (by decide) (by decide)
                    have q396 : (mI S53 66 1).toInt = v52.toInt := zG_zi (f := mI (ma_put S51 66 1 (.inl v52))) hL_S53 rfl
                    have f397 := zG_a hI_S53 4 (-1) (1500) (c := 66) (k := 1) (by decide) (by decide)
                    exact K (v4) _ hI_S53 (show v4.toInt = -1 ∨ (0 ≤ v4.toInt ∧ v4.toInt ≤ 6 ∧ 0 ≤ (mI S53 66 0).toInt ∧ (v4.toInt = 3 → 0 ≤ (mI S53 66 1).toInt) ∧ (v4.toInt = 6 → 0 ≤ (mI S53 66 1).toInt)) from by omega)
                  · skip
                    have g398 := i_ne h388
                    have q399 : (mI S49 66 0).toInt = v48.toInt := zG_zi (f := mI (ma_put S47 66 0 (.inl v48))) hL_S49 rfl
                    have f400 := zG_a hI_S49 4 (-1) (1500) (c := 66) (k := 0) (by decide) (by decide)
                    have q401 : (mI S51 66 0).toInt = (mI S49 66 0).toInt := zG_zi (f := mI S49) hL_S51 rfl
                    have f402 := zG_a hI_S51 4 (-1) (1500) (c := 66) (k := 0) (by decide) (by decide)
                    have q403 : (mI S53 66 0).toInt = (mI S51 66 0).toInt := zG_zi (f := mI (ma_put S51 66 1 (.inl v52))) hL_S53 rfl
                    have f404 := zG_a hI_S53 4 (-1) (1500) (c := 66) (k := 0) (by decide) (by decide)
                    have q405 : (mI S53 66 1).toInt = v52.toInt := zG_zi (f := mI (ma_put S51 66 1 (.inl v52))) hL_S53 rfl
                    have f406 := zG_a hI_S53 4 (-1) (1500) (c := 66) (k := 1) (by decide) (by decide)
                    exact K ((-1 : Int32)) _ hI_S53 (show (-1 : Int32).toInt = -1 ∨ (0 ≤ (-1 : Int32).toInt ∧ (-1 : Int32).toInt ≤ 6 ∧ 0 ≤ (mI S53 66 0).toInt ∧ ((-1 : Int32).toInt = 3 → 0 ≤ (mI S53 66 1).toInt) ∧ ((-1 : Int32).toInt = 6 → 0 ≤ (mI S53 66 1).toInt)) from by omega)
          · skip
            have g407 := i_ne h349
            have li408 : (5 : Int32).toInt = 5 := rfl
            refine zd (fun h409 => ?_) (fun h409 => ?_)
            · skip
              have g410 := i_eq h409
              refine sp_129_64  (by omega) (by omega) (zA_dn_zX hI_S3)  (fun v56 S55 hL_S55 hp_v56 => zi_n ⟨zG_T hL_S55, ?_⟩)
              have hI_S55 := zA_up_zX hI_S3 hL_S55
              have li411 : (16 : Int32).toInt = 16 := rfl
              have li412 : (1500 : Int32).toInt = 1500 := rfl
              refine sp_134_64 ((16 : Int32)) ((1500 : Int32)) (by omega) (by omega) (zA_dn_zX hI_S55)  (fun v58 S57 hL_S57 hp_v58 => zi_n ⟨zG_T hL_S57, ?_⟩)
              have hI_S57 := zA_up_zX hI_S55 hL_S57
              have b413 := i_bd v58
              have li414 : (-1 : Int32).toInt = -1 := rfl
              refine zd (fun h415 => ?_) (fun h415 => ?_)
              · skip
                have g416 := i_eq h415
                have hI417 : zA f r C Z N (ma_put S57 66 0 (.inl v58)) := zG_sa hI_S57 (-1) (1500) rfl (by decide) (by decide) (by decide) (show zA_x (mI S57) from zG_x hI_S57) (by omega) (by omega)
                have f418 := zG_a hI 4 (-1) (1500) (c := 66) (k := 1) (by decide) (by decide)
                have q419 : (mI S1 66 1).toInt = (mI S 66 1).toInt := zG_zi (f := mI (ma_put S 64 3 (.inl (0 : Int32)))) hL_S1 rfl
                have f420 := zG_a hI_S1 4 (-1) (1500) (c := 66) (k := 1) (by decide) (by decide)
                have q421 : (mI S3 66 1).toInt = (mI S1 66 1).toInt := zG_zi (f := mI S1) hL_S3 rfl
                have f422 := zG_a hI_S3 4 (-1) (1500) (c := 66) (k := 1) (by decide) (by decide)
                have q423 : (mI S55 66 1).toInt = (mI S3 66 1).toInt := zG_zi (f := mI S3) hL_S55 rfl
                have f424 := zG_a hI_S55 4 (-1) (1500) (c := 66) (k := 1) (by decide) (by decide)
                have q425 : (mI S57 66 1).toInt = (mI S55 66 1).toInt := zG_zi (f := mI S55) hL_S57 rfl
                have f426 := zG_a hI_S57 4 (-1) (1500) (c := 66) (k := 1) (by decide) (by decide)
                exact K ((-1 : Int32)) _ hI417 (show (-1 : Int32).toInt = -1 ∨ (0 ≤ (-1 : Int32).toInt ∧ (-1 : Int32).toInt ≤ 6 ∧ 0 ≤ v58.toInt ∧ ((-1 : Int32).toInt = 3 → 0 ≤ (mI S57 66 1).toInt) ∧ ((-1 : Int32).toInt = 6 → 0 ≤ (mI S57 66 1).toInt)) from by omega)
              · skip
                have g427 := i_ne h415
                have hI428 : zA f r C Z N (ma_put S57 66 0 (.inl v58)) := zG_sa hI_S57 (-1) (1500) rfl (by decide) (by decide) (by decide) (show zA_x (mI S57) from zG_x hI_S57) (by omega) (by omega)
                refine sp_129_64  (by omega) (by omega) (zA_dn_zX hI428)  (fun v60 S59 hL_S59 hp_v60 => zi_n ⟨zG_T hL_S59, ?_⟩)
                have hI_S59 := zA_up_zX hI428 hL_S59
                refine sp_135_64  (by omega) (by omega) (zA_dn_zX hI_S59)  (fun v62 S61 hL_S61 hp_v62 => zi_n ⟨zG_T hL_S61, ?_⟩)
                have hI_S61 := zA_up_zX hI_S59 hL_S61
                have b429 := i_bd v62
                refine zd (fun h430 => ?_) (fun h430 => ?_)
                · skip
                  have g431 := i_eq h430
                  have hI432 : zA f r C Z N (ma_put S61 66 1 (.inl v62)) := zG_sa hI_S61 (-1) (1500) rfl (by decide) (by decide) (by decide) (show zA_x (mI S61) from zG_x hI_S61) (by omega) (by omega)
                  have q433 : (mI S59 66 0).toInt = v58.toInt := zG_zi (f := mI (ma_put S57 66 0 (.inl v58))) hL_S59 rfl
                  have f434 := zG_a hI_S59 4 (-1) (1500) (c := 66) (k := 0) (by decide) (by decide)
                  have q435 : (mI S61 66 0).toInt = (mI S59 66 0).toInt := zG_zi (f := mI S59) hL_S61 rfl
                  have f436 := zG_a hI_S61 4 (-1) (1500) (c := 66) (k := 0) (by decide) (by decide)
                  exact K ((-1 : Int32)) _ hI432 (show (-1 : Int32).toInt = -1 ∨ (0 ≤ (-1 : Int32).toInt ∧ (-1 : Int32).toInt ≤ 6 ∧ 0 ≤ (mI S61 66 0).toInt ∧ ((-1 : Int32).toInt = 3 → 0 ≤ v62.toInt) ∧ ((-1 : Int32).toInt = 6 → 0 ≤ v62.toInt)) from by omega)
                · skip
                  have g437 := i_ne h430
                  have hI438 : zA f r C Z N (ma_put S61 66 1 (.inl v62)) := zG_sa hI_S61 (-1) (1500) rfl (by decide) (by decide) (by decide) (show zA_x (mI S61) from zG_x hI_S61) (by omega) (by omega)
                  refine sp_129_64  (by omega) (by omega) (zA_dn_zX hI438)  (fun v64 S63 hL_S63 hp_v64 => zi_n ⟨zG_T hL_S63, ?_⟩)
                  have hI_S63 := zA_up_zX hI438 hL_S63
                  have li439 : (50 : Int32).toInt = 50 := rfl
                  refine sp_134_64 ((1 : Int32)) ((50 : Int32)) (by omega) (by omega) (zA_dn_zX hI_S63)  (fun v66 S65 hL_S65 hp_v66 => zi_n ⟨zG_T hL_S65, ?_⟩)
                  have hI_S65 := zA_up_zX hI_S63 hL_S65
                  have b440 := i_bd v66
                  refine zd (fun h441 => ?_) (fun h441 => ?_)
                  · skip
                    have g442 := i_eq h441
                    have hI443 : zA f r C Z N (ma_put S65 66 2 (.inl v66)) := zG_sa hI_S65 (-1) (1500) rfl (by decide) (by decide) (by decide) (show zA_x (mI S65) from zG_x hI_S65) (by omega) (by omega)
                    have q444 : (mI S59 66 0).toInt = v58.toInt := zG_zi (f := mI (ma_put S57 66 0 (.inl v58))) hL_S59 rfl
                    have f445 := zG_a hI_S59 4 (-1) (1500) (c := 66) (k := 0) (by decide) (by decide)
                    have q446 : (mI S61 66 0).toInt = (mI S59 66 0).toInt := zG_zi (f := mI S59) hL_S61 rfl
                    have f447 := zG_a hI_S61 4 (-1) (1500) (c := 66) (k := 0) (by decide) (by decide)
                    have q448 : (mI S63 66 0).toInt = (mI S61 66 0).toInt := zG_zi (f := mI (ma_put S61 66 1 (.inl v62))) hL_S63 rfl
                    have f449 := zG_a hI_S63 4 (-1) (1500) (c := 66) (k := 0) (by decide) (by decide)
                    have q450 : (mI S65 66 0).toInt = (mI S63 66 0).toInt := zG_zi (f := mI S63) hL_S65 rfl
                    have f451 := zG_a hI_S65 4 (-1) (1500) (c := 66) (k := 0) (by decide) (by decide)
                    have q452 : (mI S63 66 1).toInt = v62.toInt := zG_zi (f := mI (ma_put S61 66 1 (.inl v62))) hL_S63 rfl
                    have f453 := zG_a hI_S63 4 (-1) (1500) (c := 66) (k := 1) (by decide) (by decide)
                    have q454 : (mI S65 66 1).toInt = (mI S63 66 1).toInt := zG_zi (f := mI S63) hL_S65 rfl
                    have f455 := zG_a hI_S65 4 (-1) (1500) (c := 66) (k := 1) (by decide) (by decide)
                    exact K ((-1 : Int32)) _ hI443 (show (-1 : Int32).toInt = -1 ∨ (0 ≤ (-1 : Int32).toInt ∧ (-1 : Int32).toInt ≤ 6 ∧ 0 ≤ (mI S65 66 0).toInt ∧ ((-1 : Int32).toInt = 3 → 0 ≤ (mI S65 66 1).toInt) ∧ ((-1 : Int32).toInt = 6 → 0 ≤ (mI S65 66 1).toInt)) from by omega)
                  · skip
                    have g456 := i_ne h441
                    have hI457 : zA f r C Z N (ma_put S65 66 2 (.inl v66)) := zG_sa hI_S65 (-1) (1500) rfl (by decide) (by decide) (by decide) (show zA_x (mI S65) from zG_x hI_S65) (by omega) (by omega)
                    refine sp_129_64  (by omega) (by omega) (zA_dn_zX hI457)  (fun v68 S67 hL_S67 hp_v68 => zi_n ⟨zG_T hL_S67, ?_⟩)
                    have hI_S67 := zA_up_zX hI457 hL_S67
                    refine sp_136_64  (by omega) (by omega) (zA_dn_zX hI_S67)  (fun v70 S69 hL_S69 hp_v70 => zi_n ⟨zG_T hL_S69, ?_⟩)
                    have hI_S69 := zA_up_zX hI_S67 hL_S69
                    have b458 := i_bd v70
                    refine zd (fun h459 => ?_) (fun h459 => ?_)
                    · skip
                      have g460 := i_eq h459
                      have hI461 : zA f r C Z N (ma_put S69 66 3 (.inl v70)) := zG_sa hI_S69 (-1) (1500) rfl (by decide) (by decide) (by decide) (show zA_x (mI S69) from zG_x hI_S69) (by omega) (by omega)
                      have q462 : (mI S59 66 0).toInt = v58.toInt := zG_zi (f := mI (ma_put S57 66 0 (.inl v58))) hL_S59 rfl
                      have f463 := zG_a hI_S59 4 (-1) (1500) (c := 66) (k := 0) (by decide) (by decide)
                      have q464 : (mI S61 66 0).toInt = (mI S59 66 0).toInt := zG_zi (f := mI S59) hL_S61 rfl
                      have f465 := zG_a hI_S61 4 (-1) (1500) (c := 66) (k := 0) (by decide) (by decide)
                      have q466 : (mI S63 66 0).toInt = (mI S61 66 0).toInt := zG_zi (f := mI (ma_put S61 66 1 (.inl v62))) hL_S63 rfl
                      have f467 := zG_a hI_S63 4 (-1) (1500) (c := 66) (k := 0) (by decide) (by decide)
                      have q468 : (mI S65 66 0).toInt = (mI S63 66 0).toInt := zG_zi (f := mI S63) hL_S65 rfl
                      have f469 := zG_a hI_S65 4 (-1) (1500) (c := 66) (k := 0) (by decide) (by decide)
                      have q470 : (mI S67 66 0).toInt = (mI S65 66 0).toInt := zG_zi (f := mI (ma_put S65 66 2 (.inl v66))) hL_S67 rfl
                      have f471 := zG_a hI_S67 4 (-1) (1500) (c := 66) (k := 0) (by decide) (by decide)
                      have q472 : (mI S69 66 0).toInt = (mI S67 66 0).toInt := zG_zi (f := mI S67) hL_S69 rfl
                      have f473 := zG_a hI_S69 4 (-1) (1500) (c := 66) (k := 0) (by decide) (by decide)
                      have q474 : (mI S63 66 1).toInt = v62.toInt := zG_zi (f := mI (ma_put S61 66 1 (.inl v62))) hL_S63 rfl
                      have f475 := zG_a hI_S63 4 (-1) (1500) (c := 66) (k := 1) (by decide) (by decide)
                      have q476 : (mI S65 66 1).toInt = (mI S63 66 1).toInt := zG_zi (f := mI S63) hL_S65 rfl
                      have f477 := zG_a hI_S65 4 (-1) (1500) (c := 66) (k := 1) (by decide) (by decide)
                      have q478 : (mI S67 66 1).toInt = (mI S65 66 1).toInt := zG_zi (f := mI (ma_put S65 66 2 (.inl v66))) hL_S67 rfl
                      have f479 := zG_a hI_S67 4 (-1) (1500) (c := 66) (k := 1) (by decide) (by decide)
                      have q480 : (mI S69 66 1).toInt = (mI S67 66 1).toInt := zG_zi (f := mI S67) hL_S69 rfl
                      have f481 := zG_a hI_S69 4 (-1) (1500) (c := 66) (k := 1) (by decide) (by decide)
                      exact K ((-1 : Int32)) _ hI461 (show (-1 : Int32).toInt = -1 ∨ (0 ≤ (-1 : Int32).toInt ∧ (-1 : Int32).toInt ≤ 6 ∧ 0 ≤ (mI S69 66 0).toInt ∧ ((-1 : Int32).toInt = 3 → 0 ≤ (mI S69 66 1).toInt) ∧ ((-1 : Int32).toInt = 6 → 0 ≤ (mI S69 66 1).toInt)) from by omega)
                    · skip
                      have g482 := i_ne h459
                      refine zd (fun h483 => ?_) (fun h483 => ?_)
                      · skip
                        have g484 := i_eq h483
                        have hI485 : zA f r C Z N (ma_put S69 66 3 (.inl v70)) := zG_sa hI_S69 (-1) (1500) rfl (by decide) (by decide) (by decide) (show zA_x (mI S69) from zG_x hI_S69) (by omega) (by omega)
                        have q486 : (mI S59 66 0).toInt = v58.toInt := zG_zi (f := mI (ma_put S57 66 0 (.inl v58))) hL_S59 rfl
                        have f487 := zG_a hI_S59 4 (-1) (1500) (c := 66) (k := 0) (by decide) (by decide)
                        have q488 : (mI S61 66 0).toInt = (mI S59 66 0).toInt := zG_zi (f := mI S59) hL_S61 rfl
                        have f489 := zG_a hI_S61 4 (-1) (1500) (c := 66) (k := 0) (by decide) (by decide)
                        have q490 : (mI S63 66 0).toInt = (mI S61 66 0).toInt := zG_zi (f := mI (ma_put S61 66 1 (.inl v62))) hL_S63 rfl
                        have f491 := zG_a hI_S63 4 (-1) (1500) (c := 66) (k := 0) (by decide) (by decide)
                        have q492 : (mI S65 66 0).toInt = (mI S63 66 0).toInt := zG_zi (f := mI S63) hL_S65 rfl
                        have f493 := zG_a hI_S65 4 (-1) (1500) (c := 66) (k := 0) (by decide) (by decide)
                        have q494 : (mI S67 66 0).toInt = (mI S65 66 0).toInt := zG_zi (f := mI (ma_put S65 66 2 (.inl v66))) hL_S67 rfl
                        have f495 := zG_a hI_S67 4 (-1) (1500) (c := 66) (k := 0) (by decide) (by decide)
                        have q496 : (mI S69 66 0).toInt = (mI S67 66 0).toInt := zG_zi (f := mI S67) hL_S69 rfl
                        have f497 := zG_a hI_S69 4 (-1) (1500) (c := 66) (k := 0) (by decide) (by decide)
                        have q498 : (mI S63 66 1).toInt = v62.toInt := zG_zi (f := mI (ma_put S61 66 1 (.inl v62))) hL_S63 rfl
                        have f499 := zG_a hI_S63 4 (-1) (1500) (c := 66) (k := 1) (by decide) (by decide)
                        have q500 : (mI S65 66 1).toInt = (mI S63 66 1).toInt := zG_zi (f := mI S63) hL_S65 rfl
                        have f501 := zG_a hI_S65 4 (-1) (1500) (c := 66) (k := 1) (by decide) (by decide)
                        have q502 : (mI S67 66 1).toInt = (mI S65 66 1).toInt := zG_zi (f := mI (ma_put S65 66 2 (.inl v66))) hL_S67 rfl
                        have f503 := zG_a hI_S67 4 (-1) (1500) (c := 66) (k := 1) (by decide) (by decide)
                        have q504 : (mI S69 66 1).toInt = (mI S67 66 1).toInt := zG_zi (f := mI S67) hL_S69 rfl
                        have f505 := zG_a hI_S69 4 (-1) (1500) (c := 66) (k := 1) (by decide) (by decide)
                        exact K ((-1 : Int32)) _ hI485 (show (-1 : Int32).toInt = -1 ∨ (0 ≤ (-1 : Int32).toInt ∧ (-1 : Int32).toInt ≤ 6 ∧ 0 ≤ (mI S69 66 0).toInt ∧ ((-1 : Int32).toInt = 3 → 0 ≤ (mI S69 66 1).toInt) ∧ ((-1 : Int32).toInt = 6 → 0 ≤ (mI S69 66 1).toInt)) from by omega)
                      · skip
                        have g506 := i_ne h483
                        have hI507 : zA f r C Z N (ma_put S69 66 3 (.inl v70)) := zG_sa hI_S69 (-1) (1500) rfl (by decide) (by decide) (by decide) (show zA_x (mI S69) from zG_x hI_S69) (by omega) (by omega)
                        refine sp_129_64  (by omega) (by omega) (zA_dn_zX hI507)  (fun v72 S71 hL_S71 hp_v72 => zi_n ⟨zG_T hL_S71, ?_⟩)
                        have hI_S71 := zA_up_zX hI507 hL_S71
                        have b508 := i_bd v72
                        refine zd (fun h509 => ?_) (fun h509 => ?_)
                        · skip
                          have g510 := i_eq h509
                          have q511 : (mI S59 66 0).toInt = v58.toInt := zG_zi (f := mI (ma_put S57 66 0 (.inl v58))) hL_S59 rfl
                          have f512 := zG_a hI_S59 4 (-1) (1500) (c := 66) (k := 0) (by decide) (by decide)
                          have q513 : (mI S61 66 0).toInt = (mI S59 66 0).toInt := zG_zi (f := mI S59) hL_S61 rfl
                          have f514 := zG_a hI_S61 4 (-1) (1500) (c := 66) (k := 0) (by decide) (by decide)
                          have q515 : (mI S63 66 0).toInt = (mI S61 66 0).toInt := zG_zi (f := mI (ma_put S61 66 1 (.inl v62))) hL_S63 rfl
                          have f516 := zG_a hI_S63 4 (-1) (1500) (c := 66) (k := 0) (by decide) (by decide)
                          have q517 : (mI S65 66 0).toInt = (mI S63 66 0).toInt := zG_zi (f := mI S63) hL_S65 rfl
                          have f518 := zG_a hI_S65 4 (-1) (1500) (c := 66) (k := 0) (by decide) (by decide)
                          have q519 : (mI S67 66 0).toInt = (mI S65 66 0).toInt := zG_zi (f := mI (ma_put S65 66 2 (.inl v66))) hL_S67 rfl
                          have f520 := zG_a hI_S67 4 (-1) (1500) (c := 66) (k := 0) (by decide) (by decide)
                          have q521 : (mI S69 66 0).toInt = (mI S67 66 0).toInt := zG_zi (f := mI S67) hL_S69 rfl
                          have f522 := zG_a hI_S69 4 (-1) (1500) (c := 66) (k := 0) (by decide) (by decide)
                          have q523 : (mI S71 66 0).toInt = (mI S69 66 0).toInt := zG_zi (f := mI (ma_put S69 66 3 (.inl v70))) hL_S71 rfl
                          have f524 := zG_a hI_S71 4 (-1) (1500) (c := 66) (k := 0) (by decide) (by decide)
                          have q525 : (mI S63 66 1).toInt = v62.toInt := zG_zi (f := mI (ma_put S61 66 1 (.inl v62))) hL_S63 rfl
                          have f526 := zG_a hI_S63 4 (-1) (1500) (c := 66) (k := 1) (by decide) (by decide)
                          have q527 : (mI S65 66 1).toInt = (mI S63 66 1).toInt := zG_zi (f := mI S63) hL_S65 rfl
                          have f528 := zG_a hI_S65 4 (-1) (1500) (c := 66) (k := 1) (by decide) (by decide)
                          have q529 : (mI S67 66 1).toInt = (mI S65 66 1).toInt := zG_zi (f := mI (ma_put S65 66 2 (.inl v66))) hL_S67 rfl
                          have f530 := zG_a hI_S67 4 (-1) (1500) (c := 66) (k := 1) (by decide) (by decide)
                          have q531 : (mI S69 66 1).toInt = (mI S67 66 1).toInt := zG_zi (f := mI S67) hL_S69 rfl
                          have f532 := zG_a hI_S69 4 (-1) (1500) (c := 66) (k := 1) (by decide) (by decide)
                          have q533 : (mI S71 66 1).toInt = (mI S69 66 1).toInt := zG_zi (f := mI (ma_put S69 66 3 (.inl v70))) hL_S71 rfl
                          have f534 := zG_a hI_S71 4 (-1) (1500) (c := 66) (k := 1) (by decide) (by decide)
                          exact K (v4) _ hI_S71 (show v4.toInt = -1 ∨ (0 ≤ v4.toInt ∧ v4.toInt ≤ 6 ∧ 0 ≤ (mI S71 66 0).toInt ∧ (v4.toInt = 3 → 0 ≤ (mI S71 66 1).toInt) ∧ (v4.toInt = 6 → 0 ≤ (mI S71 66 1).toInt)) from by omega)
                        · skip
                          have g535 := i_ne h509
                          have q536 : (mI S59 66 0).toInt = v58.toInt := zG_zi (f := mI (ma_put S57 66 0 (.inl v58))) hL_S59 rfl
                          have f537 := zG_a hI_S59 4 (-1) (1500) (c := 66) (k := 0) (by decide) (by decide)
                          have q538 : (mI S61 66 0).toInt = (mI S59 66 0).toInt := zG_zi (f := mI S59) hL_S61 rfl
                          have f539 := zG_a hI_S61 4 (-1) (1500) (c := 66) (k := 0) (by decide) (by decide)
                          have q540 : (mI S63 66 0).toInt = (mI S61 66 0).toInt := zG_zi (f := mI (ma_put S61 66 1 (.inl v62))) hL_S63 rfl
                          have f541 := zG_a hI_S63 4 (-1) (1500) (c := 66) (k := 0) (by decide) (by decide)
                          have q542 : (mI S65 66 0).toInt = (mI S63 66 0).toInt := zG_zi (f := mI S63) hL_S65 rfl
                          have f543 := zG_a hI_S65 4 (-1) (1500) (c := 66) (k := 0) (by decide) (by decide)
                          have q544 : (mI S67 66 0).toInt = (mI S65 66 0).toInt := zG_zi (f := mI (ma_put S65 66 2 (.inl v66))) hL_S67 rfl
                          have f545 := zG_a hI_S67 4 (-1) (1500) (c := 66) (k := 0) (by decide) (by decide)
                          have q546 : (mI S69 66 0).toInt = (mI S67 66 0).toInt := zG_zi (f := mI S67) hL_S69 rfl
                          have f547 := zG_a hI_S69 4 (-1) (1500) (c := 66) (k := 0) (by decide) (by decide)
                          have q548 : (mI S71 66 0).toInt = (mI S69 66 0).toInt := zG_zi (f := mI (ma_put S69 66 3 (.inl v70))) hL_S71 rfl
                          have f549 := zG_a hI_S71 4 (-1) (1500) (c := 66) (k := 0) (by decide) (by decide)
                          have q550 : (mI S63 66 1).toInt = v62.toInt := zG_zi (f := mI (ma_put S61 66 1 (.inl v62))) hL_S63 rfl
                          have f551 := zG_a hI_S63 4 (-1) (1500) (c := 66) (k := 1) (by decide) (by decide)
                          have q552 : (mI S65 66 1).toInt = (mI S63 66 1).toInt := zG_zi (f := mI S63) hL_S65 rfl
                          have f553 := zG_a hI_S65 4 (-1) (1500) (c := 66) (k := 1) (by decide) (by decide)
                          have q554 : (mI S67 66 1).toInt = (mI S65 66 1).toInt := zG_zi (f := mI (ma_put S65 66 2 (.inl v66))) hL_S67 rfl
                          have f555 := zG_a hI_S67 4 (-1) (1500) (c := 66) (k := 1) (by decide) (by decide)
                          have q556 : (mI S69 66 1).toInt = (mI S67 66 1).toInt := zG_zi (f := mI S67) hL_S69 rfl
                          have f557 := zG_a hI_S69 4 (-1) (1500) (c := 66) (k := 1) (by decide) (by decide)
                          have q558 : (mI S71 66 1).toInt = (mI S69 66 1).toInt := zG_zi (f := mI (ma_put S69 66 3 (.inl v70))) hL_S71 rfl
                          have f559 := zG_a hI_S71 4 (-1) (1500) (c := 66) (k := 1) (by decide) (by decide)
                          exact K ((-1 : Int32)) _ hI_S71 (show (-1 : Int32).toInt = -1 ∨ (0 ≤ (-1 : Int32).toInt ∧ (-1 : Int32).toInt ≤ 6 ∧ 0 ≤ (mI S71 66 0).toInt ∧ ((-1 : Int32).toInt = 3 → 0 ≤ (mI S71 66 1).toInt) ∧ ((-1 : Int32).toInt = 6 → 0 ≤ (mI S71 66 1).toInt)) from by omega)
            · skip
              have g560 := i_ne h409
              have li561 : (6 : Int32).toInt = 6 := rfl
              refine zd (fun h562 => ?_) (fun h562 => ?_)
              · skip
                have g563 := i_eq h562
                refine sp_129_64  (by omega) (by omega) (zA_dn_zX hI_S3)  (fun v74 S73 hL_S73 hp_v74 => zi_n ⟨zG_T hL_S73, ?_⟩)
                have hI_S73 := zA_up_zX hI_S3 hL_S73
                have li564 : (16 : Int32).toInt = 16 := rfl
                have li565 : (1500 : Int32).toInt = 1500 := rfl
                refine sp_134_64 ((16 : Int32)) ((1500 : Int32)) (by omega) (by omega) (zA_dn_zX hI_S73)  (fun v76 S75 hL_S75 hp_v76 => zi_n ⟨zG_T hL_S75, ?_⟩)
                have hI_S75 := zA_up_zX hI_S73 hL_S75
                have b566 := i_bd v76
                have li567 : (-1 : Int32).toInt = -1 := rfl
                refine zd (fun h568 => ?_) (fun h568 => ?_)
                · skip
                  have g569 := i_eq h568
                  have hI570 : zA f r C Z N (ma_put S75 66 0 (.inl v76)) := zG_sa hI_S75 (-1) (1500) rfl (by decide) (by decide) (by decide) (show zA_x (mI S75) from zG_x hI_S75) (by omega) (by omega)
                  have f571 := zG_a hI 4 (-1) (1500) (c := 66) (k := 1) (by decide) (by decide)
                  have q572 : (mI S1 66 1).toInt = (mI S 66 1).toInt := zG_zi (f := mI (ma_put S 64 3 (.inl (0 : Int32)))) hL_S1 rfl
                  have f573 := zG_a hI_S1 4 (-1) (1500) (c := 66) (k := 1) (by decide) (by decide)
                  have q574 : (mI S3 66 1).toInt = (mI S1 66 1).toInt := zG_zi (f := mI S1) hL_S3 rfl
                  have f575 := zG_a hI_S3 4 (-1) (1500) (c := 66) (k := 1) (by decide) (by decide)
                  have q576 : (mI S73 66 1).toInt = (mI S3 66 1).toInt := zG_zi (f := mI S3) hL_S73 rfl
                  have f577 := zG_a hI_S73 4 (-1) (1500) (c := 66) (k := 1) (by decide) (by decide)
                  have q578 : (mI S75 66 1).toInt = (mI S73 66 1).toInt := zG_zi (f := mI S73) hL_S75 rfl
                  have f579 := zG_a hI_S75 4 (-1) (1500) (c := 66) (k := 1) (by decide) (by decide)
                  exact K ((-1 : Int32)) _ hI570 (show (-1 : Int32).toInt = -1 ∨ (0 ≤ (-1 : Int32).toInt ∧ (-1 : Int32).toInt ≤ 6 ∧ 0 ≤ v76.toInt ∧ ((-1 : Int32).toInt = 3 → 0 ≤ (mI S75 66 1).toInt) ∧ ((-1 : Int32).toInt = 6 → 0 ≤ (mI S75 66 1).toInt)) from by omega)
                · skip
                  have g580 := i_ne h568
                  have hI581 : zA f r C Z N (ma_put S75 66 0 (.inl v76)) := zG_sa hI_S75 (-1) (1500) rfl (by decide) (by decide) (by decide) (show zA_x (mI S75) from zG_x hI_S75) (by omega) (by omega)
                  refine sp_129_64  (by omega) (by omega) (zA_dn_zX hI581)  (fun v78 S77 hL_S77 hp_v78 => zi_n ⟨zG_T hL_S77, ?_⟩)
                  have hI_S77 := zA_up_zX hI581 hL_S77
                  have li582 : (256 : Int32).toInt = 256 := rfl
                  have q583 : (mI S77 66 0).toInt = v76.toInt := zG_zi (f := mI (ma_put S75 66 0 (.inl v76))) hL_S77 rfl
                  have f584 := zG_a hI_S77 4 (-1) (1500) (c := 66) (k := 0) (by decide) (by decide)
                  first | have f585 := i_div (x := (mI S77 66 0)) (y := (4 : Int32)) (by omega) (by omega) | have b586 := i_bd ((mI S77 66 0) / (4 : Int32))
                  have f587 := i_min (256 : Int32) ((mI S77 66 0) / (4 : Int32))
                  refine sp_134_64 ((16 : Int32)) ((if ((mI S77 66 0) / (4 : Int32)) < (256 : Int32) then ((mI S77 66 0) / (4 : Int32)) else (256 : Int32))) (by omega) (by omega) (zA_dn_zX hI_S77)  (fun v80 S79 hL_S79 hp_v80 => zi_n ⟨zG_T hL_S79, ?_⟩)
                  have hI_S79 := zA_up_zX hI_S77 hL_S79
                  have b588 := i_bd v80
                  refine zd (fun h589 => ?_) (fun h589 => ?_)
                  · skip
                    have g590 := i_eq h589
                    have hI591 : zA f r C Z N (ma_put S79 66 1 (.inl v80)) := zG_sa hI_S79 (-1) (1500) rfl (by decide) (by decide) (by decide) (show zA_x (mI S79) from zG_x hI_S79) (by omega) (by omega)
                    have q592 : (mI S79 66 0).toInt = (mI S77 66 0).toInt := zG_zi (f := mI S77) hL_S79 rfl
                    have f593 := zG_a hI_S79 4 (-1) (1500) (c := 66) (k := 0) (by decide) (by decide)
                    exact K ((-1 : Int32)) _ hI591 (show (-1 : Int32).toInt = -1 ∨ (0 ≤ (-1 : Int32).toInt ∧ (-1 : Int32).toInt ≤ 6 ∧ 0 ≤ (mI S79 66 0).toInt ∧ ((-1 : Int32).toInt = 3 → 0 ≤ v80.toInt) ∧ ((-1 : Int32).toInt = 6 → 0 ≤ v80.toInt)) from by omega)
                  · skip
                    have g594 := i_ne h589
                    have hI595 : zA f r C Z N (ma_put S79 66 1 (.inl v80)) := zG_sa hI_S79 (-1) (1500) rfl (by decide) (by decide) (by decide) (show zA_x (mI S79) from zG_x hI_S79) (by omega) (by omega)
                    refine sp_129_64  (by omega) (by omega) (zA_dn_zX hI595)  (fun v82 S81 hL_S81 hp_v82 => zi_n ⟨zG_T hL_S81, ?_⟩)
                    have hI_S81 := zA_up_zX hI595 hL_S81
                    have li596 : (100 : Int32).toInt = 100 := rfl
                    refine sp_134_64 ((0 : Int32)) ((100 : Int32)) (by omega) (by omega) (zA_dn_zX hI_S81)  (fun v84 S83 hL_S83 hp_v84 => zi_n ⟨zG_T hL_S83, ?_⟩)
                    have hI_S83 := zA_up_zX hI_S81 hL_S83
                    have b597 := i_bd v84
                    refine zd (fun h598 => ?_) (fun h598 => ?_)
                    · skip
                      have g599 := i_eq h598
                      have hI600 : zA f r C Z N (ma_put S83 66 2 (.inl v84)) := zG_sa hI_S83 (-1) (1500) rfl (by decide) (by decide) (by decide) (show zA_x (mI S83) from zG_x hI_S83) (by omega) (by omega)
                      have q601 : (mI S79 66 0).toInt = (mI S77 66 0).toInt := zG_zi (f := mI S77) hL_S79 rfl
                      have f602 := zG_a hI_S79 4 (-1) (1500) (c := 66) (k := 0) (by decide) (by decide)
                      have q603 : (mI S81 66 0).toInt = (mI S79 66 0).toInt := zG_zi (f := mI (ma_put S79 66 1 (.inl v80))) hL_S81 rfl
                      have f604 := zG_a hI_S81 4 (-1) (1500) (c := 66) (k := 0) (by decide) (by decide)
                      have q605 : (mI S83 66 0).toInt = (mI S81 66 0).toInt := zG_zi (f := mI S81) hL_S83 rfl
                      have f606 := zG_a hI_S83 4 (-1) (1500) (c := 66) (k := 0) (by decide) (by decide)
                      have q607 : (mI S81 66 1).toInt = v80.toInt := zG_zi (f := mI (ma_put S79 66 1 (.inl v80))) hL_S81 rfl
                      have f608 := zG_a hI_S81 4 (-1) (1500) (c := 66) (k := 1) (by decide) (by decide)
                      have q609 : (mI S83 66 1).toInt = (mI S81 66 1).toInt := zG_zi (f := mI S81) hL_S83 rfl
                      have f610 := zG_a hI_S83 4 (-1) (1500) (c := 66) (k := 1) (by decide) (by decide)
                      exact K ((-1 : Int32)) _ hI600 (show (-1 : Int32).toInt = -1 ∨ (0 ≤ (-1 : Int32).toInt ∧ (-1 : Int32).toInt ≤ 6 ∧ 0 ≤ (mI S83 66 0).toInt ∧ ((-1 : Int32).toInt = 3 → 0 ≤ (mI S83 66 1).toInt) ∧ ((-1 : Int32).toInt = 6 → 0 ≤ (mI S83 66 1).toInt)) from by omega)
                    · skip
                      have g611 := i_ne h598
                      refine zd (fun h612 => ?_) (fun h612 => ?_)
                      · skip
                        have g613 := i_eq h612
                        have hI614 : zA f r C Z N (ma_put S83 66 2 (.inl v84)) := zG_sa hI_S83 (-1) (1500) rfl (by decide) (by decide) (by decide) (show zA_x (mI S83) from zG_x hI_S83) (by omega) (by omega)
                        have q615 : (mI S79 66 0).toInt = (mI S77 66 0).toInt := zG_zi (f := mI S77) hL_S79 rfl
                        have f616 := zG_a hI_S79 4 (-1) (1500) (c := 66) (k := 0) (by decide) (by decide)
                        have q617 : (mI S81 66 0).toInt = (mI S79 66 0).toInt := zG_zi (f := mI (ma_put S79 66 1 (.inl v80))) hL_S81 rfl
                        have f618 := zG_a hI_S81 4 (-1) (1500) (c := 66) (k := 0) (by decide) (by decide)
                        have q619 : (mI S83 66 0).toInt = (mI S81 66 0).toInt := zG_zi (f := mI S81) hL_S83 rfl
                        have f620 := zG_a hI_S83 4 (-1) (1500) (c := 66) (k := 0) (by decide) (by decide)
                        have q621 : (mI S81 66 1).toInt = v80.toInt := zG_zi (f := mI (ma_put S79 66 1 (.inl v80))) hL_S81 rfl
                        have f622 := zG_a hI_S81 4 (-1) (1500) (c := 66) (k := 1) (by decide) (by decide)
                        have q623 : (mI S83 66 1).toInt = (mI S81 66 1).toInt := zG_zi (f := mI S81) hL_S83 rfl
                        have f624 := zG_a hI_S83 4 (-1) (1500) (c := 66) (k := 1) (by decide) (by decide)
                        exact K ((-1 : Int32)) _ hI614 (show (-1 : Int32).toInt = -1 ∨ (0 ≤ (-1 : Int32).toInt ∧ (-1 : Int32).toInt ≤ 6 ∧ 0 ≤ (mI S83 66 0).toInt ∧ ((-1 : Int32).toInt = 3 → 0 ≤ (mI S83 66 1).toInt) ∧ ((-1 : Int32).toInt = 6 → 0 ≤ (mI S83 66 1).toInt)) from by omega)
                      · skip
                        have g625 := i_ne h612
                        have hI626 : zA f r C Z N (ma_put S83 66 2 (.inl v84)) := zG_sa hI_S83 (-1) (1500) rfl (by decide) (by decide) (by decide) (show zA_x (mI S83) from zG_x hI_S83) (by omega) (by omega)
                        refine sp_129_64  (by omega) (by omega) (zA_dn_zX hI626)  (fun v86 S85 hL_S85 hp_v86 => zi_n ⟨zG_T hL_S85, ?_⟩)
                        have hI_S85 := zA_up_zX hI626 hL_S85
                        have b627 := i_bd v86
                        refine zd (fun h628 => ?_) (fun h628 => ?_)
                        · skip
                          have g629 := i_eq h628
                          have q630 : (mI S79 66 0).toInt = (mI S77 66 0).toInt := zG_zi (f := mI S77) hL_S79 rfl
                          have f631 := zG_a hI_S79 4 (-1) (1500) (c := 66) (k := 0) (by decide) (by decide)
                          have q632 : (mI S81 66 0).toInt = (mI S79 66 0).toInt := zG_zi (f := mI (ma_put S79 66 1 (.inl v80))) hL_S81 rfl
                          have f633 := zG_a hI_S81 4 (-1) (1500) (c := 66) (k := 0) (by decide) (by decide)
                          have q634 : (mI S83 66 0).toInt = (mI S81 66 0).toInt := zG_zi (f := mI S81) hL_S83 rfl
                          have f635 := zG_a hI_S83 4 (-1) (1500) (c := 66) (k := 0) (by decide) (by decide)
                          have q636 : (mI S85 66 0).toInt = (mI S83 66 0).toInt := zG_zi (f := mI (ma_put S83 66 2 (.inl v84))) hL_S85 rfl
                          have f637 := zG_a hI_S85 4 (-1) (1500) (c := 66) (k := 0) (by decide) (by decide)
                          have q638 : (mI S81 66 1).toInt = v80.toInt := zG_zi (f := mI (ma_put S79 66 1 (.inl v80))) hL_S81 rfl
                          have f639 := zG_a hI_S81 4 (-1) (1500) (c := 66) (k := 1) (by decide) (by decide)
                          have q640 : (mI S83 66 1).toInt = (mI S81 66 1).toInt := zG_zi (f := mI S81) hL_S83 rfl
                          have f641 := zG_a hI_S83 4 (-1) (1500) (c := 66) (k := 1) (by decide) (by decide)
                          have q642 : (mI S85 66 1).toInt = (mI S83 66 1).toInt := zG_zi (f := mI (ma_put S83 66 2 (.inl v84))) hL_S85 rfl
                          have f643 := zG_a hI_S85 4 (-1) (1500) (c := 66) (k := 1) (by decide) (by decide)
                          exact K (v4) _ hI_S85 (show v4.toInt = -1 ∨ (0 ≤ v4.toInt ∧ v4.toInt ≤ 6 ∧ 0 ≤ (mI S85 66 0).toInt ∧ (v4.toInt = 3 → 0 ≤ (mI S85 66 1).toInt) ∧ (v4.toInt = 6 → 0 ≤ (mI S85 66 1).toInt)) from by omega)
                        · skip
                          have g644 := i_ne h628
                          have q645 : (mI S79 66 0).toInt = (mI S77 66 0).toInt := zG_zi (f := mI S77) hL_S79 rfl
                          have f646 := zG_a hI_S79 4 (-1) (1500) (c := 66) (k := 0) (by decide) (by decide)
                          have q647 : (mI S81 66 0).toInt = (mI S79 66 0).toInt := zG_zi (f := mI (ma_put S79 66 1 (.inl v80))) hL_S81 rfl
                          have f648 := zG_a hI_S81 4 (-1) (1500) (c := 66) (k := 0) (by decide) (by decide)
                          have q649 : (mI S83 66 0).toInt = (mI S81 66 0).toInt := zG_zi (f := mI S81) hL_S83 rfl
                          have f650 := zG_a hI_S83 4 (-1) (1500) (c := 66) (k := 0) (by decide) (by decide)
                          have q651 : (mI S85 66 0).toInt = (mI S83 66 0).toInt := zG_zi (f := mI (ma_put S83 66 2 (.inl v84))) hL_S85 rfl
                          have f652 := zG_a hI_S85 4 (-1) (1500) (c := 66) (k := 0) (by decide) (by decide)
                          have q653 : (mI S81 66 1).toInt = v80.toInt := zG_zi (f := mI (ma_put S79 66 1 (.inl v80))) hL_S81 rfl
                          have f654 := zG_a hI_S81 4 (-1) (1500) (c := 66) (k := 1) (by decide) (by decide)
                          have q655 : (mI S83 66 1).toInt = (mI S81 66 1).toInt := zG_zi (f := mI S81) hL_S83 rfl
                          have f656 := zG_a hI_S83 4 (-1) (1500) (c := 66) (k := 1) (by decide) (by decide)
                          have q657 : (mI S85 66 1).toInt = (mI S83 66 1).toInt := zG_zi (f := mI (ma_put S83 66 2 (.inl v84))) hL_S85 rfl
                          have f658 := zG_a hI_S85 4 (-1) (1500) (c := 66) (k := 1) (by decide) (by decide)
                          exact K ((-1 : Int32)) _ hI_S85 (show (-1 : Int32).toInt = -1 ∨ (0 ≤ (-1 : Int32).toInt ∧ (-1 : Int32).toInt ≤ 6 ∧ 0 ≤ (mI S85 66 0).toInt ∧ ((-1 : Int32).toInt = 3 → 0 ≤ (mI S85 66 1).toInt) ∧ ((-1 : Int32).toInt = 6 → 0 ≤ (mI S85 66 1).toInt)) from by omega)
              · skip
                have g659 := i_ne h562
                have li660 : (-1 : Int32).toInt = -1 := rfl
                refine zd (fun h661 => ?_) (fun h661 => ?_)
                · skip
                  have g662 := i_eq h661
                  have f663 := zG_a hI 4 (-1) (1500) (c := 66) (k := 0) (by decide) (by decide)
                  have q664 : (mI S1 66 0).toInt = (mI S 66 0).toInt := zG_zi (f := mI (ma_put S 64 3 (.inl (0 : Int32)))) hL_S1 rfl
                  have f665 := zG_a hI_S1 4 (-1) (1500) (c := 66) (k := 0) (by decide) (by decide)
                  have q666 : (mI S3 66 0).toInt = (mI S1 66 0).toInt := zG_zi (f := mI S1) hL_S3 rfl
                  have f667 := zG_a hI_S3 4 (-1) (1500) (c := 66) (k := 0) (by decide) (by decide)
                  have f668 := zG_a hI 4 (-1) (1500) (c := 66) (k := 1) (by decide) (by decide)
                  have q669 : (mI S1 66 1).toInt = (mI S 66 1).toInt := zG_zi (f := mI (ma_put S 64 3 (.inl (0 : Int32)))) hL_S1 rfl
                  have f670 := zG_a hI_S1 4 (-1) (1500) (c := 66) (k := 1) (by decide) (by decide)
                  have q671 : (mI S3 66 1).toInt = (mI S1 66 1).toInt := zG_zi (f := mI S1) hL_S3 rfl
                  have f672 := zG_a hI_S3 4 (-1) (1500) (c := 66) (k := 1) (by decide) (by decide)
                  exact K ((-1 : Int32)) _ hI_S3 (show (-1 : Int32).toInt = -1 ∨ (0 ≤ (-1 : Int32).toInt ∧ (-1 : Int32).toInt ≤ 6 ∧ 0 ≤ (mI S3 66 0).toInt ∧ ((-1 : Int32).toInt = 3 → 0 ≤ (mI S3 66 1).toInt) ∧ ((-1 : Int32).toInt = 6 → 0 ≤ (mI S3 66 1).toInt)) from by omega)
                · skip
                  have g673 := i_ne h661
                  refine sp_129_64  (by omega) (by omega) (zA_dn_zX hI_S3)  (fun v88 S87 hL_S87 hp_v88 => zi_n ⟨zG_T hL_S87, ?_⟩)
                  have hI_S87 := zA_up_zX hI_S3 hL_S87
                  have b674 := i_bd v88
                  refine zd (fun h675 => ?_) (fun h675 => ?_)
                  · skip
                    have g676 := i_eq h675
                    have f677 := zG_a hI 4 (-1) (1500) (c := 66) (k := 0) (by decide) (by decide)
                    have q678 : (mI S1 66 0).toInt = (mI S 66 0).toInt := zG_zi (f := mI (ma_put S 64 3 (.inl (0 : Int32)))) hL_S1 rfl
                    have f679 := zG_a hI_S1 4 (-1) (1500) (c := 66) (k := 0) (by decide) (by decide)
                    have q680 : (mI S3 66 0).toInt = (mI S1 66 0).toInt := zG_zi (f := mI S1) hL_S3 rfl
                    have f681 := zG_a hI_S3 4 (-1) (1500) (c := 66) (k := 0) (by decide) (by decide)
                    have q682 : (mI S87 66 0).toInt = (mI S3 66 0).toInt := zG_zi (f := mI S3) hL_S87 rfl
                    have f683 := zG_a hI_S87 4 (-1) (1500) (c := 66) (k := 0) (by decide) (by decide)
                    have f684 := zG_a hI 4 (-1) (1500) (c := 66) (k := 1) (by decide) (by decide)
                    have q685 : (mI S1 66 1).toInt = (mI S 66 1).toInt := zG_zi (f := mI (ma_put S 64 3 (.inl (0 : Int32)))) hL_S1 rfl
                    have f686 := zG_a hI_S1 4 (-1) (1500) (c := 66) (k := 1) (by decide) (by decide)
                    have q687 : (mI S3 66 1).toInt = (mI S1 66 1).toInt := zG_zi (f := mI S1) hL_S3 rfl
                    have f688 := zG_a hI_S3 4 (-1) (1500) (c := 66) (k := 1) (by decide) (by decide)
                    have q689 : (mI S87 66 1).toInt = (mI S3 66 1).toInt := zG_zi (f := mI S3) hL_S87 rfl
                    have f690 := zG_a hI_S87 4 (-1) (1500) (c := 66) (k := 1) (by decide) (by decide)
                    exact K (v4) _ hI_S87 (show v4.toInt = -1 ∨ (0 ≤ v4.toInt ∧ v4.toInt ≤ 6 ∧ 0 ≤ (mI S87 66 0).toInt ∧ (v4.toInt = 3 → 0 ≤ (mI S87 66 1).toInt) ∧ (v4.toInt = 6 → 0 ≤ (mI S87 66 1).toInt)) from by omega)
                  · skip
                    have g691 := i_ne h675
                    have f692 := zG_a hI 4 (-1) (1500) (c := 66) (k := 0) (by decide) (by decide)
                    have q693 : (mI S1 66 0).toInt = (mI S 66 0).toInt := zG_zi (f := mI (ma_put S 64 3 (.inl (0 : Int32)))) hL_S1 rfl
                    have f694 := zG_a hI_S1 4 (-1) (1500) (c := 66) (k := 0) (by decide) (by decide)
                    have q695 : (mI S3 66 0).toInt = (mI S1 66 0).toInt := zG_zi (f := mI S1) hL_S3 rfl
                    have f696 := zG_a hI_S3 4 (-1) (1500) (c := 66) (k := 0) (by decide) (by decide)
                    have q697 : (mI S87 66 0).toInt = (mI S3 66 0).toInt := zG_zi (f := mI S3) hL_S87 rfl
                    have f698 := zG_a hI_S87 4 (-1) (1500) (c := 66) (k := 0) (by decide) (by decide)
                    have f699 := zG_a hI 4 (-1) (1500) (c := 66) (k := 1) (by decide) (by decide)
                    have q700 : (mI S1 66 1).toInt = (mI S 66 1).toInt := zG_zi (f := mI (ma_put S 64 3 (.inl (0 : Int32)))) hL_S1 rfl
                    have f701 := zG_a hI_S1 4 (-1) (1500) (c := 66) (k := 1) (by decide) (by decide)
                    have q702 : (mI S3 66 1).toInt = (mI S1 66 1).toInt := zG_zi (f := mI S1) hL_S3 rfl
                    have f703 := zG_a hI_S3 4 (-1) (1500) (c := 66) (k := 1) (by decide) (by decide)
                    have q704 : (mI S87 66 1).toInt = (mI S3 66 1).toInt := zG_zi (f := mI S3) hL_S87 rfl
                    have f705 := zG_a hI_S87 4 (-1) (1500) (c := 66) (k := 1) (by decide) (by decide)
                    exact K ((-1 : Int32)) _ hI_S87 (show (-1 : Int32).toInt = -1 ∨ (0 ≤ (-1 : Int32).toInt ∧ (-1 : Int32).toInt ≤ 6 ∧ 0 ≤ (mI S87 66 0).toInt ∧ ((-1 : Int32).toInt = 3 → 0 ≤ (mI S87 66 1).toInt) ∧ ((-1 : Int32).toInt = 6 → 0 ≤ (mI S87 66 1).toInt)) from by omega)
