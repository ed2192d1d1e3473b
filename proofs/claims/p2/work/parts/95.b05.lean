/-! regions (written by wip/tools/gen95a.py) -/
theorem g_40_91_0 {X : Nat × (Nat → Int32)} {d w : Nat} {S : ma_S} {Q : Option ma_V ⊕ Nat → ma_S → Prop} (n : Int32) (hd : 5 ≤ d) (hw : 183 ≤ w) (hS : zT S) (h : if n ≤ (mI S 91 2) then (if (mI S 91 5) < 0 then (ma_wp X (d - 1) (w - 22) 42 0 [(0, .inr (.inr (some 91)))] [] S (zi (fun v2 S1 => zT S1 ∧ (if (2 : Int32) ≤ v2 then (if (mI S1 91 5) < 0 then (ma_wp X (d - 1) (w - 21) 52 0 [(0, .inr (.inr (some 91)))] [] S1 (zi (fun v4 S3 => zT S3 ∧ (if v4 = (-1 : Int32) then (if (mI S3 91 5) < 0 then (Q (.inl (some (.inl (-1 : Int32)))) (ma_put S3 91 5 (.inl (mI S3 91 5)))) else (if (93 : Int32) ≤ (mI S3 91 5) then (Q (.inl (some (.inl (-1 : Int32)))) (ma_put S3 91 5 (.inl (mI S3 91 5)))) else ((0 ≤ (mI S3 91 5) ∧ (mI S3 91 5).toNatClampNeg < 93) ∧ (if (mI S3 91 2) < ((mI S3 92 (mI S3 91 5).toNatClampNeg) + n) then (Q (.inl (some (.inl (-1 : Int32)))) (ma_put S3 91 5 (.inl (mI S3 91 5)))) else (ma_wp X (d - 1) (w - 20) 55 0 [(0, .inr (.inr (some 91)))] [] (ma_put S3 91 5 (.inl (mI S3 91 5))) (zi (fun v8 S7 => zT S7 ∧ (Q (.inl (some (.inl v8))) S7)) (fun x S9 => Q (.inr x) S9))))))) else (if v4 < 0 then (Q (.inl (some (.inl (-1 : Int32)))) (ma_put S3 91 5 (.inl v4))) else (if (93 : Int32) ≤ v4 then (Q (.inl (some (.inl (-1 : Int32)))) (ma_put S3 91 5 (.inl v4))) else ((0 ≤ v4 ∧ v4.toNatClampNeg < 93) ∧ (if (mI S3 91 2) < ((mI S3 92 v4.toNatClampNeg) + n) then (Q (.inl (some (.inl (-1 : Int32)))) (ma_put S3 91 5 (.inl v4))) else (ma_wp X (d - 1) (w - 20) 55 0 [(0, .inr (.inr (some 91)))] [] (ma_put S3 91 5 (.inl v4)) (zi (fun v6 S5 => zT S5 ∧ (Q (.inl (some (.inl v6))) S5)) (fun x S9 => Q (.inr x) S9))))))))) (fun x S9 => Q (.inr x) S9))) else (if (93 : Int32) ≤ (mI S1 91 5) then (ma_wp X (d - 1) (w - 21) 52 0 [(0, .inr (.inr (some 91)))] [] S1 (zi (fun v10 S9 => zT S9 ∧ (if v10 = (-1 : Int32) then (if (mI S9 91 5) < 0 then (Q (.inl (some (.inl (-1 : Int32)))) (ma_put S9 91 5 (.inl (mI S9 91 5)))) else (if (93 : Int32) ≤ (mI S9 91 5) then (Q (.inl (some (.inl (-1 : Int32)))) (ma_put S9 91 5 (.inl (mI S9 91 5)))) else ((0 ≤ (mI S9 91 5) ∧ (mI S9 91 5).toNatClampNeg < 93) ∧ (if (mI S9 91 2) < ((mI S9 92 (mI S9 91 5).toNatClampNeg) + n) then (Q (.inl (some (.inl (-1 : Int32)))) (ma_put S9 91 5 (.inl (mI S9 91 5)))) else (ma_wp X (d - 1) (w - 20) 55 0 [(0, .inr (.inr (some 91)))] [] (ma_put S9 91 5 (.inl (mI S9 91 5))) (zi (fun v14 S13 => zT S13 ∧ (Q (.inl (some (.inl v14))) S13)) (fun x S9 => Q (.inr x) S9))))))) else (if v10 < 0 then (Q (.inl (some (.inl (-1 : Int32)))) (ma_put S9 91 5 (.inl v10))) else (if (93 : Int32) ≤ v10 then (Q (.inl (some (.inl (-1 : Int32)))) (ma_put S9 91 5 (.inl v10))) else ((0 ≤ v10 ∧ v10.toNatClampNeg < 93) ∧ (if (mI S9 91 2) < ((mI S9 92 v10.toNatClampNeg) + n) then (Q (.inl (some (.inl (-1 : Int32)))) (ma_put S9 91 5 (.inl v10))) else (ma_wp X (d - 1) (w - 20) 55 0 [(0, .inr (.inr (some 91)))] [] (ma_put S9 91 5 (.inl v10)) (zi (fun v12 S11 => zT S11 ∧ (Q (.inl (some (.inl v12))) S11)) (fun x S9 => Q (.inr x) S9))))))))) (fun x S9 => Q (.inr x) S9))) else ((0 ≤ (mI S1 91 5) ∧ (mI S1 91 5).toNatClampNeg < 93) ∧ (if (mI S1 91 2) < ((mI S1 92 (mI S1 91 5).toNatClampNeg) + n) then (ma_wp X (d - 1) (w - 21) 52 0 [(0, .inr (.inr (some 91)))] [] S1 (zi (fun v16 S15 => zT S15 ∧ (if v16 = (-1 : Int32) then (if (mI S15 91 5) < 0 then (Q (.inl (some (.inl (-1 : Int32)))) (ma_put S15 91 5 (.inl (mI S15 91 5)))) else (if (93 : Int32) ≤ (mI S15 91 5) then (Q (.inl (some (.inl (-1 : Int32)))) (ma_put S15 91 5 (.inl (mI S15 91 5)))) else ((0 ≤ (mI S15 91 5) ∧ (mI S15 91 5).toNatClampNeg < 93) ∧ (if (mI S15 91 2) < ((mI S15 92 (mI S15 91 5).toNatClampNeg) + n) then (Q (.inl (some (.inl (-1 : Int32)))) (ma_put S15 91 5 (.inl (mI S15 91 5)))) else (ma_wp X (d - 1) (w - 20) 55 0 [(0, .inr (.inr (some 91)))] [] (ma_put S15 91 5 (.inl (mI S15 91 5))) (zi (fun v20 S19 => zT S19 ∧ (Q (.inl (some (.inl v20))) S19)) (fun x S9 => Q (.inr x) S9))))))) else (if v16 < 0 then (Q (.inl (some (.inl (-1 : Int32)))) (ma_put S15 91 5 (.inl v16))) else (if (93 : Int32) ≤ v16 then (Q (.inl (some (.inl (-1 : Int32)))) (ma_put S15 91 5 (.inl v16))) else ((0 ≤ v16 ∧ v16.toNatClampNeg < 93) ∧ (if (mI S15 91 2) < ((mI S15 92 v16.toNatClampNeg) + n) then (Q (.inl (some (.inl (-1 : Int32)))) (ma_put S15 91 5 (.inl v16))) else (ma_wp X (d - 1) (w - 20) 55 0 [(0, .inr (.inr (some 91)))] [] (ma_put S15 91 5 (.inl v16)) (zi (fun v18 S17 => zT S17 ∧ (Q (.inl (some (.inl v18))) S17)) (fun x S9 => Q (.inr x) S9))))))))) (fun x S9 => Q (.inr x) S9))) else (if (mI S1 91 5) < 0 then (Q (.inl (some (.inl (-1 : Int32)))) S1) else (if (93 : Int32) ≤ (mI S1 91 5) then (Q (.inl (some (.inl (-1 : Int32)))) S1) else ((0 ≤ (mI S1 91 5) ∧ (mI S1 91 5).toNatClampNeg < 93) ∧ (if (mI S1 91 2) < ((mI S1 92 (mI S1 91 5).toNatClampNeg) + n) then (Q (.inl (some (.inl (-1 : Int32)))) S1) else (ma_wp X (d - 1) (w - 20) 55 0 [(0, .inr (.inr (some 91)))] [] S1 (zi (fun v22 S21 => zT S21 ∧ (Q (.inl (some (.inl v22))) S21)) (fun x S9 => Q (.inr x) S9))))))))))) else (ma_wp X (d - 1) (w - 23) 43 0 [(0, .inr (.inr (some 91)))] [] S1 (zi (fun v24 S23 => zT S23 ∧ (if (mI S23 91 5) < 0 then (ma_wp X (d - 1) (w - 21) 52 0 [(0, .inr (.inr (some 91)))] [] S23 (zi (fun v26 S25 => zT S25 ∧ (if v26 = (-1 : Int32) then (if (mI S25 91 5) < 0 then (Q (.inl (some (.inl (-1 : Int32)))) (ma_put S25 91 5 (.inl (mI S25 91 5)))) else (if (93 : Int32) ≤ (mI S25 91 5) then (Q (.inl (some (.inl (-1 : Int32)))) (ma_put S25 91 5 (.inl (mI S25 91 5)))) else ((0 ≤ (mI S25 91 5) ∧ (mI S25 91 5).toNatClampNeg < 93) ∧ (if (mI S25 91 2) < ((mI S25 92 (mI S25 91 5).toNatClampNeg) + n) then (Q (.inl (some (.inl (-1 : Int32)))) (ma_put S25 91 5 (.inl (mI S25 91 5)))) else (ma_wp X (d - 1) (w - 20) 55 0 [(0, .inr (.inr (some 91)))] [] (ma_put S25 91 5 (.inl (mI S25 91 5))) (zi (fun v30 S29 => zT S29 ∧ (Q (.inl (some (.inl v30))) S29)) (fun x S9 => Q (.inr x) S9))))))) else (if v26 < 0 then (Q (.inl (some (.inl (-1 : Int32)))) (ma_put S25 91 5 (.inl v26))) else (if (93 : Int32) ≤ v26 then (Q (.inl (some (.inl (-1 : Int32)))) (ma_put S25 91 5 (.inl v26))) else ((0 ≤ v26 ∧ v26.toNatClampNeg < 93) ∧ (if (mI S25 91 2) < ((mI S25 92 v26.toNatClampNeg) + n) then (Q (.inl (some (.inl (-1 : Int32)))) (ma_put S25 91 5 (.inl v26))) else (ma_wp X (d - 1) (w - 20) 55 0 [(0, .inr (.inr (some 91)))] [] (ma_put S25 91 5 (.inl v26)) (zi (fun v28 S27 => zT S27 ∧ (Q (.inl (some (.inl v28))) S27)) (fun x S9 => Q (.inr x) S9))))))))) (fun x S9 => Q (.inr x) S9))) else (if (93 : Int32) ≤ (mI S23 91 5) then (ma_wp X (d - 1) (w - 21) 52 0 [(0, .inr (.inr (some 91)))] [] S23 (zi (fun v32 S31 => zT S31 ∧ (if v32 = (-1 : Int32) then (if (mI S31 91 5) < 0 then (Q (.inl (some (.inl (-1 : Int32)))) (ma_put S31 91 5 (.inl (mI S31 91 5)))) else (if (93 : Int32) ≤ (mI S31 91 5) then (Q (.inl (some (.inl (-1 : Int32)))) (ma_put S31 91 5 (.inl (mI S31 91 5)))) else ((0 ≤ (mI S31 91 5) ∧ (mI S31 91 5).toNatClampNeg < 93) ∧ (if (mI S31 91 2) < ((mI S31 92 (mI S31 91 5).toNatClampNeg) + n) then (Q (.inl (some (.inl (-1 : Int32)))) (ma_put S31 91 5 (.inl (mI S31 91 5)))) else (ma_wp X (d - 1) (w - 20) 55 0 [(0, .inr (.inr (some 91)))] [] (ma_put S31 91 5 (.inl (mI S31 91 5))) (zi (fun v36 S35 => zT S35 ∧ (Q (.inl (some (.inl v36))) S35)) (fun x S9 => Q (.inr x) S9))))))) else (if v32 < 0 then (Q (.inl (some (.inl (-1 : Int32)))) (ma_put S31 91 5 (.inl v32))) else (if (93 : Int32) ≤ v32 then (Q (.inl (some (.inl (-1 : Int32)))) (ma_put S31 91 5 (.inl v32))) else ((0 ≤ v32 ∧ v32.toNatClampNeg < 93) ∧ (if (mI S31 91 2) < ((mI S31 92 v32.toNatClampNeg) + n) then (Q (.inl (some (.inl (-1 : Int32)))) (ma_put S31 91 5 (.inl v32))) else (ma_wp X (d - 1) (w - 20) 55 0 [(0, .inr (.inr (some 91)))] [] (ma_put S31 91 5 (.inl v32)) (zi (fun v34 S33 => zT S33 ∧ (Q (.inl (some (.inl v34))) S33)) (fun x S9 => Q (.inr x) S9))))))))) (fun x S9 => Q (.inr x) S9))) else ((0 ≤ (mI S23 91 5) ∧ (mI S23 91 5).toNatClampNeg < 93) ∧ (if (mI S23 91 2) < ((mI S23 92 (mI S23 91 5).toNatClampNeg) + n) then (ma_wp X (d - 1) (w - 21) 52 0 [(0, .inr (.inr (some 91)))] [] S23 (zi (fun v38 S37 => zT S37 ∧ (if v38 = (-1 : Int32) then (if (mI S37 91 5) < 0 then (Q (.inl (some (.inl (-1 : Int32)))) (ma_put S37 91 5 (.inl (mI S37 91 5)))) else (if (93 : Int32) ≤ (mI S37 91 5) then (Q (.inl (some (.inl (-1 : Int32)))) (ma_put S37 91 5 (.inl (mI S37 91 5)))) else ((0 ≤ (mI S37 91 5) ∧ (mI S37 91 5).toNatClampNeg < 93) ∧ (if (mI S37 91 2) < ((mI S37 92 (mI S37 91 5).toNatClampNeg) + n) then (Q (.inl (some (.inl (-1 : Int32)))) (ma_put S37 91 5 (.inl (mI S37 91 5)))) else (ma_wp X (d - 1) (w - 20) 55 0 [(0, .inr (.inr (some 91)))] [] (ma_put S37 91 5 (.inl (mI S37 91 5))) (zi (fun v42 S41 => zT S41 ∧ (Q (.inl (some (.inl v42))) S41)) (fun x S9 => Q (.inr x) S9))))))) else (if v38 < 0 then (Q (.inl (some (.inl (-1 : Int32)))) (ma_put S37 91 5 (.inl v38))) else (if (93 : Int32) ≤ v38 then (Q (.inl (some (.inl (-1 : Int32)))) (ma_put S37 91 5 (.inl v38))) else ((0 ≤ v38 ∧ v38.toNatClampNeg < 93) ∧ (if (mI S37 91 2) < ((mI S37 92 v38.toNatClampNeg) + n) then (Q (.inl (some (.inl (-1 : Int32)))) (ma_put S37 91 5 (.inl v38))) else (ma_wp X (d - 1) (w - 20) 55 0 [(0, .inr (.inr (some 91)))] [] (ma_put S37 91 5 (.inl v38)) (zi (fun v40 S39 => zT S39 ∧ (Q (.inl (some (.inl v40))) S39)) (fun x S9 => Q (.inr x) S9))))))))) (fun x S9 => Q (.inr x) S9))) else (if (mI S23 91 5) < 0 then (Q (.inl (some (.inl (-1 : Int32)))) S23) else (if (93 : Int32) ≤ (mI S23 91 5) then (Q (.inl (some (.inl (-1 : Int32)))) S23) else ((0 ≤ (mI S23 91 5) ∧ (mI S23 91 5).toNatClampNeg < 93) ∧ (if (mI S23 91 2) < ((mI S23 92 (mI S23 91 5).toNatClampNeg) + n) then (Q (.inl (some (.inl (-1 : Int32)))) S23) else (ma_wp X (d - 1) (w - 20) 55 0 [(0, .inr (.inr (some 91)))] [] S23 (zi (fun v44 S43 => zT S43 ∧ (Q (.inl (some (.inl v44))) S43)) (fun x S9 => Q (.inr x) S9)))))))))))) (fun x S9 => Q (.inr x) S9))))) (fun x S9 => Q (.inr x) S9))) else (if (93 : Int32) ≤ (mI S 91 5) then (ma_wp X (d - 1) (w - 22) 42 0 [(0, .inr (.inr (some 91)))] [] S (zi (fun v46 S45 => zT S45 ∧ (if (2 : Int32) ≤ v46 then (if (mI S45 91 5) < 0 then (ma_wp X (d - 1) (w - 21) 52 0 [(0, .inr (.inr (some 91)))] [] S45 (zi (fun v48 S47 => zT S47 ∧ (if v48 = (-1 : Int32) then (if (mI S47 91 5) < 0 then (Q (.inl (some (.inl (-1 : Int32)))) (ma_put S47 91 5 (.inl (mI S47 91 5)))) else (if (93 : Int32) ≤ (mI S47 91 5) then (Q (.inl (some (.inl (-1 : Int32)))) (ma_put S47 91 5 (.inl (mI S47 91 5)))) else ((0 ≤ (mI S47 91 5) ∧ (mI S47 91 5).toNatClampNeg < 93) ∧ (if (mI S47 91 2) < ((mI S47 92 (mI S47 91 5).toNatClampNeg) + n) then (Q (.inl (some (.inl (-1 : Int32)))) (ma_put S47 91 5 (.inl (mI S47 91 5)))) else (ma_wp X (d - 1) (w - 20) 55 0 [(0, .inr (.inr (some 91)))] [] (ma_put S47 91 5 (.inl (mI S47 91 5))) (zi (fun v52 S51 => zT S51 ∧ (Q (.inl (some (.inl v52))) S51)) (fun x S9 => Q (.inr x) S9))))))) else (if v48 < 0 then (Q (.inl (some (.inl (-1 : Int32)))) (ma_put S47 91 5 (.inl v48))) else (if (93 : Int32) ≤ v48 then (Q (.inl (some (.inl (-1 : Int32)))) (ma_put S47 91 5 (.inl v48))) else ((0 ≤ v48 ∧ v48.toNatClampNeg < 93) ∧ (if (mI S47 91 2) < ((mI S47 92 v48.toNatClampNeg) + n) then (Q (.inl (some (.inl (-1 : Int32)))) (ma_put S47 91 5 (.inl v48))) else (ma_wp X (d - 1) (w - 20) 55 0 [(0, .inr (.inr (some 91)))] [] (ma_put S47 91 5 (.inl v48)) (zi (fun v50 S49 => zT S49 ∧ (Q (.inl (some (.inl v50))) S49)) (fun x S9 => Q (.inr x) S9))))))))) (fun x S9 => Q (.inr x) S9))) else (if (93 : Int32) ≤ (mI S45 91 5) then (ma_wp X (d - 1) (w - 21) 52 0 [(0, .inr (.inr (some 91)))] [] S45 (zi (fun v54 S53 => zT S53 ∧ (if v54 = (-1 : Int32) then (if (mI S53 91 5) < 0 then (Q (.inl (some (.inl (-1 : Int32)))) (ma_put S53 91 5 (.inl (mI S53 91 5)))) else (if (93 : Int32) ≤ (mI S53 91 5) then (Q (.inl (some (.inl (-1 : Int32)))) (ma_put S53 91 5 (.inl (mI S53 91 5)))) else ((0 ≤ (mI S53 91 5) ∧ (mI S53 91 5).toNatClampNeg < 93) ∧ (if (mI S53 91 2) < ((mI S53 92 (mI S53 91 5).toNatClampNeg) + n) then (Q (.inl (some (.inl (-1 : Int32)))) (ma_put S53 91 5 (.inl (mI S53 91 5)))) else (ma_wp X (d - 1) (w - 20) 55 0 [(0, .inr (.inr (some 91)))] [] (ma_put S53 91 5 (.inl (mI S53 91 5))) (zi (fun v58 S57 => zT S57 ∧ (Q (.inl (some (.inl v58))) S57)) (fun x S9 => Q (.inr x) S9))))))) else (if v54 < 0 then (Q (.inl (some (.inl (-1 : Int32)))) (ma_put S53 91 5 (.inl v54))) else (if (93 : Int32) ≤ v54 then (Q (.inl (some (.inl (-1 : Int32)))) (ma_put S53 91 5 (.inl v54))) else ((0 ≤ v54 ∧ v54.toNatClampNeg < 93) ∧ (if (mI S53 91 2) < ((mI S53 92 v54.toNatClampNeg) + n) then (Q (.inl (some (.inl (-1 : Int32)))) (ma_put S53 91 5 (.inl v54))) else (ma_wp X (d - 1) (w - 20) 55 0 [(0, .inr (.inr (some 91)))] [] (ma_put S53 91 5 (.inl v54)) (zi (fun v56 S55 => zT S55 ∧ (Q (.inl (some (.inl v56))) S55)) (fun x S9 => Q (.inr x) S9))))))))) (fun x S9 => Q (.inr x) S9))) else ((0 ≤ (mI S45 91 5) ∧ (mI S45 91 5).toNatClampNeg < 93) ∧ (if (mI S45 91 2) < ((mI S45 92 (mI S45 91 5).toNatClampNeg) + n) then (ma_wp X (d - 1) (w - 21) 52 0 [(0, .inr (.inr (some 91)))] [] S45 (zi (fun v60 S59 => zT S59 ∧ (if v60 = (-1 : Int32) then (if (mI S59 91 5) < 0 then (Q (.inl (some (.inl (-1 : Int32)))) (ma_put S59 91 5 (.inl (mI S59 91 5)))) else (if (93 : Int32) ≤ (mI S59 91 5) then (Q (.inl (some (.inl (-1 : Int32)))) (ma_put S59 91 5 (.inl (mI S59 91 5)))) else ((0 ≤ (mI S59 91 5) ∧ (mI S59 91 5).toNatClampNeg < 93) ∧ (if (mI S59 91 2) < ((mI S59 92 (mI S59 91 5).toNatClampNeg) + n) then (Q (.inl (some (.inl (-1 : Int32)))) (ma_put S59 91 5 (.inl (mI S59 91 5)))) else (ma_wp X (d - 1) (w - 20) 55 0 [(0, .inr (.inr (some 91)))] [] (ma_put S59 91 5 (.inl (mI S59 91 5))) (zi (fun v64 S63 => zT S63 ∧ (Q (.inl (some (.inl v64))) S63)) (fun x S9 => Q (.inr x) S9))))))) else (if v60 < 0 then (Q (.inl (some (.inl (-1 : Int32)))) (ma_put S59 91 5 (.inl v60))) else (if (93 : Int32) ≤ v60 then (Q (.inl (some (.inl (-1 : Int32)))) (ma_put S59 91 5 (.inl v60))) else ((0 ≤ v60 ∧ v60.toNatClampNeg < 93) ∧ (if (mI S59 91 2) < ((mI S59 92 v60.toNatClampNeg) + n) then (Q (.inl (some (.inl (-1 : Int32)))) (ma_put S59 91 5 (.inl v60))) else (ma_wp X (d - 1) (w - 20) 55 0 [(0, .inr (.inr (some 91)))] [] (ma_put S59 91 5 (.inl v60)) (zi (fun v62 S61 => zT S61 ∧ (Q (.inl (some (.inl v62))) S61)) (fun x S9 => Q (.inr x) S9))))))))) (fun x S9 => Q (.inr x) S9))) else (if (mI S45 91 5) < 0 then (Q (.inl (some (.inl (-1 : Int32)))) S45) else (if (93 : Int32) ≤ (mI S45 91 5) then (Q (.inl (some (.inl (-1 : Int32)))) S45) else ((0 ≤ (mI S45 91 5) ∧ (mI S45 91 5).toNatClampNeg < 93) ∧ (if (mI S45 91 2) < ((mI S45 92 (mI S45 91 5).toNatClampNeg) + n) then (Q (.inl (some (.inl (-1 : Int32)))) S45) else (ma_wp X (d - 1) (w - 20) 55 0 [(0, .inr (.inr (some 91)))] [] S45 (zi (fun v66 S65 => zT S65 ∧ (Q (.inl (some (.inl v66))) S65)) (fun x S9 => Q (.inr x) S9))))))))))) else (ma_wp X (d - 1) (w - 23) 43 0 [(0, .inr (.inr (some 91)))] [] S45 (zi (fun v68 S67 => zT S67 ∧ (if (mI S67 91 5) < 0 then (ma_wp X (d - 1) (w - 21) 52 0 [(0, .inr (.inr (some 91)))] [] S67 (zi (fun v70 S69 => zT S69 ∧ (if v70 = (-1 : Int32) then (if (mI S69 91 5) < 0 then (Q (.inl (some (.inl (-1 : Int32)))) (ma_put S69 91 5 (.inl (mI S69 91 5)))) else (if (93 : Int32) ≤ (mI S69 91 5) then (Q (.inl (some (.inl (-1 : Int32)))) (ma_put S69 91 5 (.inl (mI S69 91 5)))) else ((0 ≤ (mI S69 91 5) ∧ (mI S69 91 5).toNatClampNeg < 93) ∧ (if (mI S69 91 2) < ((mI S69 92 (mI S69 91 5).toNatClampNeg) + n) then (Q (.inl (some (.inl (-1 : Int32)))) (ma_put S69 91 5 (.inl (mI S69 91 5)))) else (ma_wp X (d - 1) (w - 20) 55 0 [(0, .inr (.inr (some 91)))] [] (ma_put S69 91 5 (.inl (mI S69 91 5))) (zi (fun v74 S73 => zT S73 ∧ (Q (.inl (some (.inl v74))) S73)) (fun x S9 => Q (.inr x) S9))))))) else (if v70 < 0 then (Q (.inl (some (.inl (-1 : Int32)))) (ma_put S69 91 5 (.inl v70))) else (if (93 : Int32) ≤ v70 then (Q (.inl (some (.inl (-1 : Int32)))) (ma_put S69 91 5 (.inl v70))) else ((0 ≤ v70 ∧ v70.toNatClampNeg < 93) ∧ (if (mI S69 91 2) < ((mI S69 92 v70.toNatClampNeg) + n) then (Q (.inl (some (.inl (-1 : Int32)))) (ma_put S69 91 5 (.inl v70))) else (ma_wp X (d - 1) (w - 20) 55 0 [(0, .inr (.inr (some 91)))] [] (ma_put S69 91 5 (.inl v70)) (zi (fun v72 S71 => zT S71 ∧ (Q (.inl (some (.inl v72))) S71)) (fun x S9 => Q (.inr x) S9))))))))) (fun x S9 => Q (.inr x) S9))) else (if (93 : Int32) ≤ (mI S67 91 5) then (ma_wp X (d - 1) (w - 21) 52 0 [(0, .inr (.inr (some 91)))] [] S67 (zi (fun v76 S75 => zT S75 ∧ (if v76 = (-1 : Int32) then (if (mI S75 91 5) < 0 then (Q (.inl (some (.inl (-1 : Int32)))) (ma_put S75 91 5 (.inl (mI S75 91 5)))) else (if (93 : Int32) ≤ (mI S75 91 5) then (Q (.inl (some (.inl (-1 : Int32)))) (ma_put S75 91 5 (.inl (mI S75 91 5)))) else ((0 ≤ (mI S75 91 5) ∧ (mI S75 91 5).toNatClampNeg < 93) ∧ (if (mI S75 91 2) < ((mI S75 92 (mI S75 91 5).toNatClampNeg) + n) then (Q (.inl (some (.inl (-1 : Int32)))) (ma_put S75 91 5 (.inl (mI S75 91 5)))) else (ma_wp X (d - 1) (w - 20) 55 0 [(0, .inr (.inr (some 91)))] [] (ma_put S75 91 5 (.inl (mI S75 91 5))) (zi (fun v80 S79 => zT S79 ∧ (Q (.inl (some (.inl v80))) S79)) (fun x S9 => Q (.inr x) S9))))))) else (if v76 < 0 then (Q (.inl (some (.inl (-1 : Int32)))) (ma_put S75 91 5 (.inl v76))) else (if (93 : Int32) ≤ v76 then (Q (.inl (some (.inl (-1 : Int32)))) (ma_put S75 91 5 (.inl v76))) else ((0 ≤ v76 ∧ v76.toNatClampNeg < 93) ∧ (if (mI S75 91 2) < ((mI S75 92 v76.toNatClampNeg) + n) then (Q (.inl (some (.inl (-1 : Int32)))) (ma_put S75 91 5 (.inl v76))) else (ma_wp X (d - 1) (w - 20) 55 0 [(0, .inr (.inr (some 91)))] [] (ma_put S75 91 5 (.inl v76)) (zi (fun v78 S77 => zT S77 ∧ (Q (.inl (some (.inl v78))) S77)) (fun x S9 => Q (.inr x) S9))))))))) (fun x S9 => Q (.inr x) S9))) else ((0 ≤ (mI S67 91 5) ∧ (mI S67 91 5).toNatClampNeg < 93) ∧ (if (mI S67 91 2) < ((mI S67 92 (mI S67 91 5).toNatClampNeg) + n) then (ma_wp X (d - 1) (w - 21) 52 0 [(0, .inr (.inr (some 91)))] [] S67 (zi (fun v82 S81 => zT S81 ∧ (if v82 = (-1 : Int32) then (if (mI S81 91 5) < 0 then (Q (.inl (some (.inl (-1 : Int32)))) (ma_put S81 91 5 (.inl (mI S81 91 5)))) else (if (93 : Int32) ≤ (mI S81 91 5) then (Q (.inl (some (.inl (-1 : Int32)))) (ma_put S81 91 5 (.inl (mI S81 91 5)))) else ((0 ≤ (mI S81 91 5) ∧ (mI S81 91 5).toNatClampNeg < 93) ∧ (if (mI S81 91 2) < ((mI S81 92 (mI S81 91 5).toNatClampNeg) + n) then (Q (.inl (some (.inl (-1 : Int32)))) (ma_put S81 91 5 (.inl (mI S81 91 5)))) else (ma_wp X (d - 1) (w - 20) 55 0 [(0, .inr (.inr (some 91)))] [] (ma_put S81 91 5 (.inl (mI S81 91 5))) (zi (fun v86 S85 => zT S85 ∧ (Q (.inl (some (.inl v86))) S85)) (fun x S9 => Q (.inr x) S9))))))) else (if v82 < 0 then (Q (.inl (some (.inl (-1 : Int32)))) (ma_put S81 91 5 (.inl v82))) else (if (93 : Int32) ≤ v82 then (Q (.inl (some (.inl (-1 : Int32)))) (ma_put S81 91 5 (.inl v82))) else ((0 ≤ v82 ∧ v82.toNatClampNeg < 93) ∧ (if (mI S81 91 2) < ((mI S81 92 v82.toNatClampNeg) + n) then (Q (.inl (some (.inl (-1 : Int32)))) (ma_put S81 91 5 (.inl v82))) else (ma_wp X (d - 1) (w - 20) 55 0 [(0, .inr (.inr (some 91)))] [] (ma_put S81 91 5 (.inl v82)) (zi (fun v84 S83 => zT S83 ∧ (Q (.inl (some (.inl v84))) S83)) (fun x S9 => Q (.inr x) S9))))))))) (fun x S9 => Q (.inr x) S9))) else (if (mI S67 91 5) < 0 then (Q (.inl (some (.inl (-1 : Int32)))) S67) else (if (93 : Int32) ≤ (mI S67 91 5) then (Q (.inl (some (.inl (-1 : Int32)))) S67) else ((0 ≤ (mI S67 91 5) ∧ (mI S67 91 5).toNatClampNeg < 93) ∧ (if (mI S67 91 2) < ((mI S67 92 (mI S67 91 5).toNatClampNeg) + n) then (Q (.inl (some (.inl (-1 : Int32)))) S67) else (ma_wp X (d - 1) (w - 20) 55 0 [(0, .inr (.inr (some 91)))] [] S67 (zi (fun v88 S87 => zT S87 ∧ (Q (.inl (some (.inl v88))) S87)) (fun x S9 => Q (.inr x) S9)))))))))))) (fun x S9 => Q (.inr x) S9))))) (fun x S9 => Q (.inr x) S9))) else ((0 ≤ (mI S 91 5) ∧ (mI S 91 5).toNatClampNeg < 93) ∧ (if (mI S 91 2) < ((mI S 92 (mI S 91 5).toNatClampNeg) + n) then (ma_wp X (d - 1) (w - 22) 42 0 [(0, .inr (.inr (some 91)))] [] S (zi (fun v90 S89 => zT S89 ∧ (if (2 : Int32) ≤ v90 then (if (mI S89 91 5) < 0 then (ma_wp X (d - 1) (w - 21) 52 0 [(0, .inr (.inr (some 91)))] [] S89 (zi (fun v92 S91 => zT S91 ∧ (if v92 = (-1 : Int32) then (if (mI S91 91 5) < 0 then (Q (.inl (some (.inl (-1 : Int32)))) (ma_put S91 91 5 (.inl (mI S91 91 5)))) else (if (93 : Int32) ≤ (mI S91 91 5) then (Q (.inl (some (.inl (-1 : Int32)))) (ma_put S91 91 5 (.inl (mI S91 91 5)))) else ((0 ≤ (mI S91 91 5) ∧ (mI S91 91 5).toNatClampNeg < 93) ∧ (if (mI S91 91 2) < ((mI S91 92 (mI S91 91 5).toNatClampNeg) + n) then (Q (.inl (some (.inl (-1 : Int32)))) (ma_put S91 91 5 (.inl (mI S91 91 5)))) else (ma_wp X (d - 1) (w - 20) 55 0 [(0, .inr (.inr (some 91)))] [] (ma_put S91 91 5 (.inl (mI S91 91 5))) (zi (fun v96 S95 => zT S95 ∧ (Q (.inl (some (.inl v96))) S95)) (fun x S9 => Q (.inr x) S9))))))) else (if v92 < 0 then (Q (.inl (some (.inl (-1 : Int32)))) (ma_put S91 91 5 (.inl v92))) else (if (93 : Int32) ≤ v92 then (Q (.inl (some (.inl (-1 : Int32)))) (ma_put S91 91 5 (.inl v92))) else ((0 ≤ v92 ∧ v92.toNatClampNeg < 93) ∧ (if (mI S91 91 2) < ((mI S91 92 v92.toNatClampNeg) + n) then (Q (.inl (some (.inl (-1 : Int32)))) (ma_put S91 91 5 (.inl v92))) else (ma_wp X (d - 1) (w - 20) 55 0 [(0, .inr (.inr (some 91)))] [] (ma_put S91 91 5 (.inl v92)) (zi (fun v94 S93 => zT S93 ∧ (Q (.inl (some (.inl v94))) S93)) (fun x S9 => Q (.inr x) S9))))))))) (fun x S9 => Q (.inr x) S9))) else (if (93 : Int32) ≤ (mI S89 91 5) then (ma_wp X (d - 1) (w - 21) 52 0 [(0, .inr (.inr (some 91)))] [] S89 (zi (fun v98 S97 => zT S97 ∧ (if v98 = (-1 : Int32) then (if (mI S97 91 5) < 0 then (Q (.inl (some (.inl (-1 : Int32)))) (ma_put S97 91 5 (.inl (mI S97 91 5)))) else (if (93 : Int32) ≤ (mI S97 91 5) then (Q (.inl (some (.inl (-1 : Int32)))) (ma_put S97 91 5 (.inl (mI S97 91 5)))) else ((0 ≤ (mI S97 91 5) ∧ (mI S97 91 5).toNatClampNeg < 93) ∧ (if (mI S97 91 2) < ((mI S97 92 (mI S97 91 5).toNatClampNeg) + n) then (Q (.inl (some (.inl (-1 : Int32)))) (ma_put S97 91 5 (.inl (mI S97 91 5)))) else (ma_wp X (d - 1) (w - 20) 55 0 [(0, .inr (.inr (some 91)))] [] (ma_put S97 91 5 (.inl (mI S97 91 5))) (zi (fun v102 S101 => zT S101 ∧ (Q (.inl (some (.inl v102))) S101)) (fun x S9 => Q (.inr x) S9))))))) else (if v98 < 0 then (Q (.inl (some (.inl (-1 : Int32)))) (ma_put S97 91 5 (.inl v98))) else (if (93 : Int32) ≤ v98 then (Q (.inl (some (.inl (-1 : Int32)))) (ma_put S97 91 5 (.inl v98))) else ((0 ≤ v98 ∧ v98.toNatClampNeg < 93) ∧ (if (mI S97 91 2) < ((mI S97 92 v98.toNatClampNeg) + n) then (Q (.inl (some (.inl (-1 : Int32)))) (ma_put S97 91 5 (.inl v98))) else (ma_wp X (d - 1) (w - 20) 55 0 [(0, .inr (.inr (some 91)))] [] (ma_put S97 91 5 (.inl v98)) (zi (fun v100 S99 => zT S99 ∧ (Q (.inl (some (.inl v100))) S99)) (fun x S9 => Q (.inr x) S9))))))))) (fun x S9 => Q (.inr x) S9))) else ((0 ≤ (mI S89 91 5) ∧ (mI S89 91 5).toNatClampNeg < 93) ∧ (if (mI S89 91 2) < ((mI S89 92 (mI S89 91 5).toNatClampNeg) + n) then (ma_wp X (d - 1) (w - 21) 52 0 [(0, .inr (.inr (some 91)))] [] S89 (zi (fun v104 S103 => zT S103 ∧ (if v104 = (-1 : Int32) then (if (mI S103 91 5) < 0 then (Q (.inl (some (.inl (-1 : Int32)))) (ma_put S103 91 5 (.inl (mI S103 91 5)))) else (if (93 : Int32) ≤ (mI S103 91 5) then (Q (.inl (some (.inl (-1 : Int32)))) (ma_put S103 91 5 (.inl (mI S103 91 5)))) else ((0 ≤ (mI S103 91 5) ∧ (mI S103 91 5).toNatClampNeg < 93) ∧ (if (mI S103 91 2) < ((mI S103 92 (mI S103 91 5).toNatClampNeg) + n) then (Q (.inl (some (.inl (-1 : Int32)))) (ma_put S103 91 5 (.inl (mI S103 91 5)))) else (ma_wp X (d - 1) (w - 20) 55 0 [(0, .inr (.inr (some 91)))] [] (ma_put S103 91 5 (.inl (mI S103 91 5))) (zi (fun v108 S107 => zT S107 ∧ (Q (.inl (some (.inl v108))) S107)) (fun x S9 => Q (.inr x) S9))))))) else (if v104 < 0 then (Q (.inl (some (.inl (-1 : Int32)))) (ma_put S103 91 5 (.inl v104))) else (if (93 : Int32) ≤ v104 then (Q (.inl (some (.inl (-1 : Int32)))) (ma_put S103 91 5 (.inl v104))) else ((0 ≤ v104 ∧ v104.toNatClampNeg < 93) ∧ (if (mI S103 91 2) < ((mI S103 92 v104.toNatClampNeg) + n) then (Q (.inl (some (.inl (-1 : Int32)))) (ma_put S103 91 5 (.inl v104))) else (ma_wp X (d - 1) (w - 20) 55 0 [(0, .inr (.inr (some 91)))] [] (ma_put S103 91 5 (.inl v104)) (zi (fun v106 S105 => zT S105 ∧ (Q (.inl (some (.inl v106))) S105)) (fun x S9 => Q (.inr x) S9))))))))) (fun x S9 => Q (.inr x) S9))) else (if (mI S89 91 5) < 0 then (Q (.inl (some (.inl (-1 : Int32)))) S89) else (if (93 : Int32) ≤ (mI S89 91 5) then (Q (.inl (some (.inl (-1 : Int32)))) S89) else ((0 ≤ (mI S89 91 5) ∧ (mI S89 91 5).toNatClampNeg < 93) ∧ (if (mI S89 91 2) < ((mI S89 92 (mI S89 91 5).toNatClampNeg) + n) then (Q (.inl (some (.inl (-1 : Int32)))) S89) else (ma_wp X (d - 1) (w - 20) 55 0 [(0, .inr (.inr (some 91)))] [] S89 (zi (fun v110 S109 => zT S109 ∧ (Q (.inl (some (.inl v110))) S109)) (fun x S9 => Q (.inr x) S9))))))))))) else (ma_wp X (d - 1) (w - 23) 43 0 [(0, .inr (.inr (some 91)))] [] S89 (zi (fun v112 S111 => zT S111 ∧ (if (mI S111 91 5) < 0 then (ma_wp X (d - 1) (w - 21) 52 0 [(0, .inr (.inr (some 91)))] [] S111 (zi (fun v114 S113 => zT S113 ∧ (if v114 = (-1 : Int32) then (if (mI S113 91 5) < 0 then (Q (.inl (some (.inl (-1 : Int32)))) (ma_put S113 91 5 (.inl (mI S113 91 5)))) else (if (93 : Int32) ≤ (mI S113 91 5) then (Q (.inl (some (.inl (-1 : Int32)))) (ma_put S113 91 5 (.inl (mI S113 91 5)))) else ((0 ≤ (mI S113 91 5) ∧ (mI S113 91 5).toNatClampNeg < 93) ∧ (if (mI S113 91 2) < ((mI S113 92 (mI S113 91 5).toNatClampNeg) + n) then (Q (.inl (some (.inl (-1 : Int32)))) (ma_put S113 91 5 (.inl (mI S113 91 5)))) else (ma_wp X (d - 1) (w - 20) 55 0 [(0, .inr (.inr (some 91)))] [] (ma_put S113 91 5 (.inl (mI S113 91 5))) (zi (fun v118 S117 => zT S117 ∧ (Q (.inl (some (.inl v118))) S117)) (fun x S9 => Q (.inr x) S9))))))) else (if v114 < 0 then (Q (.inl (some (.inl (-1 : Int32)))) (ma_put S113 91 5 (.inl v114))) else (if (93 : Int32) ≤ v114 then (Q (.inl (some (.inl (-1 : Int32)))) (ma_put S113 91 5 (.inl v114))) else ((0 ≤ v114 ∧ v114.toNatClampNeg < 93) ∧ (if (mI S113 91 2) < ((mI S113 92 v114.toNatClampNeg) + n) then (Q (.inl (some (.inl (-1 : Int32)))) (ma_put S113 91 5 (.inl v114))) else (ma_wp X (d - 1) (w - 20) 55 0 [(0, .inr (.inr (some 91)))] [] (ma_put S113 91 5 (.inl v114)) (zi (fun v116 S115 => zT S115 ∧ (Q (.inl (some (.inl v116))) S115)) (fun x S9 => Q (.inr x) S9))))))))) (fun x S9 => Q (.inr x) S9))) else (if (93 : Int32) ≤ (mI S111 91 5) then (ma_wp X (d - 1) (w - 21) 52 0 [(0, .inr (.inr (some 91)))] [] S111 (zi (fun v120 S119 => zT S119 ∧ (if v120 = (-1 : Int32) then (if (mI S119 91 5) < 0 then (Q (.inl (some (.inl (-1 : Int32)))) (ma_put S119 91 5 (.inl (mI S119 91 5)))) else (if (93 : Int32) ≤ (mI S119 91 5) then (Q (.inl (some (.inl (-1 : Int32)))) (ma_put S119 91 5 (.inl (mI S119 91 5)))) else ((0 ≤ (mI S119 91 5) ∧ (mI S119 91 5).toNatClampNeg < 93) ∧ (if (mI S119 91 2) < ((mI S119 92 (mI S119 91 5).toNatClampNeg) + n) then (Q (.inl (some (.inl (-1 : Int32)))) (ma_put S119 91 5 (.inl (mI S119 91 5)))) else (ma_wp X (d - 1) (w - 20) 55 0 [(0, .inr (.inr (some 91)))] [] (ma_put S119 91 5 (.inl (mI S119 91 5))) (zi (fun v124 S123 => zT S123 ∧ (Q (.inl (some (.inl v124))) S123)) (fun x S9 => Q (.inr x) S9))))))) else (if v120 < 0 then (Q (.inl (some (.inl (-1 : Int32)))) (ma_put S119 91 5 (.inl v120))) else (if (93 : Int32) ≤ v120 then (Q (.inl (some (.inl (-1 : Int32)))) (ma_put S119 91 5 (.inl v120))) else ((0 ≤ v120 ∧ v120.toNatClampNeg < 93) ∧ (if (mI S119 91 2) < ((mI S119 92 v120.toNatClampNeg) + n) then (Q (.inl (some (.inl (-1 : Int32)))) (ma_put S119 91 5 (.inl v120))) else (ma_wp X (d - 1) (w - 20) 55 0 [(0, .inr (.inr (some 91)))] [] (ma_put S119 91 5 (.inl v120)) (zi (fun v122 S121 => zT S121 ∧ (Q (.inl (some (.inl v122))) S121)) (fun x S9 => Q (.inr x) S9))))))))) (fun x S9 => Q (.inr x) S9))) else ((0 ≤ (mI S111 91 5) ∧ (mI S111 91 5).toNatClampNeg < 93) ∧ (if (mI S111 91 2) < ((mI S111 92 (mI S111 91 5).toNatClampNeg) + n) then (ma_wp X (d - 1) (w - 21) 52 0 [(0, .inr (.inr (some 91)))] [] S111 (zi (fun v126 S125 => zT S125 ∧ (if v126 = (-1 : Int32) then (if (mI S125 91 5) < 0 then (Q (.inl (some (.inl (-1 : Int32)))) (ma_put S125 91 5 (.inl (mI S125 91 5)))) else (if (93 : Int32) ≤ (mI S125 91 5) then (Q (.inl (some (.inl (-1 : Int32)))) (ma_put S125 91 5 (.inl (mI S125 91 5)))) else ((0 ≤ (mI S125 91 5) ∧ (mI S125 91 5).toNatClampNeg < 93) ∧ (if (mI S125 91 2) < ((mI S125 92 (mI S125 91 5).toNatClampNeg) + n) then (Q (.inl (some (.inl (-1 : Int32)))) (ma_put S125 91 5 (.inl (mI S125 91 5)))) else (ma_wp X (d - 1) (w - 20) 55 0 [(0, .inr (.inr (some 91)))] [] (ma_put S125 91 5 (.inl (mI S125 91 5))) (zi (fun v130 S129 => zT S129 ∧ (Q (.inl (some (.inl v130))) S129)) (fun x S9 => Q (.inr x) S9))))))) else (if v126 < 0 then (Q (.inl (some (.inl (-1 : Int32)))) (ma_put S125 91 5 (.inl v126))) else (if (93 : Int32) ≤ v126 then (Q (.inl (some (.inl (-1 : Int32)))) (ma_put S125 91 5 (.inl v126))) else ((0 ≤ v126 ∧ v126.toNatClampNeg < 93) ∧ (if (mI S125 91 2) < ((mI S125 92 v126.toNatClampNeg) + n) then (Q (.inl (some (.inl (-1 : Int32)))) (ma_put S125 91 5 (.inl v126))) else (ma_wp X (d - 1) (w - 20) 55 0 [(0, .inr (.inr (some 91)))] [] (ma_put S125 91 5 (.inl v126)) (zi (fun v128 S127 => zT S127 ∧ (Q (.inl (some (.inl v128))) S127)) (fun x S9 => Q (.inr x) S9))))))))) (fun x S9 => Q (.inr x) S9))) else (if (mI S111 91 5) < 0 then (Q (.inl (some (.inl (-1 : Int32)))) S111) else (if (93 : Int32) ≤ (mI S111 91 5) then (Q (.inl (some (.inl (-1 : Int32)))) S111) else ((0 ≤ (mI S111 91 5) ∧ (mI S111 91 5).toNatClampNeg < 93) ∧ (if (mI S111 91 2) < ((mI S111 92 (mI S111 91 5).toNatClampNeg) + n) then (Q (.inl (some (.inl (-1 : Int32)))) S111) else (ma_wp X (d - 1) (w - 20) 55 0 [(0, .inr (.inr (some 91)))] [] S111 (zi (fun v132 S131 => zT S131 ∧ (Q (.inl (some (.inl v132))) S131)) (fun x S9 => Q (.inr x) S9)))))))))))) (fun x S9 => Q (.inr x) S9))))) (fun x S9 => Q (.inr x) S9))) else (if (mI S 91 5) < 0 then (ma_wp X (d - 1) (w - 21) 52 0 [(0, .inr (.inr (some 91)))] [] S (zi (fun v134 S133 => zT S133 ∧ (if v134 = (-1 : Int32) then (if (mI S133 91 5) < 0 then (Q (.inl (some (.inl (-1 : Int32)))) (ma_put S133 91 5 (.inl (mI S133 91 5)))) else (if (93 : Int32) ≤ (mI S133 91 5) then (Q (.inl (some (.inl (-1 : Int32)))) (ma_put S133 91 5 (.inl (mI S133 91 5)))) else ((0 ≤ (mI S133 91 5) ∧ (mI S133 91 5).toNatClampNeg < 93) ∧ (if (mI S133 91 2) < ((mI S133 92 (mI S133 91 5).toNatClampNeg) + n) then (Q (.inl (some (.inl (-1 : Int32)))) (ma_put S133 91 5 (.inl (mI S133 91 5)))) else (ma_wp X (d - 1) (w - 20) 55 0 [(0, .inr (.inr (some 91)))] [] (ma_put S133 91 5 (.inl (mI S133 91 5))) (zi (fun v138 S137 => zT S137 ∧ (Q (.inl (some (.inl v138))) S137)) (fun x S9 => Q (.inr x) S9))))))) else (if v134 < 0 then (Q (.inl (some (.inl (-1 : Int32)))) (ma_put S133 91 5 (.inl v134))) else (if (93 : Int32) ≤ v134 then (Q (.inl (some (.inl (-1 : Int32)))) (ma_put S133 91 5 (.inl v134))) else ((0 ≤ v134 ∧ v134.toNatClampNeg < 93) ∧ (if (mI S133 91 2) < ((mI S133 92 v134.toNatClampNeg) + n) then (Q (.inl (some (.inl (-1 : Int32)))) (ma_put S133 91 5 (.inl v134))) else (ma_wp X (d - 1) (w - 20) 55 0 [(0, .inr (.inr (some 91)))] [] (ma_put S133 91 5 (.inl v134)) (zi (fun v136 S135 => zT S135 ∧ (Q (.inl (some (.inl v136))) S135)) (fun x S9 => Q (.inr x) S9))))))))) (fun x S9 => Q (.inr x) S9))) else (if (93 : Int32) ≤ (mI S 91 5) then (ma_wp X (d - 1) (w - 21) 52 0 [(0, .inr (.inr (some 91)))] [] S (zi (fun v140 S139 => zT S139 ∧ (if v140 = (-1 : Int32) then (if (mI S139 91 5) < 0 then (Q (.inl (some (.inl (-1 : Int32)))) (ma_put S139 91 5 (.inl (mI S139 91 5)))) else (if (93 : Int32) ≤ (mI S139 91 5) then (Q (.inl (some (.inl (-1 : Int32)))) (ma_put S139 91 5 (.inl (mI S139 91 5)))) else ((0 ≤ (mI S139 91 5) ∧ (mI S139 91 5).toNatClampNeg < 93) ∧ (if (mI S139 91 2) < ((mI S139 92 (mI S139 91 5).toNatClampNeg) + n) then (Q (.inl (some (.inl (-1 : Int32)))) (ma_put S139 91 5 (.inl (mI S139 91 5)))) else (ma_wp X (d - 1) (w - 20) 55 0 [(0, .inr (.inr (some 91)))] [] (ma_put S139 91 5 (.inl (mI S139 91 5))) (zi (fun v144 S143 => zT S143 ∧ (Q (.inl (some (.inl v144))) S143)) (fun x S9 => Q (.inr x) S9))))))) else (if v140 < 0 then (Q (.inl (some (.inl (-1 : Int32)))) (ma_put S139 91 5 (.inl v140))) else (if (93 : Int32) ≤ v140 then (Q (.inl (some (.inl (-1 : Int32)))) (ma_put S139 91 5 (.inl v140))) else ((0 ≤ v140 ∧ v140.toNatClampNeg < 93) ∧ (if (mI S139 91 2) < ((mI S139 92 v140.toNatClampNeg) + n) then (Q (.inl (some (.inl (-1 : Int32)))) (ma_put S139 91 5 (.inl v140))) else (ma_wp X (d - 1) (w - 20) 55 0 [(0, .inr (.inr (some 91)))] [] (ma_put S139 91 5 (.inl v140)) (zi (fun v142 S141 => zT S141 ∧ (Q (.inl (some (.inl v142))) S141)) (fun x S9 => Q (.inr x) S9))))))))) (fun x S9 => Q (.inr x) S9))) else ((0 ≤ (mI S 91 5) ∧ (mI S 91 5).toNatClampNeg < 93) ∧ (if (mI S 91 2) < ((mI S 92 (mI S 91 5).toNatClampNeg) + n) then (ma_wp X (d - 1) (w - 21) 52 0 [(0, .inr (.inr (some 91)))] [] S (zi (fun v146 S145 => zT S145 ∧ (if v146 = (-1 : Int32) then (if (mI S145 91 5) < 0 then (Q (.inl (some (.inl (-1 : Int32)))) (ma_put S145 91 5 (.inl (mI S145 91 5)))) else (if (93 : Int32) ≤ (mI S145 91 5) then (Q (.inl (some (.inl (-1 : Int32)))) (ma_put S145 91 5 (.inl (mI S145 91 5)))) else ((0 ≤ (mI S145 91 5) ∧ (mI S145 91 5).toNatClampNeg < 93) ∧ (if (mI S145 91 2) < ((mI S145 92 (mI S145 91 5).toNatClampNeg) + n) then (Q (.inl (some (.inl (-1 : Int32)))) (ma_put S145 91 5 (.inl (mI S145 91 5)))) else (ma_wp X (d - 1) (w - 20) 55 0 [(0, .inr (.inr (some 91)))] [] (ma_put S145 91 5 (.inl (mI S145 91 5))) (zi (fun v150 S149 => zT S149 ∧ (Q (.inl (some (.inl v150))) S149)) (fun x S9 => Q (.inr x) S9))))))) else (if v146 < 0 then (Q (.inl (some (.inl (-1 : Int32)))) (ma_put S145 91 5 (.inl v146))) else (if (93 : Int32) ≤ v146 then (Q (.inl (some (.inl (-1 : Int32)))) (ma_put S145 91 5 (.inl v146))) else ((0 ≤ v146 ∧ v146.toNatClampNeg < 93) ∧ (if (mI S145 91 2) < ((mI S145 92 v146.toNatClampNeg) + n) then (Q (.inl (some (.inl (-1 : Int32)))) (ma_put S145 91 5 (.inl v146))) else (ma_wp X (d - 1) (w - 20) 55 0 [(0, .inr (.inr (some 91)))] [] (ma_put S145 91 5 (.inl v146)) (zi (fun v148 S147 => zT S147 ∧ (Q (.inl (some (.inl v148))) S147)) (fun x S9 => Q (.inr x) S9))))))))) (fun x S9 => Q (.inr x) S9))) else (if (mI S 91 5) < 0 then (Q (.inl (some (.inl (-1 : Int32)))) S) else (if (93 : Int32) ≤ (mI S 91 5) then (Q (.inl (some (.inl (-1 : Int32)))) S) else ((0 ≤ (mI S 91 5) ∧ (mI S 91 5).toNatClampNeg < 93) ∧ (if (mI S 91 2) < ((mI S 92 (mI S 91 5).toNatClampNeg) + n) then (Q (.inl (some (.inl (-1 : Int32)))) S) else (ma_wp X (d - 1) (w - 20) 55 0 [(0, .inr (.inr (some 91)))] [] S (zi (fun v152 S151 => zT S151 ∧ (Q (.inl (some (.inl v152))) S151)) (fun x S9 => Q (.inr x) S9))))))))))))))) else (Q (.inl (some (.inl (-1 : Int32)))) S)) : ma_wp X d w 40 0 [(0, .inr (.inr (some 91))), (1, .inl n)] [] S Q := by
  refine zw_push hm_40 dX4_findRoom_0 (v := .inl n) rfl ?_
  refine zw_push hm_40 dX4_findRoom_1 (v := .inr (.inr (some 91))) rfl ?_
  refine zw_gf hm_40 dX4_findRoom_2 (v := .inl (mI S 91 2)) (zT_is hS s_91) (zT_t hS s_91) rfl f_4_18_4 rfl ?_
  refine zw_if2 hm_40 dX4_findRoom_5 (t := 10) rfl zc2_le ?_ ?_
  · intro hc
    rw [if_pos hc] at h
    refine zw_push hm_40 dX4_findRoom_10 (v := .inr (.inr (some 91))) rfl ?_
    refine zw_push hm_40 dX4_findRoom_11 (v := .inr (.inr (some 91))) rfl ?_
    refine zw_gf hm_40 dX4_findRoom_12 (v := .inl (mI S 91 5)) (zT_is hS s_91) (zT_t hS s_91) rfl f_4_34_4 rfl ?_
    refine zw_push hm_40 dX4_findRoom_15 (v := .inl n) rfl ?_
    refine zw_cv hm_40 dX4_findRoom_16 v_4_43_4 hm_41 [.inl n, .inl (mI S 91 5)] [] rfl (zT_rt hS s_91 rfl) ⟨by omega, by omega⟩ rfl ?_
    show ma_wp X (d - 1) (w - 22) 41 0 [(0, .inr (.inr (some 91))), (1, .inl (mI S 91 5)), (2, .inl n)] [] S _
    refine zw_push hm_41 dX4_fits_0 (v := .inl (mI S 91 5)) rfl ?_
    refine zw_if0 hm_41 dX4_fits_1 (t := 29) rfl zc0_lt ?_ ?_
    · intro hc
      rw [if_pos hc] at h
      refine zw_push hm_41 dX4_fits_29 (v := .inl (0 : Int32)) rfl ?_
      refine zw_bret hm_41 dX4_fits_30 (by decide) ?_
      show ma_wp X d w 40 19 [(0, .inr (.inr (some 91))), (1, .inl n)] [.inl (0 : Int32)] S _
      refine zw_if0 hm_40 dX4_findRoom_19 (t := 35) rfl zc0_ne (fun hc => absurd hc (by decide)) (fun _ => ?_)
      refine zw_push hm_40 dX4_findRoom_22 (v := .inr (.inr (some 91))) rfl ?_
      refine zw_cv hm_40 dX4_findRoom_23 v_4_47_4 hm_42 [] [] rfl (zT_rt hS s_91 rfl) ⟨by omega, by omega⟩ rfl (zw_mono h (zi_go ?_ ?_))
      · intro v2 S1 hv
        obtain ⟨hS1, h⟩ := hv
        refine zw_push hm_40 dX4_findRoom_26 (v := .inl (2 : Int32)) rfl ?_
        refine zw_if2 hm_40 dX4_findRoom_27 (t := 35) rfl zc2_ge ?_ ?_
        · intro hc
          rw [if_pos hc] at h
          refine zw_push hm_40 dX4_findRoom_35 (v := .inr (.inr (some 91))) rfl ?_
          refine zw_push hm_40 dX4_findRoom_36 (v := .inr (.inr (some 91))) rfl ?_
          refine zw_gf hm_40 dX4_findRoom_37 (v := .inl (mI S1 91 5)) (zT_is hS1 s_91) (zT_t hS1 s_91) rfl f_4_34_4 rfl ?_
          refine zw_push hm_40 dX4_findRoom_40 (v := .inl n) rfl ?_
          refine zw_cv hm_40 dX4_findRoom_41 v_4_43_4 hm_41 [.inl n, .inl (mI S1 91 5)] [] rfl (zT_rt hS1 s_91 rfl) ⟨by omega, by omega⟩ rfl ?_
          show ma_wp X (d - 1) (w - 22) 41 0 [(0, .inr (.inr (some 91))), (1, .inl (mI S1 91 5)), (2, .inl n)] [] S1 _
          refine zw_push hm_41 dX4_fits_0 (v := .inl (mI S1 91 5)) rfl ?_
          refine zw_if0 hm_41 dX4_fits_1 (t := 29) rfl zc0_lt ?_ ?_
          · intro hc
            rw [if_pos hc] at h
            refine zw_push hm_41 dX4_fits_29 (v := .inl (0 : Int32)) rfl ?_
            refine zw_bret hm_41 dX4_fits_30 (by decide) ?_
            show ma_wp X d w 40 44 [(0, .inr (.inr (some 91))), (1, .inl n)] [.inl (0 : Int32)] S1 _
            refine zw_if0 hm_40 dX4_findRoom_44 (t := 62) rfl zc0_ne (fun hc => absurd hc (by decide)) (fun _ => ?_)
            refine zw_push hm_40 dX4_findRoom_47 (v := .inr (.inr (some 91))) rfl ?_
            refine zw_push hm_40 dX4_findRoom_48 (v := .inr (.inr (some 91))) rfl ?_
            refine zw_cv hm_40 dX4_findRoom_49 v_4_54_4 hm_52 [] [.inr (.inr (some 91))] rfl (zT_rt hS1 s_91 rfl) ⟨by omega, by omega⟩ rfl (zw_mono h (zi_go ?_ ?_))
            · intro v4 S3 hv
              obtain ⟨hS3, h⟩ := hv
              refine zw_push hm_40 dX4_findRoom_52 (v := .inr (.inr (some 91))) rfl ?_
              refine zw_gf hm_40 dX4_findRoom_53 (v := .inl (mI S3 91 5)) (zT_is hS3 s_91) (zT_t hS3 s_91) rfl f_4_34_4 rfl ?_
              refine zw_cs hm_40 dX4_findRoom_56 pn_4_57 sl_4_57 hm_54 [.inl (mI S3 91 5), .inl v4] [.inr (.inr (some 91))] rfl ⟨by omega, by omega⟩ rfl ?_
              show ma_wp X (d - 1) (w - 21) 54 0 [(0, .inl v4), (1, .inl (mI S3 91 5))] [] S3 _
              refine zw_push hm_54 dX4_orElse_0 (v := .inl v4) rfl ?_
              refine zw_push hm_54 dX4_orElse_1 (v := .inl (-1 : Int32)) rfl ?_
              refine zw_if2 hm_54 dX4_orElse_2 (t := 9) rfl zc2_ne ?_ ?_
              · intro hc
                rw [if_neg hc] at h
                refine zw_push hm_54 dX4_orElse_9 (v := .inl v4) rfl ?_
                refine zw_iret hm_54 dX4_orElse_10 ?_
                show ma_wp X d w 40 59 [(0, .inr (.inr (some 91))), (1, .inl n)] [.inl v4, .inr (.inr (some 91))] S3 _
                refine zw_pf hm_40 dX4_findRoom_59 (zT_is hS3 s_91) (zT_t hS3 s_91) p_4_34_4 zk_int ?_
                refine zw_push hm_40 dX4_findRoom_62 (v := .inr (.inr (some 91))) rfl ?_
                refine zw_push hm_40 dX4_findRoom_63 (v := .inr (.inr (some 91))) rfl ?_
                refine zw_gf hm_40 dX4_findRoom_64 (v := .inl v4) (zT_is (zT_pi hS3) s_91) (zT_t (zT_pi hS3) s_91) rfl f_4_34_4 rfl ?_
                refine zw_push hm_40 dX4_findRoom_67 (v := .inl n) rfl ?_
                refine zw_cv hm_40 dX4_findRoom_68 v_4_43_4 hm_41 [.inl n, .inl v4] [] rfl (zT_rt (zT_pi hS3) s_91 rfl) ⟨by omega, by omega⟩ rfl ?_
                show ma_wp X (d - 1) (w - 22) 41 0 [(0, .inr (.inr (some 91))), (1, .inl v4), (2, .inl n)] [] (ma_put S3 91 5 (.inl v4)) _
                refine zw_push hm_41 dX4_fits_0 (v := .inl v4) rfl ?_
                refine zw_if0 hm_41 dX4_fits_1 (t := 29) rfl zc0_lt ?_ ?_
                · intro hc
                  rw [if_pos hc] at h
                  refine zw_push hm_41 dX4_fits_29 (v := .inl (0 : Int32)) rfl ?_
                  refine zw_bret hm_41 dX4_fits_30 (by decide) ?_
                  show ma_wp X d w 40 71 [(0, .inr (.inr (some 91))), (1, .inl n)] [.inl (0 : Int32)] (ma_put S3 91 5 (.inl v4)) _
                  refine zw_if0 hm_40 dX4_findRoom_71 (t := 81) rfl zc0_eq (fun _ => ?_) (fun hc => absurd (by decide) hc)
                  refine zw_push hm_40 dX4_findRoom_81 (v := .inl (-1 : Int32)) rfl ?_
                  exact zw_iret hm_40 dX4_findRoom_82 h
                · intro hc
                  rw [if_neg hc] at h
                  refine zw_push hm_41 dX4_fits_4 (v := .inl v4) rfl ?_
                  refine zw_push hm_41 dX4_fits_5 (v := .inl (93 : Int32)) rfl ?_
                  refine zw_if2 hm_41 dX4_fits_7 (t := 29) rfl zc2_ge ?_ ?_
                  · intro hc
                    rw [if_pos hc] at h
                    refine zw_push hm_41 dX4_fits_29 (v := .inl (0 : Int32)) rfl ?_
                    refine zw_bret hm_41 dX4_fits_30 (by decide) ?_
                    show ma_wp X d w 40 71 [(0, .inr (.inr (some 91))), (1, .inl n)] [.inl (0 : Int32)] (ma_put S3 91 5 (.inl v4)) _
                    refine zw_if0 hm_40 dX4_findRoom_71 (t := 81) rfl zc0_eq (fun _ => ?_) (fun hc => absurd (by decide) hc)
                    refine zw_push hm_40 dX4_findRoom_81 (v := .inl (-1 : Int32)) rfl ?_
                    exact zw_iret hm_40 dX4_findRoom_82 h
                  · intro hc
                    rw [if_neg hc] at h
                    refine zw_push hm_41 dX4_fits_10 (v := .inr (.inr (some 91))) rfl ?_
                    refine zw_gf hm_41 dX4_fits_11 (v := .inr (.inr (some 92))) (zT_is (zT_pi hS3) s_91) (zT_t (zT_pi hS3) s_91) rfl f_4_9_4 (zT_f (zT_pi hS3) r_91_7) ?_
                    refine zw_push hm_41 dX4_fits_14 (v := .inl v4) rfl ?_
                    obtain ⟨hg, h⟩ := h
                    refine zw_ia hm_41 dX4_fits_15 (zT_is (zT_pi hS3) s_92) (zT_h (zT_pi hS3) s_92) rfl hg ?_
                    show ma_wp X (d - 1) (w - 22) 41 16 [(0, .inr (.inr (some 91))), (1, .inl v4), (2, .inl n)] [.inl (mI S3 92 v4.toNatClampNeg)] (ma_put S3 91 5 (.inl v4)) _
                    refine zw_push hm_41 dX4_fits_16 (v := .inl n) rfl ?_
                    refine zw_stk hm_41 dX4_fits_17 (st' := [.inl ((mI S3 92 v4.toNatClampNeg) + n)]) rfl rfl ?_
                    refine zw_push hm_41 dX4_fits_18 (v := .inr (.inr (some 91))) rfl ?_
                    refine zw_gf hm_41 dX4_fits_19 (v := .inl (mI S3 91 2)) (zT_is (zT_pi hS3) s_91) (zT_t (zT_pi hS3) s_91) rfl f_4_18_4 rfl ?_
                    refine zw_if2 hm_41 dX4_fits_22 (t := 29) rfl zc2_gt ?_ ?_
                    · intro hc
                      rw [if_pos hc] at h
                      refine zw_push hm_41 dX4_fits_29 (v := .inl (0 : Int32)) rfl ?_
                      refine zw_bret hm_41 dX4_fits_30 (by decide) ?_
                      show ma_wp X d w 40 71 [(0, .inr (.inr (some 91))), (1, .inl n)] [.inl (0 : Int32)] (ma_put S3 91 5 (.inl v4)) _
                      refine zw_if0 hm_40 dX4_findRoom_71 (t := 81) rfl zc0_eq (fun _ => ?_) (fun hc => absurd (by decide) hc)
                      refine zw_push hm_40 dX4_findRoom_81 (v := .inl (-1 : Int32)) rfl ?_
                      exact zw_iret hm_40 dX4_findRoom_82 h
                    · intro hc
                      rw [if_neg hc] at h
                      refine zw_push hm_41 dX4_fits_25 (v := .inl (1 : Int32)) rfl ?_
                      refine zw_goto hm_41 dX4_fits_26 (t := 30) rfl ?_
                      refine zw_bret hm_41 dX4_fits_30 (by decide) ?_
                      show ma_wp X d w 40 71 [(0, .inr (.inr (some 91))), (1, .inl n)] [.inl (1 : Int32)] (ma_put S3 91 5 (.inl v4)) _
                      refine zw_if0 hm_40 dX4_findRoom_71 (t := 81) rfl zc0_eq (fun hc => absurd hc (by decide)) (fun _ => ?_)
                      refine zw_push hm_40 dX4_findRoom_74 (v := .inr (.inr (some 91))) rfl ?_
                      refine zw_cv hm_40 dX4_findRoom_75 v_4_60_4 hm_55 [] [] rfl (zT_rt (zT_pi hS3) s_91 rfl) ⟨by omega, by omega⟩ rfl (zw_mono h (zi_go ?_ ?_))
                      · intro v6 S5 hv
                        obtain ⟨hS5, h⟩ := hv
                        refine zw_goto hm_40 dX4_findRoom_78 (t := 82) rfl ?_
                        exact zw_iret hm_40 dX4_findRoom_82 h
                      · intro x S9 hx
                        exact ⟨by decide, hx⟩
              · intro hc
                rw [if_pos (Classical.not_not.mp hc)] at h
                refine zw_push hm_54 dX4_orElse_5 (v := .inl (mI S3 91 5)) rfl ?_
                refine zw_goto hm_54 dX4_orElse_6 (t := 10) rfl ?_
                refine zw_iret hm_54 dX4_orElse_10 ?_
                show ma_wp X d w 40 59 [(0, .inr (.inr (some 91))), (1, .inl n)] [.inl (mI S3 91 5), .inr (.inr (some 91))] S3 _
                refine zw_pf hm_40 dX4_findRoom_59 (zT_is hS3 s_91) (zT_t hS3 s_91) p_4_34_4 zk_int ?_
                refine zw_push hm_40 dX4_findRoom_62 (v := .inr (.inr (some 91))) rfl ?_
                refine zw_push hm_40 dX4_findRoom_63 (v := .inr (.inr (some 91))) rfl ?_
                refine zw_gf hm_40 dX4_findRoom_64 (v := .inl (mI S3 91 5)) (zT_is (zT_pi hS3) s_91) (zT_t (zT_pi hS3) s_91) rfl f_4_34_4 rfl ?_
                refine zw_push hm_40 dX4_findRoom_67 (v := .inl n) rfl ?_
                refine zw_cv hm_40 dX4_findRoom_68 v_4_43_4 hm_41 [.inl n, .inl (mI S3 91 5)] [] rfl (zT_rt (zT_pi hS3) s_91 rfl) ⟨by omega, by omega⟩ rfl ?_
                show ma_wp X (d - 1) (w - 22) 41 0 [(0, .inr (.inr (some 91))), (1, .inl (mI S3 91 5)), (2, .inl n)] [] (ma_put S3 91 5 (.inl (mI S3 91 5))) _
                refine zw_push hm_41 dX4_fits_0 (v := .inl (mI S3 91 5)) rfl ?_
                refine zw_if0 hm_41 dX4_fits_1 (t := 29) rfl zc0_lt ?_ ?_
                · intro hc
                  rw [if_pos hc] at h
                  refine zw_push hm_41 dX4_fits_29 (v := .inl (0 : Int32)) rfl ?_
                  refine zw_bret hm_41 dX4_fits_30 (by decide) ?_
                  show ma_wp X d w 40 71 [(0, .inr (.inr (some 91))), (1, .inl n)] [.inl (0 : Int32)] (ma_put S3 91 5 (.inl (mI S3 91 5))) _
                  refine zw_if0 hm_40 dX4_findRoom_71 (t := 81) rfl zc0_eq (fun _ => ?_) (fun hc => absurd (by decide) hc)
                  refine zw_push hm_40 dX4_findRoom_81 (v := .inl (-1 : Int32)) rfl ?_
                  exact zw_iret hm_40 dX4_findRoom_82 h
                · intro hc
                  rw [if_neg hc] at h
                  refine zw_push hm_41 dX4_fits_4 (v := .inl (mI S3 91 5)) rfl ?_
                  refine zw_push hm_41 dX4_fits_5 (v := .inl (93 : Int32)) rfl ?_
                  refine zw_if2 hm_41 dX4_fits_7 (t := 29) rfl zc2_ge ?_ ?_
                  · intro hc
                    rw [if_pos hc] at h
                    refine zw_push hm_41 dX4_fits_29 (v := .inl (0 : Int32)) rfl ?_
                    refine zw_bret hm_41 dX4_fits_30 (by decide) ?_
                    show ma_wp X d w 40 71 [(0, .inr (.inr (some 91))), (1, .inl n)] [.inl (0 : Int32)] (ma_put S3 91 5 (.inl (mI S3 91 5))) _
                    refine zw_if0 hm_40 dX4_findRoom_71 (t := 81) rfl zc0_eq (fun _ => ?_) (fun hc => absurd (by decide) hc)
                    refine zw_push hm_40 dX4_findRoom_81 (v := .inl (-1 : Int32)) rfl ?_
                    exact zw_iret hm_40 dX4_findRoom_82 h
                  · intro hc
                    rw [if_neg hc] at h
                    refine zw_push hm_41 dX4_fits_10 (v := .inr (.inr (some 91))) rfl ?_
                    refine zw_gf hm_41 dX4_fits_11 (v := .inr (.inr (some 92))) (zT_is (zT_pi hS3) s_91) (zT_t (zT_pi hS3) s_91) rfl f_4_9_4 (zT_f (zT_pi hS3) r_91_7) ?_
                    refine zw_push hm_41 dX4_fits_14 (v := .inl (mI S3 91 5)) rfl ?_
                    obtain ⟨hg, h⟩ := h
                    refine zw_ia hm_41 dX4_fits_15 (zT_is (zT_pi hS3) s_92) (zT_h (zT_pi hS3) s_92) rfl hg ?_
                    show ma_wp X (d - 1) (w - 22) 41 16 [(0, .inr (.inr (some 91))), (1, .inl (mI S3 91 5)), (2, .inl n)] [.inl (mI S3 92 (mI S3 91 5).toNatClampNeg)] (ma_put S3 91 5 (.inl (mI S3 91 5))) _
                    refine zw_push hm_41 dX4_fits_16 (v := .inl n) rfl ?_
                    refine zw_stk hm_41 dX4_fits_17 (st' := [.inl ((mI S3 92 (mI S3 91 5).toNatClampNeg) + n)]) rfl rfl ?_
                    refine zw_push hm_41 dX4_fits_18 (v := .inr (.inr (some 91))) rfl ?_
                    refine zw_gf hm_41 dX4_fits_19 (v := .inl (mI S3 91 2)) (zT_is (zT_pi hS3) s_91) (zT_t (zT_pi hS3) s_91) rfl f_4_18_4 rfl ?_
                    refine zw_if2 hm_41 dX4_fits_22 (t := 29) rfl zc2_gt ?_ ?_
                    · intro hc
                      rw [if_pos hc] at h
                      refine zw_push hm_41 dX4_fits_29 (v := .inl (0 : Int32)) rfl ?_
                      refine zw_bret hm_41 dX4_fits_30 (by decide) ?_
                      show ma_wp X d w 40 71 [(0, .inr (.inr (some 91))), (1, .inl n)] [.inl (0 : Int32)] (ma_put S3 91 5 (.inl (mI S3 91 5))) _
                      refine zw_if0 hm_40 dX4_findRoom_71 (t := 81) rfl zc0_eq (fun _ => ?_) (fun hc => absurd (by decide) hc)
                      refine zw_push hm_40 dX4_findRoom_81 (v := .inl (-1 : Int32)) rfl ?_
                      exact zw_iret hm_40 dX4_findRoom_82 h
                    · intro hc
                      rw [if_neg hc] at h
                      refine zw_push hm_41 dX4_fits_25 (v := .inl (1 : Int32)) rfl ?_
                      refine zw_goto hm_41 dX4_fits_26 (t := 30) rfl ?_
                      refine zw_bret hm_41 dX4_fits_30 (by decide) ?_
                      show ma_wp X d w 40 71 [(0, .inr (.inr (some 91))), (1, .inl n)] [.inl (1 : Int32)] (ma_put S3 91 5 (.inl (mI S3 91 5))) _
                      refine zw_if0 hm_40 dX4_findRoom_71 (t := 81) rfl zc0_eq (fun hc => absurd hc (by decide)) (fun _ => ?_)
                      refine zw_push hm_40 dX4_findRoom_74 (v := .inr (.inr (some 91))) rfl ?_
                      refine zw_cv hm_40 dX4_findRoom_75 v_4_60_4 hm_55 [] [] rfl (zT_rt (zT_pi hS3) s_91 rfl) ⟨by omega, by omega⟩ rfl (zw_mono h (zi_go ?_ ?_))
                      · intro v8 S7 hv
                        obtain ⟨hS7, h⟩ := hv
                        refine zw_goto hm_40 dX4_findRoom_78 (t := 82) rfl ?_
                        exact zw_iret hm_40 dX4_findRoom_82 h
                      · intro x S9 hx
                        exact ⟨by decide, hx⟩
            · intro x S9 hx
              exact ⟨by decide, hx⟩
          · intro hc
            rw [if_neg hc] at h
            refine zw_push hm_41 dX4_fits_4 (v := .inl (mI S1 91 5)) rfl ?_
            refine zw_push hm_41 dX4_fits_5 (v := .inl (93 : Int32)) rfl ?_
            refine zw_if2 hm_41 dX4_fits_7 (t := 29) rfl zc2_ge ?_ ?_
            · intro hc
              rw [if_pos hc] at h
              refine zw_push hm_41 dX4_fits_29 (v := .inl (0 : Int32)) rfl ?_
              refine zw_bret hm_41 dX4_fits_30 (by decide) ?_
              show ma_wp X d w 40 44 [(0, .inr (.inr (some 91))), (1, .inl n)] [.inl (0 : Int32)] S1 _
              refine zw_if0 hm_40 dX4_findRoom_44 (t := 62) rfl zc0_ne (fun hc => absurd hc (by decide)) (fun _ => ?_)
              refine zw_push hm_40 dX4_findRoom_47 (v := .inr (.inr (some 91))) rfl ?_
              refine zw_push hm_40 dX4_findRoom_48 (v := .inr (.inr (some 91))) rfl ?_
              refine zw_cv hm_40 dX4_findRoom_49 v_4_54_4 hm_52 [] [.inr (.inr (some 91))] rfl (zT_rt hS1 s_91 rfl) ⟨by omega, by omega⟩ rfl (zw_mono h (zi_go ?_ ?_))
              · intro v10 S9 hv
                obtain ⟨hS9, h⟩ := hv
                refine zw_push hm_40 dX4_findRoom_52 (v := .inr (.inr (some 91))) rfl ?_
                refine zw_gf hm_40 dX4_findRoom_53 (v := .inl (mI S9 91 5)) (zT_is hS9 s_91) (zT_t hS9 s_91) rfl f_4_34_4 rfl ?_
                refine zw_cs hm_40 dX4_findRoom_56 pn_4_57 sl_4_57 hm_54 [.inl (mI S9 91 5), .inl v10] [.inr (.inr (some 91))] rfl ⟨by omega, by omega⟩ rfl ?_
                show ma_wp X (d - 1) (w - 21) 54 0 [(0, .inl v10), (1, .inl (mI S9 91 5))] [] S9 _
                refine zw_push hm_54 dX4_orElse_0 (v := .inl v10) rfl ?_
                refine zw_push hm_54 dX4_orElse_1 (v := .inl (-1 : Int32)) rfl ?_
                refine zw_if2 hm_54 dX4_orElse_2 (t := 9) rfl zc2_ne ?_ ?_
                · intro hc
                  rw [if_neg hc] at h
                  refine zw_push hm_54 dX4_orElse_9 (v := .inl v10) rfl ?_
                  refine zw_iret hm_54 dX4_orElse_10 ?_
                  show ma_wp X d w 40 59 [(0, .inr (.inr (some 91))), (1, .inl n)] [.inl v10, .inr (.inr (some 91))] S9 _
                  refine zw_pf hm_40 dX4_findRoom_59 (zT_is hS9 s_91) (zT_t hS9 s_91) p_4_34_4 zk_int ?_
                  refine zw_push hm_40 dX4_findRoom_62 (v := .inr (.inr (some 91))) rfl ?_
                  refine zw_push hm_40 dX4_findRoom_63 (v := .inr (.inr (some 91))) rfl ?_
                  refine zw_gf hm_40 dX4_findRoom_64 (v := .inl v10) (zT_is (zT_pi hS9) s_91) (zT_t (zT_pi hS9) s_91) rfl f_4_34_4 rfl ?_
                  refine zw_push hm_40 dX4_findRoom_67 (v := .inl n) rfl ?_
                  refine zw_cv hm_40 dX4_findRoom_68 v_4_43_4 hm_41 [.inl n, .inl v10] [] rfl (zT_rt (zT_pi hS9) s_91 rfl) ⟨by omega, by omega⟩ rfl ?_
                  show ma_wp X (d - 1) (w - 22) 41 0 [(0, .inr (.inr (some 91))), (1, .inl v10), (2, .inl n)] [] (ma_put S9 91 5 (.inl v10)) _
                  refine zw_push hm_41 dX4_fits_0 (v := .inl v10) rfl ?_
                  refine zw_if0 hm_41 dX4_fits_1 (t := 29) rfl zc0_lt ?_ ?_
                  · intro hc
                    rw [if_pos hc] at h
                    refine zw_push hm_41 dX4_fits_29 (v := .inl (0 : Int32)) rfl ?_
                    refine zw_bret hm_41 dX4_fits_30 (by decide) ?_
                    show ma_wp X d w 40 71 [(0, .inr (.inr (some 91))), (1, .inl n)] [.inl (0 : Int32)] (ma_put S9 91 5 (.inl v10)) _
                    refine zw_if0 hm_40 dX4_findRoom_71 (t := 81) rfl zc0_eq (fun _ => ?_) (fun hc => absurd (by decide) hc)
                    refine zw_push hm_40 dX4_findRoom_81 (v := .inl (-1 : Int32)) rfl ?_
                    exact zw_iret hm_40 dX4_findRoom_82 h
                  · intro hc
                    rw [if_neg hc] at h
                    refine zw_push hm_41 dX4_fits_4 (v := .inl v10) rfl ?_
                    refine zw_push hm_41 dX4_fits_5 (v := .inl (93 : Int32)) rfl ?_
                    refine zw_if2 hm_41 dX4_fits_7 (t := 29) rfl zc2_ge ?_ ?_
                    · intro hc
                      rw [if_pos hc] at h
                      refine zw_push hm_41 dX4_fits_29 (v := .inl (0 : Int32)) rfl ?_
                      refine zw_bret hm_41 dX4_fits_30 (by decide) ?_
                      show ma_wp X d w 40 71 [(0, .inr (.inr (some 91))), (1, .inl n)] [.inl (0 : Int32)] (ma_put S9 91 5 (.inl v10)) _
                      refine zw_if0 hm_40 dX4_findRoom_71 (t := 81) rfl zc0_eq (fun _ => ?_) (fun hc => absurd (by decide) hc)
                      refine zw_push hm_40 dX4_findRoom_81 (v := .inl (-1 : Int32)) rfl ?_
                      exact zw_iret hm_40 dX4_findRoom_82 h
                    · intro hc
                      rw [if_neg hc] at h
                      refine zw_push hm_41 dX4_fits_10 (v := .inr (.inr (some 91))) rfl ?_
                      refine zw_gf hm_41 dX4_fits_11 (v := .inr (.inr (some 92))) (zT_is (zT_pi hS9) s_91) (zT_t (zT_pi hS9) s_91) rfl f_4_9_4 (zT_f (zT_pi hS9) r_91_7) ?_
                      refine zw_push hm_41 dX4_fits_14 (v := .inl v10) rfl ?_
                      obtain ⟨hg, h⟩ := h
                      refine zw_ia hm_41 dX4_fits_15 (zT_is (zT_pi hS9) s_92) (zT_h (zT_pi hS9) s_92) rfl hg ?_
                      show ma_wp X (d - 1) (w - 22) 41 16 [(0, .inr (.inr (some 91))), (1, .inl v10), (2, .inl n)] [.inl (mI S9 92 v10.toNatClampNeg)] (ma_put S9 91 5 (.inl v10)) _
                      refine zw_push hm_41 dX4_fits_16 (v := .inl n) rfl ?_
                      refine zw_stk hm_41 dX4_fits_17 (st' := [.inl ((mI S9 92 v10.toNatClampNeg) + n)]) rfl rfl ?_
                      refine zw_push hm_41 dX4_fits_18 (v := .inr (.inr (some 91))) rfl ?_
                      refine zw_gf hm_41 dX4_fits_19 (v := .inl (mI S9 91 2)) (zT_is (zT_pi hS9) s_91) (zT_t (zT_pi hS9) s_91) rfl f_4_18_4 rfl ?_
                      refine zw_if2 hm_41 dX4_fits_22 (t := 29) rfl zc2_gt ?_ ?_
                      · intro hc
                        rw [if_pos hc] at h
                        refine zw_push hm_41 dX4_fits_29 (v := .inl (0 : Int32)) rfl ?_
                        refine zw_bret hm_41 dX4_fits_30 (by decide) ?_
                        show ma_wp X d w 40 71 [(0, .inr (.inr (some 91))), (1, .inl n)] [.inl (0 : Int32)] (ma_put S9 91 5 (.inl v10)) _
                        refine zw_if0 hm_40 dX4_findRoom_71 (t := 81) rfl zc0_eq (fun _ => ?_) (fun hc => absurd (by decide) hc)
                        refine zw_push hm_40 dX4_findRoom_81 (v := .inl (-1 : Int32)) rfl ?_
                        exact zw_iret hm_40 dX4_findRoom_82 h
                      · intro hc
                        rw [if_neg hc] at h
                        refine zw_push hm_41 dX4_fits_25 (v := .inl (1 : Int32)) rfl ?_
                        refine zw_goto hm_41 dX4_fits_26 (t := 30) rfl ?_
                        refine zw_bret hm_41 dX4_fits_30 (by decide) ?_
                        show ma_wp X d w 40 71 [(0, .inr (.inr (some 91))), (1, .inl n)] [.inl (1 : Int32)] (ma_put S9 91 5 (.inl v10)) _
                        refine zw_if0 hm_40 dX4_findRoom_71 (t := 81) rfl zc0_eq (fun hc => absurd hc (by decide)) (fun _ => ?_)
                        refine zw_push hm_40 dX4_findRoom_74 (v := .inr (.inr (some 91))) rfl ?_
                        refine zw_cv hm_40 dX4_findRoom_75 v_4_60_4 hm_55 [] [] rfl (zT_rt (zT_pi hS9) s_91 rfl) ⟨by omega, by omega⟩ rfl (zw_mono h (zi_go ?_ ?_))
                        · intro v12 S11 hv
                          obtain ⟨hS11, h⟩ := hv
                          refine zw_goto hm_40 dX4_findRoom_78 (t := 82) rfl ?_
                          exact zw_iret hm_40 dX4_findRoom_82 h
                        · intro x S9 hx
                          exact ⟨by decide, hx⟩
                · intro hc
                  rw [if_pos (Classical.not_not.mp hc)] at h
                  refine zw_push hm_54 dX4_orElse_5 (v := .inl (mI S9 91 5)) rfl ?_
                  refine zw_goto hm_54 dX4_orElse_6 (t := 10) rfl ?_
                  refine zw_iret hm_54 dX4_orElse_10 ?_
                  show ma_wp X d w 40 59 [(0, .inr (.inr (some 91))), (1, .inl n)] [.inl (mI S9 91 5), .inr (.inr (some 91))] S9 _
                  refine zw_pf hm_40 dX4_findRoom_59 (zT_is hS9 s_91) (zT_t hS9 s_91) p_4_34_4 zk_int ?_
                  refine zw_push hm_40 dX4_findRoom_62 (v := .inr (.inr (some 91))) rfl ?_
                  refine zw_push hm_40 dX4_findRoom_63 (v := .inr (.inr (some 91))) rfl ?_
                  refine zw_gf hm_40 dX4_findRoom_64 (v := .inl (mI S9 91 5)) (zT_is (zT_pi hS9) s_91) (zT_t (zT_pi hS9) s_91) rfl f_4_34_4 rfl ?_
                  refine zw_push hm_40 dX4_findRoom_67 (v := .inl n) rfl ?_
                  refine zw_cv hm_40 dX4_findRoom_68 v_4_43_4 hm_41 [.inl n, .inl (mI S9 91 5)] [] rfl (zT_rt (zT_pi hS9) s_91 rfl) ⟨by omega, by omega⟩ rfl ?_
                  show ma_wp X (d - 1) (w - 22) 41 0 [(0, .inr (.inr (some 91))), (1, .inl (mI S9 91 5)), (2, .inl n)] [] (ma_put S9 91 5 (.inl (mI S9 91 5))) _
                  refine zw_push hm_41 dX4_fits_0 (v := .inl (mI S9 91 5)) rfl ?_
                  refine zw_if0 hm_41 dX4_fits_1 (t := 29) rfl zc0_lt ?_ ?_
                  · intro hc
                    rw [if_pos hc] at h
                    refine zw_push hm_41 dX4_fits_29 (v := .inl (0 : Int32)) rfl ?_
                    refine zw_bret hm_41 dX4_fits_30 (by decide) ?_
                    show ma_wp X d w 40 71 [(0, .inr (.inr (some 91))), (1, .inl n)] [.inl (0 : Int32)] (ma_put S9 91 5 (.inl (mI S9 91 5))) _
                    refine zw_if0 hm_40 dX4_findRoom_71 (t := 81) rfl zc0_eq (fun _ => ?_) (fun hc => absurd (by decide) hc)
                    refine zw_push hm_40 dX4_findRoom_81 (v := .inl (-1 : Int32)) rfl ?_
                    exact zw_iret hm_40 dX4_findRoom_82 h
                  · intro hc
                    rw [if_neg hc] at h
                    refine zw_push hm_41 dX4_fits_4 (v := .inl (mI S9 91 5)) rfl ?_
                    refine zw_push hm_41 dX4_fits_5 (v := .inl (93 : Int32)) rfl ?_
                    refine zw_if2 hm_41 dX4_fits_7 (t := 29) rfl zc2_ge ?_ ?_
                    · intro hc
                      rw [if_pos hc] at h
                      refine zw_push hm_41 dX4_fits_29 (v := .inl (0 : Int32)) rfl ?_
                      refine zw_bret hm_41 dX4_fits_30 (by decide) ?_
                      show ma_wp X d w 40 71 [(0, .inr (.inr (some 91))), (1, .inl n)] [.inl (0 : Int32)] (ma_put S9 91 5 (.inl (mI S9 91 5))) _
                      refine zw_if0 hm_40 dX4_findRoom_71 (t := 81) rfl zc0_eq (fun _ => ?_) (fun hc => absurd (by decide) hc)
                      refine zw_push hm_40 dX4_findRoom_81 (v := .inl (-1 : Int32)) rfl ?_
                      exact zw_iret hm_40 dX4_findRoom_82 h
                    · intro hc
                      rw [if_neg hc] at h
                      refine zw_push hm_41 dX4_fits_10 (v := .inr (.inr (some 91))) rfl ?_
                      refine zw_gf hm_41 dX4_fits_11 (v := .inr (.inr (some 92))) (zT_is (zT_pi hS9) s_91) (zT_t (zT_pi hS9) s_91) rfl f_4_9_4 (zT_f (zT_pi hS9) r_91_7) ?_
                      refine zw_push hm_41 dX4_fits_14 (v := .inl (mI S9 91 5)) rfl ?_
                      obtain ⟨hg, h⟩ := h
                      refine zw_ia hm_41 dX4_fits_15 (zT_is (zT_pi hS9) s_92) (zT_h (zT_pi hS9) s_92) rfl hg ?_
                      show ma_wp X (d - 1) (w - 22) 41 16 [(0, .inr (.inr (some 91))), (1, .inl (mI S9 91 5)), (2, .inl n)] [.inl (mI S9 92 (mI S9 91 5).toNatClampNeg)] (ma_put S9 91 5 (.inl (mI S9 91 5))) _
                      refine zw_push hm_41 dX4_fits_16 (v := .inl n) rfl ?_
                      refine zw_stk hm_41 dX4_fits_17 (st' := [.inl ((mI S9 92 (mI S9 91 5).toNatClampNeg) + n)]) rfl rfl ?_
                      refine zw_push hm_41 dX4_fits_18 (v := .inr (.inr (some 91))) rfl ?_
                      refine zw_gf hm_41 dX4_fits_19 (v := .inl (mI S9 91 2)) (zT_is (zT_pi hS9) s_91) (zT_t (zT_pi hS9) s_91) rfl f_4_18_4 rfl ?_
                      refine zw_if2 hm_41 dX4_fits_22 (t := 29) rfl zc2_gt ?_ ?_
                      · intro hc
                        rw [if_pos hc] at h
                        refine zw_push hm_41 dX4_fits_29 (v := .inl (0 : Int32)) rfl ?_
                        refine zw_bret hm_41 dX4_fits_30 (by decide) ?_
                        show ma_wp X d w 40 71 [(0, .inr (.inr (some 91))), (1, .inl n)] [.inl (0 : Int32)] (ma_put S9 91 5 (.inl (mI S9 91 5))) _
                        refine zw_if0 hm_40 dX4_findRoom_71 (t := 81) rfl zc0_eq (fun _ => ?_) (fun hc => absurd (by decide) hc)
                        refine zw_push hm_40 dX4_findRoom_81 (v := .inl (-1 : Int32)) rfl ?_
                        exact zw_iret hm_40 dX4_findRoom_82 h
                      · intro hc
                        rw [if_neg hc] at h
                        refine zw_push hm_41 dX4_fits_25 (v := .inl (1 : Int32)) rfl ?_
                        refine zw_goto hm_41 dX4_fits_26 (t := 30) rfl ?_
                        refine zw_bret hm_41 dX4_fits_30 (by decide) ?_
                        show ma_wp X d w 40 71 [(0, .inr (.inr (some 91))), (1, .inl n)] [.inl (1 : Int32)] (ma_put S9 91 5 (.inl (mI S9 91 5))) _
                        refine zw_if0 hm_40 dX4_findRoom_71 (t := 81) rfl zc0_eq (fun hc => absurd hc (by decide)) (fun _ => ?_)
                        refine zw_push hm_40 dX4_findRoom_74 (v := .inr (.inr (some 91))) rfl ?_
                        refine zw_cv hm_40 dX4_findRoom_75 v_4_60_4 hm_55 [] [] rfl (zT_rt (zT_pi hS9) s_91 rfl) ⟨by omega, by omega⟩ rfl (zw_mono h (zi_go ?_ ?_))
                        · intro v14 S13 hv
                          obtain ⟨hS13, h⟩ := hv
                          refine zw_goto hm_40 dX4_findRoom_78 (t := 82) rfl ?_
                          exact zw_iret hm_40 dX4_findRoom_82 h
                        · intro x S9 hx
                          exact ⟨by decide, hx⟩
              · intro x S9 hx
                exact ⟨by decide, hx⟩
            · intro hc
              rw [if_neg hc] at h
              refine zw_push hm_41 dX4_fits_10 (v := .inr (.inr (some 91))) rfl ?_
              refine zw_gf hm_41 dX4_fits_11 (v := .inr (.inr (some 92))) (zT_is hS1 s_91) (zT_t hS1 s_91) rfl f_4_9_4 (zT_f hS1 r_91_7) ?_
              refine zw_push hm_41 dX4_fits_14 (v := .inl (mI S1 91 5)) rfl ?_
              obtain ⟨hg, h⟩ := h
              refine zw_ia hm_41 dX4_fits_15 (zT_is hS1 s_92) (zT_h hS1 s_92) rfl hg ?_
              show ma_wp X (d - 1) (w - 22) 41 16 [(0, .inr (.inr (some 91))), (1, .inl (mI S1 91 5)), (2, .inl n)] [.inl (mI S1 92 (mI S1 91 5).toNatClampNeg)] S1 _
              refine zw_push hm_41 dX4_fits_16 (v := .inl n) rfl ?_
              refine zw_stk hm_41 dX4_fits_17 (st' := [.inl ((mI S1 92 (mI S1 91 5).toNatClampNeg) + n)]) rfl rfl ?_
              refine zw_push hm_41 dX4_fits_18 (v := .inr (.inr (some 91))) rfl ?_
              refine zw_gf hm_41 dX4_fits_19 (v := .inl (mI S1 91 2)) (zT_is hS1 s_91) (zT_t hS1 s_91) rfl f_4_18_4 rfl ?_
              refine zw_if2 hm_41 dX4_fits_22 (t := 29) rfl zc2_gt ?_ ?_
              · intro hc
                rw [if_pos hc] at h
                refine zw_push hm_41 dX4_fits_29 (v := .inl (0 : Int32)) rfl ?_
                refine zw_bret hm_41 dX4_fits_30 (by decide) ?_
                show ma_wp X d w 40 44 [(0, .inr (.inr (some 91))), (1, .inl n)] [.inl (0 : Int32)] S1 _
                refine zw_if0 hm_40 dX4_findRoom_44 (t := 62) rfl zc0_ne (fun hc => absurd hc (by decide)) (fun _ => ?_)
                refine zw_push hm_40 dX4_findRoom_47 (v := .inr (.inr (some 91))) rfl ?_
                refine zw_push hm_40 dX4_findRoom_48 (v := .inr (.inr (some 91))) rfl ?_
                refine zw_cv hm_40 dX4_findRoom_49 v_4_54_4 hm_52 [] [.inr (.inr (some 91))] rfl (zT_rt hS1 s_91 rfl) ⟨by omega, by omega⟩ rfl (zw_mono h (zi_go ?_ ?_))
                · intro v16 S15 hv
                  obtain ⟨hS15, h⟩ := hv
                  refine zw_push hm_40 dX4_findRoom_52 (v := .inr (.inr (some 91))) rfl ?_
                  refine zw_gf hm_40 dX4_findRoom_53 (v := .inl (mI S15 91 5)) (zT_is hS15 s_91) (zT_t hS15 s_91) rfl f_4_34_4 rfl ?_
                  refine zw_cs hm_40 dX4_findRoom_56 pn_4_57 sl_4_57 hm_54 [.inl (mI S15 91 5), .inl v16] [.inr (.inr (some 91))] rfl ⟨by omega, by omega⟩ rfl ?_
                  show ma_wp X (d - 1) (w - 21) 54 0 [(0, .inl v16), (1, .inl (mI S15 91 5))] [] S15 _
                  refine zw_push hm_54 dX4_orElse_0 (v := .inl v16) rfl ?_
                  refine zw_push hm_54 dX4_orElse_1 (v := .inl (-1 : Int32)) rfl ?_
                  refine zw_if2 hm_54 dX4_orElse_2 (t := 9) rfl zc2_ne ?_ ?_
                  · intro hc
                    rw [if_neg hc] at h
                    refine zw_push hm_54 dX4_orElse_9 (v := .inl v16) rfl ?_
                    refine zw_iret hm_54 dX4_orElse_10 ?_
                    show ma_wp X d w 40 59 [(0, .inr (.inr (some 91))), (1, .inl n)] [.inl v16, .inr (.inr (some 91))] S15 _
                    refine zw_pf hm_40 dX4_findRoom_59 (zT_is hS15 s_91) (zT_t hS15 s_91) p_4_34_4 zk_int ?_
                    refine zw_push hm_40 dX4_findRoom_62 (v := .inr (.inr (some 91))) rfl ?_
                    refine zw_push hm_40 dX4_findRoom_63 (v := .inr (.inr (some 91))) rfl ?_
                    refine zw_gf hm_40 dX4_findRoom_64 (v := .inl v16) (zT_is (zT_pi hS15) s_91) (zT_t (zT_pi hS15) s_91) rfl f_4_34_4 rfl ?_
                    refine zw_push hm_40 dX4_findRoom_67 (v := .inl n) rfl ?_
                    refine zw_cv hm_40 dX4_findRoom_68 v_4_43_4 hm_41 [.inl n, .inl v16] [] rfl (zT_rt (zT_pi hS15) s_91 rfl) ⟨by omega, by omega⟩ rfl ?_
                    show ma_wp X (d - 1) (w - 22) 41 0 [(0, .inr (.inr (some 91))), (1, .inl v16), (2, .inl n)] [] (ma_put S15 91 5 (.inl v16)) _
                    refine zw_push hm_41 dX4_fits_0 (v := .inl v16) rfl ?_
                    refine zw_if0 hm_41 dX4_fits_1 (t := 29) rfl zc0_lt ?_ ?_
                    · intro hc
                      rw [if_pos hc] at h
                      refine zw_push hm_41 dX4_fits_29 (v := .inl (0 : Int32)) rfl ?_
                      refine zw_bret hm_41 dX4_fits_30 (by decide) ?_
                      show ma_wp X d w 40 71 [(0, .inr (.inr (some 91))), (1, .inl n)] [.inl (0 : Int32)] (ma_put S15 91 5 (.inl v16)) _
                      refine zw_if0 hm_40 dX4_findRoom_71 (t := 81) rfl zc0_eq (fun _ => ?_) (fun hc => absurd (by decide) hc)
                      refine zw_push hm_40 dX4_findRoom_81 (v := .inl (-1 : Int32)) rfl ?_
                      exact zw_iret hm_40 dX4_findRoom_82 h
                    · intro hc
                      rw [if_neg hc] at h
                      refine zw_push hm_41 dX4_fits_4 (v := .inl v16) rfl ?_
                      refine zw_push hm_41 dX4_fits_5 (v := .inl (93 : Int32)) rfl ?_
                      refine zw_if2 hm_41 dX4_fits_7 (t := 29) rfl zc2_ge ?_ ?_
                      · intro hc
                        rw [if_pos hc] at h
                        refine zw_push hm_41 dX4_fits_29 (v := .inl (0 : Int32)) rfl ?_
                        refine zw_bret hm_41 dX4_fits_30 (by decide) ?_
                        show ma_wp X d w 40 71 [(0, .inr (.inr (some 91))), (1, .inl n)] [.inl (0 : Int32)] (ma_put S15 91 5 (.inl v16)) _
                        refine zw_if0 hm_40 dX4_findRoom_71 (t := 81) rfl zc0_eq (fun _ => ?_) (fun hc => absurd (by decide) hc)
                        refine zw_push hm_40 dX4_findRoom_81 (v := .inl (-1 : Int32)) rfl ?_
                        exact zw_iret hm_40 dX4_findRoom_82 h
                      · intro hc
                        rw [if_neg hc] at h
                        refine zw_push hm_41 dX4_fits_10 (v := .inr (.inr (some 91))) rfl ?_
                        refine zw_gf hm_41 dX4_fits_11 (v := .inr (.inr (some 92))) (zT_is (zT_pi hS15) s_91) (zT_t (zT_pi hS15) s_91) rfl f_4_9_4 (zT_f (zT_pi hS15) r_91_7) ?_
                        refine zw_push hm_41 dX4_fits_14 (v := .inl v16) rfl ?_
                        obtain ⟨hg, h⟩ := h
                        refine zw_ia hm_41 dX4_fits_15 (zT_is (zT_pi hS15) s_92) (zT_h (zT_pi hS15) s_92) rfl hg ?_
                        show ma_wp X (d - 1) (w - 22) 41 16 [(0, .inr (.inr (some 91))), (1, .inl v16), (2, .inl n)] [.inl (mI S15 92 v16.toNatClampNeg)] (ma_put S15 91 5 (.inl v16)) _
                        refine zw_push hm_41 dX4_fits_16 (v := .inl n) rfl ?_
                        refine zw_stk hm_41 dX4_fits_17 (st' := [.inl ((mI S15 92 v16.toNatClampNeg) + n)]) rfl rfl ?_
                        refine zw_push hm_41 dX4_fits_18 (v := .inr (.inr (some 91))) rfl ?_
                        refine zw_gf hm_41 dX4_fits_19 (v := .inl (mI S15 91 2)) (zT_is (zT_pi hS15) s_91) (zT_t (zT_pi hS15) s_91) rfl f_4_18_4 rfl ?_
                        refine zw_if2 hm_41 dX4_fits_22 (t := 29) rfl zc2_gt ?_ ?_
                        · intro hc
                          rw [if_pos hc] at h
                          refine zw_push hm_41 dX4_fits_29 (v := .inl (0 : Int32)) rfl ?_
                          refine zw_bret hm_41 dX4_fits_30 (by decide) ?_
                          show ma_wp X d w 40 71 [(0, .inr (.inr (some 91))), (1, .inl n)] [.inl (0 : Int32)] (ma_put S15 91 5 (.inl v16)) _
                          refine zw_if0 hm_40 dX4_findRoom_71 (t := 81) rfl zc0_eq (fun _ => ?_) (fun hc => absurd (by decide) hc)
                          refine zw_push hm_40 dX4_findRoom_81 (v := .inl (-1 : Int32)) rfl ?_
                          exact zw_iret hm_40 dX4_findRoom_82 h
                        · intro hc
                          rw [if_neg hc] at h
                          refine zw_push hm_41 dX4_fits_25 (v := .inl (1 : Int32)) rfl ?_
                          refine zw_goto hm_41 dX4_fits_26 (t := 30) rfl ?_
                          refine zw_bret hm_41 dX4_fits_30 (by decide) ?_
                          show ma_wp X d w 40 71 [(0, .inr (.inr (some 91))), (1, .inl n)] [.inl (1 : Int32)] (ma_put S15 91 5 (.inl v16)) _
                          refine zw_if0 hm_40 dX4_findRoom_71 (t := 81) rfl zc0_eq (fun hc => absurd hc (by decide)) (fun _ => ?_)
                          refine zw_push hm_40 dX4_findRoom_74 (v := .inr (.inr (some 91))) rfl ?_
                          refine zw_cv hm_40 dX4_findRoom_75 v_4_60_4 hm_55 [] [] rfl (zT_rt (zT_pi hS15) s_91 rfl) ⟨by omega, by omega⟩ rfl (zw_mono h (zi_go ?_ ?_))
                          · intro v18 S17 hv
                            obtain ⟨hS17, h⟩ := hv
                            refine zw_goto hm_40 dX4_findRoom_78 (t := 82) rfl ?_
                            exact zw_iret hm_40 dX4_findRoom_82 h
                          · intro x S9 hx
                            exact ⟨by decide, hx⟩
                  · intro hc
                    rw [if_pos (Classical.not_not.mp hc)] at h
                    refine zw_push hm_54 dX4_orElse_5 (v := .inl (mI S15 91 5)) rfl ?_
                    refine zw_goto hm_54 dX4_orElse_6 (t := 10) rfl ?_
                    refine zw_iret hm_54 dX4_orElse_10 ?_
                    show ma_wp X d w 40 59 [(0, .inr (.inr (some 91))), (1, .inl n)] [.inl (mI S15 91 5), .inr (.inr (some 91))] S15 _
                    refine zw_pf hm_40 dX4_findRoom_59 (zT_is hS15 s_91) (zT_t hS15 s_91) p_4_34_4 zk_int ?_
                    refine zw_push hm_40 dX4_findRoom_62 (v := .inr (.inr (some 91))) rfl ?_
                    refine zw_push hm_40 dX4_findRoom_63 (v := .inr (.inr (some 91))) rfl ?_
                    refine zw_gf hm_40 dX4_findRoom_64 (v := .inl (mI S15 91 5)) (zT_is (zT_pi hS15) s_91) (zT_t (zT_pi hS15) s_91) rfl f_4_34_4 rfl ?_
                    refine zw_push hm_40 dX4_findRoom_67 (v := .inl n) rfl ?_
                    refine zw_cv hm_40 dX4_findRoom_68 v_4_43_4 hm_41 [.inl n, .inl (mI S15 91 5)] [] rfl (zT_rt (zT_pi hS15) s_91 rfl) ⟨by omega, by omega⟩ rfl ?_
                    show ma_wp X (d - 1) (w - 22) 41 0 [(0, .inr (.inr (some 91))), (1, .inl (mI S15 91 5)), (2, .inl n)] [] (ma_put S15 91 5 (.inl (mI S15 91 5))) _
                    refine zw_push hm_41 dX4_fits_0 (v := .inl (mI S15 91 5)) rfl ?_
                    refine zw_if0 hm_41 dX4_fits_1 (t := 29) rfl zc0_lt ?_ ?_
                    · intro hc
                      rw [if_pos hc] at h
                      refine zw_push hm_41 dX4_fits_29 (v := .inl (0 : Int32)) rfl ?_
                      refine zw_bret hm_41 dX4_fits_30 (by decide) ?_
                      show ma_wp X d w 40 71 [(0, .inr (.inr (some 91))), (1, .inl n)] [.inl (0 : Int32)] (ma_put S15 91 5 (.inl (mI S15 91 5))) _
                      refine zw_if0 hm_40 dX4_findRoom_71 (t := 81) rfl zc0_eq (fun _ => ?_) (fun hc => absurd (by decide) hc)
                      refine zw_push hm_40 dX4_findRoom_81 (v := .inl (-1 : Int32)) rfl ?_
                      exact zw_iret hm_40 dX4_findRoom_82 h
                    · intro hc
                      rw [if_neg hc] at h
                      refine zw_push hm_41 dX4_fits_4 (v := .inl (mI S15 91 5)) rfl ?_
                      refine zw_push hm_41 dX4_fits_5 (v := .inl (93 : Int32)) rfl ?_
                      refine zw_if2 hm_41 dX4_fits_7 (t := 29) rfl zc2_ge ?_ ?_
                      · intro hc
                        rw [if_pos hc] at h
                        refine zw_push hm_41 dX4_fits_29 (v := .inl (0 : Int32)) rfl ?_
                        refine zw_bret hm_41 dX4_fits_30 (by decide) ?_
                        show ma_wp X d w 40 71 [(0, .inr (.inr (some 91))), (1, .inl n)] [.inl (0 : Int32)] (ma_put S15 91 5 (.inl (mI S15 91 5))) _
                        refine zw_if0 hm_40 dX4_findRoom_71 (t := 81) rfl zc0_eq (fun _ => ?_) (fun hc => absurd (by decide) hc)
                        refine zw_push hm_40 dX4_findRoom_81 (v := .inl (-1 : Int32)) rfl ?_
                        exact zw_iret hm_40 dX4_findRoom_82 h
                      · intro hc
                        rw [if_neg hc] at h
                        refine zw_push hm_41 dX4_fits_10 (v := .inr (.inr (some 91))) rfl ?_
                        refine zw_gf hm_41 dX4_fits_11 (v := .inr (.inr (some 92))) (zT_is (zT_pi hS15) s_91) (zT_t (zT_pi hS15) s_91) rfl f_4_9_4 (zT_f (zT_pi hS15) r_91_7) ?_
                        refine zw_push hm_41 dX4_fits_14 (v := .inl (mI S15 91 5)) rfl ?_
                        obtain ⟨hg, h⟩ := h
                        refine zw_ia hm_41 dX4_fits_15 (zT_is (zT_pi hS15) s_92) (zT_h (zT_pi hS15) s_92) rfl hg ?_
                        show ma_wp X (d - 1) (w - 22) 41 16 [(0, .inr (.inr (some 91))), (1, .inl (mI S15 91 5)), (2, .inl n)] [.inl (mI S15 92 (mI S15 91 5).toNatClampNeg)] (ma_put S15 91 5 (.inl (mI S15 91 5))) _
                        refine zw_push hm_41 dX4_fits_16 (v := .inl n) rfl ?_
                        refine zw_stk hm_41 dX4_fits_17 (st' := [.inl ((mI S15 92 (mI S15 91 5).toNatClampNeg) + n)]) rfl rfl ?_
                        refine zw_push hm_41 dX4_fits_18 (v := .inr (.inr (some 91))) rfl ?_
                        refine zw_gf hm_41 dX4_fits_19 (v := .inl (mI S15 91 2)) (zT_is (zT_pi hS15) s_91) (zT_t (zT_pi hS15) s_91) rfl f_4_18_4 rfl ?_
                        refine zw_if2 hm_41 dX4_fits_22 (t := 29) rfl zc2_gt ?_ ?_
                        · intro hc
                          rw [if_pos hc] at h
                          refine zw_push hm_41 dX4_fits_29 (v := .inl (0 : Int32)) rfl ?_
                          refine zw_bret hm_41 dX4_fits_30 (by decide) ?_
                          show ma_wp X d w 40 71 [(0, .inr (.inr (some 91))), (1, .inl n)] [.inl (0 : Int32)] (ma_put S15 91 5 (.inl (mI S15 91 5))) _
                          refine zw_if0 hm_40 dX4_findRoom_71 (t := 81) rfl zc0_eq (fun _ => ?_) (fun hc => absurd (by decide) hc)
                          refine zw_push hm_40 dX4_findRoom_81 (v := .inl (-1 : Int32)) rfl ?_
                          exact zw_iret hm_40 dX4_findRoom_82 h
                        · intro hc
                          rw [if_neg hc] at h
                          refine zw_push hm_41 dX4_fits_25 (v := .inl (1 : Int32)) rfl ?_
                          refine zw_goto hm_41 dX4_fits_26 (t := 30) rfl ?_
                          refine zw_bret hm_41 dX4_fits_30 (by decide) ?_
                          show ma_wp X d w 40 71 [(0, .inr (.inr (some 91))), (1, .inl n)] [.inl (1 : Int32)] (ma_put S15 91 5 (.inl (mI S15 91 5))) _
                          refine zw_if0 hm_40 dX4_findRoom_71 (t := 81) rfl zc0_eq (fun hc => absurd hc (by decide)) (fun _ => ?_)
                          refine zw_push hm_40 dX4_findRoom_74 (v := .inr (.inr (some 91))) rfl ?_
                          refine zw_cv hm_40 dX4_findRoom_75 v_4_60_4 hm_55 [] [] rfl (zT_rt (zT_pi hS15) s_91 rfl) ⟨by omega, by omega⟩ rfl (zw_mono h (zi_go ?_ ?_))
                          · intro v20 S19 hv
                            obtain ⟨hS19, h⟩ := hv
                            refine zw_goto hm_40 dX4_findRoom_78 (t := 82) rfl ?_
                            exact zw_iret hm_40 dX4_findRoom_82 h
                          · intro x S9 hx
                            exact ⟨by decide, hx⟩
                · intro x S9 hx
                  exact ⟨by decide, hx⟩
              · intro hc
                rw [if_neg hc] at h
                refine zw_push hm_41 dX4_fits_25 (v := .inl (1 : Int32)) rfl ?_
                refine zw_goto hm_41 dX4_fits_26 (t := 30) rfl ?_
                refine zw_bret hm_41 dX4_fits_30 (by decide) ?_
                show ma_wp X d w 40 44 [(0, .inr (.inr (some 91))), (1, .inl n)] [.inl (1 : Int32)] S1 _
                refine zw_if0 hm_40 dX4_findRoom_44 (t := 62) rfl zc0_ne (fun _ => ?_) (fun hc => absurd (by decide) hc)
                refine zw_push hm_40 dX4_findRoom_62 (v := .inr (.inr (some 91))) rfl ?_
                refine zw_push hm_40 dX4_findRoom_63 (v := .inr (.inr (some 91))) rfl ?_
                refine zw_gf hm_40 dX4_findRoom_64 (v := .inl (mI S1 91 5)) (zT_is hS1 s_91) (zT_t hS1 s_91) rfl f_4_34_4 rfl ?_
                refine zw_push hm_40 dX4_findRoom_67 (v := .inl n) rfl ?_
                refine zw_cv hm_40 dX4_findRoom_68 v_4_43_4 hm_41 [.inl n, .inl (mI S1 91 5)] [] rfl (zT_rt hS1 s_91 rfl) ⟨by omega, by omega⟩ rfl ?_
                show ma_wp X (d - 1) (w - 22) 41 0 [(0, .inr (.inr (some 91))), (1, .inl (mI S1 91 5)), (2, .inl n)] [] S1 _
                refine zw_push hm_41 dX4_fits_0 (v := .inl (mI S1 91 5)) rfl ?_
                refine zw_if0 hm_41 dX4_fits_1 (t := 29) rfl zc0_lt ?_ ?_
                · intro hc
                  rw [if_pos hc] at h
                  refine zw_push hm_41 dX4_fits_29 (v := .inl (0 : Int32)) rfl ?_
                  refine zw_bret hm_41 dX4_fits_30 (by decide) ?_
                  show ma_wp X d w 40 71 [(0, .inr (.inr (some 91))), (1, .inl n)] [.inl (0 : Int32)] S1 _
                  refine zw_if0 hm_40 dX4_findRoom_71 (t := 81) rfl zc0_eq (fun _ => ?_) (fun hc => absurd (by decide) hc)
                  refine zw_push hm_40 dX4_findRoom_81 (v := .inl (-1 : Int32)) rfl ?_
                  exact zw_iret hm_40 dX4_findRoom_82 h
                · intro hc
                  rw [if_neg hc] at h
                  refine zw_push hm_41 dX4_fits_4 (v := .inl (mI S1 91 5)) rfl ?_
                  refine zw_push hm_41 dX4_fits_5 (v := .inl (93 : Int32)) rfl ?_
                  refine zw_if2 hm_41 dX4_fits_7 (t := 29) rfl zc2_ge ?_ ?_
                  · intro hc
                    rw [if_pos hc] at h
                    refine zw_push hm_41 dX4_fits_29 (v := .inl (0 : Int32)) rfl ?_
                    refine zw_bret hm_41 dX4_fits_30 (by decide) ?_
                    show ma_wp X d w 40 71 [(0, .inr (.inr (some 91))), (1, .inl n)] [.inl (0 : Int32)] S1 _
                    refine zw_if0 hm_40 dX4_findRoom_71 (t := 81) rfl zc0_eq (fun _ => ?_) (fun hc => absurd (by decide) hc)
                    refine zw_push hm_40 dX4_findRoom_81 (v := .inl (-1 : Int32)) rfl ?_
                    exact zw_iret hm_40 dX4_findRoom_82 h
                  · intro hc
                    rw [if_neg hc] at h
                    refine zw_push hm_41 dX4_fits_10 (v := .inr (.inr (some 91))) rfl ?_
                    refine zw_gf hm_41 dX4_fits_11 (v := .inr (.inr (some 92))) (zT_is hS1 s_91) (zT_t hS1 s_91) rfl f_4_9_4 (zT_f hS1 r_91_7) ?_
                    refine zw_push hm_41 dX4_fits_14 (v := .inl (mI S1 91 5)) rfl ?_
                    obtain ⟨hg, h⟩ := h
                    refine zw_ia hm_41 dX4_fits_15 (zT_is hS1 s_92) (zT_h hS1 s_92) rfl hg ?_
                    show ma_wp X (d - 1) (w - 22) 41 16 [(0, .inr (.inr (some 91))), (1, .inl (mI S1 91 5)), (2, .inl n)] [.inl (mI S1 92 (mI S1 91 5).toNatClampNeg)] S1 _
                    refine zw_push hm_41 dX4_fits_16 (v := .inl n) rfl ?_
                    refine zw_stk hm_41 dX4_fits_17 (st' := [.inl ((mI S1 92 (mI S1 91 5).toNatClampNeg) + n)]) rfl rfl ?_
                    refine zw_push hm_41 dX4_fits_18 (v := .inr (.inr (some 91))) rfl ?_
                    refine zw_gf hm_41 dX4_fits_19 (v := .inl (mI S1 91 2)) (zT_is hS1 s_91) (zT_t hS1 s_91) rfl f_4_18_4 rfl ?_
                    refine zw_if2 hm_41 dX4_fits_22 (t := 29) rfl zc2_gt ?_ ?_
                    · intro hc
                      rw [if_pos hc] at h
                      refine zw_push hm_41 dX4_fits_29 (v := .inl (0 : Int32)) rfl ?_
                      refine zw_bret hm_41 dX4_fits_30 (by decide) ?_
                      show ma_wp X d w 40 71 [(0, .inr (.inr (some 91))), (1, .inl n)] [.inl (0 : Int32)] S1 _
                      refine zw_if0 hm_40 dX4_findRoom_71 (t := 81) rfl zc0_eq (fun _ => ?_) (fun hc => absurd (by decide) hc)
                      refine zw_push hm_40 dX4_findRoom_81 (v := .inl (-1 : Int32)) rfl ?_
                      exact zw_iret hm_40 dX4_findRoom_82 h
                    · intro hc
                      rw [if_neg hc] at h
                      refine zw_push hm_41 dX4_fits_25 (v := .inl (1 : Int32)) rfl ?_
                      refine zw_goto hm_41 dX4_fits_26 (t := 30) rfl ?_
                      refine zw_bret hm_41 dX4_fits_30 (by decide) ?_
                      show ma_wp X d w 40 71 [(0, .inr (.inr (some 91))), (1, .inl n)] [.inl (1 : Int32)] S1 _
                      refine zw_if0 hm_40 dX4_findRoom_71 (t := 81) rfl zc0_eq (fun hc => absurd hc (by decide)) (fun _ => ?_)
                      refine zw_push hm_40 dX4_findRoom_74 (v := .inr (.inr (some 91))) rfl ?_
                      refine zw_cv hm_40 dX4_findRoom_75 v_4_60_4 hm_55 [] [] rfl (zT_rt hS1 s_91 rfl) ⟨by omega, by omega⟩ rfl (zw_mono h (zi_go ?_ ?_))
                      · intro v22 S21 hv
                        obtain ⟨hS21, h⟩ := hv
                        refine zw_goto hm_40 dX4_findRoom_78 (t := 82) rfl ?_
                        exact zw_iret hm_40 dX4_findRoom_82 h
                      · intro x S9 hx
                        exact ⟨by decide, hx⟩
        · intro hc
          rw [if_neg hc] at h
          refine zw_push hm_40 dX4_findRoom_30 (v := .inr (.inr (some 91))) rfl ?_
          refine zw_cv hm_40 dX4_findRoom_31 v_4_51_4 hm_43 [] [] rfl (zT_rt hS1 s_91 rfl) ⟨by omega, by omega⟩ rfl (zw_mono h (zi_go ?_ ?_))
          · intro v24 S23 hv
            obtain ⟨hS23, h⟩ := hv
            refine zw_stk hm_40 dX4_findRoom_34 (st' := []) rfl rfl ?_
            refine zw_push hm_40 dX4_findRoom_35 (v := .inr (.inr (some 91))) rfl ?_
            refine zw_push hm_40 dX4_findRoom_36 (v := .inr (.inr (some 91))) rfl ?_
            refine zw_gf hm_40 dX4_findRoom_37 (v := .inl (mI S23 91 5)) (zT_is hS23 s_91) (zT_t hS23 s_91) rfl f_4_34_4 rfl ?_
            refine zw_push hm_40 dX4_findRoom_40 (v := .inl n) rfl ?_
            refine zw_cv hm_40 dX4_findRoom_41 v_4_43_4 hm_41 [.inl n, .inl (mI S23 91 5)] [] rfl (zT_rt hS23 s_91 rfl) ⟨by omega, by omega⟩ rfl ?_
            show ma_wp X (d - 1) (w - 22) 41 0 [(0, .inr (.inr (some 91))), (1, .inl (mI S23 91 5)), (2, .inl n)] [] S23 _
            refine zw_push hm_41 dX4_fits_0 (v := .inl (mI S23 91 5)) rfl ?_
            refine zw_if0 hm_41 dX4_fits_1 (t := 29) rfl zc0_lt ?_ ?_
            · intro hc
              rw [if_pos hc] at h
              refine zw_push hm_41 dX4_fits_29 (v := .inl (0 : Int32)) rfl ?_
              refine zw_bret hm_41 dX4_fits_30 (by decide) ?_
              show ma_wp X d w 40 44 [(0, .inr (.inr (some 91))), (1, .inl n)] [.inl (0 : Int32)] S23 _
              refine zw_if0 hm_40 dX4_findRoom_44 (t := 62) rfl zc0_ne (fun hc => absurd hc (by decide)) (fun _ => ?_)
              refine zw_push hm_40 dX4_findRoom_47 (v := .inr (.inr (some 91))) rfl ?_
              refine zw_push hm_40 dX4_findRoom_48 (v := .inr (.inr (some 91))) rfl ?_
              refine zw_cv hm_40 dX4_findRoom_49 v_4_54_4 hm_52 [] [.inr (.inr (some 91))] rfl (zT_rt hS23 s_91 rfl) ⟨by omega, by omega⟩ rfl (zw_mono h (zi_go ?_ ?_))
              · intro v26 S25 hv
                obtain ⟨hS25, h⟩ := hv
                refine zw_push hm_40 dX4_findRoom_52 (v := .inr (.inr (some 91))) rfl ?_
                refine zw_gf hm_40 dX4_findRoom_53 (v := .inl (mI S25 91 5)) (zT_is hS25 s_91) (zT_t hS25 s_91) rfl f_4_34_4 rfl ?_
                refine zw_cs hm_40 dX4_findRoom_56 pn_4_57 sl_4_57 hm_54 [.inl (mI S25 91 5), .inl v26] [.inr (.inr (some 91))] rfl ⟨by omega, by omega⟩ rfl ?_
                show ma_wp X (d - 1) (w - 21) 54 0 [(0, .inl v26), (1, .inl (mI S25 91 5))] [] S25 _
                refine zw_push hm_54 dX4_orElse_0 (v := .inl v26) rfl ?_
                refine zw_push hm_54 dX4_orElse_1 (v := .inl (-1 : Int32)) rfl ?_
                refine zw_if2 hm_54 dX4_orElse_2 (t := 9) rfl zc2_ne ?_ ?_
                · intro hc
                  rw [if_neg hc] at h
                  refine zw_push hm_54 dX4_orElse_9 (v := .inl v26) rfl ?_
                  refine zw_iret hm_54 dX4_orElse_10 ?_
                  show ma_wp X d w 40 59 [(0, .inr (.inr (some 91))), (1, .inl n)] [.inl v26, .inr (.inr (some 91))] S25 _
                  refine zw_pf hm_40 dX4_findRoom_59 (zT_is hS25 s_91) (zT_t hS25 s_91) p_4_34_4 zk_int ?_
                  refine zw_push hm_40 dX4_findRoom_62 (v := .inr (.inr (some 91))) rfl ?_
                  refine zw_push hm_40 dX4_findRoom_63 (v := .inr (.inr (some 91))) rfl ?_
                  refine zw_gf hm_40 dX4_findRoom_64 (v := .inl v26) (zT_is (zT_pi hS25) s_91) (zT_t (zT_pi hS25) s_91) rfl f_4_34_4 rfl ?_
                  refine zw_push hm_40 dX4_findRoom_67 (v := .inl n) rfl ?_
                  refine zw_cv hm_40 dX4_findRoom_68 v_4_43_4 hm_41 [.inl n, .inl v26] [] rfl (zT_rt (zT_pi hS25) s_91 rfl) ⟨by omega, by omega⟩ rfl ?_
                  show ma_wp X (d - 1) (w - 22) 41 0 [(0, .inr (.inr (some 91))), (1, .inl v26), (2, .inl n)] [] (ma_put S25 91 5 (.inl v26)) _
                  refine zw_push hm_41 dX4_fits_0 (v := .inl v26) rfl ?_
                  refine zw_if0 hm_41 dX4_fits_1 (t := 29) rfl zc0_lt ?_ ?_
                  · intro hc
                    rw [if_pos hc] at h
                    refine zw_push hm_41 dX4_fits_29 (v := .inl (0 : Int32)) rfl ?_
                    refine zw_bret hm_41 dX4_fits_30 (by decide) ?_
                    show ma_wp X d w 40 71 [(0, .inr (.inr (some 91))), (1, .inl n)] [.inl (0 : Int32)] (ma_put S25 91 5 (.inl v26)) _
                    refine zw_if0 hm_40 dX4_findRoom_71 (t := 81) rfl zc0_eq (fun _ => ?_) (fun hc => absurd (by decide) hc)
                    refine zw_push hm_40 dX4_findRoom_81 (v := .inl (-1 : Int32)) rfl ?_
                    exact zw_iret hm_40 dX4_findRoom_82 h
                  · intro hc
                    rw [if_neg hc] at h
                    refine zw_push hm_41 dX4_fits_4 (v := .inl v26) rfl ?_
                    refine zw_push hm_41 dX4_fits_5 (v := .inl (93 : Int32)) rfl ?_
                    refine zw_if2 hm_41 dX4_fits_7 (t := 29) rfl zc2_ge ?_ ?_
                    · intro hc
                      rw [if_pos hc] at h
                      refine zw_push hm_41 dX4_fits_29 (v := .inl (0 : Int32)) rfl ?_
                      refine zw_bret hm_41 dX4_fits_30 (by decide) ?_
                      show ma_wp X d w 40 71 [(0, .inr (.inr (some 91))), (1, .inl n)] [.inl (0 : Int32)] (ma_put S25 91 5 (.inl v26)) _
                      refine zw_if0 hm_40 dX4_findRoom_71 (t := 81) rfl zc0_eq (fun _ => ?_) (fun hc => absurd (by decide) hc)
                      refine zw_push hm_40 dX4_findRoom_81 (v := .inl (-1 : Int32)) rfl ?_
                      exact zw_iret hm_40 dX4_findRoom_82 h
                    · intro hc
                      rw [if_neg hc] at h
                      refine zw_push hm_41 dX4_fits_10 (v := .inr (.inr (some 91))) rfl ?_
                      refine zw_gf hm_41 dX4_fits_11 (v := .inr (.inr (some 92))) (zT_is (zT_pi hS25) s_91) (zT_t (zT_pi hS25) s_91) rfl f_4_9_4 (zT_f (zT_pi hS25) r_91_7) ?_
                      refine zw_push hm_41 dX4_fits_14 (v := .inl v26) rfl ?_
                      obtain ⟨hg, h⟩ := h
                      refine zw_ia hm_41 dX4_fits_15 (zT_is (zT_pi hS25) s_92) (zT_h (zT_pi hS25) s_92) rfl hg ?_
                      show ma_wp X (d - 1) (w - 22) 41 16 [(0, .inr (.inr (some 91))), (1, .inl v26), (2, .inl n)] [.inl (mI S25 92 v26.toNatClampNeg)] (ma_put S25 91 5 (.inl v26)) _
                      refine zw_push hm_41 dX4_fits_16 (v := .inl n) rfl ?_
                      refine zw_stk hm_41 dX4_fits_17 (st' := [.inl ((mI S25 92 v26.toNatClampNeg) + n)]) rfl rfl ?_
                      refine zw_push hm_41 dX4_fits_18 (v := .inr (.inr (some 91))) rfl ?_
                      refine zw_gf hm_41 dX4_fits_19 (v := .inl (mI S25 91 2)) (zT_is (zT_pi hS25) s_91) (zT_t (zT_pi hS25) s_91) rfl f_4_18_4 rfl ?_
                      refine zw_if2 hm_41 dX4_fits_22 (t := 29) rfl zc2_gt ?_ ?_
                      · intro hc
                        rw [if_pos hc] at h
                        refine zw_push hm_41 dX4_fits_29 (v := .inl (0 : Int32)) rfl ?_
                        refine zw_bret hm_41 dX4_fits_30 (by decide) ?_
                        show ma_wp X d w 40 71 [(0, .inr (.inr (some 91))), (1, .inl n)] [.inl (0 : Int32)] (ma_put S25 91 5 (.inl v26)) _
                        refine zw_if0 hm_40 dX4_findRoom_71 (t := 81) rfl zc0_eq (fun _ => ?_) (fun hc => absurd (by decide) hc)
                        refine zw_push hm_40 dX4_findRoom_81 (v := .inl (-1 : Int32)) rfl ?_
                        exact zw_iret hm_40 dX4_findRoom_82 h
                      · intro hc
                        rw [if_neg hc] at h
                        refine zw_push hm_41 dX4_fits_25 (v := .inl (1 : Int32)) rfl ?_
                        refine zw_goto hm_41 dX4_fits_26 (t := 30) rfl ?_
                        refine zw_bret hm_41 dX4_fits_30 (by decide) ?_
                        show ma_wp X d w 40 71 [(0, .inr (.inr (some 91))), (1, .inl n)] [.inl (1 : Int32)] (ma_put S25 91 5 (.inl v26)) _
                        refine zw_if0 hm_40 dX4_findRoom_71 (t := 81) rfl zc0_eq (fun hc => absurd hc (by decide)) (fun _ => ?_)
                        refine zw_push hm_40 dX4_findRoom_74 (v := .inr (.inr (some 91))) rfl ?_
                        refine zw_cv hm_40 dX4_findRoom_75 v_4_60_4 hm_55 [] [] rfl (zT_rt (zT_pi hS25) s_91 rfl) ⟨by omega, by omega⟩ rfl (zw_mono h (zi_go ?_ ?_))
                        · intro v28 S27 hv
                          obtain ⟨hS27, h⟩ := hv
                          refine zw_goto hm_40 dX4_findRoom_78 (t := 82) rfl ?_
                          exact zw_iret hm_40 dX4_findRoom_82 h
                        · intro x S9 hx
                          exact ⟨by decide, hx⟩
                · intro hc
                  rw [if_pos (Classical.not_not.mp hc)] at h
                  refine zw_push hm_54 dX4_orElse_5 (v := .inl (mI S25 91 5)) rfl ?_
                  refine zw_goto hm_54 dX4_orElse_6 (t := 10) rfl ?_
                  refine zw_iret hm_54 dX4_orElse_10 ?_
                  show ma_wp X d w 40 59 [(0, .inr (.inr (some 91))), (1, .inl n)] [.inl (mI S25 91 5), .inr (.inr (some 91))] S25 _
                  refine zw_pf hm_40 dX4_findRoom_59 (zT_is hS25 s_91) (zT_t hS25 s_91) p_4_34_4 zk_int ?_
                  refine zw_push hm_40 dX4_findRoom_62 (v := .inr (.inr (some 91))) rfl ?_
                  refine zw_push hm_40 dX4_findRoom_63 (v := .inr (.inr (some 91))) rfl ?_
                  refine zw_gf hm_40 dX4_findRoom_64 (v := .inl (mI S25 91 5)) (zT_is (zT_pi hS25) s_91) (zT_t (zT_pi hS25) s_91) rfl f_4_34_4 rfl ?_
                  refine zw_push hm_40 dX4_findRoom_67 (v := .inl n) rfl ?_
                  refine zw_cv hm_40 dX4_findRoom_68 v_4_43_4 hm_41 [.inl n, .inl (mI S25 91 5)] [] rfl (zT_rt (zT_pi hS25) s_91 rfl) ⟨by omega, by omega⟩ rfl ?_
                  show ma_wp X (d - 1) (w - 22) 41 0 [(0, .inr (.inr (some 91))), (1, .inl (mI S25 91 5)), (2, .inl n)] [] (ma_put S25 91 5 (.inl (mI S25 91 5))) _
                  refine zw_push hm_41 dX4_fits_0 (v := .inl (mI S25 91 5)) rfl ?_
                  refine zw_if0 hm_41 dX4_fits_1 (t := 29) rfl zc0_lt ?_ ?_
                  · intro hc
                    rw [if_pos hc] at h
                    refine zw_push hm_41 dX4_fits_29 (v := .inl (0 : Int32)) rfl ?_
                    refine zw_bret hm_41 dX4_fits_30 (by decide) ?_
                    show ma_wp X d w 40 71 [(0, .inr (.inr (some 91))), (1, .inl n)] [.inl (0 : Int32)] (ma_put S25 91 5 (.inl (mI S25 91 5))) _
                    refine zw_if0 hm_40 dX4_findRoom_71 (t := 81) rfl zc0_eq (fun _ => ?_) (fun hc => absurd (by decide) hc)
                    refine zw_push hm_40 dX4_findRoom_81 (v := .inl (-1 : Int32)) rfl ?_
                    exact zw_iret hm_40 dX4_findRoom_82 h
                  · intro hc
                    rw [if_neg hc] at h
                    refine zw_push hm_41 dX4_fits_4 (v := .inl (mI S25 91 5)) rfl ?_
                    refine zw_push hm_41 dX4_fits_5 (v := .inl (93 : Int32)) rfl ?_
                    refine zw_if2 hm_41 dX4_fits_7 (t := 29) rfl zc2_ge ?_ ?_
                    · intro hc
                      rw [if_pos hc] at h
                      refine zw_push hm_41 dX4_fits_29 (v := .inl (0 : Int32)) rfl ?_
                      refine zw_bret hm_41 dX4_fits_30 (by decide) ?_
                      show ma_wp X d w 40 71 [(0, .inr (.inr (some 91))), (1, .inl n)] [.inl (0 : Int32)] (ma_put S25 91 5 (.inl (mI S25 91 5))) _
                      refine zw_if0 hm_40 dX4_findRoom_71 (t := 81) rfl zc0_eq (fun _ => ?_) (fun hc => absurd (by decide) hc)
                      refine zw_push hm_40 dX4_findRoom_81 (v := .inl (-1 : Int32)) rfl ?_
                      exact zw_iret hm_40 dX4_findRoom_82 h
                    · intro hc
                      rw [if_neg hc] at h
                      refine zw_push hm_41 dX4_fits_10 (v := .inr (.inr (some 91))) rfl ?_
                      refine zw_gf hm_41 dX4_fits_11 (v := .inr (.inr (some 92))) (zT_is (zT_pi hS25) s_91) (zT_t (zT_pi hS25) s_91) rfl f_4_9_4 (zT_f (zT_pi hS25) r_91_7) ?_
                      refine zw_push hm_41 dX4_fits_14 (v := .inl (mI S25 91 5)) rfl ?_
                      obtain ⟨hg, h⟩ := h
                      refine zw_ia hm_41 dX4_fits_15 (zT_is (zT_pi hS25) s_92) (zT_h (zT_pi hS25) s_92) rfl hg ?_
                      show ma_wp X (d - 1) (w - 22) 41 16 [(0, .inr (.inr (some 91))), (1, .inl (mI S25 91 5)), (2, .inl n)] [.inl (mI S25 92 (mI S25 91 5).toNatClampNeg)] (ma_put S25 91 5 (.inl (mI S25 91 5))) _
                      refine zw_push hm_41 dX4_fits_16 (v := .inl n) rfl ?_
                      refine zw_stk hm_41 dX4_fits_17 (st' := [.inl ((mI S25 92 (mI S25 91 5).toNatClampNeg) + n)]) rfl rfl ?_
                      refine zw_push hm_41 dX4_fits_18 (v := .inr (.inr (some 91))) rfl ?_
                      refine zw_gf hm_41 dX4_fits_19 (v := .inl (mI S25 91 2)) (zT_is (zT_pi hS25) s_91) (zT_t (zT_pi hS25) s_91) rfl f_4_18_4 rfl ?_
                      refine zw_if2 hm_41 dX4_fits_22 (t := 29) rfl zc2_gt ?_ ?_
                      · intro hc
                        rw [if_pos hc] at h
                        refine zw_push hm_41 dX4_fits_29 (v := .inl (0 : Int32)) rfl ?_
                        refine zw_bret hm_41 dX4_fits_30 (by decide) ?_
                        show ma_wp X d w 40 71 [(0, .inr (.inr (some 91))), (1, .inl n)] [.inl (0 : Int32)] (ma_put S25 91 5 (.inl (mI S25 91 5))) _
                        refine zw_if0 hm_40 dX4_findRoom_71 (t := 81) rfl zc0_eq (fun _ => ?_) (fun hc => absurd (by decide) hc)
                        refine zw_push hm_40 dX4_findRoom_81 (v := .inl (-1 : Int32)) rfl ?_
                        exact zw_iret hm_40 dX4_findRoom_82 h
                      · intro hc
                        rw [if_neg hc] at h
                        refine zw_push hm_41 dX4_fits_25 (v := .inl (1 : Int32)) rfl ?_
                        refine zw_goto hm_41 dX4_fits_26 (t := 30) rfl ?_
                        refine zw_bret hm_41 dX4_fits_30 (by decide) ?_
                        show ma_wp X d w 40 71 [(0, .inr (.inr (some 91))), (1, .inl n)] [.inl (1 : Int32)] (ma_put S25 91 5 (.inl (mI S25 91 5))) _
                        refine zw_if0 hm_40 dX4_findRoom_71 (t := 81) rfl zc0_eq (fun hc => absurd hc (by decide)) (fun _ => ?_)
                        refine zw_push hm_40 dX4_findRoom_74 (v := .inr (.inr (some 91))) rfl ?_
                        refine zw_cv hm_40 dX4_findRoom_75 v_4_60_4 hm_55 [] [] rfl (zT_rt (zT_pi hS25) s_91 rfl) ⟨by omega, by omega⟩ rfl (zw_mono h (zi_go ?_ ?_))
                        · intro v30 S29 hv
                          obtain ⟨hS29, h⟩ := hv
                          refine zw_goto hm_40 dX4_findRoom_78 (t := 82) rfl ?_
                          exact zw_iret hm_40 dX4_findRoom_82 h
                        · intro x S9 hx
                          exact ⟨by decide, hx⟩
              · intro x S9 hx
                exact ⟨by decide, hx⟩
            · intro hc
              rw [if_neg hc] at h
              refine zw_push hm_41 dX4_fits_4 (v := .inl (mI S23 91 5)) rfl ?_
              refine zw_push hm_41 dX4_fits_5 (v := .inl (93 : Int32)) rfl ?_
              refine zw_if2 hm_41 dX4_fits_7 (t := 29) rfl zc2_ge ?_ ?_
              · intro hc
                rw [if_pos hc] at h
                refine zw_push hm_41 dX4_fits_29 (v := .inl (0 : Int32)) rfl ?_
                refine zw_bret hm_41 dX4_fits_30 (by decide) ?_
                show ma_wp X d w 40 44 [(0, .inr (.inr (some 91))), (1, .inl n)] [.inl (0 : Int32)] S23 _
                refine zw_if0 hm_40 dX4_findRoom_44 (t := 62) rfl zc0_ne (fun hc => absurd hc (by decide)) (fun _ => ?_)
                refine zw_push hm_40 dX4_findRoom_47 (v := .inr (.inr (some 91))) rfl ?_
                refine zw_push hm_40 dX4_findRoom_48 (v := .inr (.inr (some 91))) rfl ?_
                refine zw_cv hm_40 dX4_findRoom_49 v_4_54_4 hm_52 [] [.inr (.inr (some 91))] rfl (zT_rt hS23 s_91 rfl) ⟨by omega, by omega⟩ rfl (zw_mono h (zi_go ?_ ?_))
                · intro v32 S31 hv
                  obtain ⟨hS31, h⟩ := hv
                  refine zw_push hm_40 dX4_findRoom_52 (v := .inr (.inr (some 91))) rfl ?_
                  refine zw_gf hm_40 dX4_findRoom_53 (v := .inl (mI S31 91 5)) (zT_is hS31 s_91) (zT_t hS31 s_91) rfl f_4_34_4 rfl ?_
                  refine zw_cs hm_40 dX4_findRoom_56 pn_4_57 sl_4_57 hm_54 [.inl (mI S31 91 5), .inl v32] [.inr (.inr (some 91))] rfl ⟨by omega, by omega⟩ rfl ?_
                  show ma_wp X (d - 1) (w - 21) 54 0 [(0, .inl v32), (1, .inl (mI S31 91 5))] [] S31 _
                  refine zw_push hm_54 dX4_orElse_0 (v := .inl v32) rfl ?_
                  refine zw_push hm_54 dX4_orElse_1 (v := .inl (-1 : Int32)) rfl ?_
                  refine zw_if2 hm_54 dX4_orElse_2 (t := 9) rfl zc2_ne ?_ ?_
                  · intro hc
                    rw [if_neg hc] at h
                    refine zw_push hm_54 dX4_orElse_9 (v := .inl v32) rfl ?_
                    refine zw_iret hm_54 dX4_orElse_10 ?_
                    show ma_wp X d w 40 59 [(0, .inr (.inr (some 91))), (1, .inl n)] [.inl v32, .inr (.inr (some 91))] S31 _
                    refine zw_pf hm_40 dX4_findRoom_59 (zT_is hS31 s_91) (zT_t hS31 s_91) p_4_34_4 zk_int ?_
                    refine zw_push hm_40 dX4_findRoom_62 (v := .inr (.inr (some 91))) rfl ?_
                    refine zw_push hm_40 dX4_findRoom_63 (v := .inr (.inr (some 91))) rfl ?_
                    refine zw_gf hm_40 dX4_findRoom_64 (v := .inl v32) (zT_is (zT_pi hS31) s_91) (zT_t (zT_pi hS31) s_91) rfl f_4_34_4 rfl ?_
                    refine zw_push hm_40 dX4_findRoom_67 (v := .inl n) rfl ?_
                    refine zw_cv hm_40 dX4_findRoom_68 v_4_43_4 hm_41 [.inl n, .inl v32] [] rfl (zT_rt (zT_pi hS31) s_91 rfl) ⟨by omega, by omega⟩ rfl ?_
                    show ma_wp X (d - 1) (w - 22) 41 0 [(0, .inr (.inr (some 91))), (1, .inl v32), (2, .inl n)] [] (ma_put S31 91 5 (.inl v32)) _
                    refine zw_push hm_41 dX4_fits_0 (v := .inl v32) rfl ?_
                    refine zw_if0 hm_41 dX4_fits_1 (t := 29) rfl zc0_lt ?_ ?_
                    · intro hc
                      rw [if_pos hc] at h
                      refine zw_push hm_41 dX4_fits_29 (v := .inl (0 : Int32)) rfl ?_
                      refine zw_bret hm_41 dX4_fits_30 (by decide) ?_
                      show ma_wp X d w 40 71 [(0, .inr (.inr (some 91))), (1, .inl n)] [.inl (0 : Int32)] (ma_put S31 91 5 (.inl v32)) _
                      refine zw_if0 hm_40 dX4_findRoom_71 (t := 81) rfl zc0_eq (fun _ => ?_) (fun hc => absurd (by decide) hc)
                      refine zw_push hm_40 dX4_findRoom_81 (v := .inl (-1 : Int32)) rfl ?_
                      exact zw_iret hm_40 dX4_findRoom_82 h
                    · intro hc
                      rw [if_neg hc] at h
                      refine zw_push hm_41 dX4_fits_4 (v := .inl v32) rfl ?_
                      refine zw_push hm_41 dX4_fits_5 (v := .inl (93 : Int32)) rfl ?_
                      refine zw_if2 hm_41 dX4_fits_7 (t := 29) rfl zc2_ge ?_ ?_
                      · intro hc
                        rw [if_pos hc] at h
                        refine zw_push hm_41 dX4_fits_29 (v := .inl (0 : Int32)) rfl ?_
                        refine zw_bret hm_41 dX4_fits_30 (by decide) ?_
                        show ma_wp X d w 40 71 [(0, .inr (.inr (some 91))), (1, .inl n)] [.inl (0 : Int32)] (ma_put S31 91 5 (.inl v32)) _
                        refine zw_if0 hm_40 dX4_findRoom_71 (t := 81) rfl zc0_eq (fun _ => ?_) (fun hc => absurd (by decide) hc)
                        refine zw_push hm_40 dX4_findRoom_81 (v := .inl (-1 : Int32)) rfl ?_
                        exact zw_iret hm_40 dX4_findRoom_82 h
                      · intro hc
                        rw [if_neg hc] at h
                        refine zw_push hm_41 dX4_fits_10 (v := .inr (.inr (some 91))) rfl ?_
                        refine zw_gf hm_41 dX4_fits_11 (v := .inr (.inr (some 92))) (zT_is (zT_pi hS31) s_91) (zT_t (zT_pi hS31) s_91) rfl f_4_9_4 (zT_f (zT_pi hS31) r_91_7) ?_
                        refine zw_push hm_41 dX4_fits_14 (v := .inl v32) rfl ?_
                        obtain ⟨hg, h⟩ := h
                        refine zw_ia hm_41 dX4_fits_15 (zT_is (zT_pi hS31) s_92) (zT_h (zT_pi hS31) s_92) rfl hg ?_
                        show ma_wp X (d - 1) (w - 22) 41 16 [(0, .inr (.inr (some 91))), (1, .inl v32), (2, .inl n)] [.inl (mI S31 92 v32.toNatClampNeg)] (ma_put S31 91 5 (.inl v32)) _
                        refine zw_push hm_41 dX4_fits_16 (v := .inl n) rfl ?_
                        refine zw_stk hm_41 dX4_fits_17 (st' := [.inl ((mI S31 92 v32.toNatClampNeg) + n)]) rfl rfl ?_
                        refine zw_push hm_41 dX4_fits_18 (v := .inr (.inr (some 91))) rfl ?_
                        refine zw_gf hm_41 dX4_fits_19 (v := .inl (mI S31 91 2)) (zT_is (zT_pi hS31) s_91) (zT_t (zT_pi hS31) s_91) rfl f_4_18_4 rfl ?_
                        refine zw_if2 hm_41 dX4_fits_22 (t := 29) rfl zc2_gt ?_ ?_
                        · intro hc
                          rw [if_pos hc] at h
                          refine zw_push hm_41 dX4_fits_29 (v := .inl (0 : Int32)) rfl ?_
                          refine zw_bret hm_41 dX4_fits_30 (by decide) ?_
                          show ma_wp X d w 40 71 [(0, .inr (.inr (some 91))), (1, .inl n)] [.inl (0 : Int32)] (ma_put S31 91 5 (.inl v32)) _
                          refine zw_if0 hm_40 dX4_findRoom_71 (t := 81) rfl zc0_eq (fun _ => ?_) (fun hc => absurd (by decide) hc)
                          refine zw_push hm_40 dX4_findRoom_81 (v := .inl (-1 : Int32)) rfl ?_
                          exact zw_iret hm_40 dX4_findRoom_82 h
                        · intro hc
                          rw [if_neg hc] at h
                          refine zw_push hm_41 dX4_fits_25 (v := .inl (1 : Int32)) rfl ?_
                          refine zw_goto hm_41 dX4_fits_26 (t := 30) rfl ?_
                          refine zw_bret hm_41 dX4_fits_30 (by decide) ?_
                          show ma_wp X d w 40 71 [(0, .inr (.inr (some 91))), (1, .inl n)] [.inl (1 : Int32)] (ma_put S31 91 5 (.inl v32)) _
                          refine zw_if0 hm_40 dX4_findRoom_71 (t := 81) rfl zc0_eq (fun hc => absurd hc (by decide)) (fun _ => ?_)
                          refine zw_push hm_40 dX4_findRoom_74 (v := .inr (.inr (some 91))) rfl ?_
                          refine zw_cv hm_40 dX4_findRoom_75 v_4_60_4 hm_55 [] [] rfl (zT_rt (zT_pi hS31) s_91 rfl) ⟨by omega, by omega⟩ rfl (zw_mono h (zi_go ?_ ?_))
                          · intro v34 S33 hv
                            obtain ⟨hS33, h⟩ := hv
                            refine zw_goto hm_40 dX4_findRoom_78 (t := 82) rfl ?_
                            exact zw_iret hm_40 dX4_findRoom_82 h
                          · intro x S9 hx
                            exact ⟨by decide, hx⟩
                  · intro hc
                    rw [if_pos (Classical.not_not.mp hc)] at h
                    refine zw_push hm_54 dX4_orElse_5 (v := .inl (mI S31 91 5)) rfl ?_
                    refine zw_goto hm_54 dX4_orElse_6 (t := 10) rfl ?_
                    refine zw_iret hm_54 dX4_orElse_10 ?_
                    show ma_wp X d w 40 59 [(0, .inr (.inr (some 91))), (1, .inl n)] [.inl (mI S31 91 5), .inr (.inr (some 91))] S31 _
                    refine zw_pf hm_40 dX4_findRoom_59 (zT_is hS31 s_91) (zT_t hS31 s_91) p_4_34_4 zk_int ?_
                    refine zw_push hm_40 dX4_findRoom_62 (v := .inr (.inr (some 91))) rfl ?_
                    refine zw_push hm_40 dX4_findRoom_63 (v := .inr (.inr (some 91))) rfl ?_
                    refine zw_gf hm_40 dX4_findRoom_64 (v := .inl (mI S31 91 5)) (zT_is (zT_pi hS31) s_91) (zT_t (zT_pi hS31) s_91) rfl f_4_34_4 rfl ?_
                    refine zw_push hm_40 dX4_findRoom_67 (v := .inl n) rfl ?_
                    refine zw_cv hm_40 dX4_findRoom_68 v_4_43_4 hm_41 [.inl n, .inl (mI S31 91 5)] [] rfl (zT_rt (zT_pi hS31) s_91 rfl) ⟨by omega, by omega⟩ rfl ?_
                    show ma_wp X (d - 1) (w - 22) 41 0 [(0, .inr (.inr (some 91))), (1, .inl (mI S31 91 5)), (2, .inl n)] [] (ma_put S31 91 5 (.inl (mI S31 91 5))) _
                    refine zw_push hm_41 dX4_fits_0 (v := .inl (mI S31 91 5)) rfl ?_
                    refine zw_if0 hm_41 dX4_fits_1 (t := 29) rfl zc0_lt ?_ ?_
                    · intro hc
                      rw [if_pos hc] at h
                      refine zw_push hm_41 dX4_fits_29 (v := .inl (0 : Int32)) rfl ?_
                      refine zw_bret hm_41 dX4_fits_30 (by decide) ?_
                      show ma_wp X d w 40 71 [(0, .inr (.inr (some 91))), (1, .inl n)] [.inl (0 : Int32)] (ma_put S31 91 5 (.inl (mI S31 91 5))) _
                      refine zw_if0 hm_40 dX4_findRoom_71 (t := 81) rfl zc0_eq (fun _ => ?_) (fun hc => absurd (by decide) hc)
                      refine zw_push hm_40 dX4_findRoom_81 (v := .inl (-1 : Int32)) rfl ?_
                      exact zw_iret hm_40 dX4_findRoom_82 h
                    · intro hc
                      rw [if_neg hc] at h
                      refine zw_push hm_41 dX4_fits_4 (v := .inl (mI S31 91 5)) rfl ?_
                      refine zw_push hm_41 dX4_fits_5 (v := .inl (93 : Int32)) rfl ?_
                      refine zw_if2 hm_41 dX4_fits_7 (t := 29) rfl zc2_ge ?_ ?_
                      · intro hc
                        rw [if_pos hc] at h
                        refine zw_push hm_41 dX4_fits_29 (v := .inl (0 : Int32)) rfl ?_
                        refine zw_bret hm_41 dX4_fits_30 (by decide) ?_
                        show ma_wp X d w 40 71 [(0, .inr (.inr (some 91))), (1, .inl n)] [.inl (0 : Int32)] (ma_put S31 91 5 (.inl (mI S31 91 5))) _
                        refine zw_if0 hm_40 dX4_findRoom_71 (t := 81) rfl zc0_eq (fun _ => ?_) (fun hc => absurd (by decide) hc)
                        refine zw_push hm_40 dX4_findRoom_81 (v := .inl (-1 : Int32)) rfl ?_
                        exact zw_iret hm_40 dX4_findRoom_82 h
                      · intro hc
                        rw [if_neg hc] at h
                        refine zw_push hm_41 dX4_fits_10 (v := .inr (.inr (some 91))) rfl ?_
                        refine zw_gf hm_41 dX4_fits_11 (v := .inr (.inr (some 92))) (zT_is (zT_pi hS31) s_91) (zT_t (zT_pi hS31) s_91) rfl f_4_9_4 (zT_f (zT_pi hS31) r_91_7) ?_
                        refine zw_push hm_41 dX4_fits_14 (v := .inl (mI S31 91 5)) rfl ?_
                        obtain ⟨hg, h⟩ := h
                        refine zw_ia hm_41 dX4_fits_15 (zT_is (zT_pi hS31) s_92) (zT_h (zT_pi hS31) s_92) rfl hg ?_
                        show ma_wp X (d - 1) (w - 22) 41 16 [(0, .inr (.inr (some 91))), (1, .inl (mI S31 91 5)), (2, .inl n)] [.inl (mI S31 92 (mI S31 91 5).toNatClampNeg)] (ma_put S31 91 5 (.inl (mI S31 91 5))) _
                        refine zw_push hm_41 dX4_fits_16 (v := .inl n) rfl ?_
                        refine zw_stk hm_41 dX4_fits_17 (st' := [.inl ((mI S31 92 (mI S31 91 5).toNatClampNeg) + n)]) rfl rfl ?_
                        refine zw_push hm_41 dX4_fits_18 (v := .inr (.inr (some 91))) rfl ?_
                        refine zw_gf hm_41 dX4_fits_19 (v := .inl (mI S31 91 2)) (zT_is (zT_pi hS31) s_91) (zT_t (zT_pi hS31) s_91) rfl f_4_18_4 rfl ?_
                        refine zw_if2 hm_41 dX4_fits_22 (t := 29) rfl zc2_gt ?_ ?_
                        · intro hc
                          rw [if_pos hc] at h
                          refine zw_push hm_41 dX4_fits_29 (v := .inl (0 : Int32)) rfl ?_
                          refine zw_bret hm_41 dX4_fits_30 (by decide) ?_
                          show ma_wp X d w 40 71 [(0, .inr (.inr (some 91))), (1, .inl n)] [.inl (0 : Int32)] (ma_put S31 91 5 (.inl (mI S31 91 5))) _
                          refine zw_if0 hm_40 dX4_findRoom_71 (t := 81) rfl zc0_eq (fun _ => ?_) (fun hc => absurd (by decide) hc)
                          refine zw_push hm_40 dX4_findRoom_81 (v := .inl (-1 : Int32)) rfl ?_
                          exact zw_iret hm_40 dX4_findRoom_82 h
                        · intro hc
                          rw [if_neg hc] at h
                          refine zw_push hm_41 dX4_fits_25 (v := .inl (1 : Int32)) rfl ?_
                          refine zw_goto hm_41 dX4_fits_26 (t := 30) rfl ?_
                          refine zw_bret hm_41 dX4_fits_30 (by decide) ?_
                          show ma_wp X d w 40 71 [(0, .inr (.inr (some 91))), (1, .inl n)] [.inl (1 : Int32)] (ma_put S31 91 5 (.inl (mI S31 91 5))) _
                          refine zw_if0 hm_40 dX4_findRoom_71 (t := 81) rfl zc0_eq (fun hc => absurd hc (by decide)) (fun _ => ?_)
                          refine zw_push hm_40 dX4_findRoom_74 (v := .inr (.inr (some 91))) rfl ?_
                          refine zw_cv hm_40 dX4_findRoom_75 v_4_60_4 hm_55 [] [] rfl (zT_rt (zT_pi hS31) s_91 rfl) ⟨by omega, by omega⟩ rfl (zw_mono h (zi_go ?_ ?_))
                          · intro v36 S35 hv
                            obtain ⟨hS35, h⟩ := hv
                            refine zw_goto hm_40 dX4_findRoom_78 (t := 82) rfl ?_
                            exact zw_iret hm_40 dX4_findRoom_82 h
                          · intro x S9 hx
                            exact ⟨by decide, hx⟩
                · intro x S9 hx
                  exact ⟨by decide, hx⟩
              · intro hc
                rw [if_neg hc] at h
                refine zw_push hm_41 dX4_fits_10 (v := .inr (.inr (some 91))) rfl ?_
                refine zw_gf hm_41 dX4_fits_11 (v := .inr (.inr (some 92))) (zT_is hS23 s_91) (zT_t hS23 s_91) rfl f_4_9_4 (zT_f hS23 r_91_7) ?_
                refine zw_push hm_41 dX4_fits_14 (v := .inl (mI S23 91 5)) rfl ?_
                obtain ⟨hg, h⟩ := h
                refine zw_ia hm_41 dX4_fits_15 (zT_is hS23 s_92) (zT_h hS23 s_92) rfl hg ?_
                show ma_wp X (d - 1) (w - 22) 41 16 [(0, .inr (.inr (some 91))), (1, .inl (mI S23 91 5)), (2, .inl n)] [.inl (mI S23 92 (mI S23 91 5).toNatClampNeg)] S23 _
                refine zw_push hm_41 dX4_fits_16 (v := .inl n) rfl ?_
                refine zw_stk hm_41 dX4_fits_17 (st' := [.inl ((mI S23 92 (mI S23 91 5).toNatClampNeg) + n)]) rfl rfl ?_
                refine zw_push hm_41 dX4_fits_18 (v := .inr (.inr (some 91))) rfl ?_
                refine zw_gf hm_41 dX4_fits_19 (v := .inl (mI S23 91 2)) (zT_is hS23 s_91) (zT_t hS23 s_91) rfl f_4_18_4 rfl ?_
                refine zw_if2 hm_41 dX4_fits_22 (t := 29) rfl zc2_gt ?_ ?_
                · intro hc
                  rw [if_pos hc] at h
                  refine zw_push hm_41 dX4_fits_29 (v := .inl (0 : Int32)) rfl ?_
                  refine zw_bret hm_41 dX4_fits_30 (by decide) ?_
                  show ma_wp X d w 40 44 [(0, .inr (.inr (some 91))), (1, .inl n)] [.inl (0 : Int32)] S23 _
                  refine zw_if0 hm_40 dX4_findRoom_44 (t := 62) rfl zc0_ne (fun hc => absurd hc (by decide)) (fun _ => ?_)
                  refine zw_push hm_40 dX4_findRoom_47 (v := .inr (.inr (some 91))) rfl ?_
                  refine zw_push hm_40 dX4_findRoom_48 (v := .inr (.inr (some 91))) rfl ?_
                  refine zw_cv hm_40 dX4_findRoom_49 v_4_54_4 hm_52 [] [.inr (.inr (some 91))] rfl (zT_rt hS23 s_91 rfl) ⟨by omega, by omega⟩ rfl (zw_mono h (zi_go ?_ ?_))
                  · intro v38 S37 hv
                    obtain ⟨hS37, h⟩ := hv
                    refine zw_push hm_40 dX4_findRoom_52 (v := .inr (.inr (some 91))) rfl ?_
                    refine zw_gf hm_40 dX4_findRoom_53 (v := .inl (mI S37 91 5)) (zT_is hS37 s_91) (zT_t hS37 s_91) rfl f_4_34_4 rfl ?_
                    refine zw_cs hm_40 dX4_findRoom_56 pn_4_57 sl_4_57 hm_54 [.inl (mI S37 91 5), .inl v38] [.inr (.inr (some 91))] rfl ⟨by omega, by omega⟩ rfl ?_
                    show ma_wp X (d - 1) (w - 21) 54 0 [(0, .inl v38), (1, .inl (mI S37 91 5))] [] S37 _
                    refine zw_push hm_54 dX4_orElse_0 (v := .inl v38) rfl ?_
                    refine zw_push hm_54 dX4_orElse_1 (v := .inl (-1 : Int32)) rfl ?_
                    refine zw_if2 hm_54 dX4_orElse_2 (t := 9) rfl zc2_ne ?_ ?_
                    · intro hc
                      rw [if_neg hc] at h
                      refine zw_push hm_54 dX4_orElse_9 (v := .inl v38) rfl ?_
                      refine zw_iret hm_54 dX4_orElse_10 ?_
                      show ma_wp X d w 40 59 [(0, .inr (.inr (some 91))), (1, .inl n)] [.inl v38, .inr (.inr (some 91))] S37 _
                      refine zw_pf hm_40 dX4_findRoom_59 (zT_is hS37 s_91) (zT_t hS37 s_91) p_4_34_4 zk_int ?_
                      refine zw_push hm_40 dX4_findRoom_62 (v := .inr (.inr (some 91))) rfl ?_
                      refine zw_push hm_40 dX4_findRoom_63 (v := .inr (.inr (some 91))) rfl ?_
                      refine zw_gf hm_40 dX4_findRoom_64 (v := .inl v38) (zT_is (zT_pi hS37) s_91) (zT_t (zT_pi hS37) s_91) rfl f_4_34_4 rfl ?_
                      refine zw_push hm_40 dX4_findRoom_67 (v := .inl n) rfl ?_
                      refine zw_cv hm_40 dX4_findRoom_68 v_4_43_4 hm_41 [.inl n, .inl v38] [] rfl (zT_rt (zT_pi hS37) s_91 rfl) ⟨by omega, by omega⟩ rfl ?_
                      show ma_wp X (d - 1) (w - 22) 41 0 [(0, .inr (.inr (some 91))), (1, .inl v38), (2, .inl n)] [] (ma_put S37 91 5 (.inl v38)) _
                      refine zw_push hm_41 dX4_fits_0 (v := .inl v38) rfl ?_
                      refine zw_if0 hm_41 dX4_fits_1 (t := 29) rfl zc0_lt ?_ ?_
                      · intro hc
                        rw [if_pos hc] at h
                        refine zw_push hm_41 dX4_fits_29 (v := .inl (0 : Int32)) rfl ?_
                        refine zw_bret hm_41 dX4_fits_30 (by decide) ?_
                        show ma_wp X d w 40 71 [(0, .inr (.inr (some 91))), (1, .inl n)] [.inl (0 : Int32)] (ma_put S37 91 5 (.inl v38)) _
                        refine zw_if0 hm_40 dX4_findRoom_71 (t := 81) rfl zc0_eq (fun _ => ?_) (fun hc => absurd (by decide) hc)
                        refine zw_push hm_40 dX4_findRoom_81 (v := .inl (-1 : Int32)) rfl ?_
                        exact zw_iret hm_40 dX4_findRoom_82 h
                      · intro hc
                        rw [if_neg hc] at h
                        refine zw_push hm_41 dX4_fits_4 (v := .inl v38) rfl ?_
                        refine zw_push hm_41 dX4_fits_5 (v := .inl (93 : Int32)) rfl ?_
                        refine zw_if2 hm_41 dX4_fits_7 (t := 29) rfl zc2_ge ?_ ?_
                        · intro hc
                          rw [if_pos hc] at h
                          refine zw_push hm_41 dX4_fits_29 (v := .inl (0 : Int32)) rfl ?_
                          refine zw_bret hm_41 dX4_fits_30 (by decide) ?_
                          show ma_wp X d w 40 71 [(0, .inr (.inr (some 91))), (1, .inl n)] [.inl (0 : Int32)] (ma_put S37 91 5 (.inl v38)) _
                          refine zw_if0 hm_40 dX4_findRoom_71 (t := 81) rfl zc0_eq (fun _ => ?_) (fun hc => absurd (by decide) hc)
                          refine zw_push hm_40 dX4_findRoom_81 (v := .inl (-1 : Int32)) rfl ?_
                          exact zw_iret hm_40 dX4_findRoom_82 h
                        · intro hc
                          rw [if_neg hc] at h
                          refine zw_push hm_41 dX4_fits_10 (v := .inr (.inr (some 91))) rfl ?_
                          refine zw_gf hm_41 dX4_fits_11 (v := .inr (.inr (some 92))) (zT_is (zT_pi hS37) s_91) (zT_t (zT_pi hS37) s_91) rfl f_4_9_4 (zT_f (zT_pi hS37) r_91_7) ?_
                          refine zw_push hm_41 dX4_fits_14 (v := .inl v38) rfl ?_
                          obtain ⟨hg, h⟩ := h
                          refine zw_ia hm_41 dX4_fits_15 (zT_is (zT_pi hS37) s_92) (zT_h (zT_pi hS37) s_92) rfl hg ?_
                          show ma_wp X (d - 1) (w - 22) 41 16 [(0, .inr (.inr (some 91))), (1, .inl v38), (2, .inl n)] [.inl (mI S37 92 v38.toNatClampNeg)] (ma_put S37 91 5 (.inl v38)) _
                          refine zw_push hm_41 dX4_fits_16 (v := .inl n) rfl ?_
                          refine zw_stk hm_41 dX4_fits_17 (st' := [.inl ((mI S37 92 v38.toNatClampNeg) + n)]) rfl rfl ?_
                          refine zw_push hm_41 dX4_fits_18 (v := .inr (.inr (some 91))) rfl ?_
                          refine zw_gf hm_41 dX4_fits_19 (v := .inl (mI S37 91 2)) (zT_is (zT_pi hS37) s_91) (zT_t (zT_pi hS37) s_91) rfl f_4_18_4 rfl ?_
                          refine zw_if2 hm_41 dX4_fits_22 (t := 29) rfl zc2_gt ?_ ?_
                          · intro hc
                            rw [if_pos hc] at h
                            refine zw_push hm_41 dX4_fits_29 (v := .inl (0 : Int32)) rfl ?_
                            refine zw_bret hm_41 dX4_fits_30 (by decide) ?_
                            show ma_wp X d w 40 71 [(0, .inr (.inr (some 91))), (1, .inl n)] [.inl (0 : Int32)] (ma_put S37 91 5 (.inl v38)) _
                            refine zw_if0 hm_40 dX4_findRoom_71 (t := 81) rfl zc0_eq (fun _ => ?_) (fun hc => absurd (by decide) hc)
                            refine zw_push hm_40 dX4_findRoom_81 (v := .inl (-1 : Int32)) rfl ?_
                            exact zw_iret hm_40 dX4_findRoom_82 h
                          · intro hc
                            rw [if_neg hc] at h
                            refine zw_push hm_41 dX4_fits_25 (v := .inl (1 : Int32)) rfl ?_
                            refine zw_goto hm_41 dX4_fits_26 (t := 30) rfl ?_
                            refine zw_bret hm_41 dX4_fits_30 (by decide) ?_
                            show ma_wp X d w 40 71 [(0, .inr (.inr (some 91))), (1, .inl n)] [.inl (1 : Int32)] (ma_put S37 91 5 (.inl v38)) _
                            refine zw_if0 hm_40 dX4_findRoom_71 (t := 81) rfl zc0_eq (fun hc => absurd hc (by decide)) (fun _ => ?_)
                            refine zw_push hm_40 dX4_findRoom_74 (v := .inr (.inr (some 91))) rfl ?_
                            refine zw_cv hm_40 dX4_findRoom_75 v_4_60_4 hm_55 [] [] rfl (zT_rt (zT_pi hS37) s_91 rfl) ⟨by omega, by omega⟩ rfl (zw_mono h (zi_go ?_ ?_))
                            · intro v40 S39 hv
                              obtain ⟨hS39, h⟩ := hv
                              refine zw_goto hm_40 dX4_findRoom_78 (t := 82) rfl ?_
                              exact zw_iret hm_40 dX4_findRoom_82 h
                            · intro x S9 hx
                              exact ⟨by decide, hx⟩
                    · intro hc
                      rw [if_pos (Classical.not_not.mp hc)] at h
                      refine zw_push hm_54 dX4_orElse_5 (v := .inl (mI S37 91 5)) rfl ?_
                      refine zw_goto hm_54 dX4_orElse_6 (t := 10) rfl ?_
                      refine zw_iret hm_54 dX4_orElse_10 ?_
                      show ma_wp X d w 40 59 [(0, .inr (.inr (some 91))), (1, .inl n)] [.inl (mI S37 91 5), .inr (.inr (some 91))] S37 _
                      refine zw_pf hm_40 dX4_findRoom_59 (zT_is hS37 s_91) (zT_t hS37 s_91) p_4_34_4 zk_int ?_
                      refine zw_push hm_40 dX4_findRoom_62 (v := .inr (.inr (some 91))) rfl ?_
                      refine zw_push hm_40 dX4_findRoom_63 (v := .inr (.inr (some 91))) rfl ?_
                      refine zw_gf hm_40 dX4_findRoom_64 (v := .inl (mI S37 91 5)) (zT_is (zT_pi hS37) s_91) (zT_t (zT_pi hS37) s_91) rfl f_4_34_4 rfl ?_
                      refine zw_push hm_40 dX4_findRoom_67 (v := .inl n) rfl ?_
                      refine zw_cv hm_40 dX4_findRoom_68 v_4_43_4 hm_41 [.inl n, .inl (mI S37 91 5)] [] rfl (zT_rt (zT_pi hS37) s_91 rfl) ⟨by omega, by omega⟩ rfl ?_
                      show ma_wp X (d - 1) (w - 22) 41 0 [(0, .inr (.inr (some 91))), (1, .inl (mI S37 91 5)), (2, .inl n)] [] (ma_put S37 91 5 (.inl (mI S37 91 5))) _
                      refine zw_push hm_41 dX4_fits_0 (v := .inl (mI S37 91 5)) rfl ?_
                      refine zw_if0 hm_41 dX4_fits_1 (t := 29) rfl zc0_lt ?_ ?_
                      · intro hc
                        rw [if_pos hc] at h
                        refine zw_push hm_41 dX4_fits_29 (v := .inl (0 : Int32)) rfl ?_
                        refine zw_bret hm_41 dX4_fits_30 (by decide) ?_
                        show ma_wp X d w 40 71 [(0, .inr (.inr (some 91))), (1, .inl n)] [.inl (0 : Int32)] (ma_put S37 91 5 (.inl (mI S37 91 5))) _
                        refine zw_if0 hm_40 dX4_findRoom_71 (t := 81) rfl zc0_eq (fun _ => ?_) (fun hc => absurd (by decide) hc)
                        refine zw_push hm_40 dX4_findRoom_81 (v := .inl (-1 : Int32)) rfl ?_
                        exact zw_iret hm_40 dX4_findRoom_82 h
                      · intro hc
                        rw [if_neg hc] at h
                        refine zw_push hm_41 dX4_fits_4 (v := .inl (mI S37 91 5)) rfl ?_
                        refine zw_push hm_41 dX4_fits_5 (v := .inl (93 : Int32)) rfl ?_
                        refine zw_if2 hm_41 dX4_fits_7 (t := 29) rfl zc2_ge ?_ ?_
                        · intro hc
                          rw [if_pos hc] at h
                          refine zw_push hm_41 dX4_fits_29 (v := .inl (0 : Int32)) rfl ?_
                          refine zw_bret hm_41 dX4_fits_30 (by decide) ?_
                          show ma_wp X d w 40 71 [(0, .inr (.inr (some 91))), (1, .inl n)] [.inl (0 : Int32)] (ma_put S37 91 5 (.inl (mI S37 91 5))) _
                          refine zw_if0 hm_40 dX4_findRoom_71 (t := 81) rfl zc0_eq (fun _ => ?_) (fun hc => absurd (by decide) hc)
                          refine zw_push hm_40 dX4_findRoom_81 (v := .inl (-1 : Int32)) rfl ?_
                          exact zw_iret hm_40 dX4_findRoom_82 h
                        · intro hc
                          rw [if_neg hc] at h
                          refine zw_push hm_41 dX4_fits_10 (v := .inr (.inr (some 91))) rfl ?_
                          refine zw_gf hm_41 dX4_fits_11 (v := .inr (.inr (some 92))) (zT_is (zT_pi hS37) s_91) (zT_t (zT_pi hS37) s_91) rfl f_4_9_4 (zT_f (zT_pi hS37) r_91_7) ?_
                          refine zw_push hm_41 dX4_fits_14 (v := .inl (mI S37 91 5)) rfl ?_
                          obtain ⟨hg, h⟩ := h
                          refine zw_ia hm_41 dX4_fits_15 (zT_is (zT_pi hS37) s_92) (zT_h (zT_pi hS37) s_92) rfl hg ?_
                          show ma_wp X (d - 1) (w - 22) 41 16 [(0, .inr (.inr (some 91))), (1, .inl (mI S37 91 5)), (2, .inl n)] [.inl (mI S37 92 (mI S37 91 5).toNatClampNeg)] (ma_put S37 91 5 (.inl (mI S37 91 5))) _
                          refine zw_push hm_41 dX4_fits_16 (v := .inl n) rfl ?_
                          refine zw_stk hm_41 dX4_fits_17 (st' := [.inl ((mI S37 92 (mI S37 91 5).toNatClampNeg) + n)]) rfl rfl ?_
                          refine zw_push hm_41 dX4_fits_18 (v := .inr (.inr (some 91))) rfl ?_
                          refine zw_gf hm_41 dX4_fits_19 (v := .inl (mI S37 91 2)) (zT_is (zT_pi hS37) s_91) (zT_t (zT_pi hS37) s_91) rfl f_4_18_4 rfl ?_
                          refine zw_if2 hm_41 dX4_fits_22 (t := 29) rfl zc2_gt ?_ ?_
                          · intro hc
                            rw [if_pos hc] at h
                            refine zw_push hm_41 dX4_fits_29 (v := .inl (0 : Int32)) rfl ?_
                            refine zw_bret hm_41 dX4_fits_30 (by decide) ?_
                            show ma_wp X d w 40 71 [(0, .inr (.inr (some 91))), (1, .inl n)] [.inl (0 : Int32)] (ma_put S37 91 5 (.inl (mI S37 91 5))) _
                            refine zw_if0 hm_40 dX4_findRoom_71 (t := 81) rfl zc0_eq (fun _ => ?_) (fun hc => absurd (by decide) hc)
                            refine zw_push hm_40 dX4_findRoom_81 (v := .inl (-1 : Int32)) rfl ?_
                            exact zw_iret hm_40 dX4_findRoom_82 h
                          · intro hc
                            rw [if_neg hc] at h
                            refine zw_push hm_41 dX4_fits_25 (v := .inl (1 : Int32)) rfl ?_
                            refine zw_goto hm_41 dX4_fits_26 (t := 30) rfl ?_
                            refine zw_bret hm_41 dX4_fits_30 (by decide) ?_
                            show ma_wp X d w 40 71 [(0, .inr (.inr (some 91))), (1, .inl n)] [.inl (1 : Int32)] (ma_put S37 91 5 (.inl (mI S37 91 5))) _
                            refine zw_if0 hm_40 dX4_findRoom_71 (t := 81) rfl zc0_eq (fun hc => absurd hc (by decide)) (fun _ => ?_)
                            refine zw_push hm_40 dX4_findRoom_74 (v := .inr (.inr (some 91))) rfl ?_
                            refine zw_cv hm_40 dX4_findRoom_75 v_4_60_4 hm_55 [] [] rfl (zT_rt (zT_pi hS37) s_91 rfl) ⟨by omega, by omega⟩ rfl (zw_mono h (zi_go ?_ ?_))
                            · intro v42 S41 hv
                              obtain ⟨hS41, h⟩ := hv
                              refine zw_goto hm_40 dX4_findRoom_78 (t := 82) rfl ?_
                              exact zw_iret hm_40 dX4_findRoom_82 h
                            · intro x S9 hx
                              exact ⟨by decide, hx⟩
                  · intro x S9 hx
                    exact ⟨by decide, hx⟩
                · intro hc
                  rw [if_neg hc] at h
                  refine zw_push hm_41 dX4_fits_25 (v := .inl (1 : Int32)) rfl ?_
                  refine zw_goto hm_41 dX4_fits_26 (t := 30) rfl ?_
                  refine zw_bret hm_41 dX4_fits_30 (by decide) ?_
                  show ma_wp X d w 40 44 [(0, .inr (.inr (some 91))), (1, .inl n)] [.inl (1 : Int32)] S23 _
                  refine zw_if0 hm_40 dX4_findRoom_44 (t := 62) rfl zc0_ne (fun _ => ?_) (fun hc => absurd (by decide) hc)
                  refine zw_push hm_40 dX4_findRoom_62 (v := .inr (.inr (some 91))) rfl ?_
                  refine zw_push hm_40 dX4_findRoom_63 (v := .inr (.inr (some 91))) rfl ?_
                  refine zw_gf hm_40 dX4_findRoom_64 (v := .inl (mI S23 91 5)) (zT_is hS23 s_91) (zT_t hS23 s_91) rfl f_4_34_4 rfl ?_
                  refine zw_push hm_40 dX4_findRoom_67 (v := .inl n) rfl ?_
                  refine zw_cv hm_40 dX4_findRoom_68 v_4_43_4 hm_41 [.inl n, .inl (mI S23 91 5)] [] rfl (zT_rt hS23 s_91 rfl) ⟨by omega, by omega⟩ rfl ?_
                  show ma_wp X (d - 1) (w - 22) 41 0 [(0, .inr (.inr (some 91))), (1, .inl (mI S23 91 5)), (2, .inl n)] [] S23 _
                  refine zw_push hm_41 dX4_fits_0 (v := .inl (mI S23 91 5)) rfl ?_
                  refine zw_if0 hm_41 dX4_fits_1 (t := 29) rfl zc0_lt ?_ ?_
                  · intro hc
                    rw [if_pos hc] at h
                    refine zw_push hm_41 dX4_fits_29 (v := .inl (0 : Int32)) rfl ?_
                    refine zw_bret hm_41 dX4_fits_30 (by decide) ?_
                    show ma_wp X d w 40 71 [(0, .inr (.inr (some 91))), (1, .inl n)] [.inl (0 : Int32)] S23 _
                    refine zw_if0 hm_40 dX4_findRoom_71 (t := 81) rfl zc0_eq (fun _ => ?_) (fun hc => absurd (by decide) hc)
                    refine zw_push hm_40 dX4_findRoom_81 (v := .inl (-1 : Int32)) rfl ?_
                    exact zw_iret hm_40 dX4_findRoom_82 h
                  · intro hc
                    rw [if_neg hc] at h
                    refine zw_push hm_41 dX4_fits_4 (v := .inl (mI S23 91 5)) rfl ?_
                    refine zw_push hm_41 dX4_fits_5 (v := .inl (93 : Int32)) rfl ?_
                    refine zw_if2 hm_41 dX4_fits_7 (t := 29) rfl zc2_ge ?_ ?_
                    · intro hc
                      rw [if_pos hc] at h
                      refine zw_push hm_41 dX4_fits_29 (v := .inl (0 : Int32)) rfl ?_
                      refine zw_bret hm_41 dX4_fits_30 (by decide) ?_
                      show ma_wp X d w 40 71 [(0, .inr (.inr (some 91))), (1, .inl n)] [.inl (0 : Int32)] S23 _
                      refine zw_if0 hm_40 dX4_findRoom_71 (t := 81) rfl zc0_eq (fun _ => ?_) (fun hc => absurd (by decide) hc)
                      refine zw_push hm_40 dX4_findRoom_81 (v := .inl (-1 : Int32)) rfl ?_
                      exact zw_iret hm_40 dX4_findRoom_82 h
                    · intro hc
                      rw [if_neg hc] at h
                      refine zw_push hm_41 dX4_fits_10 (v := .inr (.inr (some 91))) rfl ?_
                      refine zw_gf hm_41 dX4_fits_11 (v := .inr (.inr (some 92))) (zT_is hS23 s_91) (zT_t hS23 s_91) rfl f_4_9_4 (zT_f hS23 r_91_7) ?_
                      refine zw_push hm_41 dX4_fits_14 (v := .inl (mI S23 91 5)) rfl ?_
                      obtain ⟨hg, h⟩ := h
                      refine zw_ia hm_41 dX4_fits_15 (zT_is hS23 s_92) (zT_h hS23 s_92) rfl hg ?_
                      show ma_wp X (d - 1) (w - 22) 41 16 [(0, .inr (.inr (some 91))), (1, .inl (mI S23 91 5)), (2, .inl n)] [.inl (mI S23 92 (mI S23 91 5).toNatClampNeg)] S23 _
                      refine zw_push hm_41 dX4_fits_16 (v := .inl n) rfl ?_
                      refine zw_stk hm_41 dX4_fits_17 (st' := [.inl ((mI S23 92 (mI S23 91 5).toNatClampNeg) + n)]) rfl rfl ?_
                      refine zw_push hm_41 dX4_fits_18 (v := .inr (.inr (some 91))) rfl ?_
                      refine zw_gf hm_41 dX4_fits_19 (v := .inl (mI S23 91 2)) (zT_is hS23 s_91) (zT_t hS23 s_91) rfl f_4_18_4 rfl ?_
                      refine zw_if2 hm_41 dX4_fits_22 (t := 29) rfl zc2_gt ?_ ?_
                      · intro hc
                        rw [if_pos hc] at h
                        refine zw_push hm_41 dX4_fits_29 (v := .inl (0 : Int32)) rfl ?_
                        refine zw_bret hm_41 dX4_fits_30 (by decide) ?_
                        show ma_wp X d w 40 71 [(0, .inr (.inr (some 91))), (1, .inl n)] [.inl (0 : Int32)] S23 _
                        refine zw_if0 hm_40 dX4_findRoom_71 (t := 81) rfl zc0_eq (fun _ => ?_) (fun hc => absurd (by decide) hc)
                        refine zw_push hm_40 dX4_findRoom_81 (v := .inl (-1 : Int32)) rfl ?_
                        exact zw_iret hm_40 dX4_findRoom_82 h
                      · intro hc
                        rw [if_neg hc] at h
                        refine zw_push hm_41 dX4_fits_25 (v := .inl (1 : Int32)) rfl ?_
                        refine zw_goto hm_41 dX4_fits_26 (t := 30) rfl ?_
                        refine zw_bret hm_41 dX4_fits_30 (by decide) ?_
                        show ma_wp X d w 40 71 [(0, .inr (.inr (some 91))), (1, .inl n)] [.inl (1 : Int32)] S23 _
                        refine zw_if0 hm_40 dX4_findRoom_71 (t := 81) rfl zc0_eq (fun hc => absurd hc (by decide)) (fun _ => ?_)
                        refine zw_push hm_40 dX4_findRoom_74 (v := .inr (.inr (some 91))) rfl ?_
                        refine zw_cv hm_40 dX4_findRoom_75 v_4_60_4 hm_55 [] [] rfl (zT_rt hS23 s_91 rfl) ⟨by omega, by omega⟩ rfl (zw_mono h (zi_go ?_ ?_))
                        · intro v44 S43 hv
                          obtain ⟨hS43, h⟩ := hv
                          refine zw_goto hm_40 dX4_findRoom_78 (t := 82) rfl ?_
                          exact zw_iret hm_40 dX4_findRoom_82 h
                        · intro x S9 hx
                          exact ⟨by decide, hx⟩
          · intro x S9 hx
            exact ⟨by decide, hx⟩
      · intro x S9 hx
        exact ⟨by decide, hx⟩
    · intro hc
      rw [if_neg hc] at h
      refine zw_push hm_41 dX4_fits_4 (v := .inl (mI S 91 5)) rfl ?_
      refine zw_push hm_41 dX4_fits_5 (v := .inl (93 : Int32)) rfl ?_
      refine zw_if2 hm_41 dX4_fits_7 (t := 29) rfl zc2_ge ?_ ?_
      · intro hc
        rw [if_pos hc] at h
        refine zw_push hm_41 dX4_fits_29 (v := .inl (0 : Int32)) rfl ?_
        refine zw_bret hm_41 dX4_fits_30 (by decide) ?_
        show ma_wp X d w 40 19 [(0, .inr (.inr (some 91))), (1, .inl n)] [.inl (0 : Int32)] S _
        refine zw_if0 hm_40 dX4_findRoom_19 (t := 35) rfl zc0_ne (fun hc => absurd hc (by decide)) (fun _ => ?_)
        refine zw_push hm_40 dX4_findRoom_22 (v := .inr (.inr (some 91))) rfl ?_
        refine zw_cv hm_40 dX4_findRoom_23 v_4_47_4 hm_42 [] [] rfl (zT_rt hS s_91 rfl) ⟨by omega, by omega⟩ rfl (zw_mono h (zi_go ?_ ?_))
        · intro v46 S45 hv
          obtain ⟨hS45, h⟩ := hv
          refine zw_push hm_40 dX4_findRoom_26 (v := .inl (2 : Int32)) rfl ?_
          refine zw_if2 hm_40 dX4_findRoom_27 (t := 35) rfl zc2_ge ?_ ?_
          · intro hc
            rw [if_pos hc] at h
            refine zw_push hm_40 dX4_findRoom_35 (v := .inr (.inr (some 91))) rfl ?_
            refine zw_push hm_40 dX4_findRoom_36 (v := .inr (.inr (some 91))) rfl ?_
            refine zw_gf hm_40 dX4_findRoom_37 (v := .inl (mI S45 91 5)) (zT_is hS45 s_91) (zT_t hS45 s_91) rfl f_4_34_4 rfl ?_
            refine zw_push hm_40 dX4_findRoom_40 (v := .inl n) rfl ?_
            refine zw_cv hm_40 dX4_findRoom_41 v_4_43_4 hm_41 [.inl n, .inl (mI S45 91 5)] [] rfl (zT_rt hS45 s_91 rfl) ⟨by omega, by omega⟩ rfl ?_
            show ma_wp X (d - 1) (w - 22) 41 0 [(0, .inr (.inr (some 91))), (1, .inl (mI S45 91 5)), (2, .inl n)] [] S45 _
            refine zw_push hm_41 dX4_fits_0 (v := .inl (mI S45 91 5)) rfl ?_
            refine zw_if0 hm_41 dX4_fits_1 (t := 29) rfl zc0_lt ?_ ?_
            · intro hc
              rw [if_pos hc] at h
              refine zw_push hm_41 dX4_fits_29 (v := .inl (0 : Int32)) rfl ?_
              refine zw_bret hm_41 dX4_fits_30 (by decide) ?_
              show ma_wp X d w 40 44 [(0, .inr (.inr (some 91))), (1, .inl n)] [.inl (0 : Int32)] S45 _
              refine zw_if0 hm_40 dX4_findRoom_44 (t := 62) rfl zc0_ne (fun hc => absurd hc (by decide)) (fun _ => ?_)
              refine zw_push hm_40 dX4_findRoom_47 (v := .inr (.inr (some 91))) rfl ?_
              refine zw_push hm_40 dX4_findRoom_48 (v := .inr (.inr (some 91))) rfl ?_
              refine zw_cv hm_40 dX4_findRoom_49 v_4_54_4 hm_52 [] [.inr (.inr (some 91))] rfl (zT_rt hS45 s_91 rfl) ⟨by omega, by omega⟩ rfl (zw_mono h (zi_go ?_ ?_))
              · intro v48 S47 hv
                obtain ⟨hS47, h⟩ := hv
                refine zw_push hm_40 dX4_findRoom_52 (v := .inr (.inr (some 91))) rfl ?_
                refine zw_gf hm_40 dX4_findRoom_53 (v := .inl (mI S47 91 5)) (zT_is hS47 s_91) (zT_t hS47 s_91) rfl f_4_34_4 rfl ?_
                refine zw_cs hm_40 dX4_findRoom_56 pn_4_57 sl_4_57 hm_54 [.inl (mI S47 91 5), .inl v48] [.inr (.inr (some 91))] rfl ⟨by omega, by omega⟩ rfl ?_
                show ma_wp X (d - 1) (w - 21) 54 0 [(0, .inl v48), (1, .inl (mI S47 91 5))] [] S47 _
                refine zw_push hm_54 dX4_orElse_0 (v := .inl v48) rfl ?_
                refine zw_push hm_54 dX4_orElse_1 (v := .inl (-1 : Int32)) rfl ?_
                refine zw_if2 hm_54 dX4_orElse_2 (t := 9) rfl zc2_ne ?_ ?_
                · intro hc
                  rw [if_neg hc] at h
                  refine zw_push hm_54 dX4_orElse_9 (v := .inl v48) rfl ?_
                  refine zw_iret hm_54 dX4_orElse_10 ?_
                  show ma_wp X d w 40 59 [(0, .inr (.inr (some 91))), (1, .inl n)] [.inl v48, .inr (.inr (some 91))] S47 _
                  refine zw_pf hm_40 dX4_findRoom_59 (zT_is hS47 s_91) (zT_t hS47 s_91) p_4_34_4 zk_int ?_
                  refine zw_push hm_40 dX4_findRoom_62 (v := .inr (.inr (some 91))) rfl ?_
                  refine zw_push hm_40 dX4_findRoom_63 (v := .inr (.inr (some 91))) rfl ?_
                  refine zw_gf hm_40 dX4_findRoom_64 (v := .inl v48) (zT_is (zT_pi hS47) s_91) (zT_t (zT_pi hS47) s_91) rfl f_4_34_4 rfl ?_
                  refine zw_push hm_40 dX4_findRoom_67 (v := .inl n) rfl ?_
                  refine zw_cv hm_40 dX4_findRoom_68 v_4_43_4 hm_41 [.inl n, .inl v48] [] rfl (zT_rt (zT_pi hS47) s_91 rfl) ⟨by omega, by omega⟩ rfl ?_
                  show ma_wp X (d - 1) (w - 22) 41 0 [(0, .inr (.inr (some 91))), (1, .inl v48), (2, .inl n)] [] (ma_put S47 91 5 (.inl v48)) _
                  refine zw_push hm_41 dX4_fits_0 (v := .inl v48) rfl ?_
                  refine zw_if0 hm_41 dX4_fits_1 (t := 29) rfl zc0_lt ?_ ?_
                  · intro hc
                    rw [if_pos hc] at h
                    refine zw_push hm_41 dX4_fits_29 (v := .inl (0 : Int32)) rfl ?_
                    refine zw_bret hm_41 dX4_fits_30 (by decide) ?_
                    show ma_wp X d w 40 71 [(0, .inr (.inr (some 91))), (1, .inl n)] [.inl (0 : Int32)] (ma_put S47 91 5 (.inl v48)) _
                    refine zw_if0 hm_40 dX4_findRoom_71 (t := 81) rfl zc0_eq (fun _ => ?_) (fun hc => absurd (by decide) hc)
                    refine zw_push hm_40 dX4_findRoom_81 (v := .inl (-1 : Int32)) rfl ?_
                    exact zw_iret hm_40 dX4_findRoom_82 h
                  · intro hc
                    rw [if_neg hc] at h
                    refine zw_push hm_41 dX4_fits_4 (v := .inl v48) rfl ?_
                    refine zw_push hm_41 dX4_fits_5 (v := .inl (93 : Int32)) rfl ?_
                    refine zw_if2 hm_41 dX4_fits_7 (t := 29) rfl zc2_ge ?_ ?_
                    · intro hc
                      rw [if_pos hc] at h
                      refine zw_push hm_41 dX4_fits_29 (v := .inl (0 : Int32)) rfl ?_
                      refine zw_bret hm_41 dX4_fits_30 (by decide) ?_
                      show ma_wp X d w 40 71 [(0, .inr (.inr (some 91))), (1, .inl n)] [.inl (0 : Int32)] (ma_put S47 91 5 (.inl v48)) _
                      refine zw_if0 hm_40 dX4_findRoom_71 (t := 81) rfl zc0_eq (fun _ => ?_) (fun hc => absurd (by decide) hc)
                      refine zw_push hm_40 dX4_findRoom_81 (v := .inl (-1 : Int32)) rfl ?_
                      exact zw_iret hm_40 dX4_findRoom_82 h
                    · intro hc
                      rw [if_neg hc] at h
                      refine zw_push hm_41 dX4_fits_10 (v := .inr (.inr (some 91))) rfl ?_
                      refine zw_gf hm_41 dX4_fits_11 (v := .inr (.inr (some 92))) (zT_is (zT_pi hS47) s_91) (zT_t (zT_pi hS47) s_91) rfl f_4_9_4 (zT_f (zT_pi hS47) r_91_7) ?_
                      refine zw_push hm_41 dX4_fits_14 (v := .inl v48) rfl ?_
                      obtain ⟨hg, h⟩ := h
                      refine zw_ia hm_41 dX4_fits_15 (zT_is (zT_pi hS47) s_92) (zT_h (zT_pi hS47) s_92) rfl hg ?_
                      show ma_wp X (d - 1) (w - 22) 41 16 [(0, .inr (.inr (some 91))), (1, .inl v48), (2, .inl n)] [.inl (mI S47 92 v48.toNatClampNeg)] (ma_put S47 91 5 (.inl v48)) _
                      refine zw_push hm_41 dX4_fits_16 (v := .inl n) rfl ?_
                      refine zw_stk hm_41 dX4_fits_17 (st' := [.inl ((mI S47 92 v48.toNatClampNeg) + n)]) rfl rfl ?_
                      refine zw_push hm_41 dX4_fits_18 (v := .inr (.inr (some 91))) rfl ?_
                      refine zw_gf hm_41 dX4_fits_19 (v := .inl (mI S47 91 2)) (zT_is (zT_pi hS47) s_91) (zT_t (zT_pi hS47) s_91) rfl f_4_18_4 rfl ?_
                      refine zw_if2 hm_41 dX4_fits_22 (t := 29) rfl zc2_gt ?_ ?_
                      · intro hc
                        rw [if_pos hc] at h
                        refine zw_push hm_41 dX4_fits_29 (v := .inl (0 : Int32)) rfl ?_
                        refine zw_bret hm_41 dX4_fits_30 (by decide) ?_
                        show ma_wp X d w 40 71 [(0, .inr (.inr (some 91))), (1, .inl n)] [.inl (0 : Int32)] (ma_put S47 91 5 (.inl v48)) _
                        refine zw_if0 hm_40 dX4_findRoom_71 (t := 81) rfl zc0_eq (fun _ => ?_) (fun hc => absurd (by decide) hc)
                        refine zw_push hm_40 dX4_findRoom_81 (v := .inl (-1 : Int32)) rfl ?_
                        exact zw_iret hm_40 dX4_findRoom_82 h
                      · intro hc
                        rw [if_neg hc] at h
                        refine zw_push hm_41 dX4_fits_25 (v := .inl (1 : Int32)) rfl ?_
                        refine zw_goto hm_41 dX4_fits_26 (t := 30) rfl ?_
                        refine zw_bret hm_41 dX4_fits_30 (by decide) ?_
                        show ma_wp X d w 40 71 [(0, .inr (.inr (some 91))), (1, .inl n)] [.inl (1 : Int32)] (ma_put S47 91 5 (.inl v48)) _
                        refine zw_if0 hm_40 dX4_findRoom_71 (t := 81) rfl zc0_eq (fun hc => absurd hc (by decide)) (fun _ => ?_)
                        refine zw_push hm_40 dX4_findRoom_74 (v := .inr (.inr (some 91))) rfl ?_
                        refine zw_cv hm_40 dX4_findRoom_75 v_4_60_4 hm_55 [] [] rfl (zT_rt (zT_pi hS47) s_91 rfl) ⟨by omega, by omega⟩ rfl (zw_mono h (zi_go ?_ ?_))
                        · intro v50 S49 hv
                          obtain ⟨hS49, h⟩ := hv
                          refine zw_goto hm_40 dX4_findRoom_78 (t := 82) rfl ?_
                          exact zw_iret hm_40 dX4_findRoom_82 h
                        · intro x S9 hx
                          exact ⟨by decide, hx⟩
                · intro hc
                  rw [if_pos (Classical.not_not.mp hc)] at h
                  refine zw_push hm_54 dX4_orElse_5 (v := .inl (mI S47 91 5)) rfl ?_
                  refine zw_goto hm_54 dX4_orElse_6 (t := 10) rfl ?_
                  refine zw_iret hm_54 dX4_orElse_10 ?_
                  show ma_wp X d w 40 59 [(0, .inr (.inr (some 91))), (1, .inl n)] [.inl (mI S47 91 5), .inr (.inr (some 91))] S47 _
                  refine zw_pf hm_40 dX4_findRoom_59 (zT_is hS47 s_91) (zT_t hS47 s_91) p_4_34_4 zk_int ?_
                  refine zw_push hm_40 dX4_findRoom_62 (v := .inr (.inr (some 91))) rfl ?_
                  refine zw_push hm_40 dX4_findRoom_63 (v := .inr (.inr (some 91))) rfl ?_
                  refine zw_gf hm_40 dX4_findRoom_64 (v := .inl (mI S47 91 5)) (zT_is (zT_pi hS47) s_91) (zT_t (zT_pi hS47) s_91) rfl f_4_34_4 rfl ?_
                  refine zw_push hm_40 dX4_findRoom_67 (v := .inl n) rfl ?_
                  refine zw_cv hm_40 dX4_findRoom_68 v_4_43_4 hm_41 [.inl n, .inl (mI S47 91 5)] [] rfl (zT_rt (zT_pi hS47) s_91 rfl) ⟨by omega, by omega⟩ rfl ?_
                  show ma_wp X (d - 1) (w - 22) 41 0 [(0, .inr (.inr (some 91))), (1, .inl (mI S47 91 5)), (2, .inl n)] [] (ma_put S47 91 5 (.inl (mI S47 91 5))) _
                  refine zw_push hm_41 dX4_fits_0 (v := .inl (mI S47 91 5)) rfl ?_
                  refine zw_if0 hm_41 dX4_fits_1 (t := 29) rfl zc0_lt ?_ ?_
                  · intro hc
                    rw [if_pos hc] at h
                    refine zw_push hm_41 dX4_fits_29 (v := .inl (0 : Int32)) rfl ?_
                    refine zw_bret hm_41 dX4_fits_30 (by decide) ?_
                    show ma_wp X d w 40 71 [(0, .inr (.inr (some 91))), (1, .inl n)] [.inl (0 : Int32)] (ma_put S47 91 5 (.inl (mI S47 91 5))) _
                    refine zw_if0 hm_40 dX4_findRoom_71 (t := 81) rfl zc0_eq (fun _ => ?_) (fun hc => absurd (by decide) hc)
                    refine zw_push hm_40 dX4_findRoom_81 (v := .inl (-1 : Int32)) rfl ?_
                    exact zw_iret hm_40 dX4_findRoom_82 h
                  · intro hc
                    rw [if_neg hc] at h
                    refine zw_push hm_41 dX4_fits_4 (v := .inl (mI S47 91 5)) rfl ?_
                    refine zw_push hm_41 dX4_fits_5 (v := .inl (93 : Int32)) rfl ?_
                    refine zw_if2 hm_41 dX4_fits_7 (t := 29) rfl zc2_ge ?_ ?_
                    · intro hc
                      rw [if_pos hc] at h
                      refine zw_push hm_41 dX4_fits_29 (v := .inl (0 : Int32)) rfl ?_
                      refine zw_bret hm_41 dX4_fits_30 (by decide) ?_
                      show ma_wp X d w 40 71 [(0, .inr (.inr (some 91))), (1, .inl n)] [.inl (0 : Int32)] (ma_put S47 91 5 (.inl (mI S47 91 5))) _
                      refine zw_if0 hm_40 dX4_findRoom_71 (t := 81) rfl zc0_eq (fun _ => ?_) (fun hc => absurd (by decide) hc)
                      refine zw_push hm_40 dX4_findRoom_81 (v := .inl (-1 : Int32)) rfl ?_
                      exact zw_iret hm_40 dX4_findRoom_82 h
                    · intro hc
                      rw [if_neg hc] at h
                      refine zw_push hm_41 dX4_fits_10 (v := .inr (.inr (some 91))) rfl ?_
                      refine zw_gf hm_41 dX4_fits_11 (v := .inr (.inr (some 92))) (zT_is (zT_pi hS47) s_91) (zT_t (zT_pi hS47) s_91) rfl f_4_9_4 (zT_f (zT_pi hS47) r_91_7) ?_
                      refine zw_push hm_41 dX4_fits_14 (v := .inl (mI S47 91 5)) rfl ?_
                      obtain ⟨hg, h⟩ := h
                      refine zw_ia hm_41 dX4_fits_15 (zT_is (zT_pi hS47) s_92) (zT_h (zT_pi hS47) s_92) rfl hg ?_
                      show ma_wp X (d - 1) (w - 22) 41 16 [(0, .inr (.inr (some 91))), (1, .inl (mI S47 91 5)), (2, .inl n)] [.inl (mI S47 92 (mI S47 91 5).toNatClampNeg)] (ma_put S47 91 5 (.inl (mI S47 91 5))) _
                      refine zw_push hm_41 dX4_fits_16 (v := .inl n) rfl ?_
                      refine zw_stk hm_41 dX4_fits_17 (st' := [.inl ((mI S47 92 (mI S47 91 5).toNatClampNeg) + n)]) rfl rfl ?_
                      refine zw_push hm_41 dX4_fits_18 (v := .inr (.inr (some 91))) rfl ?_
                      refine zw_gf hm_41 dX4_fits_19 (v := .inl (mI S47 91 2)) (zT_is (zT_pi hS47) s_91) (zT_t (zT_pi hS47) s_91) rfl f_4_18_4 rfl ?_
                      refine zw_if2 hm_41 dX4_fits_22 (t := 29) rfl zc2_gt ?_ ?_
                      · intro hc
                        rw [if_pos hc] at h
                        refine zw_push hm_41 dX4_fits_29 (v := .inl (0 : Int32)) rfl ?_
                        refine zw_bret hm_41 dX4_fits_30 (by decide) ?_
                        show ma_wp X d w 40 71 [(0, .inr (.inr (some 91))), (1, .inl n)] [.inl (0 : Int32)] (ma_put S47 91 5 (.inl (mI S47 91 5))) _
                        refine zw_if0 hm_40 dX4_findRoom_71 (t := 81) rfl zc0_eq (fun _ => ?_) (fun hc => absurd (by decide) hc)
                        refine zw_push hm_40 dX4_findRoom_81 (v := .inl (-1 : Int32)) rfl ?_
                        exact zw_iret hm_40 dX4_findRoom_82 h
                      · intro hc
                        rw [if_neg hc] at h
                        refine zw_push hm_41 dX4_fits_25 (v := .inl (1 : Int32)) rfl ?_
                        refine zw_goto hm_41 dX4_fits_26 (t := 30) rfl ?_
                        refine zw_bret hm_41 dX4_fits_30 (by decide) ?_
                        show ma_wp X d w 40 71 [(0, .inr (.inr (some 91))), (1, .inl n)] [.inl (1 : Int32)] (ma_put S47 91 5 (.inl (mI S47 91 5))) _
                        refine zw_if0 hm_40 dX4_findRoom_71 (t := 81) rfl zc0_eq (fun hc => absurd hc (by decide)) (fun _ => ?_)
                        refine zw_push hm_40 dX4_findRoom_74 (v := .inr (.inr (some 91))) rfl ?_
                        refine zw_cv hm_40 dX4_findRoom_75 v_4_60_4 hm_55 [] [] rfl (zT_rt (zT_pi hS47) s_91 rfl) ⟨by omega, by omega⟩ rfl (zw_mono h (zi_go ?_ ?_))
                        · intro v52 S51 hv
                          obtain ⟨hS51, h⟩ := hv
                          refine zw_goto hm_40 dX4_findRoom_78 (t := 82) rfl ?_
                          exact zw_iret hm_40 dX4_findRoom_82 h
                        · intro x S9 hx
                          exact ⟨by decide, hx⟩
              · intro x S9 hx
                exact ⟨by decide, hx⟩
            · intro hc
              rw [if_neg hc] at h
              refine zw_push hm_41 dX4_fits_4 (v := .inl (mI S45 91 5)) rfl ?_
              refine zw_push hm_41 dX4_fits_5 (v := .inl (93 : Int32)) rfl ?_
              refine zw_if2 hm_41 dX4_fits_7 (t := 29) rfl zc2_ge ?_ ?_
              · intro hc
                rw [if_pos hc] at h
                refine zw_push hm_41 dX4_fits_29 (v := .inl (0 : Int32)) rfl ?_
                refine zw_bret hm_41 dX4_fits_30 (by decide) ?_
                show ma_wp X d w 40 44 [(0, .inr (.inr (some 91))), (1, .inl n)] [.inl (0 : Int32)] S45 _
                refine zw_if0 hm_40 dX4_findRoom_44 (t := 62) rfl zc0_ne (fun hc => absurd hc (by decide)) (fun _ => ?_)
                refine zw_push hm_40 dX4_findRoom_47 (v := .inr (.inr (some 91))) rfl ?_
                refine zw_push hm_40 dX4_findRoom_48 (v := .inr (.inr (some 91))) rfl ?_
                refine zw_cv hm_40 dX4_findRoom_49 v_4_54_4 hm_52 [] [.inr (.inr (some 91))] rfl (zT_rt hS45 s_91 rfl) ⟨by omega, by omega⟩ rfl (zw_mono h (zi_go ?_ ?_))
                · intro v54 S53 hv
                  obtain ⟨hS53, h⟩ := hv
                  refine zw_push hm_40 dX4_findRoom_52 (v := .inr (.inr (some 91))) rfl ?_
                  refine zw_gf hm_40 dX4_findRoom_53 (v := .inl (mI S53 91 5)) (zT_is hS53 s_91) (zT_t hS53 s_91) rfl f_4_34_4 rfl ?_
                  refine zw_cs hm_40 dX4_findRoom_56 pn_4_57 sl_4_57 hm_54 [.inl (mI S53 91 5), .inl v54] [.inr (.inr (some 91))] rfl ⟨by omega, by omega⟩ rfl ?_
                  show ma_wp X (d - 1) (w - 21) 54 0 [(0, .inl v54), (1, .inl (mI S53 91 5))] [] S53 _
                  refine zw_push hm_54 dX4_orElse_0 (v := .inl v54) rfl ?_
                  refine zw_push hm_54 dX4_orElse_1 (v := .inl (-1 : Int32)) rfl ?_
                  refine zw_if2 hm_54 dX4_orElse_2 (t := 9) rfl zc2_ne ?_ ?_
                  · intro hc
                    rw [if_neg hc] at h
                    refine zw_push hm_54 dX4_orElse_9 (v := .inl v54) rfl ?_
                    refine zw_iret hm_54 dX4_orElse_10 ?_
                    show ma_wp X d w 40 59 [(0, .inr (.inr (some 91))), (1, .inl n)] [.inl v54, .inr (.inr (some 91))] S53 _
                    refine zw_pf hm_40 dX4_findRoom_59 (zT_is hS53 s_91) (zT_t hS53 s_91) p_4_34_4 zk_int ?_
                    refine zw_push hm_40 dX4_findRoom_62 (v := .inr (.inr (some 91))) rfl ?_
                    refine zw_push hm_40 dX4_findRoom_63 (v := .inr (.inr (some 91))) rfl ?_
                    refine zw_gf hm_40 dX4_findRoom_64 (v := .inl v54) (zT_is (zT_pi hS53) s_91) (zT_t (zT_pi hS53) s_91) rfl f_4_34_4 rfl ?_
                    refine zw_push hm_40 dX4_findRoom_67 (v := .inl n) rfl ?_
                    refine zw_cv hm_40 dX4_findRoom_68 v_4_43_4 hm_41 [.inl n, .inl v54] [] rfl (zT_rt (zT_pi hS53) s_91 rfl) ⟨by omega, by omega⟩ rfl ?_
                    show ma_wp X (d - 1) (w - 22) 41 0 [(0, .inr (.inr (some 91))), (1, .inl v54), (2, .inl n)] [] (ma_put S53 91 5 (.inl v54)) _
                    refine zw_push hm_41 dX4_fits_0 (v := .inl v54) rfl ?_
                    refine zw_if0 hm_41 dX4_fits_1 (t := 29) rfl zc0_lt ?_ ?_
                    · intro hc
                      rw [if_pos hc] at h
                      refine zw_push hm_41 dX4_fits_29 (v := .inl (0 : Int32)) rfl ?_
                      refine zw_bret hm_41 dX4_fits_30 (by decide) ?_
                      show ma_wp X d w 40 71 [(0, .inr (.inr (some 91))), (1, .inl n)] [.inl (0 : Int32)] (ma_put S53 91 5 (.inl v54)) _
                      refine zw_if0 hm_40 dX4_findRoom_71 (t := 81) rfl zc0_eq (fun _ => ?_) (fun hc => absurd (by decide) hc)
                      refine zw_push hm_40 dX4_findRoom_81 (v := .inl (-1 : Int32)) rfl ?_
                      exact zw_iret hm_40 dX4_findRoom_82 h
                    · intro hc
                      rw [if_neg hc] at h
                      refine zw_push hm_41 dX4_fits_4 (v := .inl v54) rfl ?_
                      refine zw_push hm_41 dX4_fits_5 (v := .inl (93 : Int32)) rfl ?_
                      refine zw_if2 hm_41 dX4_fits_7 (t := 29) rfl zc2_ge ?_ ?_
                      · intro hc
                        rw [if_pos hc] at h
                        refine zw_push hm_41 dX4_fits_29 (v := .inl (0 : Int32)) rfl ?_
                        refine zw_bret hm_41 dX4_fits_30 (by decide) ?_
                        show ma_wp X d w 40 71 [(0, .inr (.inr (some 91))), (1, .inl n)] [.inl (0 : Int32)] (ma_put S53 91 5 (.inl v54)) _
                        refine zw_if0 hm_40 dX4_findRoom_71 (t := 81) rfl zc0_eq (fun _ => ?_) (fun hc => absurd (by decide) hc)
                        refine zw_push hm_40 dX4_findRoom_81 (v := .inl (-1 : Int32)) rfl ?_
                        exact zw_iret hm_40 dX4_findRoom_82 h
                      · intro hc
                        rw [if_neg hc] at h
                        refine zw_push hm_41 dX4_fits_10 (v := .inr (.inr (some 91))) rfl ?_
                        refine zw_gf hm_41 dX4_fits_11 (v := .inr (.inr (some 92))) (zT_is (zT_pi hS53) s_91) (zT_t (zT_pi hS53) s_91) rfl f_4_9_4 (zT_f (zT_pi hS53) r_91_7) ?_
                        refine zw_push hm_41 dX4_fits_14 (v := .inl v54) rfl ?_
                        obtain ⟨hg, h⟩ := h
                        refine zw_ia hm_41 dX4_fits_15 (zT_is (zT_pi hS53) s_92) (zT_h (zT_pi hS53) s_92) rfl hg ?_
                        show ma_wp X (d - 1) (w - 22) 41 16 [(0, .inr (.inr (some 91))), (1, .inl v54), (2, .inl n)] [.inl (mI S53 92 v54.toNatClampNeg)] (ma_put S53 91 5 (.inl v54)) _
                        refine zw_push hm_41 dX4_fits_16 (v := .inl n) rfl ?_
                        refine zw_stk hm_41 dX4_fits_17 (st' := [.inl ((mI S53 92 v54.toNatClampNeg) + n)]) rfl rfl ?_
                        refine zw_push hm_41 dX4_fits_18 (v := .inr (.inr (some 91))) rfl ?_
                        refine zw_gf hm_41 dX4_fits_19 (v := .inl (mI S53 91 2)) (zT_is (zT_pi hS53) s_91) (zT_t (zT_pi hS53) s_91) rfl f_4_18_4 rfl ?_
                        refine zw_if2 hm_41 dX4_fits_22 (t := 29) rfl zc2_gt ?_ ?_
                        · intro hc
                          rw [if_pos hc] at h
                          refine zw_push hm_41 dX4_fits_29 (v := .inl (0 : Int32)) rfl ?_
                          refine zw_bret hm_41 dX4_fits_30 (by decide) ?_
                          show ma_wp X d w 40 71 [(0, .inr (.inr (some 91))), (1, .inl n)] [.inl (0 : Int32)] (ma_put S53 91 5 (.inl v54)) _
                          refine zw_if0 hm_40 dX4_findRoom_71 (t := 81) rfl zc0_eq (fun _ => ?_) (fun hc => absurd (by decide) hc)
                          refine zw_push hm_40 dX4_findRoom_81 (v := .inl (-1 : Int32)) rfl ?_
                          exact zw_iret hm_40 dX4_findRoom_82 h
                        · intro hc
                          rw [if_neg hc] at h
                          refine zw_push hm_41 dX4_fits_25 (v := .inl (1 : Int32)) rfl ?_
                          refine zw_goto hm_41 dX4_fits_26 (t := 30) rfl ?_
                          refine zw_bret hm_41 dX4_fits_30 (by decide) ?_
                          show ma_wp X d w 40 71 [(0, .inr (.inr (some 91))), (1, .inl n)] [.inl (1 : Int32)] (ma_put S53 91 5 (.inl v54)) _
                          refine zw_if0 hm_40 dX4_findRoom_71 (t := 81) rfl zc0_eq (fun hc => absurd hc (by decide)) (fun _ => ?_)
                          refine zw_push hm_40 dX4_findRoom_74 (v := .inr (.inr (some 91))) rfl ?_
                          refine zw_cv hm_40 dX4_findRoom_75 v_4_60_4 hm_55 [] [] rfl (zT_rt (zT_pi hS53) s_91 rfl) ⟨by omega, by omega⟩ rfl (zw_mono h (zi_go ?_ ?_))
                          · intro v56 S55 hv
                            obtain ⟨hS55, h⟩ := hv
                            refine zw_goto hm_40 dX4_findRoom_78 (t := 82) rfl ?_
                            exact zw_iret hm_40 dX4_findRoom_82 h
                          · intro x S9 hx
                            exact ⟨by decide, hx⟩
                  · intro hc
                    rw [if_pos (Classical.not_not.mp hc)] at h
                    refine zw_push hm_54 dX4_orElse_5 (v := .inl (mI S53 91 5)) rfl ?_
                    refine zw_goto hm_54 dX4_orElse_6 (t := 10) rfl ?_
                    refine zw_iret hm_54 dX4_orElse_10 ?_
                    show ma_wp X d w 40 59 [(0, .inr (.inr (some 91))), (1, .inl n)] [.inl (mI S53 91 5), .inr (.inr (some 91))] S53 _
                    refine zw_pf hm_40 dX4_findRoom_59 (zT_is hS53 s_91) (zT_t hS53 s_91) p_4_34_4 zk_int ?_
                    refine zw_push hm_40 dX4_findRoom_62 (v := .inr (.inr (some 91))) rfl ?_
                    refine zw_push hm_40 dX4_findRoom_63 (v := .inr (.inr (some 91))) rfl ?_
                    refine zw_gf hm_40 dX4_findRoom_64 (v := .inl (mI S53 91 5)) (zT_is (zT_pi hS53) s_91) (zT_t (zT_pi hS53) s_91) rfl f_4_34_4 rfl ?_
                    refine zw_push hm_40 dX4_findRoom_67 (v := .inl n) rfl ?_
                    refine zw_cv hm_40 dX4_findRoom_68 v_4_43_4 hm_41 [.inl n, .inl (mI S53 91 5)] [] rfl (zT_rt (zT_pi hS53) s_91 rfl) ⟨by omega, by omega⟩ rfl ?_
                    show ma_wp X (d - 1) (w - 22) 41 0 [(0, .inr (.inr (some 91))), (1, .inl (mI S53 91 5)), (2, .inl n)] [] (ma_put S53 91 5 (.inl (mI S53 91 5))) _
                    refine zw_push hm_41 dX4_fits_0 (v := .inl (mI S53 91 5)) rfl ?_
                    refine zw_if0 hm_41 dX4_fits_1 (t := 29) rfl zc0_lt ?_ ?_
                    · intro hc
                      rw [if_pos hc] at h
                      refine zw_push hm_41 dX4_fits_29 (v := .inl (0 : Int32)) rfl ?_
                      refine zw_bret hm_41 dX4_fits_30 (by decide) ?_
                      show ma_wp X d w 40 71 [(0, .inr (.inr (some 91))), (1, .inl n)] [.inl (0 : Int32)] (ma_put S53 91 5 (.inl (mI S53 91 5))) _
                      refine zw_if0 hm_40 dX4_findRoom_71 (t := 81) rfl zc0_eq (fun _ => ?_) (fun hc => absurd (by decide) hc)
                      refine zw_push hm_40 dX4_findRoom_81 (v := .inl (-1 : Int32)) rfl ?_
                      exact zw_iret hm_40 dX4_findRoom_82 h
                    · intro hc
                      rw [if_neg hc] at h
                      refine zw_push hm_41 dX4_fits_4 (v := .inl (mI S53 91 5)) rfl ?_
                      refine zw_push hm_41 dX4_fits_5 (v := .inl (93 : Int32)) rfl ?_
                      refine zw_if2 hm_41 dX4_fits_7 (t := 29) rfl zc2_ge ?_ ?_
                      · intro hc
                        rw [if_pos hc] at h
                        refine zw_push hm_41 dX4_fits_29 (v := .inl (0 : Int32)) rfl ?_
                        refine zw_bret hm_41 dX4_fits_30 (by decide) ?_
                        show ma_wp X d w 40 71 [(0, .inr (.inr (some 91))), (1, .inl n)] [.inl (0 : Int32)] (ma_put S53 91 5 (.inl (mI S53 91 5))) _
                        refine zw_if0 hm_40 dX4_findRoom_71 (t := 81) rfl zc0_eq (fun _ => ?_) (fun hc => absurd (by decide) hc)
                        refine zw_push hm_40 dX4_findRoom_81 (v := .inl (-1 : Int32)) rfl ?_
                        exact zw_iret hm_40 dX4_findRoom_82 h
                      · intro hc
                        rw [if_neg hc] at h
                        refine zw_push hm_41 dX4_fits_10 (v := .inr (.inr (some 91))) rfl ?_
                        refine zw_gf hm_41 dX4_fits_11 (v := .inr (.inr (some 92))) (zT_is (zT_pi hS53) s_91) (zT_t (zT_pi hS53) s_91) rfl f_4_9_4 (zT_f (zT_pi hS53) r_91_7) ?_
                        refine zw_push hm_41 dX4_fits_14 (v := .inl (mI S53 91 5)) rfl ?_
                        obtain ⟨hg, h⟩ := h
                        refine zw_ia hm_41 dX4_fits_15 (zT_is (zT_pi hS53) s_92) (zT_h (zT_pi hS53) s_92) rfl hg ?_
                        show ma_wp X (d - 1) (w - 22) 41 16 [(0, .inr (.inr (some 91))), (1, .inl (mI S53 91 5)), (2, .inl n)] [.inl (mI S53 92 (mI S53 91 5).toNatClampNeg)] (ma_put S53 91 5 (.inl (mI S53 91 5))) _
                        refine zw_push hm_41 dX4_fits_16 (v := .inl n) rfl ?_
                        refine zw_stk hm_41 dX4_fits_17 (st' := [.inl ((mI S53 92 (mI S53 91 5).toNatClampNeg) + n)]) rfl rfl ?_
                        refine zw_push hm_41 dX4_fits_18 (v := .inr (.inr (some 91))) rfl ?_
                        refine zw_gf hm_41 dX4_fits_19 (v := .inl (mI S53 91 2)) (zT_is (zT_pi hS53) s_91) (zT_t (zT_pi hS53) s_91) rfl f_4_18_4 rfl ?_
                        refine zw_if2 hm_41 dX4_fits_22 (t := 29) rfl zc2_gt ?_ ?_
                        · intro hc
                          rw [if_pos hc] at h
                          refine zw_push hm_41 dX4_fits_29 (v := .inl (0 : Int32)) rfl ?_
                          refine zw_bret hm_41 dX4_fits_30 (by decide) ?_
                          show ma_wp X d w 40 71 [(0, .inr (.inr (some 91))), (1, .inl n)] [.inl (0 : Int32)] (ma_put S53 91 5 (.inl (mI S53 91 5))) _
                          refine zw_if0 hm_40 dX4_findRoom_71 (t := 81) rfl zc0_eq (fun _ => ?_) (fun hc => absurd (by decide) hc)
                          refine zw_push hm_40 dX4_findRoom_81 (v := .inl (-1 : Int32)) rfl ?_
                          exact zw_iret hm_40 dX4_findRoom_82 h
                        · intro hc
                          rw [if_neg hc] at h
                          refine zw_push hm_41 dX4_fits_25 (v := .inl (1 : Int32)) rfl ?_
                          refine zw_goto hm_41 dX4_fits_26 (t := 30) rfl ?_
                          refine zw_bret hm_41 dX4_fits_30 (by decide) ?_
                          show ma_wp X d w 40 71 [(0, .inr (.inr (some 91))), (1, .inl n)] [.inl (1 : Int32)] (ma_put S53 91 5 (.inl (mI S53 91 5))) _
                          refine zw_if0 hm_40 dX4_findRoom_71 (t := 81) rfl zc0_eq (fun hc => absurd hc (by decide)) (fun _ => ?_)
                          refine zw_push hm_40 dX4_findRoom_74 (v := .inr (.inr (some 91))) rfl ?_
                          refine zw_cv hm_40 dX4_findRoom_75 v_4_60_4 hm_55 [] [] rfl (zT_rt (zT_pi hS53) s_91 rfl) ⟨by omega, by omega⟩ rfl (zw_mono h (zi_go ?_ ?_))
                          · intro v58 S57 hv
                            obtain ⟨hS57, h⟩ := hv
                            refine zw_goto hm_40 dX4_findRoom_78 (t := 82) rfl ?_
                            exact zw_iret hm_40 dX4_findRoom_82 h
                          · intro x S9 hx
                            exact ⟨by decide, hx⟩
                · intro x S9 hx
                  exact ⟨by decide, hx⟩
              · intro hc
                rw [if_neg hc] at h
                refine zw_push hm_41 dX4_fits_10 (v := .inr (.inr (some 91))) rfl ?_
                refine zw_gf hm_41 dX4_fits_11 (v := .inr (.inr (some 92))) (zT_is hS45 s_91) (zT_t hS45 s_91) rfl f_4_9_4 (zT_f hS45 r_91_7) ?_
                refine zw_push hm_41 dX4_fits_14 (v := .inl (mI S45 91 5)) rfl ?_
                obtain ⟨hg, h⟩ := h
                refine zw_ia hm_41 dX4_fits_15 (zT_is hS45 s_92) (zT_h hS45 s_92) rfl hg ?_
                show ma_wp X (d - 1) (w - 22) 41 16 [(0, .inr (.inr (some 91))), (1, .inl (mI S45 91 5)), (2, .inl n)] [.inl (mI S45 92 (mI S45 91 5).toNatClampNeg)] S45 _
                refine zw_push hm_41 dX4_fits_16 (v := .inl n) rfl ?_
                refine zw_stk hm_41 dX4_fits_17 (st' := [.inl ((mI S45 92 (mI S45 91 5).toNatClampNeg) + n)]) rfl rfl ?_
                refine zw_push hm_41 dX4_fits_18 (v := .inr (.inr (some 91))) rfl ?_
                refine zw_gf hm_41 dX4_fits_19 (v := .inl (mI S45 91 2)) (zT_is hS45 s_91) (zT_t hS45 s_91) rfl f_4_18_4 rfl ?_
                refine zw_if2 hm_41 dX4_fits_22 (t := 29) rfl zc2_gt ?_ ?_
                · intro hc
                  rw [if_pos hc] at h
                  refine zw_push hm_41 dX4_fits_29 (v := .inl (0 : Int32)) rfl ?_
                  refine zw_bret hm_41 dX4_fits_30 (by decide) ?_
                  show ma_wp X d w 40 44 [(0, .inr (.inr (some 91))), (1, .inl n)] [.inl (0 : Int32)] S45 _
                  refine zw_if0 hm_40 dX4_findRoom_44 (t := 62) rfl zc0_ne (fun hc => absurd hc (by decide)) (fun _ => ?_)
                  refine zw_push hm_40 dX4_findRoom_47 (v := .inr (.inr (some 91))) rfl ?_
                  refine zw_push hm_40 dX4_findRoom_48 (v := .inr (.inr (some 91))) rfl ?_
                  refine zw_cv hm_40 dX4_findRoom_49 v_4_54_4 hm_52 [] [.inr (.inr (some 91))] rfl (zT_rt hS45 s_91 rfl) ⟨by omega, by omega⟩ rfl (zw_mono h (zi_go ?_ ?_))
                  · intro v60 S59 hv
                    obtain ⟨hS59, h⟩ := hv
                    refine zw_push hm_40 dX4_findRoom_52 (v := .inr (.inr (some 91))) rfl ?_
                    refine zw_gf hm_40 dX4_findRoom_53 (v := .inl (mI S59 91 5)) (zT_is hS59 s_91) (zT_t hS59 s_91) rfl f_4_34_4 rfl ?_
                    refine zw_cs hm_40 dX4_findRoom_56 pn_4_57 sl_4_57 hm_54 [.inl (mI S59 91 5), .inl v60] [.inr (.inr (some 91))] rfl ⟨by omega, by omega⟩ rfl ?_
                    show ma_wp X (d - 1) (w - 21) 54 0 [(0, .inl v60), (1, .inl (mI S59 91 5))] [] S59 _
                    refine zw_push hm_54 dX4_orElse_0 (v := .inl v60) rfl ?_
                    refine zw_push hm_54 dX4_orElse_1 (v := .inl (-1 : Int32)) rfl ?_
                    refine zw_if2 hm_54 dX4_orElse_2 (t := 9) rfl zc2_ne ?_ ?_
                    · intro hc
                      rw [if_neg hc] at h
                      refine zw_push hm_54 dX4_orElse_9 (v := .inl v60) rfl ?_
                      refine zw_iret hm_54 dX4_orElse_10 ?_
                      show ma_wp X d w 40 59 [(0, .inr (.inr (some 91))), (1, .inl n)] [.inl v60, .inr (.inr (some 91))] S59 _
                      refine zw_pf hm_40 dX4_findRoom_59 (zT_is hS59 s_91) (zT_t hS59 s_91) p_4_34_4 zk_int ?_
                      refine zw_push hm_40 dX4_findRoom_62 (v := .inr (.inr (some 91))) rfl ?_
                      refine zw_push hm_40 dX4_findRoom_63 (v := .inr (.inr (some 91))) rfl ?_
                      refine zw_gf hm_40 dX4_findRoom_64 (v := .inl v60) (zT_is (zT_pi hS59) s_91) (zT_t (zT_pi hS59) s_91) rfl f_4_34_4 rfl ?_
                      refine zw_push hm_40 dX4_findRoom_67 (v := .inl n) rfl ?_
                      refine zw_cv hm_40 dX4_findRoom_68 v_4_43_4 hm_41 [.inl n, .inl v60] [] rfl (zT_rt (zT_pi hS59) s_91 rfl) ⟨by omega, by omega⟩ rfl ?_
                      show ma_wp X (d - 1) (w - 22) 41 0 [(0, .inr (.inr (some 91))), (1, .inl v60), (2, .inl n)] [] (ma_put S59 91 5 (.inl v60)) _
                      refine zw_push hm_41 dX4_fits_0 (v := .inl v60) rfl ?_
                      refine zw_if0 hm_41 dX4_fits_1 (t := 29) rfl zc0_lt ?_ ?_
                      · intro hc
                        rw [if_pos hc] at h
                        refine zw_push hm_41 dX4_fits_29 (v := .inl (0 : Int32)) rfl ?_
                        refine zw_bret hm_41 dX4_fits_30 (by decide) ?_
                        show ma_wp X d w 40 71 [(0, .inr (.inr (some 91))), (1, .inl n)] [.inl (0 : Int32)] (ma_put S59 91 5 (.inl v60)) _
                        refine zw_if0 hm_40 dX4_findRoom_71 (t := 81) rfl zc0_eq (fun _ => ?_) (fun hc => absurd (by decide) hc)
                        refine zw_push hm_40 dX4_findRoom_81 (v := .inl (-1 : Int32)) rfl ?_
                        exact zw_iret hm_40 dX4_findRoom_82 h
                      · intro hc
                        rw [if_neg hc] at h
                        refine zw_push hm_41 dX4_fits_4 (v := .inl v60) rfl ?_
                        refine zw_push hm_41 dX4_fits_5 (v := .inl (93 : Int32)) rfl ?_
                        refine zw_if2 hm_41 dX4_fits_7 (t := 29) rfl zc2_ge ?_ ?_
                        · intro hc
                          rw [if_pos hc] at h
                          refine zw_push hm_41 dX4_fits_29 (v := .inl (0 : Int32)) rfl ?_
                          refine zw_bret hm_41 dX4_fits_30 (by decide) ?_
                          show ma_wp X d w 40 71 [(0, .inr (.inr (some 91))), (1, .inl n)] [.inl (0 : Int32)] (ma_put S59 91 5 (.inl v60)) _
                          refine zw_if0 hm_40 dX4_findRoom_71 (t := 81) rfl zc0_eq (fun _ => ?_) (fun hc => absurd (by decide) hc)
                          refine zw_push hm_40 dX4_findRoom_81 (v := .inl (-1 : Int32)) rfl ?_
                          exact zw_iret hm_40 dX4_findRoom_82 h
                        · intro hc
                          rw [if_neg hc] at h
                          refine zw_push hm_41 dX4_fits_10 (v := .inr (.inr (some 91))) rfl ?_
                          refine zw_gf hm_41 dX4_fits_11 (v := .inr (.inr (some 92))) (zT_is (zT_pi hS59) s_91) (zT_t (zT_pi hS59) s_91) rfl f_4_9_4 (zT_f (zT_pi hS59) r_91_7) ?_
                          refine zw_push hm_41 dX4_fits_14 (v := .inl v60) rfl ?_
                          obtain ⟨hg, h⟩ := h
                          refine zw_ia hm_41 dX4_fits_15 (zT_is (zT_pi hS59) s_92) (zT_h (zT_pi hS59) s_92) rfl hg ?_
                          show ma_wp X (d - 1) (w - 22) 41 16 [(0, .inr (.inr (some 91))), (1, .inl v60), (2, .inl n)] [.inl (mI S59 92 v60.toNatClampNeg)] (ma_put S59 91 5 (.inl v60)) _
                          refine zw_push hm_41 dX4_fits_16 (v := .inl n) rfl ?_
                          refine zw_stk hm_41 dX4_fits_17 (st' := [.inl ((mI S59 92 v60.toNatClampNeg) + n)]) rfl rfl ?_
                          refine zw_push hm_41 dX4_fits_18 (v := .inr (.inr (some 91))) rfl ?_
                          refine zw_gf hm_41 dX4_fits_19 (v := .inl (mI S59 91 2)) (zT_is (zT_pi hS59) s_91) (zT_t (zT_pi hS59) s_91) rfl f_4_18_4 rfl ?_
                          refine zw_if2 hm_41 dX4_fits_22 (t := 29) rfl zc2_gt ?_ ?_
                          · intro hc
                            rw [if_pos hc] at h
                            refine zw_push hm_41 dX4_fits_29 (v := .inl (0 : Int32)) rfl ?_
                            refine zw_bret hm_41 dX4_fits_30 (by decide) ?_
                            show ma_wp X d w 40 71 [(0, .inr (.inr (some 91))), (1, .inl n)] [.inl (0 : Int32)] (ma_put S59 91 5 (.inl v60)) _
                            refine zw_if0 hm_40 dX4_findRoom_71 (t := 81) rfl zc0_eq (fun _ => ?_) (fun hc => absurd (by decide) hc)
                            refine zw_push hm_40 dX4_findRoom_81 (v := .inl (-1 : Int32)) rfl ?_
                            exact zw_iret hm_40 dX4_findRoom_82 h
                          · intro hc
                            rw [if_neg hc] at h
                            refine zw_push hm_41 dX4_fits_25 (v := .inl (1 : Int32)) rfl ?_
                            refine zw_goto hm_41 dX4_fits_26 (t := 30) rfl ?_
                            refine zw_bret hm_41 dX4_fits_30 (by decide) ?_
                            show ma_wp X d w 40 71 [(0, .inr (.inr (some 91))), (1, .inl n)] [.inl (1 : Int32)] (ma_put S59 91 5 (.inl v60)) _
                            refine zw_if0 hm_40 dX4_findRoom_71 (t := 81) rfl zc0_eq (fun hc => absurd hc (by decide)) (fun _ => ?_)
                            refine zw_push hm_40 dX4_findRoom_74 (v := .inr (.inr (some 91))) rfl ?_
                            refine zw_cv hm_40 dX4_findRoom_75 v_4_60_4 hm_55 [] [] rfl (zT_rt (zT_pi hS59) s_91 rfl) ⟨by omega, by omega⟩ rfl (zw_mono h (zi_go ?_ ?_))
                            · intro v62 S61 hv
                              obtain ⟨hS61, h⟩ := hv
                              refine zw_goto hm_40 dX4_findRoom_78 (t := 82) rfl ?_
                              exact zw_iret hm_40 dX4_findRoom_82 h
                            · intro x S9 hx
                              exact ⟨by decide, hx⟩
                    · intro hc
                      rw [if_pos (Classical.not_not.mp hc)] at h
                      refine zw_push hm_54 dX4_orElse_5 (v := .inl (mI S59 91 5)) rfl ?_
                      refine zw_goto hm_54 dX4_orElse_6 (t := 10) rfl ?_
                      refine zw_iret hm_54 dX4_orElse_10 ?_
                      show ma_wp X d w 40 59 [(0, .inr (.inr (some 91))), (1, .inl n)] [.inl (mI S59 91 5), .inr (.inr (some 91))] S59 _
                      refine zw_pf hm_40 dX4_findRoom_59 (zT_is hS59 s_91) (zT_t hS59 s_91) p_4_34_4 zk_int ?_
                      refine zw_push hm_40 dX4_findRoom_62 (v := .inr (.inr (some 91))) rfl ?_
                      refine zw_push hm_40 dX4_findRoom_63 (v := .inr (.inr (some 91))) rfl ?_
                      refine zw_gf hm_40 dX4_findRoom_64 (v := .inl (mI S59 91 5)) (zT_is (zT_pi hS59) s_91) (zT_t (zT_pi hS59) s_91) rfl f_4_34_4 rfl ?_
                      refine zw_push hm_40 dX4_findRoom_67 (v := .inl n) rfl ?_
                      refine zw_cv hm_40 dX4_findRoom_68 v_4_43_4 hm_41 [.inl n, .inl (mI S59 91 5)] [] rfl (zT_rt (zT_pi hS59) s_91 rfl) ⟨by omega, by omega⟩ rfl ?_
                      show ma_wp X (d - 1) (w - 22) 41 0 [(0, .inr (.inr (some 91))), (1, .inl (mI S59 91 5)), (2, .inl n)] [] (ma_put S59 91 5 (.inl (mI S59 91 5))) _
                      refine zw_push hm_41 dX4_fits_0 (v := .inl (mI S59 91 5)) rfl ?_
                      refine zw_if0 hm_41 dX4_fits_1 (t := 29) rfl zc0_lt ?_ ?_
                      · intro hc
                        rw [if_pos hc] at h
                        refine zw_push hm_41 dX4_fits_29 (v := .inl (0 : Int32)) rfl ?_
                        refine zw_bret hm_41 dX4_fits_30 (by decide) ?_
                        show ma_wp X d w 40 71 [(0, .inr (.inr (some 91))), (1, .inl n)] [.inl (0 : Int32)] (ma_put S59 91 5 (.inl (mI S59 91 5))) _
                        refine zw_if0 hm_40 dX4_findRoom_71 (t := 81) rfl zc0_eq (fun _ => ?_) (fun hc => absurd (by decide) hc)
                        refine zw_push hm_40 dX4_findRoom_81 (v := .inl (-1 : Int32)) rfl ?_
                        exact zw_iret hm_40 dX4_findRoom_82 h
                      · intro hc
                        rw [if_neg hc] at h
                        refine zw_push hm_41 dX4_fits_4 (v := .inl (mI S59 91 5)) rfl ?_
                        refine zw_push hm_41 dX4_fits_5 (v := .inl (93 : Int32)) rfl ?_
                        refine zw_if2 hm_41 dX4_fits_7 (t := 29) rfl zc2_ge ?_ ?_
                        · intro hc
                          rw [if_pos hc] at h
                          refine zw_push hm_41 dX4_fits_29 (v := .inl (0 : Int32)) rfl ?_
                          refine zw_bret hm_41 dX4_fits_30 (by decide) ?_
                          show ma_wp X d w 40 71 [(0, .inr (.inr (some 91))), (1, .inl n)] [.inl (0 : Int32)] (ma_put S59 91 5 (.inl (mI S59 91 5))) _
                          refine zw_if0 hm_40 dX4_findRoom_71 (t := 81) rfl zc0_eq (fun _ => ?_) (fun hc => absurd (by decide) hc)
                          refine zw_push hm_40 dX4_findRoom_81 (v := .inl (-1 : Int32)) rfl ?_
                          exact zw_iret hm_40 dX4_findRoom_82 h
                        · intro hc
                          rw [if_neg hc] at h
                          refine zw_push hm_41 dX4_fits_10 (v := .inr (.inr (some 91))) rfl ?_
                          refine zw_gf hm_41 dX4_fits_11 (v := .inr (.inr (some 92))) (zT_is (zT_pi hS59) s_91) (zT_t (zT_pi hS59) s_91) rfl f_4_9_4 (zT_f (zT_pi hS59) r_91_7) ?_
                          refine zw_push hm_41 dX4_fits_14 (v := .inl (mI S59 91 5)) rfl ?_
                          obtain ⟨hg, h⟩ := h
                          refine zw_ia hm_41 dX4_fits_15 (zT_is (zT_pi hS59) s_92) (zT_h (zT_pi hS59) s_92) rfl hg ?_
                          show ma_wp X (d - 1) (w - 22) 41 16 [(0, .inr (.inr (some 91))), (1, .inl (mI S59 91 5)), (2, .inl n)] [.inl (mI S59 92 (mI S59 91 5).toNatClampNeg)] (ma_put S59 91 5 (.inl (mI S59 91 5))) _
                          refine zw_push hm_41 dX4_fits_16 (v := .inl n) rfl ?_
                          refine zw_stk hm_41 dX4_fits_17 (st' := [.inl ((mI S59 92 (mI S59 91 5).toNatClampNeg) + n)]) rfl rfl ?_
                          refine zw_push hm_41 dX4_fits_18 (v := .inr (.inr (some 91))) rfl ?_
                          refine zw_gf hm_41 dX4_fits_19 (v := .inl (mI S59 91 2)) (zT_is (zT_pi hS59) s_91) (zT_t (zT_pi hS59) s_91) rfl f_4_18_4 rfl ?_
                          refine zw_if2 hm_41 dX4_fits_22 (t := 29) rfl zc2_gt ?_ ?_
                          · intro hc
                            rw [if_pos hc] at h
                            refine zw_push hm_41 dX4_fits_29 (v := .inl (0 : Int32)) rfl ?_
                            refine zw_bret hm_41 dX4_fits_30 (by decide) ?_
                            show ma_wp X d w 40 71 [(0, .inr (.inr (some 91))), (1, .inl n)] [.inl (0 : Int32)] (ma_put S59 91 5 (.inl (mI S59 91 5))) _
                            refine zw_if0 hm_40 dX4_findRoom_71 (t := 81) rfl zc0_eq (fun _ => ?_) (fun hc => absurd (by decide) hc)
                            refine zw_push hm_40 dX4_findRoom_81 (v := .inl (-1 : Int32)) rfl ?_
                            exact zw_iret hm_40 dX4_findRoom_82 h
                          · intro hc
                            rw [if_neg hc] at h
                            refine zw_push hm_41 dX4_fits_25 (v := .inl (1 : Int32)) rfl ?_
                            refine zw_goto hm_41 dX4_fits_26 (t := 30) rfl ?_
                            refine zw_bret hm_41 dX4_fits_30 (by decide) ?_
                            show ma_wp X d w 40 71 [(0, .inr (.inr (some 91))), (1, .inl n)] [.inl (1 : Int32)] (ma_put S59 91 5 (.inl (mI S59 91 5))) _
                            refine zw_if0 hm_40 dX4_findRoom_71 (t := 81) rfl zc0_eq (fun hc => absurd hc (by decide)) (fun _ => ?_)
                            refine zw_push hm_40 dX4_findRoom_74 (v := .inr (.inr (some 91))) rfl ?_
                            refine zw_cv hm_40 dX4_findRoom_75 v_4_60_4 hm_55 [] [] rfl (zT_rt (zT_pi hS59) s_91 rfl) ⟨by omega, by omega⟩ rfl (zw_mono h (zi_go ?_ ?_))
                            · intro v64 S63 hv
                              obtain ⟨hS63, h⟩ := hv
                              refine zw_goto hm_40 dX4_findRoom_78 (t := 82) rfl ?_
                              exact zw_iret hm_40 dX4_findRoom_82 h
                            · intro x S9 hx
                              exact ⟨by decide, hx⟩
                  · intro x S9 hx
                    exact ⟨by decide, hx⟩
                · intro hc
                  rw [if_neg hc] at h
                  refine zw_push hm_41 dX4_fits_25 (v := .inl (1 : Int32)) rfl ?_
                  refine zw_goto hm_41 dX4_fits_26 (t := 30) rfl ?_
                  refine zw_bret hm_41 dX4_fits_30 (by decide) ?_
                  show ma_wp X d w 40 44 [(0, .inr (.inr (some 91))), (1, .inl n)] [.inl (1 : Int32)] S45 _
                  refine zw_if0 hm_40 dX4_findRoom_44 (t := 62) rfl zc0_ne (fun _ => ?_) (fun hc => absurd (by decide) hc)
                  refine zw_push hm_40 dX4_findRoom_62 (v := .inr (.inr (some 91))) rfl ?_
                  refine zw_push hm_40 dX4_findRoom_63 (v := .inr (.inr (some 91))) rfl ?_
                  refine zw_gf hm_40 dX4_findRoom_64 (v := .inl (mI S45 91 5)) (zT_is hS45 s_91) (zT_t hS45 s_91) rfl f_4_34_4 rfl ?_
                  refine zw_push hm_40 dX4_findRoom_67 (v := .inl n) rfl ?_
                  refine zw_cv hm_40 dX4_findRoom_68 v_4_43_4 hm_41 [.inl n, .inl (mI S45 91 5)] [] rfl (zT_rt hS45 s_91 rfl) ⟨by omega, by omega⟩ rfl ?_
                  show ma_wp X (d - 1) (w - 22) 41 0 [(0, .inr (.inr (some 91))), (1, .inl (mI S45 91 5)), (2, .inl n)] [] S45 _
                  refine zw_push hm_41 dX4_fits_0 (v := .inl (mI S45 91 5)) rfl ?_
                  refine zw_if0 hm_41 dX4_fits_1 (t := 29) rfl zc0_lt ?_ ?_
                  · intro hc
                    rw [if_pos hc] at h
                    refine zw_push hm_41 dX4_fits_29 (v := .inl (0 : Int32)) rfl ?_
                    refine zw_bret hm_41 dX4_fits_30 (by decide) ?_
                    show ma_wp X d w 40 71 [(0, .inr (.inr (some 91))), (1, .inl n)] [.inl (0 : Int32)] S45 _
                    refine zw_if0 hm_40 dX4_findRoom_71 (t := 81) rfl zc0_eq (fun _ => ?_) (fun hc => absurd (by decide) hc)
                    refine zw_push hm_40 dX4_findRoom_81 (v := .inl (-1 : Int32)) rfl ?_
                    exact zw_iret hm_40 dX4_findRoom_82 h
                  · intro hc
                    rw [if_neg hc] at h
                    refine zw_push hm_41 dX4_fits_4 (v := .inl (mI S45 91 5)) rfl ?_
                    refine zw_push hm_41 dX4_fits_5 (v := .inl (93 : Int32)) rfl ?_
                    refine zw_if2 hm_41 dX4_fits_7 (t := 29) rfl zc2_ge ?_ ?_
                    · intro hc
                      rw [if_pos hc] at h
                      refine zw_push hm_41 dX4_fits_29 (v := .inl (0 : Int32)) rfl ?_
                      refine zw_bret hm_41 dX4_fits_30 (by decide) ?_
                      show ma_wp X d w 40 71 [(0, .inr (.inr (some 91))), (1, .inl n)] [.inl (0 : Int32)] S45 _
                      refine zw_if0 hm_40 dX4_findRoom_71 (t := 81) rfl zc0_eq (fun _ => ?_) (fun hc => absurd (by decide) hc)
                      refine zw_push hm_40 dX4_findRoom_81 (v := .inl (-1 : Int32)) rfl ?_
                      exact zw_iret hm_40 dX4_findRoom_82 h
                    · intro hc
                      rw [if_neg hc] at h
                      refine zw_push hm_41 dX4_fits_10 (v := .inr (.inr (some 91))) rfl ?_
                      refine zw_gf hm_41 dX4_fits_11 (v := .inr (.inr (some 92))) (zT_is hS45 s_91) (zT_t hS45 s_91) rfl f_4_9_4 (zT_f hS45 r_91_7) ?_
                      refine zw_push hm_41 dX4_fits_14 (v := .inl (mI S45 91 5)) rfl ?_
                      obtain ⟨hg, h⟩ := h
                      refine zw_ia hm_41 dX4_fits_15 (zT_is hS45 s_92) (zT_h hS45 s_92) rfl hg ?_
                      show ma_wp X (d - 1) (w - 22) 41 16 [(0, .inr (.inr (some 91))), (1, .inl (mI S45 91 5)), (2, .inl n)] [.inl (mI S45 92 (mI S45 91 5).toNatClampNeg)] S45 _
                      refine zw_push hm_41 dX4_fits_16 (v := .inl n) rfl ?_
                      refine zw_stk hm_41 dX4_fits_17 (st' := [.inl ((mI S45 92 (mI S45 91 5).toNatClampNeg) + n)]) rfl rfl ?_
                      refine zw_push hm_41 dX4_fits_18 (v := .inr (.inr (some 91))) rfl ?_
                      refine zw_gf hm_41 dX4_fits_19 (v := .inl (mI S45 91 2)) (zT_is hS45 s_91) (zT_t hS45 s_91) rfl f_4_18_4 rfl ?_
                      refine zw_if2 hm_41 dX4_fits_22 (t := 29) rfl zc2_gt ?_ ?_
                      · intro hc
                        rw [if_pos hc] at h
                        refine zw_push hm_41 dX4_fits_29 (v := .inl (0 : Int32)) rfl ?_
                        refine zw_bret hm_41 dX4_fits_30 (by decide) ?_
                        show ma_wp X d w 40 71 [(0, .inr (.inr (some 91))), (1, .inl n)] [.inl (0 : Int32)] S45 _
                        refine zw_if0 hm_40 dX4_findRoom_71 (t := 81) rfl zc0_eq (fun _ => ?_) (fun hc => absurd (by decide) hc)
                        refine zw_push hm_40 dX4_findRoom_81 (v := .inl (-1 : Int32)) rfl ?_
                        exact zw_iret hm_40 dX4_findRoom_82 h
                      · intro hc
                        rw [if_neg hc] at h
                        refine zw_push hm_41 dX4_fits_25 (v := .inl (1 : Int32)) rfl ?_
                        refine zw_goto hm_41 dX4_fits_26 (t := 30) rfl ?_
                        refine zw_bret hm_41 dX4_fits_30 (by decide) ?_
                        show ma_wp X d w 40 71 [(0, .inr (.inr (some 91))), (1, .inl n)] [.inl (1 : Int32)] S45 _
                        refine zw_if0 hm_40 dX4_findRoom_71 (t := 81) rfl zc0_eq (fun hc => absurd hc (by decide)) (fun _ => ?_)
                        refine zw_push hm_40 dX4_findRoom_74 (v := .inr (.inr (some 91))) rfl ?_
                        refine zw_cv hm_40 dX4_findRoom_75 v_4_60_4 hm_55 [] [] rfl (zT_rt hS45 s_91 rfl) ⟨by omega, by omega⟩ rfl (zw_mono h (zi_go ?_ ?_))
                        · intro v66 S65 hv
                          obtain ⟨hS65, h⟩ := hv
                          refine zw_goto hm_40 dX4_findRoom_78 (t := 82) rfl ?_
                          exact zw_iret hm_40 dX4_findRoom_82 h
                        · intro x S9 hx
                          exact ⟨by decide, hx⟩
          · intro hc
            rw [if_neg hc] at h
            refine zw_push hm_40 dX4_findRoom_30 (v := .inr (.inr (some 91))) rfl ?_
            refine zw_cv hm_40 dX4_findRoom_31 v_4_51_4 hm_43 [] [] rfl (zT_rt hS45 s_91 rfl) ⟨by omega, by omega⟩ rfl (zw_mono h (zi_go ?_ ?_))
            · intro v68 S67 hv
              obtain ⟨hS67, h⟩ := hv
              refine zw_stk hm_40 dX4_findRoom_34 (st' := []) rfl rfl ?_
              refine zw_push hm_40 dX4_findRoom_35 (v := .inr (.inr (some 91))) rfl ?_
              refine zw_push hm_40 dX4_findRoom_36 (v := .inr (.inr (some 91))) rfl ?_
              refine zw_gf hm_40 dX4_findRoom_37 (v := .inl (mI S67 91 5)) (zT_is hS67 s_91) (zT_t hS67 s_91) rfl f_4_34_4 rfl ?_
              refine zw_push hm_40 dX4_findRoom_40 (v := .inl n) rfl ?_
              refine zw_cv hm_40 dX4_findRoom_41 v_4_43_4 hm_41 [.inl n, .inl (mI S67 91 5)] [] rfl (zT_rt hS67 s_91 rfl) ⟨by omega, by omega⟩ rfl ?_
              show ma_wp X (d - 1) (w - 22) 41 0 [(0, .inr (.inr (some 91))), (1, .inl (mI S67 91 5)), (2, .inl n)] [] S67 _
              refine zw_push hm_41 dX4_fits_0 (v := .inl (mI S67 91 5)) rfl ?_
              refine zw_if0 hm_41 dX4_fits_1 (t := 29) rfl zc0_lt ?_ ?_
              · intro hc
                rw [if_pos hc] at h
                refine zw_push hm_41 dX4_fits_29 (v := .inl (0 : Int32)) rfl ?_
                refine zw_bret hm_41 dX4_fits_30 (by decide) ?_
                show ma_wp X d w 40 44 [(0, .inr (.inr (some 91))), (1, .inl n)] [.inl (0 : Int32)] S67 _
                refine zw_if0 hm_40 dX4_findRoom_44 (t := 62) rfl zc0_ne (fun hc => absurd hc (by decide)) (fun _ => ?_)
                refine zw_push hm_40 dX4_findRoom_47 (v := .inr (.inr (some 91))) rfl ?_
                refine zw_push hm_40 dX4_findRoom_48 (v := .inr (.inr (some 91))) rfl ?_
                refine zw_cv hm_40 dX4_findRoom_49 v_4_54_4 hm_52 [] [.inr (.inr (some 91))] rfl (zT_rt hS67 s_91 rfl) ⟨by omega, by omega⟩ rfl (zw_mono h (zi_go ?_ ?_))
                · intro v70 S69 hv
                  obtain ⟨hS69, h⟩ := hv
                  refine zw_push hm_40 dX4_findRoom_52 (v := .inr (.inr (some 91))) rfl ?_
                  refine zw_gf hm_40 dX4_findRoom_53 (v := .inl (mI S69 91 5)) (zT_is hS69 s_91) (zT_t hS69 s_91) rfl f_4_34_4 rfl ?_
                  refine zw_cs hm_40 dX4_findRoom_56 pn_4_57 sl_4_57 hm_54 [.inl (mI S69 91 5), .inl v70] [.inr (.inr (some 91))] rfl ⟨by omega, by omega⟩ rfl ?_
                  show ma_wp X (d - 1) (w - 21) 54 0 [(0, .inl v70), (1, .inl (mI S69 91 5))] [] S69 _
                  refine zw_push hm_54 dX4_orElse_0 (v := .inl v70) rfl ?_
                  refine zw_push hm_54 dX4_orElse_1 (v := .inl (-1 : Int32)) rfl ?_
                  refine zw_if2 hm_54 dX4_orElse_2 (t := 9) rfl zc2_ne ?_ ?_
                  · intro hc
                    rw [if_neg hc] at h
                    refine zw_push hm_54 dX4_orElse_9 (v := .inl v70) rfl ?_
                    refine zw_iret hm_54 dX4_orElse_10 ?_
                    show ma_wp X d w 40 59 [(0, .inr (.inr (some 91))), (1, .inl n)] [.inl v70, .inr (.inr (some 91))] S69 _
                    refine zw_pf hm_40 dX4_findRoom_59 (zT_is hS69 s_91) (zT_t hS69 s_91) p_4_34_4 zk_int ?_
                    refine zw_push hm_40 dX4_findRoom_62 (v := .inr (.inr (some 91))) rfl ?_
                    refine zw_push hm_40 dX4_findRoom_63 (v := .inr (.inr (some 91))) rfl ?_
                    refine zw_gf hm_40 dX4_findRoom_64 (v := .inl v70) (zT_is (zT_pi hS69) s_91) (zT_t (zT_pi hS69) s_91) rfl f_4_34_4 rfl ?_
                    refine zw_push hm_40 dX4_findRoom_67 (v := .inl n) rfl ?_
                    refine zw_cv hm_40 dX4_findRoom_68 v_4_43_4 hm_41 [.inl n, .inl v70] [] rfl (zT_rt (zT_pi hS69) s_91 rfl) ⟨by omega, by omega⟩ rfl ?_
                    show ma_wp X (d - 1) (w - 22) 41 0 [(0, .inr (.inr (some 91))), (1, .inl v70), (2, .inl n)] [] (ma_put S69 91 5 (.inl v70)) _
                    refine zw_push hm_41 dX4_fits_0 (v := .inl v70) rfl ?_
                    refine zw_if0 hm_41 dX4_fits_1 (t := 29) rfl zc0_lt ?_ ?_
                    · intro hc
                      rw [if_pos hc] at h
                      refine zw_push hm_41 dX4_fits_29 (v := .inl (0 : Int32)) rfl ?_
                      refine zw_bret hm_41 dX4_fits_30 (by decide) ?_
                      show ma_wp X d w 40 71 [(0, .inr (.inr (some 91))), (1, .inl n)] [.inl (0 : Int32)] (ma_put S69 91 5 (.inl v70)) _
                      refine zw_if0 hm_40 dX4_findRoom_71 (t := 81) rfl zc0_eq (fun _ => ?_) (fun hc => absurd (by decide) hc)
                      refine zw_push hm_40 dX4_findRoom_81 (v := .inl (-1 : Int32)) rfl ?_
                      exact zw_iret hm_40 dX4_findRoom_82 h
                    · intro hc
                      rw [if_neg hc] at h
                      refine zw_push hm_41 dX4_fits_4 (v := .inl v70) rfl ?_
                      refine zw_push hm_41 dX4_fits_5 (v := .inl (93 : Int32)) rfl ?_
                      refine zw_if2 hm_41 dX4_fits_7 (t := 29) rfl zc2_ge ?_ ?_
                      · intro hc
                        rw [if_pos hc] at h
                        refine zw_push hm_41 dX4_fits_29 (v := .inl (0 : Int32)) rfl ?_
                        refine zw_bret hm_41 dX4_fits_30 (by decide) ?_
                        show ma_wp X d w 40 71 [(0, .inr (.inr (some 91))), (1, .inl n)] [.inl (0 : Int32)] (ma_put S69 91 5 (.inl v70)) _
                        refine zw_if0 hm_40 dX4_findRoom_71 (t := 81) rfl zc0_eq (fun _ => ?_) (fun hc => absurd (by decide) hc)
                        refine zw_push hm_40 dX4_findRoom_81 (v := .inl (-1 : Int32)) rfl ?_
                        exact zw_iret hm_40 dX4_findRoom_82 h
                      · intro hc
                        rw [if_neg hc] at h
                        refine zw_push hm_41 dX4_fits_10 (v := .inr (.inr (some 91))) rfl ?_
                        refine zw_gf hm_41 dX4_fits_11 (v := .inr (.inr (some 92))) (zT_is (zT_pi hS69) s_91) (zT_t (zT_pi hS69) s_91) rfl f_4_9_4 (zT_f (zT_pi hS69) r_91_7) ?_
                        refine zw_push hm_41 dX4_fits_14 (v := .inl v70) rfl ?_
                        obtain ⟨hg, h⟩ := h
                        refine zw_ia hm_41 dX4_fits_15 (zT_is (zT_pi hS69) s_92) (zT_h (zT_pi hS69) s_92) rfl hg ?_
                        show ma_wp X (d - 1) (w - 22) 41 16 [(0, .inr (.inr (some 91))), (1, .inl v70), (2, .inl n)] [.inl (mI S69 92 v70.toNatClampNeg)] (ma_put S69 91 5 (.inl v70)) _
                        refine zw_push hm_41 dX4_fits_16 (v := .inl n) rfl ?_
                        refine zw_stk hm_41 dX4_fits_17 (st' := [.inl ((mI S69 92 v70.toNatClampNeg) + n)]) rfl rfl ?_
                        refine zw_push hm_41 dX4_fits_18 (v := .inr (.inr (some 91))) rfl ?_
                        refine zw_gf hm_41 dX4_fits_19 (v := .inl (mI S69 91 2)) (zT_is (zT_pi hS69) s_91) (zT_t (zT_pi hS69) s_91) rfl f_4_18_4 rfl ?_
                        refine zw_if2 hm_41 dX4_fits_22 (t := 29) rfl zc2_gt ?_ ?_
                        · intro hc
                          rw [if_pos hc] at h
                          refine zw_push hm_41 dX4_fits_29 (v := .inl (0 : Int32)) rfl ?_
                          refine zw_bret hm_41 dX4_fits_30 (by decide) ?_
                          show ma_wp X d w 40 71 [(0, .inr (.inr (some 91))), (1, .inl n)] [.inl (0 : Int32)] (ma_put S69 91 5 (.inl v70)) _
                          refine zw_if0 hm_40 dX4_findRoom_71 (t := 81) rfl zc0_eq (fun _ => ?_) (fun hc => absurd (by decide) hc)
                          refine zw_push hm_40 dX4_findRoom_81 (v := .inl (-1 : Int32)) rfl ?_
                          exact zw_iret hm_40 dX4_findRoom_82 h
                        · intro hc
                          rw [if_neg hc] at h
                          refine zw_push hm_41 dX4_fits_25 (v := .inl (1 : Int32)) rfl ?_
                          refine zw_goto hm_41 dX4_fits_26 (t := 30) rfl ?_
                          refine zw_bret hm_41 dX4_fits_30 (by decide) ?_
                          show ma_wp X d w 40 71 [(0, .inr (.inr (some 91))), (1, .inl n)] [.inl (1 : Int32)] (ma_put S69 91 5 (.inl v70)) _
                          refine zw_if0 hm_40 dX4_findRoom_71 (t := 81) rfl zc0_eq (fun hc => absurd hc (by decide)) (fun _ => ?_)
                          refine zw_push hm_40 dX4_findRoom_74 (v := .inr (.inr (some 91))) rfl ?_
                          refine zw_cv hm_40 dX4_findRoom_75 v_4_60_4 hm_55 [] [] rfl (zT_rt (zT_pi hS69) s_91 rfl) ⟨by omega, by omega⟩ rfl (zw_mono h (zi_go ?_ ?_))
                          · intro v72 S71 hv
                            obtain ⟨hS71, h⟩ := hv
                            refine zw_goto hm_40 dX4_findRoom_78 (t := 82) rfl ?_
                            exact zw_iret hm_40 dX4_findRoom_82 h
                          · intro x S9 hx
                            exact ⟨by decide, hx⟩
                  · intro hc
                    rw [if_pos (Classical.not_not.mp hc)] at h
                    refine zw_push hm_54 dX4_orElse_5 (v := .inl (mI S69 91 5)) rfl ?_
                    refine zw_goto hm_54 dX4_orElse_6 (t := 10) rfl ?_
                    refine zw_iret hm_54 dX4_orElse_10 ?_
                    show ma_wp X d w 40 59 [(0, .inr (.inr (some 91))), (1, .inl n)] [.inl (mI S69 91 5), .inr (.inr (some 91))] S69 _
                    refine zw_pf hm_40 dX4_findRoom_59 (zT_is hS69 s_91) (zT_t hS69 s_91) p_4_34_4 zk_int ?_
                    refine zw_push hm_40 dX4_findRoom_62 (v := .inr (.inr (some 91))) rfl ?_
                    refine zw_push hm_40 dX4_findRoom_63 (v := .inr (.inr (some 91))) rfl ?_
                    refine zw_gf hm_40 dX4_findRoom_64 (v := .inl (mI S69 91 5)) (zT_is (zT_pi hS69) s_91) (zT_t (zT_pi hS69) s_91) rfl f_4_34_4 rfl ?_
                    refine zw_push hm_40 dX4_findRoom_67 (v := .inl n) rfl ?_
                    refine zw_cv hm_40 dX4_findRoom_68 v_4_43_4 hm_41 [.inl n, .inl (mI S69 91 5)] [] rfl (zT_rt (zT_pi hS69) s_91 rfl) ⟨by omega, by omega⟩ rfl ?_
                    show ma_wp X (d - 1) (w - 22) 41 0 [(0, .inr (.inr (some 91))), (1, .inl (mI S69 91 5)), (2, .inl n)] [] (ma_put S69 91 5 (.inl (mI S69 91 5))) _
                    refine zw_push hm_41 dX4_fits_0 (v := .inl (mI S69 91 5)) rfl ?_
                    refine zw_if0 hm_41 dX4_fits_1 (t := 29) rfl zc0_lt ?_ ?_
                    · intro hc
                      rw [if_pos hc] at h
                      refine zw_push hm_41 dX4_fits_29 (v := .inl (0 : Int32)) rfl ?_
                      refine zw_bret hm_41 dX4_fits_30 (by decide) ?_
                      show ma_wp X d w 40 71 [(0, .inr (.inr (some 91))), (1, .inl n)] [.inl (0 : Int32)] (ma_put S69 91 5 (.inl (mI S69 91 5))) _
                      refine zw_if0 hm_40 dX4_findRoom_71 (t := 81) rfl zc0_eq (fun _ => ?_) (fun hc => absurd (by decide) hc)
                      refine zw_push hm_40 dX4_findRoom_81 (v := .inl (-1 : Int32)) rfl ?_
                      exact zw_iret hm_40 dX4_findRoom_82 h
                    · intro hc
                      rw [if_neg hc] at h
                      refine zw_push hm_41 dX4_fits_4 (v := .inl (mI S69 91 5)) rfl ?_
                      refine zw_push hm_41 dX4_fits_5 (v := .inl (93 : Int32)) rfl ?_
                      refine zw_if2 hm_41 dX4_fits_7 (t := 29) rfl zc2_ge ?_ ?_
                      · intro hc
                        rw [if_pos hc] at h
                        refine zw_push hm_41 dX4_fits_29 (v := .inl (0 : Int32)) rfl ?_
                        refine zw_bret hm_41 dX4_fits_30 (by decide) ?_
                        show ma_wp X d w 40 71 [(0, .inr (.inr (some 91))), (1, .inl n)] [.inl (0 : Int32)] (ma_put S69 91 5 (.inl (mI S69 91 5))) _
                        refine zw_if0 hm_40 dX4_findRoom_71 (t := 81) rfl zc0_eq (fun _ => ?_) (fun hc => absurd (by decide) hc)
                        refine zw_push hm_40 dX4_findRoom_81 (v := .inl (-1 : Int32)) rfl ?_
                        exact zw_iret hm_40 dX4_findRoom_82 h
                      · intro hc
                        rw [if_neg hc] at h
                        refine zw_push hm_41 dX4_fits_10 (v := .inr (.inr (some 91))) rfl ?_
                        refine zw_gf hm_41 dX4_fits_11 (v := .inr (.inr (some 92))) (zT_is (zT_pi hS69) s_91) (zT_t (zT_pi hS69) s_91) rfl f_4_9_4 (zT_f (zT_pi hS69) r_91_7) ?_
                        refine zw_push hm_41 dX4_fits_14 (v := .inl (mI S69 91 5)) rfl ?_
                        obtain ⟨hg, h⟩ := h
                        refine zw_ia hm_41 dX4_fits_15 (zT_is (zT_pi hS69) s_92) (zT_h (zT_pi hS69) s_92) rfl hg ?_
                        show ma_wp X (d - 1) (w - 22) 41 16 [(0, .inr (.inr (some 91))), (1, .inl (mI S69 91 5)), (2, .inl n)] [.inl (mI S69 92 (mI S69 91 5).toNatClampNeg)] (ma_put S69 91 5 (.inl (mI S69 91 5))) _
                        refine zw_push hm_41 dX4_fits_16 (v := .inl n) rfl ?_
                        refine zw_stk hm_41 dX4_fits_17 (st' := [.inl ((mI S69 92 (mI S69 91 5).toNatClampNeg) + n)]) rfl rfl ?_
                        refine zw_push hm_41 dX4_fits_18 (v := .inr (.inr (some 91))) rfl ?_
                        refine zw_gf hm_41 dX4_fits_19 (v := .inl (mI S69 91 2)) (zT_is (zT_pi hS69) s_91) (zT_t (zT_pi hS69) s_91) rfl f_4_18_4 rfl ?_
                        refine zw_if2 hm_41 dX4_fits_22 (t := 29) rfl zc2_gt ?_ ?_
                        · intro hc
                          rw [if_pos hc] at h
                          refine zw_push hm_41 dX4_fits_29 (v := .inl (0 : Int32)) rfl ?_
                          refine zw_bret hm_41 dX4_fits_30 (by decide) ?_
                          show ma_wp X d w 40 71 [(0, .inr (.inr (some 91))), (1, .inl n)] [.inl (0 : Int32)] (ma_put S69 91 5 (.inl (mI S69 91 5))) _
                          refine zw_if0 hm_40 dX4_findRoom_71 (t := 81) rfl zc0_eq (fun _ => ?_) (fun hc => absurd (by decide) hc)
                          refine zw_push hm_40 dX4_findRoom_81 (v := .inl (-1 : Int32)) rfl ?_
                          exact zw_iret hm_40 dX4_findRoom_82 h
                        · intro hc
                          rw [if_neg hc] at h
                          refine zw_push hm_41 dX4_fits_25 (v := .inl (1 : Int32)) rfl ?_
                          refine zw_goto hm_41 dX4_fits_26 (t := 30) rfl ?_
                          refine zw_bret hm_41 dX4_fits_30 (by decide) ?_
                          show ma_wp X d w 40 71 [(0, .inr (.inr (some 91))), (1, .inl n)] [.inl (1 : Int32)] (ma_put S69 91 5 (.inl (mI S69 91 5))) _
                          refine zw_if0 hm_40 dX4_findRoom_71 (t := 81) rfl zc0_eq (fun hc => absurd hc (by decide)) (fun _ => ?_)
                          refine zw_push hm_40 dX4_findRoom_74 (v := .inr (.inr (some 91))) rfl ?_
                          refine zw_cv hm_40 dX4_findRoom_75 v_4_60_4 hm_55 [] [] rfl (zT_rt (zT_pi hS69) s_91 rfl) ⟨by omega, by omega⟩ rfl (zw_mono h (zi_go ?_ ?_))
                          · intro v74 S73 hv
                            obtain ⟨hS73, h⟩ := hv
                            refine zw_goto hm_40 dX4_findRoom_78 (t := 82) rfl ?_
                            exact zw_iret hm_40 dX4_findRoom_82 h
                          · intro x S9 hx
                            exact ⟨by decide, hx⟩
                · intro x S9 hx
                  exact ⟨by decide, hx⟩
              · intro hc
                rw [if_neg hc] at h
                refine zw_push hm_41 dX4_fits_4 (v := .inl (mI S67 91 5)) rfl ?_
                refine zw_push hm_41 dX4_fits_5 (v := .inl (93 : Int32)) rfl ?_
                refine zw_if2 hm_41 dX4_fits_7 (t := 29) rfl zc2_ge ?_ ?_
                · intro hc
                  rw [if_pos hc] at h
                  refine zw_push hm_41 dX4_fits_29 (v := .inl (0 : Int32)) rfl ?_
                  refine zw_bret hm_41 dX4_fits_30 (by decide) ?_
                  show ma_wp X d w 40 44 [(0, .inr (.inr (some 91))), (1, .inl n)] [.inl (0 : Int32)] S67 _
                  refine zw_if0 hm_40 dX4_findRoom_44 (t := 62) rfl zc0_ne (fun hc => absurd hc (by decide)) (fun _ => ?_)
                  refine zw_push hm_40 dX4_findRoom_47 (v := .inr (.inr (some 91))) rfl ?_
                  refine zw_push hm_40 dX4_findRoom_48 (v := .inr (.inr (some 91))) rfl ?_
                  refine zw_cv hm_40 dX4_findRoom_49 v_4_54_4 hm_52 [] [.inr (.inr (some 91))] rfl (zT_rt hS67 s_91 rfl) ⟨by omega, by omega⟩ rfl (zw_mono h (zi_go ?_ ?_))
                  · intro v76 S75 hv
                    obtain ⟨hS75, h⟩ := hv
                    refine zw_push hm_40 dX4_findRoom_52 (v := .inr (.inr (some 91))) rfl ?_
                    refine zw_gf hm_40 dX4_findRoom_53 (v := .inl (mI S75 91 5)) (zT_is hS75 s_91) (zT_t hS75 s_91) rfl f_4_34_4 rfl ?_
                    refine zw_cs hm_40 dX4_findRoom_56 pn_4_57 sl_4_57 hm_54 [.inl (mI S75 91 5), .inl v76] [.inr (.inr (some 91))] rfl ⟨by omega, by omega⟩ rfl ?_
                    show ma_wp X (d - 1) (w - 21) 54 0 [(0, .inl v76), (1, .inl (mI S75 91 5))] [] S75 _
                    refine zw_push hm_54 dX4_orElse_0 (v := .inl v76) rfl ?_
                    refine zw_push hm_54 dX4_orElse_1 (v := .inl (-1 : Int32)) rfl ?_
                    refine zw_if2 hm_54 dX4_orElse_2 (t := 9) rfl zc2_ne ?_ ?_
                    · intro hc
                      rw [if_neg hc] at h
                      refine zw_push hm_54 dX4_orElse_9 (v := .inl v76) rfl ?_
                      refine zw_iret hm_54 dX4_orElse_10 ?_
                      show ma_wp X d w 40 59 [(0, .inr (.inr (some 91))), (1, .inl n)] [.inl v76, .inr (.inr (some 91))] S75 _
                      refine zw_pf hm_40 dX4_findRoom_59 (zT_is hS75 s_91) (zT_t hS75 s_91) p_4_34_4 zk_int ?_
                      refine zw_push hm_40 dX4_findRoom_62 (v := .inr (.inr (some 91))) rfl ?_
                      refine zw_push hm_40 dX4_findRoom_63 (v := .inr (.inr (some 91))) rfl ?_
                      refine zw_gf hm_40 dX4_findRoom_64 (v := .inl v76) (zT_is (zT_pi hS75) s_91) (zT_t (zT_pi hS75) s_91) rfl f_4_34_4 rfl ?_
                      refine zw_push hm_40 dX4_findRoom_67 (v := .inl n) rfl ?_
                      refine zw_cv hm_40 dX4_findRoom_68 v_4_43_4 hm_41 [.inl n, .inl v76] [] rfl (zT_rt (zT_pi hS75) s_91 rfl) ⟨by omega, by omega⟩ rfl ?_
                      show ma_wp X (d - 1) (w - 22) 41 0 [(0, .inr (.inr (some 91))), (1, .inl v76), (2, .inl n)] [] (ma_put S75 91 5 (.inl v76)) _
                      refine zw_push hm_41 dX4_fits_0 (v := .inl v76) rfl ?_
                      refine zw_if0 hm_41 dX4_fits_1 (t := 29) rfl zc0_lt ?_ ?_
                      · intro hc
                        rw [if_pos hc] at h
                        refine zw_push hm_41 dX4_fits_29 (v := .inl (0 : Int32)) rfl ?_
                        refine zw_bret hm_41 dX4_fits_30 (by decide) ?_
                        show ma_wp X d w 40 71 [(0, .inr (.inr (some 91))), (1, .inl n)] [.inl (0 : Int32)] (ma_put S75 91 5 (.inl v76)) _
                        refine zw_if0 hm_40 dX4_findRoom_71 (t := 81) rfl zc0_eq (fun _ => ?_) (fun hc => absurd (by decide) hc)
                        refine zw_push hm_40 dX4_findRoom_81 (v := .inl (-1 : Int32)) rfl ?_
                        exact zw_iret hm_40 dX4_findRoom_82 h
                      · intro hc
                        rw [if_neg hc] at h
                        refine zw_push hm_41 dX4_fits_4 (v := .inl v76) rfl ?_
                        refine zw_push hm_41 dX4_fits_5 (v := .inl (93 : Int32)) rfl ?_
                        refine zw_if2 hm_41 dX4_fits_7 (t := 29) rfl zc2_ge ?_ ?_
                        · intro hc
                          rw [if_pos hc] at h
                          refine zw_push hm_41 dX4_fits_29 (v := .inl (0 : Int32)) rfl ?_
                          refine zw_bret hm_41 dX4_fits_30 (by decide) ?_
                          show ma_wp X d w 40 71 [(0, .inr (.inr (some 91))), (1, .inl n)] [.inl (0 : Int32)] (ma_put S75 91 5 (.inl v76)) _
                          refine zw_if0 hm_40 dX4_findRoom_71 (t := 81) rfl zc0_eq (fun _ => ?_) (fun hc => absurd (by decide) hc)
                          refine zw_push hm_40 dX4_findRoom_81 (v := .inl (-1 : Int32)) rfl ?_
                          exact zw_iret hm_40 dX4_findRoom_82 h
                        · intro hc
                          rw [if_neg hc] at h
                          refine zw_push hm_41 dX4_fits_10 (v := .inr (.inr (some 91))) rfl ?_
                          refine zw_gf hm_41 dX4_fits_11 (v := .inr (.inr (some 92))) (zT_is (zT_pi hS75) s_91) (zT_t (zT_pi hS75) s_91) rfl f_4_9_4 (zT_f (zT_pi hS75) r_91_7) ?_
                          refine zw_push hm_41 dX4_fits_14 (v := .inl v76) rfl ?_
                          obtain ⟨hg, h⟩ := h
                          refine zw_ia hm_41 dX4_fits_15 (zT_is (zT_pi hS75) s_92) (zT_h (zT_pi hS75) s_92) rfl hg ?_
                          show ma_wp X (d - 1) (w - 22) 41 16 [(0, .inr (.inr (some 91))), (1, .inl v76), (2, .inl n)] [.inl (mI S75 92 v76.toNatClampNeg)] (ma_put S75 91 5 (.inl v76)) _
                          refine zw_push hm_41 dX4_fits_16 (v := .inl n) rfl ?_
                          refine zw_stk hm_41 dX4_fits_17 (st' := [.inl ((mI S75 92 v76.toNatClampNeg) + n)]) rfl rfl ?_
                          refine zw_push hm_41 dX4_fits_18 (v := .inr (.inr (some 91))) rfl ?_
                          refine zw_gf hm_41 dX4_fits_19 (v := .inl (mI S75 91 2)) (zT_is (zT_pi hS75) s_91) (zT_t (zT_pi hS75) s_91) rfl f_4_18_4 rfl ?_
                          refine zw_if2 hm_41 dX4_fits_22 (t := 29) rfl zc2_gt ?_ ?_
                          · intro hc
                            rw [if_pos hc] at h
                            refine zw_push hm_41 dX4_fits_29 (v := .inl (0 : Int32)) rfl ?_
                            refine zw_bret hm_41 dX4_fits_30 (by decide) ?_
                            show ma_wp X d w 40 71 [(0, .inr (.inr (some 91))), (1, .inl n)] [.inl (0 : Int32)] (ma_put S75 91 5 (.inl v76)) _
                            refine zw_if0 hm_40 dX4_findRoom_71 (t := 81) rfl zc0_eq (fun _ => ?_) (fun hc => absurd (by decide) hc)
                            refine zw_push hm_40 dX4_findRoom_81 (v := .inl (-1 : Int32)) rfl ?_
                            exact zw_iret hm_40 dX4_findRoom_82 h
                          · intro hc
                            rw [if_neg hc] at h
                            refine zw_push hm_41 dX4_fits_25 (v := .inl (1 : Int32)) rfl ?_
                            refine zw_goto hm_41 dX4_fits_26 (t := 30) rfl ?_
                            refine zw_bret hm_41 dX4_fits_30 (by decide) ?_
                            show ma_wp X d w 40 71 [(0, .inr (.inr (some 91))), (1, .inl n)] [.inl (1 : Int32)] (ma_put S75 91 5 (.inl v76)) _
                            refine zw_if0 hm_40 dX4_findRoom_71 (t := 81) rfl zc0_eq (fun hc => absurd hc (by decide)) (fun _ => ?_)
                            refine zw_push hm_40 dX4_findRoom_74 (v := .inr (.inr (some 91))) rfl ?_
                            refine zw_cv hm_40 dX4_findRoom_75 v_4_60_4 hm_55 [] [] rfl (zT_rt (zT_pi hS75) s_91 rfl) ⟨by omega, by omega⟩ rfl (zw_mono h (zi_go ?_ ?_))
                            · intro v78 S77 hv
                              obtain ⟨hS77, h⟩ := hv
                              refine zw_goto hm_40 dX4_findRoom_78 (t := 82) rfl ?_
                              exact zw_iret hm_40 dX4_findRoom_82 h
                            · intro x S9 hx
                              exact ⟨by decide, hx⟩
                    · intro hc
                      rw [if_pos (Classical.not_not.mp hc)] at h
                      refine zw_push hm_54 dX4_orElse_5 (v := .inl (mI S75 91 5)) rfl ?_
                      refine zw_goto hm_54 dX4_orElse_6 (t := 10) rfl ?_
                      refine zw_iret hm_54 dX4_orElse_10 ?_
                      show ma_wp X d w 40 59 [(0, .inr (.inr (some 91))), (1, .inl n)] [.inl (mI S75 91 5), .inr (.inr (some 91))] S75 _
                      refine zw_pf hm_40 dX4_findRoom_59 (zT_is hS75 s_91) (zT_t hS75 s_91) p_4_34_4 zk_int ?_
                      refine zw_push hm_40 dX4_findRoom_62 (v := .inr (.inr (some 91))) rfl ?_
                      refine zw_push hm_40 dX4_findRoom_63 (v := .inr (.inr (some 91))) rfl ?_
                      refine zw_gf hm_40 dX4_findRoom_64 (v := .inl (mI S75 91 5)) (zT_is (zT_pi hS75) s_91) (zT_t (zT_pi hS75) s_91) rfl f_4_34_4 rfl ?_
                      refine zw_push hm_40 dX4_findRoom_67 (v := .inl n) rfl ?_
                      refine zw_cv hm_40 dX4_findRoom_68 v_4_43_4 hm_41 [.inl n, .inl (mI S75 91 5)] [] rfl (zT_rt (zT_pi hS75) s_91 rfl) ⟨by omega, by omega⟩ rfl ?_
                      show ma_wp X (d - 1) (w - 22) 41 0 [(0, .inr (.inr (some 91))), (1, .inl (mI S75 91 5)), (2, .inl n)] [] (ma_put S75 91 5 (.inl (mI S75 91 5))) _
                      refine zw_push hm_41 dX4_fits_0 (v := .inl (mI S75 91 5)) rfl ?_
                      refine zw_if0 hm_41 dX4_fits_1 (t := 29) rfl zc0_lt ?_ ?_
                      · intro hc
                        rw [if_pos hc] at h
                        refine zw_push hm_41 dX4_fits_29 (v := .inl (0 : Int32)) rfl ?_
                        refine zw_bret hm_41 dX4_fits_30 (by decide) ?_
                        show ma_wp X d w 40 71 [(0, .inr (.inr (some 91))), (1, .inl n)] [.inl (0 : Int32)] (ma_put S75 91 5 (.inl (mI S75 91 5))) _
                        refine zw_if0 hm_40 dX4_findRoom_71 (t := 81) rfl zc0_eq (fun _ => ?_) (fun hc => absurd (by decide) hc)
                        refine zw_push hm_40 dX4_findRoom_81 (v := .inl (-1 : Int32)) rfl ?_
                        exact zw_iret hm_40 dX4_findRoom_82 h
                      · intro hc
                        rw [if_neg hc] at h
                        refine zw_push hm_41 dX4_fits_4 (v := .inl (mI S75 91 5)) rfl ?_
                        refine zw_push hm_41 dX4_fits_5 (v := .inl (93 : Int32)) rfl ?_
                        refine zw_if2 hm_41 dX4_fits_7 (t := 29) rfl zc2_ge ?_ ?_
                        · intro hc
                          rw [if_pos hc] at h
                          refine zw_push hm_41 dX4_fits_29 (v := .inl (0 : Int32)) rfl ?_
                          refine zw_bret hm_41 dX4_fits_30 (by decide) ?_
                          show ma_wp X d w 40 71 [(0, .inr (.inr (some 91))), (1, .inl n)] [.inl (0 : Int32)] (ma_put S75 91 5 (.inl (mI S75 91 5))) _
                          refine zw_if0 hm_40 dX4_findRoom_71 (t := 81) rfl zc0_eq (fun _ => ?_) (fun hc => absurd (by decide) hc)
                          refine zw_push hm_40 dX4_findRoom_81 (v := .inl (-1 : Int32)) rfl ?_
                          exact zw_iret hm_40 dX4_findRoom_82 h
                        · intro hc
                          rw [if_neg hc] at h
                          refine zw_push hm_41 dX4_fits_10 (v := .inr (.inr (some 91))) rfl ?_
                          refine zw_gf hm_41 dX4_fits_11 (v := .inr (.inr (some 92))) (zT_is (zT_pi hS75) s_91) (zT_t (zT_pi hS75) s_91) rfl f_4_9_4 (zT_f (zT_pi hS75) r_91_7) ?_
                          refine zw_push hm_41 dX4_fits_14 (v := .inl (mI S75 91 5)) rfl ?_
                          obtain ⟨hg, h⟩ := h
                          refine zw_ia hm_41 dX4_fits_15 (zT_is (zT_pi hS75) s_92) (zT_h (zT_pi hS75) s_92) rfl hg ?_
                          show ma_wp X (d - 1) (w - 22) 41 16 [(0, .inr (.inr (some 91))), (1, .inl (mI S75 91 5)), (2, .inl n)] [.inl (mI S75 92 (mI S75 91 5).toNatClampNeg)] (ma_put S75 91 5 (.inl (mI S75 91 5))) _
                          refine zw_push hm_41 dX4_fits_16 (v := .inl n) rfl ?_
                          refine zw_stk hm_41 dX4_fits_17 (st' := [.inl ((mI S75 92 (mI S75 91 5).toNatClampNeg) + n)]) rfl rfl ?_
                          refine zw_push hm_41 dX4_fits_18 (v := .inr (.inr (some 91))) rfl ?_
                          refine zw_gf hm_41 dX4_fits_19 (v := .inl (mI S75 91 2)) (zT_is (zT_pi hS75) s_91) (zT_t (zT_pi hS75) s_91) rfl f_4_18_4 rfl ?_
                          refine zw_if2 hm_41 dX4_fits_22 (t := 29) rfl zc2_gt ?_ ?_
                          · intro hc
                            rw [if_pos hc] at h
                            refine zw_push hm_41 dX4_fits_29 (v := .inl (0 : Int32)) rfl ?_
                            refine zw_bret hm_41 dX4_fits_30 (by decide) ?_
                            show ma_wp X d w 40 71 [(0, .inr (.inr (some 91))), (1, .inl n)] [.inl (0 : Int32)] (ma_put S75 91 5 (.inl (mI S75 91 5))) _
                            refine zw_if0 hm_40 dX4_findRoom_71 (t := 81) rfl zc0_eq (fun _ => ?_) (fun hc => absurd (by decide) hc)
                            refine zw_push hm_40 dX4_findRoom_81 (v := .inl (-1 : Int32)) rfl ?_
                            exact zw_iret hm_40 dX4_findRoom_82 h
                          · intro hc
                            rw [if_neg hc] at h
                            refine zw_push hm_41 dX4_fits_25 (v := .inl (1 : Int32)) rfl ?_
                            refine zw_goto hm_41 dX4_fits_26 (t := 30) rfl ?_
                            refine zw_bret hm_41 dX4_fits_30 (by decide) ?_
                            show ma_wp X d w 40 71 [(0, .inr (.inr (some 91))), (1, .inl n)] [.inl (1 : Int32)] (ma_put S75 91 5 (.inl (mI S75 91 5))) _
                            refine zw_if0 hm_40 dX4_findRoom_71 (t := 81) rfl zc0_eq (fun hc => absurd hc (by decide)) (fun _ => ?_)
                            refine zw_push hm_40 dX4_findRoom_74 (v := .inr (.inr (some 91))) rfl ?_
                            refine zw_cv hm_40 dX4_findRoom_75 v_4_60_4 hm_55 [] [] rfl (zT_rt (zT_pi hS75) s_91 rfl) ⟨by omega, by omega⟩ rfl (zw_mono h (zi_go ?_ ?_))
                            · intro v80 S79 hv
                              obtain ⟨hS79, h⟩ := hv
                              refine zw_goto hm_40 dX4_findRoom_78 (t := 82) rfl ?_
                              exact zw_iret hm_40 dX4_findRoom_82 h
                            · intro x S9 hx
                              exact ⟨by decide, hx⟩
                  · intro x S9 hx
                    exact ⟨by decide, hx⟩
                · intro hc
                  rw [if_neg hc] at h
                  refine zw_push hm_41 dX4_fits_10 (v := .inr (.inr (some 91))) rfl ?_
                  refine zw_gf hm_41 dX4_fits_11 (v := .inr (.inr (some 92))) (zT_is hS67 s_91) (zT_t hS67 s_91) rfl f_4_9_4 (zT_f hS67 r_91_7) ?_
                  refine zw_push hm_41 dX4_fits_14 (v := .inl (mI S67 91 5)) rfl ?_
                  obtain ⟨hg, h⟩ := h
                  refine zw_ia hm_41 dX4_fits_15 (zT_is hS67 s_92) (zT_h hS67 s_92) rfl hg ?_
                  show ma_wp X (d - 1) (w - 22) 41 16 [(0, .inr (.inr (some 91))), (1, .inl (mI S67 91 5)), (2, .inl n)] [.inl (mI S67 92 (mI S67 91 5).toNatClampNeg)] S67 _
                  refine zw_push hm_41 dX4_fits_16 (v := .inl n) rfl ?_
                  refine zw_stk hm_41 dX4_fits_17 (st' := [.inl ((mI S67 92 (mI S67 91 5).toNatClampNeg) + n)]) rfl rfl ?_
                  refine zw_push hm_41 dX4_fits_18 (v := .inr (.inr (some 91))) rfl ?_
                  refine zw_gf hm_41 dX4_fits_19 (v := .inl (mI S67 91 2)) (zT_is hS67 s_91) (zT_t hS67 s_91) rfl f_4_18_4 rfl ?_
                  refine zw_if2 hm_41 dX4_fits_22 (t := 29) rfl zc2_gt ?_ ?_
                  · intro hc
                    rw [if_pos hc] at h
                    refine zw_push hm_41 dX4_fits_29 (v := .inl (0 : Int32)) rfl ?_
                    refine zw_bret hm_41 dX4_fits_30 (by decide) ?_
                    show ma_wp X d w 40 44 [(0, .inr (.inr (some 91))), (1, .inl n)] [.inl (0 : Int32)] S67 _
                    refine zw_if0 hm_40 dX4_findRoom_44 (t := 62) rfl zc0_ne (fun hc => absurd hc (by decide)) (fun _ => ?_)
                    refine zw_push hm_40 dX4_findRoom_47 (v := .inr (.inr (some 91))) rfl ?_
                    refine zw_push hm_40 dX4_findRoom_48 (v := .inr (.inr (some 91))) rfl ?_
                    refine zw_cv hm_40 dX4_findRoom_49 v_4_54_4 hm_52 [] [.inr (.inr (some 91))] rfl (zT_rt hS67 s_91 rfl) ⟨by omega, by omega⟩ rfl (zw_mono h (zi_go ?_ ?_))
                    · intro v82 S81 hv
                      obtain ⟨hS81, h⟩ := hv
                      refine zw_push hm_40 dX4_findRoom_52 (v := .inr (.inr (some 91))) rfl ?_
                      refine zw_gf hm_40 dX4_findRoom_53 (v := .inl (mI S81 91 5)) (zT_is hS81 s_91) (zT_t hS81 s_91) rfl f_4_34_4 rfl ?_
                      refine zw_cs hm_40 dX4_findRoom_56 pn_4_57 sl_4_57 hm_54 [.inl (mI S81 91 5), .inl v82] [.inr (.inr (some 91))] rfl ⟨by omega, by omega⟩ rfl ?_
                      show ma_wp X (d - 1) (w - 21) 54 0 [(0, .inl v82), (1, .inl (mI S81 91 5))] [] S81 _
                      refine zw_push hm_54 dX4_orElse_0 (v := .inl v82) rfl ?_
                      refine zw_push hm_54 dX4_orElse_1 (v := .inl (-1 : Int32)) rfl ?_
                      refine zw_if2 hm_54 dX4_orElse_2 (t := 9) rfl zc2_ne ?_ ?_
                      · intro hc
                        rw [if_neg hc] at h
                        refine zw_push hm_54 dX4_orElse_9 (v := .inl v82) rfl ?_
                        refine zw_iret hm_54 dX4_orElse_10 ?_
                        show ma_wp X d w 40 59 [(0, .inr (.inr (some 91))), (1, .inl n)] [.inl v82, .inr (.inr (some 91))] S81 _
                        refine zw_pf hm_40 dX4_findRoom_59 (zT_is hS81 s_91) (zT_t hS81 s_91) p_4_34_4 zk_int ?_
                        refine zw_push hm_40 dX4_findRoom_62 (v := .inr (.inr (some 91))) rfl ?_
                        refine zw_push hm_40 dX4_findRoom_63 (v := .inr (.inr (some 91))) rfl ?_
                        refine zw_gf hm_40 dX4_findRoom_64 (v := .inl v82) (zT_is (zT_pi hS81) s_91) (zT_t (zT_pi hS81) s_91) rfl f_4_34_4 rfl ?_
                        refine zw_push hm_40 dX4_findRoom_67 (v := .inl n) rfl ?_
                        refine zw_cv hm_40 dX4_findRoom_68 v_4_43_4 hm_41 [.inl n, .inl v82] [] rfl (zT_rt (zT_pi hS81) s_91 rfl) ⟨by omega, by omega⟩ rfl ?_
                        show ma_wp X (d - 1) (w - 22) 41 0 [(0, .inr (.inr (some 91))), (1, .inl v82), (2, .inl n)] [] (ma_put S81 91 5 (.inl v82)) _
                        refine zw_push hm_41 dX4_fits_0 (v := .inl v82) rfl ?_
                        refine zw_if0 hm_41 dX4_fits_1 (t := 29) rfl zc0_lt ?_ ?_
                        · intro hc
                          rw [if_pos hc] at h
                          refine zw_push hm_41 dX4_fits_29 (v := .inl (0 : Int32)) rfl ?_
                          refine zw_bret hm_41 dX4_fits_30 (by decide) ?_
                          show ma_wp X d w 40 71 [(0, .inr (.inr (some 91))), (1, .inl n)] [.inl (0 : Int32)] (ma_put S81 91 5 (.inl v82)) _
                          refine zw_if0 hm_40 dX4_findRoom_71 (t := 81) rfl zc0_eq (fun _ => ?_) (fun hc => absurd (by decide) hc)
                          refine zw_push hm_40 dX4_findRoom_81 (v := .inl (-1 : Int32)) rfl ?_
                          exact zw_iret hm_40 dX4_findRoom_82 h
                        · intro hc
                          rw [if_neg hc] at h
                          refine zw_push hm_41 dX4_fits_4 (v := .inl v82) rfl ?_
                          refine zw_push hm_41 dX4_fits_5 (v := .inl (93 : Int32)) rfl ?_
                          refine zw_if2 hm_41 dX4_fits_7 (t := 29) rfl zc2_ge ?_ ?_
                          · intro hc
                            rw [if_pos hc] at h
                            refine zw_push hm_41 dX4_fits_29 (v := .inl (0 : Int32)) rfl ?_
                            refine zw_bret hm_41 dX4_fits_30 (by decide) ?_
                            show ma_wp X d w 40 71 [(0, .inr (.inr (some 91))), (1, .inl n)] [.inl (0 : Int32)] (ma_put S81 91 5 (.inl v82)) _
                            refine zw_if0 hm_40 dX4_findRoom_71 (t := 81) rfl zc0_eq (fun _ => ?_) (fun hc => absurd (by decide) hc)
                            refine zw_push hm_40 dX4_findRoom_81 (v := .inl (-1 : Int32)) rfl ?_
                            exact zw_iret hm_40 dX4_findRoom_82 h
                          · intro hc
                            rw [if_neg hc] at h
                            refine zw_push hm_41 dX4_fits_10 (v := .inr (.inr (some 91))) rfl ?_
                            refine zw_gf hm_41 dX4_fits_11 (v := .inr (.inr (some 92))) (zT_is (zT_pi hS81) s_91) (zT_t (zT_pi hS81) s_91) rfl f_4_9_4 (zT_f (zT_pi hS81) r_91_7) ?_
                            refine zw_push hm_41 dX4_fits_14 (v := .inl v82) rfl ?_
                            obtain ⟨hg, h⟩ := h
                            refine zw_ia hm_41 dX4_fits_15 (zT_is (zT_pi hS81) s_92) (zT_h (zT_pi hS81) s_92) rfl hg ?_
                            show ma_wp X (d - 1) (w - 22) 41 16 [(0, .inr (.inr (some 91))), (1, .inl v82), (2, .inl n)] [.inl (mI S81 92 v82.toNatClampNeg)] (ma_put S81 91 5 (.inl v82)) _
                            refine zw_push hm_41 dX4_fits_16 (v := .inl n) rfl ?_
                            refine zw_stk hm_41 dX4_fits_17 (st' := [.inl ((mI S81 92 v82.toNatClampNeg) + n)]) rfl rfl ?_
                            refine zw_push hm_41 dX4_fits_18 (v := .inr (.inr (some 91))) rfl ?_
                            refine zw_gf hm_41 dX4_fits_19 (v := .inl (mI S81 91 2)) (zT_is (zT_pi hS81) s_91) (zT_t (zT_pi hS81) s_91) rfl f_4_18_4 rfl ?_
                            refine zw_if2 hm_41 dX4_fits_22 (t := 29) rfl zc2_gt ?_ ?_
                            · intro hc
                              rw [if_pos hc] at h
                              refine zw_push hm_41 dX4_fits_29 (v := .inl (0 : Int32)) rfl ?_
                              refine zw_bret hm_41 dX4_fits_30 (by decide) ?_
                              show ma_wp X d w 40 71 [(0, .inr (.inr (some 91))), (1, .inl n)] [.inl (0 : Int32)] (ma_put S81 91 5 (.inl v82)) _
                              refine zw_if0 hm_40 dX4_findRoom_71 (t := 81) rfl zc0_eq (fun _ => ?_) (fun hc => absurd (by decide) hc)
                              refine zw_push hm_40 dX4_findRoom_81 (v := .inl (-1 : Int32)) rfl ?_
                              exact zw_iret hm_40 dX4_findRoom_82 h
                            · intro hc
                              rw [if_neg hc] at h
                              refine zw_push hm_41 dX4_fits_25 (v := .inl (1 : Int32)) rfl ?_
                              refine zw_goto hm_41 dX4_fits_26 (t := 30) rfl ?_
                              refine zw_bret hm_41 dX4_fits_30 (by decide) ?_
                              show ma_wp X d w 40 71 [(0, .inr (.inr (some 91))), (1, .inl n)] [.inl (1 : Int32)] (ma_put S81 91 5 (.inl v82)) _
                              refine zw_if0 hm_40 dX4_findRoom_71 (t := 81) rfl zc0_eq (fun hc => absurd hc (by decide)) (fun _ => ?_)
                              refine zw_push hm_40 dX4_findRoom_74 (v := .inr (.inr (some 91))) rfl ?_
                              refine zw_cv hm_40 dX4_findRoom_75 v_4_60_4 hm_55 [] [] rfl (zT_rt (zT_pi hS81) s_91 rfl) ⟨by omega, by omega⟩ rfl (zw_mono h (zi_go ?_ ?_))
                              · intro v84 S83 hv
                                obtain ⟨hS83, h⟩ := hv
                                refine zw_goto hm_40 dX4_findRoom_78 (t := 82) rfl ?_
                                exact zw_iret hm_40 dX4_findRoom_82 h
                              · intro x S9 hx
                                exact ⟨by decide, hx⟩
                      · intro hc
                        rw [if_pos (Classical.not_not.mp hc)] at h
                        refine zw_push hm_54 dX4_orElse_5 (v := .inl (mI S81 91 5)) rfl ?_
                        refine zw_goto hm_54 dX4_orElse_6 (t := 10) rfl ?_
                        refine zw_iret hm_54 dX4_orElse_10 ?_
                        show ma_wp X d w 40 59 [(0, .inr (.inr (some 91))), (1, .inl n)] [.inl (mI S81 91 5), .inr (.inr (some 91))] S81 _
                        refine zw_pf hm_40 dX4_findRoom_59 (zT_is hS81 s_91) (zT_t hS81 s_91) p_4_34_4 zk_int ?_
                        refine zw_push hm_40 dX4_findRoom_62 (v := .inr (.inr (some 91))) rfl ?_
                        refine zw_push hm_40 dX4_findRoom_63 (v := .inr (.inr (some 91))) rfl ?_
                        refine zw_gf hm_40 dX4_findRoom_64 (v := .inl (mI S81 91 5)) (zT_is (zT_pi hS81) s_91) (zT_t (zT_pi hS81) s_91) rfl f_4_34_4 rfl ?_
                        refine zw_push hm_40 dX4_findRoom_67 (v := .inl n) rfl ?_
                        refine zw_cv hm_40 dX4_findRoom_68 v_4_43_4 hm_41 [.inl n, .inl (mI S81 91 5)] [] rfl (zT_rt (zT_pi hS81) s_91 rfl) ⟨by omega, by omega⟩ rfl ?_
                        show ma_wp X (d - 1) (w - 22) 41 0 [(0, .inr (.inr (some 91))), (1, .inl (mI S81 91 5)), (2, .inl n)] [] (ma_put S81 91 5 (.inl (mI S81 91 5))) _
                        refine zw_push hm_41 dX4_fits_0 (v := .inl (mI S81 91 5)) rfl ?_
                        refine zw_if0 hm_41 dX4_fits_1 (t := 29) rfl zc0_lt ?_ ?_
                        · intro hc
                          rw [if_pos hc] at h
                          refine zw_push hm_41 dX4_fits_29 (v := .inl (0 : Int32)) rfl ?_
                          refine zw_bret hm_41 dX4_fits_30 (by decide) ?_
                          show ma_wp X d w 40 71 [(0, .inr (.inr (some 91))), (1, .inl n)] [.inl (0 : Int32)] (ma_put S81 91 5 (.inl (mI S81 91 5))) _
                          refine zw_if0 hm_40 dX4_findRoom_71 (t := 81) rfl zc0_eq (fun _ => ?_) (fun hc => absurd (by decide) hc)
                          refine zw_push hm_40 dX4_findRoom_81 (v := .inl (-1 : Int32)) rfl ?_
                          exact zw_iret hm_40 dX4_findRoom_82 h
                        · intro hc
                          rw [if_neg hc] at h
                          refine zw_push hm_41 dX4_fits_4 (v := .inl (mI S81 91 5)) rfl ?_
                          refine zw_push hm_41 dX4_fits_5 (v := .inl (93 : Int32)) rfl ?_
                          refine zw_if2 hm_41 dX4_fits_7 (t := 29) rfl zc2_ge ?_ ?_
                          · intro hc
                            rw [if_pos hc] at h
                            refine zw_push hm_41 dX4_fits_29 (v := .inl (0 : Int32)) rfl ?_
                            refine zw_bret hm_41 dX4_fits_30 (by decide) ?_
                            show ma_wp X d w 40 71 [(0, .inr (.inr (some 91))), (1, .inl n)] [.inl (0 : Int32)] (ma_put S81 91 5 (.inl (mI S81 91 5))) _
                            refine zw_if0 hm_40 dX4_findRoom_71 (t := 81) rfl zc0_eq (fun _ => ?_) (fun hc => absurd (by decide) hc)
                            refine zw_push hm_40 dX4_findRoom_81 (v := .inl (-1 : Int32)) rfl ?_
                            exact zw_iret hm_40 dX4_findRoom_82 h
                          · intro hc
                            rw [if_neg hc] at h
                            refine zw_push hm_41 dX4_fits_10 (v := .inr (.inr (some 91))) rfl ?_
                            refine zw_gf hm_41 dX4_fits_11 (v := .inr (.inr (some 92))) (zT_is (zT_pi hS81) s_91) (zT_t (zT_pi hS81) s_91) rfl f_4_9_4 (zT_f (zT_pi hS81) r_91_7) ?_
                            refine zw_push hm_41 dX4_fits_14 (v := .inl (mI S81 91 5)) rfl ?_
                            obtain ⟨hg, h⟩ := h
                            refine zw_ia hm_41 dX4_fits_15 (zT_is (zT_pi hS81) s_92) (zT_h (zT_pi hS81) s_92) rfl hg ?_
                            show ma_wp X (d - 1) (w - 22) 41 16 [(0, .inr (.inr (some 91))), (1, .inl (mI S81 91 5)), (2, .inl n)] [.inl (mI S81 92 (mI S81 91 5).toNatClampNeg)] (ma_put S81 91 5 (.inl (mI S81 91 5))) _
                            refine zw_push hm_41 dX4_fits_16 (v := .inl n) rfl ?_
                            refine zw_stk hm_41 dX4_fits_17 (st' := [.inl ((mI S81 92 (mI S81 91 5).toNatClampNeg) + n)]) rfl rfl ?_
                            refine zw_push hm_41 dX4_fits_18 (v := .inr (.inr (some 91))) rfl ?_
                            refine zw_gf hm_41 dX4_fits_19 (v := .inl (mI S81 91 2)) (zT_is (zT_pi hS81) s_91) (zT_t (zT_pi hS81) s_91) rfl f_4_18_4 rfl ?_
                            refine zw_if2 hm_41 dX4_fits_22 (t := 29) rfl zc2_gt ?_ ?_
                            · intro hc
                              rw [if_pos hc] at h
                              refine zw_push hm_41 dX4_fits_29 (v := .inl (0 : Int32)) rfl ?_
                              refine zw_bret hm_41 dX4_fits_30 (by decide) ?_
                              show ma_wp X d w 40 71 [(0, .inr (.inr (some 91))), (1, .inl n)] [.inl (0 : Int32)] (ma_put S81 91 5 (.inl (mI S81 91 5))) _
                              refine zw_if0 hm_40 dX4_findRoom_71 (t := 81) rfl zc0_eq (fun _ => ?_) (fun hc => absurd (by decide) hc)
                              refine zw_push hm_40 dX4_findRoom_81 (v := .inl (-1 : Int32)) rfl ?_
                              exact zw_iret hm_40 dX4_findRoom_82 h
                            · intro hc
                              rw [if_neg hc] at h
                              refine zw_push hm_41 dX4_fits_25 (v := .inl (1 : Int32)) rfl ?_
                              refine zw_goto hm_41 dX4_fits_26 (t := 30) rfl ?_
                              refine zw_bret hm_41 dX4_fits_30 (by decide) ?_
                              show ma_wp X d w 40 71 [(0, .inr (.inr (some 91))), (1, .inl n)] [.inl (1 : Int32)] (ma_put S81 91 5 (.inl (mI S81 91 5))) _
                              refine zw_if0 hm_40 dX4_findRoom_71 (t := 81) rfl zc0_eq (fun hc => absurd hc (by decide)) (fun _ => ?_)
                              refine zw_push hm_40 dX4_findRoom_74 (v := .inr (.inr (some 91))) rfl ?_
                              refine zw_cv hm_40 dX4_findRoom_75 v_4_60_4 hm_55 [] [] rfl (zT_rt (zT_pi hS81) s_91 rfl) ⟨by omega, by omega⟩ rfl (zw_mono h (zi_go ?_ ?_))
                              · intro v86 S85 hv
                                obtain ⟨hS85, h⟩ := hv
                                refine zw_goto hm_40 dX4_findRoom_78 (t := 82) rfl ?_
                                exact zw_iret hm_40 dX4_findRoom_82 h
                              · intro x S9 hx
                                exact ⟨by decide, hx⟩
                    · intro x S9 hx
                      exact ⟨by decide, hx⟩
                  · intro hc
                    rw [if_neg hc] at h
                    refine zw_push hm_41 dX4_fits_25 (v := .inl (1 : Int32)) rfl ?_
                    refine zw_goto hm_41 dX4_fits_26 (t := 30) rfl ?_
                    refine zw_bret hm_41 dX4_fits_30 (by decide) ?_
                    show ma_wp X d w 40 44 [(0, .inr (.inr (some 91))), (1, .inl n)] [.inl (1 : Int32)] S67 _
                    refine zw_if0 hm_40 dX4_findRoom_44 (t := 62) rfl zc0_ne (fun _ => ?_) (fun hc => absurd (by decide) hc)
                    refine zw_push hm_40 dX4_findRoom_62 (v := .inr (.inr (some 91))) rfl ?_
                    refine zw_push hm_40 dX4_findRoom_63 (v := .inr (.inr (some 91))) rfl ?_
                    refine zw_gf hm_40 dX4_findRoom_64 (v := .inl (mI S67 91 5)) (zT_is hS67 s_91) (zT_t hS67 s_91) rfl f_4_34_4 rfl ?_
                    refine zw_push hm_40 dX4_findRoom_67 (v := .inl n) rfl ?_
                    refine zw_cv hm_40 dX4_findRoom_68 v_4_43_4 hm_41 [.inl n, .inl (mI S67 91 5)] [] rfl (zT_rt hS67 s_91 rfl) ⟨by omega, by omega⟩ rfl ?_
                    show ma_wp X (d - 1) (w - 22) 41 0 [(0, .inr (.inr (some 91))), (1, .inl (mI S67 91 5)), (2, .inl n)] [] S67 _
                    refine zw_push hm_41 dX4_fits_0 (v := .inl (mI S67 91 5)) rfl ?_
                    refine zw_if0 hm_41 dX4_fits_1 (t := 29) rfl zc0_lt ?_ ?_
                    · intro hc
                      rw [if_pos hc] at h
                      refine zw_push hm_41 dX4_fits_29 (v := .inl (0 : Int32)) rfl ?_
                      refine zw_bret hm_41 dX4_fits_30 (by decide) ?_
                      show ma_wp X d w 40 71 [(0, .inr (.inr (some 91))), (1, .inl n)] [.inl (0 : Int32)] S67 _
                      refine zw_if0 hm_40 dX4_findRoom_71 (t := 81) rfl zc0_eq (fun _ => ?_) (fun hc => absurd (by decide) hc)
                      refine zw_push hm_40 dX4_findRoom_81 (v := .inl (-1 : Int32)) rfl ?_
                      exact zw_iret hm_40 dX4_findRoom_82 h
                    · intro hc
                      rw [if_neg hc] at h
                      refine zw_push hm_41 dX4_fits_4 (v := .inl (mI S67 91 5)) rfl ?_
                      refine zw_push hm_41 dX4_fits_5 (v := .inl (93 : Int32)) rfl ?_
                      refine zw_if2 hm_41 dX4_fits_7 (t := 29) rfl zc2_ge ?_ ?_
                      · intro hc
                        rw [if_pos hc] at h
                        refine zw_push hm_41 dX4_fits_29 (v := .inl (0 : Int32)) rfl ?_
                        refine zw_bret hm_41 dX4_fits_30 (by decide) ?_
                        show ma_wp X d w 40 71 [(0, .inr (.inr (some 91))), (1, .inl n)] [.inl (0 : Int32)] S67 _
                        refine zw_if0 hm_40 dX4_findRoom_71 (t := 81) rfl zc0_eq (fun _ => ?_) (fun hc => absurd (by decide) hc)
                        refine zw_push hm_40 dX4_findRoom_81 (v := .inl (-1 : Int32)) rfl ?_
                        exact zw_iret hm_40 dX4_findRoom_82 h
                      · intro hc
                        rw [if_neg hc] at h
                        refine zw_push hm_41 dX4_fits_10 (v := .inr (.inr (some 91))) rfl ?_
                        refine zw_gf hm_41 dX4_fits_11 (v := .inr (.inr (some 92))) (zT_is hS67 s_91) (zT_t hS67 s_91) rfl f_4_9_4 (zT_f hS67 r_91_7) ?_
                        refine zw_push hm_41 dX4_fits_14 (v := .inl (mI S67 91 5)) rfl ?_
                        obtain ⟨hg, h⟩ := h
                        refine zw_ia hm_41 dX4_fits_15 (zT_is hS67 s_92) (zT_h hS67 s_92) rfl hg ?_
                        show ma_wp X (d - 1) (w - 22) 41 16 [(0, .inr (.inr (some 91))), (1, .inl (mI S67 91 5)), (2, .inl n)] [.inl (mI S67 92 (mI S67 91 5).toNatClampNeg)] S67 _
                        refine zw_push hm_41 dX4_fits_16 (v := .inl n) rfl ?_
                        refine zw_stk hm_41 dX4_fits_17 (st' := [.inl ((mI S67 92 (mI S67 91 5).toNatClampNeg) + n)]) rfl rfl ?_
                        refine zw_push hm_41 dX4_fits_18 (v := .inr (.inr (some 91))) rfl ?_
                        refine zw_gf hm_41 dX4_fits_19 (v := .inl (mI S67 91 2)) (zT_is hS67 s_91) (zT_t hS67 s_91) rfl f_4_18_4 rfl ?_
                        refine zw_if2 hm_41 dX4_fits_22 (t := 29) rfl zc2_gt ?_ ?_
                        · intro hc
                          rw [if_pos hc] at h
                          refine zw_push hm_41 dX4_fits_29 (v := .inl (0 : Int32)) rfl ?_
                          refine zw_bret hm_41 dX4_fits_30 (by decide) ?_
                          show ma_wp X d w 40 71 [(0, .inr (.inr (some 91))), (1, .inl n)] [.inl (0 : Int32)] S67 _
                          refine zw_if0 hm_40 dX4_findRoom_71 (t := 81) rfl zc0_eq (fun _ => ?_) (fun hc => absurd (by decide) hc)
                          refine zw_push hm_40 dX4_findRoom_81 (v := .inl (-1 : Int32)) rfl ?_
                          exact zw_iret hm_40 dX4_findRoom_82 h
                        · intro hc
                          rw [if_neg hc] at h
                          refine zw_push hm_41 dX4_fits_25 (v := .inl (1 : Int32)) rfl ?_
                          refine zw_goto hm_41 dX4_fits_26 (t := 30) rfl ?_
                          refine zw_bret hm_41 dX4_fits_30 (by decide) ?_
                          show ma_wp X d w 40 71 [(0, .inr (.inr (some 91))), (1, .inl n)] [.inl (1 : Int32)] S67 _
                          refine zw_if0 hm_40 dX4_findRoom_71 (t := 81) rfl zc0_eq (fun hc => absurd hc (by decide)) (fun _ => ?_)
                          refine zw_push hm_40 dX4_findRoom_74 (v := .inr (.inr (some 91))) rfl ?_
                          refine zw_cv hm_40 dX4_findRoom_75 v_4_60_4 hm_55 [] [] rfl (zT_rt hS67 s_91 rfl) ⟨by omega, by omega⟩ rfl (zw_mono h (zi_go ?_ ?_))
                          · intro v88 S87 hv
                            obtain ⟨hS87, h⟩ := hv
                            refine zw_goto hm_40 dX4_findRoom_78 (t := 82) rfl ?_
                            exact zw_iret hm_40 dX4_findRoom_82 h
                          · intro x S9 hx
                            exact ⟨by decide, hx⟩
            · intro x S9 hx
              exact ⟨by decide, hx⟩
        · intro x S9 hx
          exact ⟨by decide, hx⟩
      · intro hc
        rw [if_neg hc] at h
        refine zw_push hm_41 dX4_fits_10 (v := .inr (.inr (some 91))) rfl ?_
        refine zw_gf hm_41 dX4_fits_11 (v := .inr (.inr (some 92))) (zT_is hS s_91) (zT_t hS s_91) rfl f_4_9_4 (zT_f hS r_91_7) ?_
        refine zw_push hm_41 dX4_fits_14 (v := .inl (mI S 91 5)) rfl ?_
        obtain ⟨hg, h⟩ := h
        refine zw_ia hm_41 dX4_fits_15 (zT_is hS s_92) (zT_h hS s_92) rfl hg ?_
        show ma_wp X (d - 1) (w - 22) 41 16 [(0, .inr (.inr (some 91))), (1, .inl (mI S 91 5)), (2, .inl n)] [.inl (mI S 92 (mI S 91 5).toNatClampNeg)] S _
        refine zw_push hm_41 dX4_fits_16 (v := .inl n) rfl ?_
        refine zw_stk hm_41 dX4_fits_17 (st' := [.inl ((mI S 92 (mI S 91 5).toNatClampNeg) + n)]) rfl rfl ?_
        refine zw_push hm_41 dX4_fits_18 (v := .inr (.inr (some 91))) rfl ?_
        refine zw_gf hm_41 dX4_fits_19 (v := .inl (mI S 91 2)) (zT_is hS s_91) (zT_t hS s_91) rfl f_4_18_4 rfl ?_
        refine zw_if2 hm_41 dX4_fits_22 (t := 29) rfl zc2_gt ?_ ?_
        · intro hc
          rw [if_pos hc] at h
          refine zw_push hm_41 dX4_fits_29 (v := .inl (0 : Int32)) rfl ?_
          refine zw_bret hm_41 dX4_fits_30 (by decide) ?_
          show ma_wp X d w 40 19 [(0, .inr (.inr (some 91))), (1, .inl n)] [.inl (0 : Int32)] S _
          refine zw_if0 hm_40 dX4_findRoom_19 (t := 35) rfl zc0_ne (fun hc => absurd hc (by decide)) (fun _ => ?_)
          refine zw_push hm_40 dX4_findRoom_22 (v := .inr (.inr (some 91))) rfl ?_
          refine zw_cv hm_40 dX4_findRoom_23 v_4_47_4 hm_42 [] [] rfl (zT_rt hS s_91 rfl) ⟨by omega, by omega⟩ rfl (zw_mono h (zi_go ?_ ?_))
          · intro v90 S89 hv
            obtain ⟨hS89, h⟩ := hv
            refine zw_push hm_40 dX4_findRoom_26 (v := .inl (2 : Int32)) rfl ?_
            refine zw_if2 hm_40 dX4_findRoom_27 (t := 35) rfl zc2_ge ?_ ?_
            · intro hc
              rw [if_pos hc] at h
              refine zw_push hm_40 dX4_findRoom_35 (v := .inr (.inr (some 91))) rfl ?_
              refine zw_push hm_40 dX4_findRoom_36 (v := .inr (.inr (some 91))) rfl ?_
              refine zw_gf hm_40 dX4_findRoom_37 (v := .inl (mI S89 91 5)) (zT_is hS89 s_91) (zT_t hS89 s_91) rfl f_4_34_4 rfl ?_
              refine zw_push hm_40 dX4_findRoom_40 (v := .inl n) rfl ?_
              refine zw_cv hm_40 dX4_findRoom_41 v_4_43_4 hm_41 [.inl n, .inl (mI S89 91 5)] [] rfl (zT_rt hS89 s_91 rfl) ⟨by omega, by omega⟩ rfl ?_
              show ma_wp X (d - 1) (w - 22) 41 0 [(0, .inr (.inr (some 91))), (1, .inl (mI S89 91 5)), (2, .inl n)] [] S89 _
              refine zw_push hm_41 dX4_fits_0 (v := .inl (mI S89 91 5)) rfl ?_
              refine zw_if0 hm_41 dX4_fits_1 (t := 29) rfl zc0_lt ?_ ?_
              · intro hc
                rw [if_pos hc] at h
                refine zw_push hm_41 dX4_fits_29 (v := .inl (0 : Int32)) rfl ?_
                refine zw_bret hm_41 dX4_fits_30 (by decide) ?_
                show ma_wp X d w 40 44 [(0, .inr (.inr (some 91))), (1, .inl n)] [.inl (0 : Int32)] S89 _
                refine zw_if0 hm_40 dX4_findRoom_44 (t := 62) rfl zc0_ne (fun hc => absurd hc (by decide)) (fun _ => ?_)
                refine zw_push hm_40 dX4_findRoom_47 (v := .inr (.inr (some 91))) rfl ?_
                refine zw_push hm_40 dX4_findRoom_48 (v := .inr (.inr (some 91))) rfl ?_
                refine zw_cv hm_40 dX4_findRoom_49 v_4_54_4 hm_52 [] [.inr (.inr (some 91))] rfl (zT_rt hS89 s_91 rfl) ⟨by omega, by omega⟩ rfl (zw_mono h (zi_go ?_ ?_))
                · intro v92 S91 hv
                  obtain ⟨hS91, h⟩ := hv
                  refine zw_push hm_40 dX4_findRoom_52 (v := .inr (.inr (some 91))) rfl ?_
                  refine zw_gf hm_40 dX4_findRoom_53 (v := .inl (mI S91 91 5)) (zT_is hS91 s_91) (zT_t hS91 s_91) rfl f_4_34_4 rfl ?_
                  refine zw_cs hm_40 dX4_findRoom_56 pn_4_57 sl_4_57 hm_54 [.inl (mI S91 91 5), .inl v92] [.inr (.inr (some 91))] rfl ⟨by omega, by omega⟩ rfl ?_
                  show ma_wp X (d - 1) (w - 21) 54 0 [(0, .inl v92), (1, .inl (mI S91 91 5))] [] S91 _
                  refine zw_push hm_54 dX4_orElse_0 (v := .inl v92) rfl ?_
                  refine zw_push hm_54 dX4_orElse_1 (v := .inl (-1 : Int32)) rfl ?_
                  refine zw_if2 hm_54 dX4_orElse_2 (t := 9) rfl zc2_ne ?_ ?_
                  · intro hc
                    rw [if_neg hc] at h
                    refine zw_push hm_54 dX4_orElse_9 (v := .inl v92) rfl ?_
                    refine zw_iret hm_54 dX4_orElse_10 ?_
                    show ma_wp X d w 40 59 [(0, .inr (.inr (some 91))), (1, .inl n)] [.inl v92, .inr (.inr (some 91))] S91 _
                    refine zw_pf hm_40 dX4_findRoom_59 (zT_is hS91 s_91) (zT_t hS91 s_91) p_4_34_4 zk_int ?_
                    refine zw_push hm_40 dX4_findRoom_62 (v := .inr (.inr (some 91))) rfl ?_
                    refine zw_push hm_40 dX4_findRoom_63 (v := .inr (.inr (some 91))) rfl ?_
                    refine zw_gf hm_40 dX4_findRoom_64 (v := .inl v92) (zT_is (zT_pi hS91) s_91) (zT_t (zT_pi hS91) s_91) rfl f_4_34_4 rfl ?_
                    refine zw_push hm_40 dX4_findRoom_67 (v := .inl n) rfl ?_
                    refine zw_cv hm_40 dX4_findRoom_68 v_4_43_4 hm_41 [.inl n, .inl v92] [] rfl (zT_rt (zT_pi hS91) s_91 rfl) ⟨by omega, by omega⟩ rfl ?_
                    show ma_wp X (d - 1) (w - 22) 41 0 [(0, .inr (.inr (some 91))), (1, .inl v92), (2, .inl n)] [] (ma_put S91 91 5 (.inl v92)) _
                    refine zw_push hm_41 dX4_fits_0 (v := .inl v92) rfl ?_
                    refine zw_if0 hm_41 dX4_fits_1 (t := 29) rfl zc0_lt ?_ ?_
                    · intro hc
                      rw [if_pos hc] at h
                      refine zw_push hm_41 dX4_fits_29 (v := .inl (0 : Int32)) rfl ?_
                      refine zw_bret hm_41 dX4_fits_30 (by decide) ?_
                      show ma_wp X d w 40 71 [(0, .inr (.inr (some 91))), (1, .inl n)] [.inl (0 : Int32)] (ma_put S91 91 5 (.inl v92)) _
                      refine zw_if0 hm_40 dX4_findRoom_71 (t := 81) rfl zc0_eq (fun _ => ?_) (fun hc => absurd (by decide) hc)
                      refine zw_push hm_40 dX4_findRoom_81 (v := .inl (-1 : Int32)) rfl ?_
                      exact zw_iret hm_40 dX4_findRoom_82 h
                    · intro hc
                      rw [if_neg hc] at h
                      refine zw_push hm_41 dX4_fits_4 (v := .inl v92) rfl ?_
                      refine zw_push hm_41 dX4_fits_5 (v := .inl (93 : Int32)) rfl ?_
                      refine zw_if2 hm_41 dX4_fits_7 (t := 29) rfl zc2_ge ?_ ?_
                      · intro hc
                        rw [if_pos hc] at h
                        refine zw_push hm_41 dX4_fits_29 (v := .inl (0 : Int32)) rfl ?_
                        refine zw_bret hm_41 dX4_fits_30 (by decide) ?_
                        show ma_wp X d w 40 71 [(0, .inr (.inr (some 91))), (1, .inl n)] [.inl (0 : Int32)] (ma_put S91 91 5 (.inl v92)) _
                        refine zw_if0 hm_40 dX4_findRoom_71 (t := 81) rfl zc0_eq (fun _ => ?_) (fun hc => absurd (by decide) hc)
                        refine zw_push hm_40 dX4_findRoom_81 (v := .inl (-1 : Int32)) rfl ?_
                        exact zw_iret hm_40 dX4_findRoom_82 h
                      · intro hc
                        rw [if_neg hc] at h
                        refine zw_push hm_41 dX4_fits_10 (v := .inr (.inr (some 91))) rfl ?_
                        refine zw_gf hm_41 dX4_fits_11 (v := .inr (.inr (some 92))) (zT_is (zT_pi hS91) s_91) (zT_t (zT_pi hS91) s_91) rfl f_4_9_4 (zT_f (zT_pi hS91) r_91_7) ?_
                        refine zw_push hm_41 dX4_fits_14 (v := .inl v92) rfl ?_
                        obtain ⟨hg, h⟩ := h
                        refine zw_ia hm_41 dX4_fits_15 (zT_is (zT_pi hS91) s_92) (zT_h (zT_pi hS91) s_92) rfl hg ?_
                        show ma_wp X (d - 1) (w - 22) 41 16 [(0, .inr (.inr (some 91))), (1, .inl v92), (2, .inl n)] [.inl (mI S91 92 v92.toNatClampNeg)] (ma_put S91 91 5 (.inl v92)) _
                        refine zw_push hm_41 dX4_fits_16 (v := .inl n) rfl ?_
                        refine zw_stk hm_41 dX4_fits_17 (st' := [.inl ((mI S91 92 v92.toNatClampNeg) + n)]) rfl rfl ?_
                        refine zw_push hm_41 dX4_fits_18 (v := .inr (.inr (some 91))) rfl ?_
                        refine zw_gf hm_41 dX4_fits_19 (v := .inl (mI S91 91 2)) (zT_is (zT_pi hS91) s_91) (zT_t (zT_pi hS91) s_91) rfl f_4_18_4 rfl ?_
                        refine zw_if2 hm_41 dX4_fits_22 (t := 29) rfl zc2_gt ?_ ?_
                        · intro hc
                          rw [if_pos hc] at h
                          refine zw_push hm_41 dX4_fits_29 (v := .inl (0 : Int32)) rfl ?_
                          refine zw_bret hm_41 dX4_fits_30 (by decide) ?_
                          show ma_wp X d w 40 71 [(0, .inr (.inr (some 91))), (1, .inl n)] [.inl (0 : Int32)] (ma_put S91 91 5 (.inl v92)) _
                          refine zw_if0 hm_40 dX4_findRoom_71 (t := 81) rfl zc0_eq (fun _ => ?_) (fun hc => absurd (by decide) hc)
                          refine zw_push hm_40 dX4_findRoom_81 (v := .inl (-1 : Int32)) rfl ?_
                          exact zw_iret hm_40 dX4_findRoom_82 h
                        · intro hc
                          rw [if_neg hc] at h
                          refine zw_push hm_41 dX4_fits_25 (v := .inl (1 : Int32)) rfl ?_
                          refine zw_goto hm_41 dX4_fits_26 (t := 30) rfl ?_
                          refine zw_bret hm_41 dX4_fits_30 (by decide) ?_
                          show ma_wp X d w 40 71 [(0, .inr (.inr (some 91))), (1, .inl n)] [.inl (1 : Int32)] (ma_put S91 91 5 (.inl v92)) _
                          refine zw_if0 hm_40 dX4_findRoom_71 (t := 81) rfl zc0_eq (fun hc => absurd hc (by decide)) (fun _ => ?_)
                          refine zw_push hm_40 dX4_findRoom_74 (v := .inr (.inr (some 91))) rfl ?_
                          refine zw_cv hm_40 dX4_findRoom_75 v_4_60_4 hm_55 [] [] rfl (zT_rt (zT_pi hS91) s_91 rfl) ⟨by omega, by omega⟩ rfl (zw_mono h (zi_go ?_ ?_))
                          · intro v94 S93 hv
                            obtain ⟨hS93, h⟩ := hv
                            refine zw_goto hm_40 dX4_findRoom_78 (t := 82) rfl ?_
                            exact zw_iret hm_40 dX4_findRoom_82 h
                          · intro x S9 hx
                            exact ⟨by decide, hx⟩
                  · intro hc
                    rw [if_pos (Classical.not_not.mp hc)] at h
                    refine zw_push hm_54 dX4_orElse_5 (v := .inl (mI S91 91 5)) rfl ?_
                    refine zw_goto hm_54 dX4_orElse_6 (t := 10) rfl ?_
                    refine zw_iret hm_54 dX4_orElse_10 ?_
                    show ma_wp X d w 40 59 [(0, .inr (.inr (some 91))), (1, .inl n)] [.inl (mI S91 91 5), .inr (.inr (some 91))] S91 _
                    refine zw_pf hm_40 dX4_findRoom_59 (zT_is hS91 s_91) (zT_t hS91 s_91) p_4_34_4 zk_int ?_
                    refine zw_push hm_40 dX4_findRoom_62 (v := .inr (.inr (some 91))) rfl ?_
                    refine zw_push hm_40 dX4_findRoom_63 (v := .inr (.inr (some 91))) rfl ?_
                    refine zw_gf hm_40 dX4_findRoom_64 (v := .inl (mI S91 91 5)) (zT_is (zT_pi hS91) s_91) (zT_t (zT_pi hS91) s_91) rfl f_4_34_4 rfl ?_
                    refine zw_push hm_40 dX4_findRoom_67 (v := .inl n) rfl ?_
                    refine zw_cv hm_40 dX4_findRoom_68 v_4_43_4 hm_41 [.inl n, .inl (mI S91 91 5)] [] rfl (zT_rt (zT_pi hS91) s_91 rfl) ⟨by omega, by omega⟩ rfl ?_
                    show ma_wp X (d - 1) (w - 22) 41 0 [(0, .inr (.inr (some 91))), (1, .inl (mI S91 91 5)), (2, .inl n)] [] (ma_put S91 91 5 (.inl (mI S91 91 5))) _
                    refine zw_push hm_41 dX4_fits_0 (v := .inl (mI S91 91 5)) rfl ?_
                    refine zw_if0 hm_41 dX4_fits_1 (t := 29) rfl zc0_lt ?_ ?_
                    · intro hc
                      rw [if_pos hc] at h
                      refine zw_push hm_41 dX4_fits_29 (v := .inl (0 : Int32)) rfl ?_
                      refine zw_bret hm_41 dX4_fits_30 (by decide) ?_
                      show ma_wp X d w 40 71 [(0, .inr (.inr (some 91))), (1, .inl n)] [.inl (0 : Int32)] (ma_put S91 91 5 (.inl (mI S91 91 5))) _
                      refine zw_if0 hm_40 dX4_findRoom_71 (t := 81) rfl zc0_eq (fun _ => ?_) (fun hc => absurd (by decide) hc)
                      refine zw_push hm_40 dX4_findRoom_81 (v := .inl (-1 : Int32)) rfl ?_
                      exact zw_iret hm_40 dX4_findRoom_82 h
                    · intro hc
                      rw [if_neg hc] at h
                      refine zw_push hm_41 dX4_fits_4 (v := .inl (mI S91 91 5)) rfl ?_
                      refine zw_push hm_41 dX4_fits_5 (v := .inl (93 : Int32)) rfl ?_
                      refine zw_if2 hm_41 dX4_fits_7 (t := 29) rfl zc2_ge ?_ ?_
                      · intro hc
                        rw [if_pos hc] at h
                        refine zw_push hm_41 dX4_fits_29 (v := .inl (0 : Int32)) rfl ?_
                        refine zw_bret hm_41 dX4_fits_30 (by decide) ?_
                        show ma_wp X d w 40 71 [(0, .inr (.inr (some 91))), (1, .inl n)] [.inl (0 : Int32)] (ma_put S91 91 5 (.inl (mI S91 91 5))) _
                        refine zw_if0 hm_40 dX4_findRoom_71 (t := 81) rfl zc0_eq (fun _ => ?_) (fun hc => absurd (by decide) hc)
                        refine zw_push hm_40 dX4_findRoom_81 (v := .inl (-1 : Int32)) rfl ?_
                        exact zw_iret hm_40 dX4_findRoom_82 h
                      · intro hc
                        rw [if_neg hc] at h
                        refine zw_push hm_41 dX4_fits_10 (v := .inr (.inr (some 91))) rfl ?_
                        refine zw_gf hm_41 dX4_fits_11 (v := .inr (.inr (some 92))) (zT_is (zT_pi hS91) s_91) (zT_t (zT_pi hS91) s_91) rfl f_4_9_4 (zT_f (zT_pi hS91) r_91_7) ?_
                        refine zw_push hm_41 dX4_fits_14 (v := .inl (mI S91 91 5)) rfl ?_
                        obtain ⟨hg, h⟩ := h
                        refine zw_ia hm_41 dX4_fits_15 (zT_is (zT_pi hS91) s_92) (zT_h (zT_pi hS91) s_92) rfl hg ?_
                        show ma_wp X (d - 1) (w - 22) 41 16 [(0, .inr (.inr (some 91))), (1, .inl (mI S91 91 5)), (2, .inl n)] [.inl (mI S91 92 (mI S91 91 5).toNatClampNeg)] (ma_put S91 91 5 (.inl (mI S91 91 5))) _
                        refine zw_push hm_41 dX4_fits_16 (v := .inl n) rfl ?_
                        refine zw_stk hm_41 dX4_fits_17 (st' := [.inl ((mI S91 92 (mI S91 91 5).toNatClampNeg) + n)]) rfl rfl ?_
                        refine zw_push hm_41 dX4_fits_18 (v := .inr (.inr (some 91))) rfl ?_
                        refine zw_gf hm_41 dX4_fits_19 (v := .inl (mI S91 91 2)) (zT_is (zT_pi hS91) s_91) (zT_t (zT_pi hS91) s_91) rfl f_4_18_4 rfl ?_
                        refine zw_if2 hm_41 dX4_fits_22 (t := 29) rfl zc2_gt ?_ ?_
                        · intro hc
                          rw [if_pos hc] at h
                          refine zw_push hm_41 dX4_fits_29 (v := .inl (0 : Int32)) rfl ?_
                          refine zw_bret hm_41 dX4_fits_30 (by decide) ?_
                          show ma_wp X d w 40 71 [(0, .inr (.inr (some 91))), (1, .inl n)] [.inl (0 : Int32)] (ma_put S91 91 5 (.inl (mI S91 91 5))) _
                          refine zw_if0 hm_40 dX4_findRoom_71 (t := 81) rfl zc0_eq (fun _ => ?_) (fun hc => absurd (by decide) hc)
                          refine zw_push hm_40 dX4_findRoom_81 (v := .inl (-1 : Int32)) rfl ?_
                          exact zw_iret hm_40 dX4_findRoom_82 h
                        · intro hc
                          rw [if_neg hc] at h
                          refine zw_push hm_41 dX4_fits_25 (v := .inl (1 : Int32)) rfl ?_
                          refine zw_goto hm_41 dX4_fits_26 (t := 30) rfl ?_
                          refine zw_bret hm_41 dX4_fits_30 (by decide) ?_
                          show ma_wp X d w 40 71 [(0, .inr (.inr (some 91))), (1, .inl n)] [.inl (1 : Int32)] (ma_put S91 91 5 (.inl (mI S91 91 5))) _
                          refine zw_if0 hm_40 dX4_findRoom_71 (t := 81) rfl zc0_eq (fun hc => absurd hc (by decide)) (fun _ => ?_)
                          refine zw_push hm_40 dX4_findRoom_74 (v := .inr (.inr (some 91))) rfl ?_
                          refine zw_cv hm_40 dX4_findRoom_75 v_4_60_4 hm_55 [] [] rfl (zT_rt (zT_pi hS91) s_91 rfl) ⟨by omega, by omega⟩ rfl (zw_mono h (zi_go ?_ ?_))
                          · intro v96 S95 hv
                            obtain ⟨hS95, h⟩ := hv
                            refine zw_goto hm_40 dX4_findRoom_78 (t := 82) rfl ?_
                            exact zw_iret hm_40 dX4_findRoom_82 h
                          · intro x S9 hx
                            exact ⟨by decide, hx⟩
                · intro x S9 hx
                  exact ⟨by decide, hx⟩
              · intro hc
                rw [if_neg hc] at h
                refine zw_push hm_41 dX4_fits_4 (v := .inl (mI S89 91 5)) rfl ?_
                refine zw_push hm_41 dX4_fits_5 (v := .inl (93 : Int32)) rfl ?_
                refine zw_if2 hm_41 dX4_fits_7 (t := 29) rfl zc2_ge ?_ ?_
                · intro hc
                  rw [if_pos hc] at h
                  refine zw_push hm_41 dX4_fits_29 (v := .inl (0 : Int32)) rfl ?_
                  refine zw_bret hm_41 dX4_fits_30 (by decide) ?_
                  show ma_wp X d w 40 44 [(0, .inr (.inr (some 91))), (1, .inl n)] [.inl (0 : Int32)] S89 _
                  refine zw_if0 hm_40 dX4_findRoom_44 (t := 62) rfl zc0_ne (fun hc => absurd hc (by decide)) (fun _ => ?_)
                  refine zw_push hm_40 dX4_findRoom_47 (v := .inr (.inr (some 91))) rfl ?_
                  refine zw_push hm_40 dX4_findRoom_48 (v := .inr (.inr (some 91))) rfl ?_
                  refine zw_cv hm_40 dX4_findRoom_49 v_4_54_4 hm_52 [] [.inr (.inr (some 91))] rfl (zT_rt hS89 s_91 rfl) ⟨by omega, by omega⟩ rfl (zw_mono h (zi_go ?_ ?_))
                  · intro v98 S97 hv
                    obtain ⟨hS97, h⟩ := hv
                    refine zw_push hm_40 dX4_findRoom_52 (v := .inr (.inr (some 91))) rfl ?_
                    refine zw_gf hm_40 dX4_findRoom_53 (v := .inl (mI S97 91 5)) (zT_is hS97 s_91) (zT_t hS97 s_91) rfl f_4_34_4 rfl ?_
                    refine zw_cs hm_40 dX4_findRoom_56 pn_4_57 sl_4_57 hm_54 [.inl (mI S97 91 5), .inl v98] [.inr (.inr (some 91))] rfl ⟨by omega, by omega⟩ rfl ?_
                    show ma_wp X (d - 1) (w - 21) 54 0 [(0, .inl v98), (1, .inl (mI S97 91 5))] [] S97 _
                    refine zw_push hm_54 dX4_orElse_0 (v := .inl v98) rfl ?_
                    refine zw_push hm_54 dX4_orElse_1 (v := .inl (-1 : Int32)) rfl ?_
                    refine zw_if2 hm_54 dX4_orElse_2 (t := 9) rfl zc2_ne ?_ ?_
                    · intro hc
                      rw [if_neg hc] at h
                      refine zw_push hm_54 dX4_orElse_9 (v := .inl v98) rfl ?_
                      refine zw_iret hm_54 dX4_orElse_10 ?_
                      show ma_wp X d w 40 59 [(0, .inr (.inr (some 91))), (1, .inl n)] [.inl v98, .inr (.inr (some 91))] S97 _
                      refine zw_pf hm_40 dX4_findRoom_59 (zT_is hS97 s_91) (zT_t hS97 s_91) p_4_34_4 zk_int ?_
                      refine zw_push hm_40 dX4_findRoom_62 (v := .inr (.inr (some 91))) rfl ?_
                      refine zw_push hm_40 dX4_findRoom_63 (v := .inr (.inr (some 91))) rfl ?_
                      refine zw_gf hm_40 dX4_findRoom_64 (v := .inl v98) (zT_is (zT_pi hS97) s_91) (zT_t (zT_pi hS97) s_91) rfl f_4_34_4 rfl ?_
                      refine zw_push hm_40 dX4_findRoom_67 (v := .inl n) rfl ?_
                      refine zw_cv hm_40 dX4_findRoom_68 v_4_43_4 hm_41 [.inl n, .inl v98] [] rfl (zT_rt (zT_pi hS97) s_91 rfl) ⟨by omega, by omega⟩ rfl ?_
                      show ma_wp X (d - 1) (w - 22) 41 0 [(0, .inr (.inr (some 91))), (1, .inl v98), (2, .inl n)] [] (ma_put S97 91 5 (.inl v98)) _
                      refine zw_push hm_41 dX4_fits_0 (v := .inl v98) rfl ?_
                      refine zw_if0 hm_41 dX4_fits_1 (t := 29) rfl zc0_lt ?_ ?_
                      · intro hc
                        rw [if_pos hc] at h
                        refine zw_push hm_41 dX4_fits_29 (v := .inl (0 : Int32)) rfl ?_
                        refine zw_bret hm_41 dX4_fits_30 (by decide) ?_
                        show ma_wp X d w 40 71 [(0, .inr (.inr (some 91))), (1, .inl n)] [.inl (0 : Int32)] (ma_put S97 91 5 (.inl v98)) _
                        refine zw_if0 hm_40 dX4_findRoom_71 (t := 81) rfl zc0_eq (fun _ => ?_) (fun hc => absurd (by decide) hc)
                        refine zw_push hm_40 dX4_findRoom_81 (v := .inl (-1 : Int32)) rfl ?_
                        exact zw_iret hm_40 dX4_findRoom_82 h
                      · intro hc
                        rw [if_neg hc] at h
                        refine zw_push hm_41 dX4_fits_4 (v := .inl v98) rfl ?_
                        refine zw_push hm_41 dX4_fits_5 (v := .inl (93 : Int32)) rfl ?_
                        refine zw_if2 hm_41 dX4_fits_7 (t := 29) rfl zc2_ge ?_ ?_
                        · intro hc
                          rw [if_pos hc] at h
                          refine zw_push hm_41 dX4_fits_29 (v := .inl (0 : Int32)) rfl ?_
                          refine zw_bret hm_41 dX4_fits_30 (by decide) ?_
                          show ma_wp X d w 40 71 [(0, .inr (.inr (some 91))), (1, .inl n)] [.inl (0 : Int32)] (ma_put S97 91 5 (.inl v98)) _
                          refine zw_if0 hm_40 dX4_findRoom_71 (t := 81) rfl zc0_eq (fun _ => ?_) (fun hc => absurd (by decide) hc)
                          refine zw_push hm_40 dX4_findRoom_81 (v := .inl (-1 : Int32)) rfl ?_
                          exact zw_iret hm_40 dX4_findRoom_82 h
                        · intro hc
                          rw [if_neg hc] at h
                          refine zw_push hm_41 dX4_fits_10 (v := .inr (.inr (some 91))) rfl ?_
                          refine zw_gf hm_41 dX4_fits_11 (v := .inr (.inr (some 92))) (zT_is (zT_pi hS97) s_91) (zT_t (zT_pi hS97) s_91) rfl f_4_9_4 (zT_f (zT_pi hS97) r_91_7) ?_
                          refine zw_push hm_41 dX4_fits_14 (v := .inl v98) rfl ?_
                          obtain ⟨hg, h⟩ := h
                          refine zw_ia hm_41 dX4_fits_15 (zT_is (zT_pi hS97) s_92) (zT_h (zT_pi hS97) s_92) rfl hg ?_
                          show ma_wp X (d - 1) (w - 22) 41 16 [(0, .inr (.inr (some 91))), (1, .inl v98), (2, .inl n)] [.inl (mI S97 92 v98.toNatClampNeg)] (ma_put S97 91 5 (.inl v98)) _
                          refine zw_push hm_41 dX4_fits_16 (v := .inl n) rfl ?_
                          refine zw_stk hm_41 dX4_fits_17 (st' := [.inl ((mI S97 92 v98.toNatClampNeg) + n)]) rfl rfl ?_
                          refine zw_push hm_41 dX4_fits_18 (v := .inr (.inr (some 91))) rfl ?_
                          refine zw_gf hm_41 dX4_fits_19 (v := .inl (mI S97 91 2)) (zT_is (zT_pi hS97) s_91) (zT_t (zT_pi hS97) s_91) rfl f_4_18_4 rfl ?_
                          refine zw_if2 hm_41 dX4_fits_22 (t := 29) rfl zc2_gt ?_ ?_
                          · intro hc
                            rw [if_pos hc] at h
                            refine zw_push hm_41 dX4_fits_29 (v := .inl (0 : Int32)) rfl ?_
                            refine zw_bret hm_41 dX4_fits_30 (by decide) ?_
                            show ma_wp X d w 40 71 [(0, .inr (.inr (some 91))), (1, .inl n)] [.inl (0 : Int32)] (ma_put S97 91 5 (.inl v98)) _
                            refine zw_if0 hm_40 dX4_findRoom_71 (t := 81) rfl zc0_eq (fun _ => ?_) (fun hc => absurd (by decide) hc)
                            refine zw_push hm_40 dX4_findRoom_81 (v := .inl (-1 : Int32)) rfl ?_
                            exact zw_iret hm_40 dX4_findRoom_82 h
                          · intro hc
                            rw [if_neg hc] at h
                            refine zw_push hm_41 dX4_fits_25 (v := .inl (1 : Int32)) rfl ?_
                            refine zw_goto hm_41 dX4_fits_26 (t := 30) rfl ?_
                            refine zw_bret hm_41 dX4_fits_30 (by decide) ?_
                            show ma_wp X d w 40 71 [(0, .inr (.inr (some 91))), (1, .inl n)] [.inl (1 : Int32)] (ma_put S97 91 5 (.inl v98)) _
                            refine zw_if0 hm_40 dX4_findRoom_71 (t := 81) rfl zc0_eq (fun hc => absurd hc (by decide)) (fun _ => ?_)
                            refine zw_push hm_40 dX4_findRoom_74 (v := .inr (.inr (some 91))) rfl ?_
                            refine zw_cv hm_40 dX4_findRoom_75 v_4_60_4 hm_55 [] [] rfl (zT_rt (zT_pi hS97) s_91 rfl) ⟨by omega, by omega⟩ rfl (zw_mono h (zi_go ?_ ?_))
                            · intro v100 S99 hv
                              obtain ⟨hS99, h⟩ := hv
                              refine zw_goto hm_40 dX4_findRoom_78 (t := 82) rfl ?_
                              exact zw_iret hm_40 dX4_findRoom_82 h
                            · intro x S9 hx
                              exact ⟨by decide, hx⟩
                    · intro hc
                      rw [if_pos (Classical.not_not.mp hc)] at h
                      refine zw_push hm_54 dX4_orElse_5 (v := .inl (mI S97 91 5)) rfl ?_
                      refine zw_goto hm_54 dX4_orElse_6 (t := 10) rfl ?_
                      refine zw_iret hm_54 dX4_orElse_10 ?_
                      show ma_wp X d w 40 59 [(0, .inr (.inr (some 91))), (1, .inl n)] [.inl (mI S97 91 5), .inr (.inr (some 91))] S97 _
                      refine zw_pf hm_40 dX4_findRoom_59 (zT_is hS97 s_91) (zT_t hS97 s_91) p_4_34_4 zk_int ?_
                      refine zw_push hm_40 dX4_findRoom_62 (v := .inr (.inr (some 91))) rfl ?_
                      refine zw_push hm_40 dX4_findRoom_63 (v := .inr (.inr (some 91))) rfl ?_
                      refine zw_gf hm_40 dX4_findRoom_64 (v := .inl (mI S97 91 5)) (zT_is (zT_pi hS97) s_91) (zT_t (zT_pi hS97) s_91) rfl f_4_34_4 rfl ?_
                      refine zw_push hm_40 dX4_findRoom_67 (v := .inl n) rfl ?_
                      refine zw_cv hm_40 dX4_findRoom_68 v_4_43_4 hm_41 [.inl n, .inl (mI S97 91 5)] [] rfl (zT_rt (zT_pi hS97) s_91 rfl) ⟨by omega, by omega⟩ rfl ?_
                      show ma_wp X (d - 1) (w - 22) 41 0 [(0, .inr (.inr (some 91))), (1, .inl (mI S97 91 5)), (2, .inl n)] [] (ma_put S97 91 5 (.inl (mI S97 91 5))) _
                      refine zw_push hm_41 dX4_fits_0 (v := .inl (mI S97 91 5)) rfl ?_
                      refine zw_if0 hm_41 dX4_fits_1 (t := 29) rfl zc0_lt ?_ ?_
                      · intro hc
                        rw [if_pos hc] at h
                        refine zw_push hm_41 dX4_fits_29 (v := .inl (0 : Int32)) rfl ?_
                        refine zw_bret hm_41 dX4_fits_30 (by decide) ?_
                        show ma_wp X d w 40 71 [(0, .inr (.inr (some 91))), (1, .inl n)] [.inl (0 : Int32)] (ma_put S97 91 5 (.inl (mI S97 91 5))) _
                        refine zw_if0 hm_40 dX4_findRoom_71 (t := 81) rfl zc0_eq (fun _ => ?_) (fun hc => absurd (by decide) hc)
                        refine zw_push hm_40 dX4_findRoom_81 (v := .inl (-1 : Int32)) rfl ?_
                        exact zw_iret hm_40 dX4_findRoom_82 h
                      · intro hc
                        rw [if_neg hc] at h
                        refine zw_push hm_41 dX4_fits_4 (v := .inl (mI S97 91 5)) rfl ?_
                        refine zw_push hm_41 dX4_fits_5 (v := .inl (93 : Int32)) rfl ?_
                        refine zw_if2 hm_41 dX4_fits_7 (t := 29) rfl zc2_ge ?_ ?_
                        · intro hc
                          rw [if_pos hc] at h
                          refine zw_push hm_41 dX4_fits_29 (v := .inl (0 : Int32)) rfl ?_
                          refine zw_bret hm_41 dX4_fits_30 (by decide) ?_
                          show ma_wp X d w 40 71 [(0, .inr (.inr (some 91))), (1, .inl n)] [.inl (0 : Int32)] (ma_put S97 91 5 (.inl (mI S97 91 5))) _
                          refine zw_if0 hm_40 dX4_findRoom_71 (t := 81) rfl zc0_eq (fun _ => ?_) (fun hc => absurd (by decide) hc)
                          refine zw_push hm_40 dX4_findRoom_81 (v := .inl (-1 : Int32)) rfl ?_
                          exact zw_iret hm_40 dX4_findRoom_82 h
                        · intro hc
                          rw [if_neg hc] at h
                          refine zw_push hm_41 dX4_fits_10 (v := .inr (.inr (some 91))) rfl ?_
                          refine zw_gf hm_41 dX4_fits_11 (v := .inr (.inr (some 92))) (zT_is (zT_pi hS97) s_91) (zT_t (zT_pi hS97) s_91) rfl f_4_9_4 (zT_f (zT_pi hS97) r_91_7) ?_
                          refine zw_push hm_41 dX4_fits_14 (v := .inl (mI S97 91 5)) rfl ?_
                          obtain ⟨hg, h⟩ := h
                          refine zw_ia hm_41 dX4_fits_15 (zT_is (zT_pi hS97) s_92) (zT_h (zT_pi hS97) s_92) rfl hg ?_
                          show ma_wp X (d - 1) (w - 22) 41 16 [(0, .inr (.inr (some 91))), (1, .inl (mI S97 91 5)), (2, .inl n)] [.inl (mI S97 92 (mI S97 91 5).toNatClampNeg)] (ma_put S97 91 5 (.inl (mI S97 91 5))) _
                          refine zw_push hm_41 dX4_fits_16 (v := .inl n) rfl ?_
                          refine zw_stk hm_41 dX4_fits_17 (st' := [.inl ((mI S97 92 (mI S97 91 5).toNatClampNeg) + n)]) rfl rfl ?_
                          refine zw_push hm_41 dX4_fits_18 (v := .inr (.inr (some 91))) rfl ?_
                          refine zw_gf hm_41 dX4_fits_19 (v := .inl (mI S97 91 2)) (zT_is (zT_pi hS97) s_91) (zT_t (zT_pi hS97) s_91) rfl f_4_18_4 rfl ?_
                          refine zw_if2 hm_41 dX4_fits_22 (t := 29) rfl zc2_gt ?_ ?_
                          · intro hc
                            rw [if_pos hc] at h
                            refine zw_push hm_41 dX4_fits_29 (v := .inl (0 : Int32)) rfl ?_
                            refine zw_bret hm_41 dX4_fits_30 (by decide) ?_
                            show ma_wp X d w 40 71 [(0, .inr (.inr (some 91))), (1, .inl n)] [.inl (0 : Int32)] (ma_put S97 91 5 (.inl (mI S97 91 5))) _
                            refine zw_if0 hm_40 dX4_findRoom_71 (t := 81) rfl zc0_eq (fun _ => ?_) (fun hc => absurd (by decide) hc)
                            refine zw_push hm_40 dX4_findRoom_81 (v := .inl (-1 : Int32)) rfl ?_
                            exact zw_iret hm_40 dX4_findRoom_82 h
                          · intro hc
                            rw [if_neg hc] at h
                            refine zw_push hm_41 dX4_fits_25 (v := .inl (1 : Int32)) rfl ?_
                            refine zw_goto hm_41 dX4_fits_26 (t := 30) rfl ?_
                            refine zw_bret hm_41 dX4_fits_30 (by decide) ?_
                            show ma_wp X d w 40 71 [(0, .inr (.inr (some 91))), (1, .inl n)] [.inl (1 : Int32)] (ma_put S97 91 5 (.inl (mI S97 91 5))) _
                            refine zw_if0 hm_40 dX4_findRoom_71 (t := 81) rfl zc0_eq (fun hc => absurd hc (by decide)) (fun _ => ?_)
                            refine zw_push hm_40 dX4_findRoom_74 (v := .inr (.inr (some 91))) rfl ?_
                            refine zw_cv hm_40 dX4_findRoom_75 v_4_60_4 hm_55 [] [] rfl (zT_rt (zT_pi hS97) s_91 rfl) ⟨by omega, by omega⟩ rfl (zw_mono h (zi_go ?_ ?_))
                            · intro v102 S101 hv
                              obtain ⟨hS101, h⟩ := hv
                              refine zw_goto hm_40 dX4_findRoom_78 (t := 82) rfl ?_
                              exact zw_iret hm_40 dX4_findRoom_82 h
                            · intro x S9 hx
                              exact ⟨by decide, hx⟩
                  · intro x S9 hx
                    exact ⟨by decide, hx⟩
                · intro hc
                  rw [if_neg hc] at h
                  refine zw_push hm_41 dX4_fits_10 (v := .inr (.inr (some 91))) rfl ?_
                  refine zw_gf hm_41 dX4_fits_11 (v := .inr (.inr (some 92))) (zT_is hS89 s_91) (zT_t hS89 s_91) rfl f_4_9_4 (zT_f hS89 r_91_7) ?_
                  refine zw_push hm_41 dX4_fits_14 (v := .inl (mI S89 91 5)) rfl ?_
                  obtain ⟨hg, h⟩ := h
                  refine zw_ia hm_41 dX4_fits_15 (zT_is hS89 s_92) (zT_h hS89 s_92) rfl hg ?_
                  show ma_wp X (d - 1) (w - 22) 41 16 [(0, .inr (.inr (some 91))), (1, .inl (mI S89 91 5)), (2, .inl n)] [.inl (mI S89 92 (mI S89 91 5).toNatClampNeg)] S89 _
                  refine zw_push hm_41 dX4_fits_16 (v := .inl n) rfl ?_
                  refine zw_stk hm_41 dX4_fits_17 (st' := [.inl ((mI S89 92 (mI S89 91 5).toNatClampNeg) + n)]) rfl rfl ?_
                  refine zw_push hm_41 dX4_fits_18 (v := .inr (.inr (some 91))) rfl ?_
                  refine zw_gf hm_41 dX4_fits_19 (v := .inl (mI S89 91 2)) (zT_is hS89 s_91) (zT_t hS89 s_91) rfl f_4_18_4 rfl ?_
                  refine zw_if2 hm_41 dX4_fits_22 (t := 29) rfl zc2_gt ?_ ?_
                  · intro hc
                    rw [if_pos hc] at h
                    refine zw_push hm_41 dX4_fits_29 (v := .inl (0 : Int32)) rfl ?_
                    refine zw_bret hm_41 dX4_fits_30 (by decide) ?_
                    show ma_wp X d w 40 44 [(0, .inr (.inr (some 91))), (1, .inl n)] [.inl (0 : Int32)] S89 _
                    refine zw_if0 hm_40 dX4_findRoom_44 (t := 62) rfl zc0_ne (fun hc => absurd hc (by decide)) (fun _ => ?_)
                    refine zw_push hm_40 dX4_findRoom_47 (v := .inr (.inr (some 91))) rfl ?_
                    refine zw_push hm_40 dX4_findRoom_48 (v := .inr (.inr (some 91))) rfl ?_
                    refine zw_cv hm_40 dX4_findRoom_49 v_4_54_4 hm_52 [] [.inr (.inr (some 91))] rfl (zT_rt hS89 s_91 rfl) ⟨by omega, by omega⟩ rfl (zw_mono h (zi_go ?_ ?_))
                    · intro v104 S103 hv
                      obtain ⟨hS103, h⟩ := hv
                      refine zw_push hm_40 dX4_findRoom_52 (v := .inr (.inr (some 91))) rfl ?_
                      refine zw_gf hm_40 dX4_findRoom_53 (v := .inl (mI S103 91 5)) (zT_is hS103 s_91) (zT_t hS103 s_91) rfl f_4_34_4 rfl ?_
                      refine zw_cs hm_40 dX4_findRoom_56 pn_4_57 sl_4_57 hm_54 [.inl (mI S103 91 5), .inl v104] [.inr (.inr (some 91))] rfl ⟨by omega, by omega⟩ rfl ?_
                      show ma_wp X (d - 1) (w - 21) 54 0 [(0, .inl v104), (1, .inl (mI S103 91 5))] [] S103 _
                      refine zw_push hm_54 dX4_orElse_0 (v := .inl v104) rfl ?_
                      refine zw_push hm_54 dX4_orElse_1 (v := .inl (-1 : Int32)) rfl ?_
                      refine zw_if2 hm_54 dX4_orElse_2 (t := 9) rfl zc2_ne ?_ ?_
                      · intro hc
                        rw [if_neg hc] at h
                        refine zw_push hm_54 dX4_orElse_9 (v := .inl v104) rfl ?_
                        refine zw_iret hm_54 dX4_orElse_10 ?_
                        show ma_wp X d w 40 59 [(0, .inr (.inr (some 91))), (1, .inl n)] [.inl v104, .inr (.inr (some 91))] S103 _
                        refine zw_pf hm_40 dX4_findRoom_59 (zT_is hS103 s_91) (zT_t hS103 s_91) p_4_34_4 zk_int ?_
                        refine zw_push hm_40 dX4_findRoom_62 (v := .inr (.inr (some 91))) rfl ?_
                        refine zw_push hm_40 dX4_findRoom_63 (v := .inr (.inr (some 91))) rfl ?_
                        refine zw_gf hm_40 dX4_findRoom_64 (v := .inl v104) (zT_is (zT_pi hS103) s_91) (zT_t (zT_pi hS103) s_91) rfl f_4_34_4 rfl ?_
                        refine zw_push hm_40 dX4_findRoom_67 (v := .inl n) rfl ?_
                        refine zw_cv hm_40 dX4_findRoom_68 v_4_43_4 hm_41 [.inl n, .inl v104] [] rfl (zT_rt (zT_pi hS103) s_91 rfl) ⟨by omega, by omega⟩ rfl ?_
                        show ma_wp X (d - 1) (w - 22) 41 0 [(0, .inr (.inr (some 91))), (1, .inl v104), (2, .inl n)] [] (ma_put S103 91 5 (.inl v104)) _
                        refine zw_push hm_41 dX4_fits_0 (v := .inl v104) rfl ?_
                        refine zw_if0 hm_41 dX4_fits_1 (t := 29) rfl zc0_lt ?_ ?_
                        · intro hc
                          rw [if_pos hc] at h
                          refine zw_push hm_41 dX4_fits_29 (v := .inl (0 : Int32)) rfl ?_
                          refine zw_bret hm_41 dX4_fits_30 (by decide) ?_
                          show ma_wp X d w 40 71 [(0, .inr (.inr (some 91))), (1, .inl n)] [.inl (0 : Int32)] (ma_put S103 91 5 (.inl v104)) _
                          refine zw_if0 hm_40 dX4_findRoom_71 (t := 81) rfl zc0_eq (fun _ => ?_) (fun hc => absurd (by decide) hc)
                          refine zw_push hm_40 dX4_findRoom_81 (v := .inl (-1 : Int32)) rfl ?_
                          exact zw_iret hm_40 dX4_findRoom_82 h
                        · intro hc
                          rw [if_neg hc] at h
                          refine zw_push hm_41 dX4_fits_4 (v := .inl v104) rfl ?_
                          refine zw_push hm_41 dX4_fits_5 (v := .inl (93 : Int32)) rfl ?_
                          refine zw_if2 hm_41 dX4_fits_7 (t := 29) rfl zc2_ge ?_ ?_
                          · intro hc
                            rw [if_pos hc] at h
                            refine zw_push hm_41 dX4_fits_29 (v := .inl (0 : Int32)) rfl ?_
                            refine zw_bret hm_41 dX4_fits_30 (by decide) ?_
                            show ma_wp X d w 40 71 [(0, .inr (.inr (some 91))), (1, .inl n)] [.inl (0 : Int32)] (ma_put S103 91 5 (.inl v104)) _
                            refine zw_if0 hm_40 dX4_findRoom_71 (t := 81) rfl zc0_eq (fun _ => ?_) (fun hc => absurd (by decide) hc)
                            refine zw_push hm_40 dX4_findRoom_81 (v := .inl (-1 : Int32)) rfl ?_
                            exact zw_iret hm_40 dX4_findRoom_82 h
                          · intro hc
                            rw [if_neg hc] at h
                            refine zw_push hm_41 dX4_fits_10 (v := .inr (.inr (some 91))) rfl ?_
                            refine zw_gf hm_41 dX4_fits_11 (v := .inr (.inr (some 92))) (zT_is (zT_pi hS103) s_91) (zT_t (zT_pi hS103) s_91) rfl f_4_9_4 (zT_f (zT_pi hS103) r_91_7) ?_
                            refine zw_push hm_41 dX4_fits_14 (v := .inl v104) rfl ?_
                            obtain ⟨hg, h⟩ := h
                            refine zw_ia hm_41 dX4_fits_15 (zT_is (zT_pi hS103) s_92) (zT_h (zT_pi hS103) s_92) rfl hg ?_
                            show ma_wp X (d - 1) (w - 22) 41 16 [(0, .inr (.inr (some 91))), (1, .inl v104), (2, .inl n)] [.inl (mI S103 92 v104.toNatClampNeg)] (ma_put S103 91 5 (.inl v104)) _
                            refine zw_push hm_41 dX4_fits_16 (v := .inl n) rfl ?_
                            refine zw_stk hm_41 dX4_fits_17 (st' := [.inl ((mI S103 92 v104.toNatClampNeg) + n)]) rfl rfl ?_
                            refine zw_push hm_41 dX4_fits_18 (v := .inr (.inr (some 91))) rfl ?_
                            refine zw_gf hm_41 dX4_fits_19 (v := .inl (mI S103 91 2)) (zT_is (zT_pi hS103) s_91) (zT_t (zT_pi hS103) s_91) rfl f_4_18_4 rfl ?_
                            refine zw_if2 hm_41 dX4_fits_22 (t := 29) rfl zc2_gt ?_ ?_
                            · intro hc
                              rw [if_pos hc] at h
                              refine zw_push hm_41 dX4_fits_29 (v := .inl (0 : Int32)) rfl ?_
                              refine zw_bret hm_41 dX4_fits_30 (by decide) ?_
                              show ma_wp X d w 40 71 [(0, .inr (.inr (some 91))), (1, .inl n)] [.inl (0 : Int32)] (ma_put S103 91 5 (.inl v104)) _
                              refine zw_if0 hm_40 dX4_findRoom_71 (t := 81) rfl zc0_eq (fun _ => ?_) (fun hc => absurd (by decide) hc)
                              refine zw_push hm_40 dX4_findRoom_81 (v := .inl (-1 : Int32)) rfl ?_
                              exact zw_iret hm_40 dX4_findRoom_82 h
                            · intro hc
                              rw [if_neg hc] at h
                              refine zw_push hm_41 dX4_fits_25 (v := .inl (1 : Int32)) rfl ?_
                              refine zw_goto hm_41 dX4_fits_26 (t := 30) rfl ?_
                              refine zw_bret hm_41 dX4_fits_30 (by decide) ?_
                              show ma_wp X d w 40 71 [(0, .inr (.inr (some 91))), (1, .inl n)] [.inl (1 : Int32)] (ma_put S103 91 5 (.inl v104)) _
                              refine zw_if0 hm_40 dX4_findRoom_71 (t := 81) rfl zc0_eq (fun hc => absurd hc (by decide)) (fun _ => ?_)
                              refine zw_push hm_40 dX4_findRoom_74 (v := .inr (.inr (some 91))) rfl ?_
                              refine zw_cv hm_40 dX4_findRoom_75 v_4_60_4 hm_55 [] [] rfl (zT_rt (zT_pi hS103) s_91 rfl) ⟨by omega, by omega⟩ rfl (zw_mono h (zi_go ?_ ?_))
                              · intro v106 S105 hv
                                obtain ⟨hS105, h⟩ := hv
                                refine zw_goto hm_40 dX4_findRoom_78 (t := 82) rfl ?_
                                exact zw_iret hm_40 dX4_findRoom_82 h
                              · intro x S9 hx
                                exact ⟨by decide, hx⟩
                      · intro hc
                        rw [if_pos (Classical.not_not.mp hc)] at h
                        refine zw_push hm_54 dX4_orElse_5 (v := .inl (mI S103 91 5)) rfl ?_
                        refine zw_goto hm_54 dX4_orElse_6 (t := 10) rfl ?_
                        refine zw_iret hm_54 dX4_orElse_10 ?_
                        show ma_wp X d w 40 59 [(0, .inr (.inr (some 91))), (1, .inl n)] [.inl (mI S103 91 5), .inr (.inr (some 91))] S103 _
                        refine zw_pf hm_40 dX4_findRoom_59 (zT_is hS103 s_91) (zT_t hS103 s_91) p_4_34_4 zk_int ?_
                        refine zw_push hm_40 dX4_findRoom_62 (v := .inr (.inr (some 91))) rfl ?_
                        refine zw_push hm_40 dX4_findRoom_63 (v := .inr (.inr (some 91))) rfl ?_
                        refine zw_gf hm_40 dX4_findRoom_64 (v := .inl (mI S103 91 5)) (zT_is (zT_pi hS103) s_91) (zT_t (zT_pi hS103) s_91) rfl f_4_34_4 rfl ?_
                        refine zw_push hm_40 dX4_findRoom_67 (v := .inl n) rfl ?_
                        refine zw_cv hm_40 dX4_findRoom_68 v_4_43_4 hm_41 [.inl n, .inl (mI S103 91 5)] [] rfl (zT_rt (zT_pi hS103) s_91 rfl) ⟨by omega, by omega⟩ rfl ?_
                        show ma_wp X (d - 1) (w - 22) 41 0 [(0, .inr (.inr (some 91))), (1, .inl (mI S103 91 5)), (2, .inl n)] [] (ma_put S103 91 5 (.inl (mI S103 91 5))) _
                        refine zw_push hm_41 dX4_fits_0 (v := .inl (mI S103 91 5)) rfl ?_
                        refine zw_if0 hm_41 dX4_fits_1 (t := 29) rfl zc0_lt ?_ ?_
                        · intro hc
                          rw [if_pos hc] at h
                          refine zw_push hm_41 dX4_fits_29 (v := .inl (0 : Int32)) rfl ?_
                          refine zw_bret hm_41 dX4_fits_30 (by decide) ?_
                          show ma_wp X d w 40 71 [(0, .inr (.inr (some 91))), (1, .inl n)] [.inl (0 : Int32)] (ma_put S103 91 5 (.inl (mI S103 91 5))) _
                          refine zw_if0 hm_40 dX4_findRoom_71 (t := 81) rfl zc0_eq (fun _ => ?_) (fun hc => absurd (by decide) hc)
                          refine zw_push hm_40 dX4_findRoom_81 (v := .inl (-1 : Int32)) rfl ?_
                          exact zw_iret hm_40 dX4_findRoom_82 h
                        · intro hc
                          rw [if_neg hc] at h
                          refine zw_push hm_41 dX4_fits_4 (v := .inl (mI S103 91 5)) rfl ?_
                          refine zw_push hm_41 dX4_fits_5 (v := .inl (93 : Int32)) rfl ?_
                          refine zw_if2 hm_41 dX4_fits_7 (t := 29) rfl zc2_ge ?_ ?_
                          · intro hc
                            rw [if_pos hc] at h
                            refine zw_push hm_41 dX4_fits_29 (v := .inl (0 : Int32)) rfl ?_
                            refine zw_bret hm_41 dX4_fits_30 (by decide) ?_
                            show ma_wp X d w 40 71 [(0, .inr (.inr (some 91))), (1, .inl n)] [.inl (0 : Int32)] (ma_put S103 91 5 (.inl (mI S103 91 5))) _
                            refine zw_if0 hm_40 dX4_findRoom_71 (t := 81) rfl zc0_eq (fun _ => ?_) (fun hc => absurd (by decide) hc)
                            refine zw_push hm_40 dX4_findRoom_81 (v := .inl (-1 : Int32)) rfl ?_
                            exact zw_iret hm_40 dX4_findRoom_82 h
                          · intro hc
                            rw [if_neg hc] at h
                            refine zw_push hm_41 dX4_fits_10 (v := .inr (.inr (some 91))) rfl ?_
                            refine zw_gf hm_41 dX4_fits_11 (v := .inr (.inr (some 92))) (zT_is (zT_pi hS103) s_91) (zT_t (zT_pi hS103) s_91) rfl f_4_9_4 (zT_f (zT_pi hS103) r_91_7) ?_
                            refine zw_push hm_41 dX4_fits_14 (v := .inl (mI S103 91 5)) rfl ?_
                            obtain ⟨hg, h⟩ := h
                            refine zw_ia hm_41 dX4_fits_15 (zT_is (zT_pi hS103) s_92) (zT_h (zT_pi hS103) s_92) rfl hg ?_
                            show ma_wp X (d - 1) (w - 22) 41 16 [(0, .inr (.inr (some 91))), (1, .inl (mI S103 91 5)), (2, .inl n)] [.inl (mI S103 92 (mI S103 91 5).toNatClampNeg)] (ma_put S103 91 5 (.inl (mI S103 91 5))) _
                            refine zw_push hm_41 dX4_fits_16 (v := .inl n) rfl ?_
                            refine zw_stk hm_41 dX4_fits_17 (st' := [.inl ((mI S103 92 (mI S103 91 5).toNatClampNeg) + n)]) rfl rfl ?_
                            refine zw_push hm_41 dX4_fits_18 (v := .inr (.inr (some 91))) rfl ?_
                            refine zw_gf hm_41 dX4_fits_19 (v := .inl (mI S103 91 2)) (zT_is (zT_pi hS103) s_91) (zT_t (zT_pi hS103) s_91) rfl f_4_18_4 rfl ?_
                            refine zw_if2 hm_41 dX4_fits_22 (t := 29) rfl zc2_gt ?_ ?_
                            · intro hc
                              rw [if_pos hc] at h
                              refine zw_push hm_41 dX4_fits_29 (v := .inl (0 : Int32)) rfl ?_
                              refine zw_bret hm_41 dX4_fits_30 (by decide) ?_
                              show ma_wp X d w 40 71 [(0, .inr (.inr (some 91))), (1, .inl n)] [.inl (0 : Int32)] (ma_put S103 91 5 (.inl (mI S103 91 5))) _
                              refine zw_if0 hm_40 dX4_findRoom_71 (t := 81) rfl zc0_eq (fun _ => ?_) (fun hc => absurd (by decide) hc)
                              refine zw_push hm_40 dX4_findRoom_81 (v := .inl (-1 : Int32)) rfl ?_
                              exact zw_iret hm_40 dX4_findRoom_82 h
                            · intro hc
                              rw [if_neg hc] at h
                              refine zw_push hm_41 dX4_fits_25 (v := .inl (1 : Int32)) rfl ?_
                              refine zw_goto hm_41 dX4_fits_26 (t := 30) rfl ?_
                              refine zw_bret hm_41 dX4_fits_30 (by decide) ?_
                              show ma_wp X d w 40 71 [(0, .inr (.inr (some 91))), (1, .inl n)] [.inl (1 : Int32)] (ma_put S103 91 5 (.inl (mI S103 91 5))) _
                              refine zw_if0 hm_40 dX4_findRoom_71 (t := 81) rfl zc0_eq (fun hc => absurd hc (by decide)) (fun _ => ?_)
                              refine zw_push hm_40 dX4_findRoom_74 (v := .inr (.inr (some 91))) rfl ?_
                              refine zw_cv hm_40 dX4_findRoom_75 v_4_60_4 hm_55 [] [] rfl (zT_rt (zT_pi hS103) s_91 rfl) ⟨by omega, by omega⟩ rfl (zw_mono h (zi_go ?_ ?_))
                              · intro v108 S107 hv
                                obtain ⟨hS107, h⟩ := hv
                                refine zw_goto hm_40 dX4_findRoom_78 (t := 82) rfl ?_
                                exact zw_iret hm_40 dX4_findRoom_82 h
                              · intro x S9 hx
                                exact ⟨by decide, hx⟩
                    · intro x S9 hx
                      exact ⟨by decide, hx⟩
                  · intro hc
                    rw [if_neg hc] at h
                    refine zw_push hm_41 dX4_fits_25 (v := .inl (1 : Int32)) rfl ?_
                    refine zw_goto hm_41 dX4_fits_26 (t := 30) rfl ?_
                    refine zw_bret hm_41 dX4_fits_30 (by decide) ?_
                    show ma_wp X d w 40 44 [(0, .inr (.inr (some 91))), (1, .inl n)] [.inl (1 : Int32)] S89 _
                    refine zw_if0 hm_40 dX4_findRoom_44 (t := 62) rfl zc0_ne (fun _ => ?_) (fun hc => absurd (by decide) hc)
                    refine zw_push hm_40 dX4_findRoom_62 (v := .inr (.inr (some 91))) rfl ?_
                    refine zw_push hm_40 dX4_findRoom_63 (v := .inr (.inr (some 91))) rfl ?_
                    refine zw_gf hm_40 dX4_findRoom_64 (v := .inl (mI S89 91 5)) (zT_is hS89 s_91) (zT_t hS89 s_91) rfl f_4_34_4 rfl ?_
                    refine zw_push hm_40 dX4_findRoom_67 (v := .inl n) rfl ?_
                    refine zw_cv hm_40 dX4_findRoom_68 v_4_43_4 hm_41 [.inl n, .inl (mI S89 91 5)] [] rfl (zT_rt hS89 s_91 rfl) ⟨by omega, by omega⟩ rfl ?_
                    show ma_wp X (d - 1) (w - 22) 41 0 [(0, .inr (.inr (some 91))), (1, .inl (mI S89 91 5)), (2, .inl n)] [] S89 _
                    refine zw_push hm_41 dX4_fits_0 (v := .inl (mI S89 91 5)) rfl ?_
                    refine zw_if0 hm_41 dX4_fits_1 (t := 29) rfl zc0_lt ?_ ?_
                    · intro hc
                      rw [if_pos hc] at h
                      refine zw_push hm_41 dX4_fits_29 (v := .inl (0 : Int32)) rfl ?_
                      refine zw_bret hm_41 dX4_fits_30 (by decide) ?_
                      show ma_wp X d w 40 71 [(0, .inr (.inr (some 91))), (1, .inl n)] [.inl (0 : Int32)] S89 _
                      refine zw_if0 hm_40 dX4_findRoom_71 (t := 81) rfl zc0_eq (fun _ => ?_) (fun hc => absurd (by decide) hc)
                      refine zw_push hm_40 dX4_findRoom_81 (v := .inl (-1 : Int32)) rfl ?_
                      exact zw_iret hm_40 dX4_findRoom_82 h
                    · intro hc
                      rw [if_neg hc] at h
                      refine zw_push hm_41 dX4_fits_4 (v := .inl (mI S89 91 5)) rfl ?_
                      refine zw_push hm_41 dX4_fits_5 (v := .inl (93 : Int32)) rfl ?_
                      refine zw_if2 hm_41 dX4_fits_7 (t := 29) rfl zc2_ge ?_ ?_
                      · intro hc
                        rw [if_pos hc] at h
                        refine zw_push hm_41 dX4_fits_29 (v := .inl (0 : Int32)) rfl ?_
                        refine zw_bret hm_41 dX4_fits_30 (by decide) ?_
                        show ma_wp X d w 40 71 [(0, .inr (.inr (some 91))), (1, .inl n)] [.inl (0 : Int32)] S89 _
                        refine zw_if0 hm_40 dX4_findRoom_71 (t := 81) rfl zc0_eq (fun _ => ?_) (fun hc => absurd (by decide) hc)
                        refine zw_push hm_40 dX4_findRoom_81 (v := .inl (-1 : Int32)) rfl ?_
                        exact zw_iret hm_40 dX4_findRoom_82 h
                      · intro hc
                        rw [if_neg hc] at h
                        refine zw_push hm_41 dX4_fits_10 (v := .inr (.inr (some 91))) rfl ?_
                        refine zw_gf hm_41 dX4_fits_11 (v := .inr (.inr (some 92))) (zT_is hS89 s_91) (zT_t hS89 s_91) rfl f_4_9_4 (zT_f hS89 r_91_7) ?_
                        refine zw_push hm_41 dX4_fits_14 (v := .inl (mI S89 91 5)) rfl ?_
                        obtain ⟨hg, h⟩ := h
                        refine zw_ia hm_41 dX4_fits_15 (zT_is hS89 s_92) (zT_h hS89 s_92) rfl hg ?_
                        show ma_wp X (d - 1) (w - 22) 41 16 [(0, .inr (.inr (some 91))), (1, .inl (mI S89 91 5)), (2, .inl n)] [.inl (mI S89 92 (mI S89 91 5).toNatClampNeg)] S89 _
                        refine zw_push hm_41 dX4_fits_16 (v := .inl n) rfl ?_
                        refine zw_stk hm_41 dX4_fits_17 (st' := [.inl ((mI S89 92 (mI S89 91 5).toNatClampNeg) + n)]) rfl rfl ?_
                        refine zw_push hm_41 dX4_fits_18 (v := .inr (.inr (some 91))) rfl ?_
                        refine zw_gf hm_41 dX4_fits_19 (v := .inl (mI S89 91 2)) (zT_is hS89 s_91) (zT_t hS89 s_91) rfl f_4_18_4 rfl ?_
                        refine zw_if2 hm_41 dX4_fits_22 (t := 29) rfl zc2_gt ?_ ?_
                        · intro hc
                          rw [if_pos hc] at h
                          refine zw_push hm_41 dX4_fits_29 (v := .inl (0 : Int32)) rfl ?_
                          refine zw_bret hm_41 dX4_fits_30 (by decide) ?_
                          show ma_wp X d w 40 71 [(0, .inr (.inr (some 91))), (1, .inl n)] [.inl (0 : Int32)] S89 _
                          refine zw_if0 hm_40 dX4_findRoom_71 (t := 81) rfl zc0_eq (fun _ => ?_) (fun hc => absurd (by decide) hc)
                          refine zw_push hm_40 dX4_findRoom_81 (v := .inl (-1 : Int32)) rfl ?_
                          exact zw_iret hm_40 dX4_findRoom_82 h
                        · intro hc
                          rw [if_neg hc] at h
                          refine zw_push hm_41 dX4_fits_25 (v := .inl (1 : Int32)) rfl ?_
                          refine zw_goto hm_41 dX4_fits_26 (t := 30) rfl ?_
                          refine zw_bret hm_41 dX4_fits_30 (by decide) ?_
                          show ma_wp X d w 40 71 [(0, .inr (.inr (some 91))), (1, .inl n)] [.inl (1 : Int32)] S89 _
                          refine zw_if0 hm_40 dX4_findRoom_71 (t := 81) rfl zc0_eq (fun hc => absurd hc (by decide)) (fun _ => ?_)
                          refine zw_push hm_40 dX4_findRoom_74 (v := .inr (.inr (some 91))) rfl ?_
                          refine zw_cv hm_40 dX4_findRoom_75 v_4_60_4 hm_55 [] [] rfl (zT_rt hS89 s_91 rfl) ⟨by omega, by omega⟩ rfl (zw_mono h (zi_go ?_ ?_))
                          · intro v110 S109 hv
                            obtain ⟨hS109, h⟩ := hv
                            refine zw_goto hm_40 dX4_findRoom_78 (t := 82) rfl ?_
                            exact zw_iret hm_40 dX4_findRoom_82 h
                          · intro x S9 hx
                            exact ⟨by decide, hx⟩
            · intro hc
              rw [if_neg hc] at h
              refine zw_push hm_40 dX4_findRoom_30 (v := .inr (.inr (some 91))) rfl ?_
              refine zw_cv hm_40 dX4_findRoom_31 v_4_51_4 hm_43 [] [] rfl (zT_rt hS89 s_91 rfl) ⟨by omega, by omega⟩ rfl (zw_mono h (zi_go ?_ ?_))
              · intro v112 S111 hv
                obtain ⟨hS111, h⟩ := hv
                refine zw_stk hm_40 dX4_findRoom_34 (st' := []) rfl rfl ?_
                refine zw_push hm_40 dX4_findRoom_35 (v := .inr (.inr (some 91))) rfl ?_
                refine zw_push hm_40 dX4_findRoom_36 (v := .inr (.inr (some 91))) rfl ?_
                refine zw_gf hm_40 dX4_findRoom_37 (v := .inl (mI S111 91 5)) (zT_is hS111 s_91) (zT_t hS111 s_91) rfl f_4_34_4 rfl ?_
                refine zw_push hm_40 dX4_findRoom_40 (v := .inl n) rfl ?_
                refine zw_cv hm_40 dX4_findRoom_41 v_4_43_4 hm_41 [.inl n, .inl (mI S111 91 5)] [] rfl (zT_rt hS111 s_91 rfl) ⟨by omega, by omega⟩ rfl ?_
                show ma_wp X (d - 1) (w - 22) 41 0 [(0, .inr (.inr (some 91))), (1, .inl (mI S111 91 5)), (2, .inl n)] [] S111 _
                refine zw_push hm_41 dX4_fits_0 (v := .inl (mI S111 91 5)) rfl ?_
                refine zw_if0 hm_41 dX4_fits_1 (t := 29) rfl zc0_lt ?_ ?_
                · intro hc
                  rw [if_pos hc] at h
                  refine zw_push hm_41 dX4_fits_29 (v := .inl (0 : Int32)) rfl ?_
                  refine zw_bret hm_41 dX4_fits_30 (by decide) ?_
                  show ma_wp X d w 40 44 [(0, .inr (.inr (some 91))), (1, .inl n)] [.inl (0 : Int32)] S111 _
                  refine zw_if0 hm_40 dX4_findRoom_44 (t := 62) rfl zc0_ne (fun hc => absurd hc (by decide)) (fun _ => ?_)
                  refine zw_push hm_40 dX4_findRoom_47 (v := .inr (.inr (some 91))) rfl ?_
                  refine zw_push hm_40 dX4_findRoom_48 (v := .inr (.inr (some 91))) rfl ?_
                  refine zw_cv hm_40 dX4_findRoom_49 v_4_54_4 hm_52 [] [.inr (.inr (some 91))] rfl (zT_rt hS111 s_91 rfl) ⟨by omega, by omega⟩ rfl (zw_mono h (zi_go ?_ ?_))
                  · intro v114 S113 hv
                    obtain ⟨hS113, h⟩ := hv
                    refine zw_push hm_40 dX4_findRoom_52 (v := .inr (.inr (some 91))) rfl ?_
                    refine zw_gf hm_40 dX4_findRoom_53 (v := .inl (mI S113 91 5)) (zT_is hS113 s_91) (zT_t hS113 s_91) rfl f_4_34_4 rfl ?_
                    refine zw_cs hm_40 dX4_findRoom_56 pn_4_57 sl_4_57 hm_54 [.inl (mI S113 91 5), .inl v114] [.inr (.inr (some 91))] rfl ⟨by omega, by omega⟩ rfl ?_
                    show ma_wp X (d - 1) (w - 21) 54 0 [(0, .inl v114), (1, .inl (mI S113 91 5))] [] S113 _
                    refine zw_push hm_54 dX4_orElse_0 (v := .inl v114) rfl ?_
                    refine zw_push hm_54 dX4_orElse_1 (v := .inl (-1 : Int32)) rfl ?_
                    refine zw_if2 hm_54 dX4_orElse_2 (t := 9) rfl zc2_ne ?_ ?_
                    · intro hc
                      rw [if_neg hc] at h
                      refine zw_push hm_54 dX4_orElse_9 (v := .inl v114) rfl ?_
                      refine zw_iret hm_54 dX4_orElse_10 ?_
                      show ma_wp X d w 40 59 [(0, .inr (.inr (some 91))), (1, .inl n)] [.inl v114, .inr (.inr (some 91))] S113 _
                      refine zw_pf hm_40 dX4_findRoom_59 (zT_is hS113 s_91) (zT_t hS113 s_91) p_4_34_4 zk_int ?_
                      refine zw_push hm_40 dX4_findRoom_62 (v := .inr (.inr (some 91))) rfl ?_
                      refine zw_push hm_40 dX4_findRoom_63 (v := .inr (.inr (some 91))) rfl ?_
                      refine zw_gf hm_40 dX4_findRoom_64 (v := .inl v114) (zT_is (zT_pi hS113) s_91) (zT_t (zT_pi hS113) s_91) rfl f_4_34_4 rfl ?_
                      refine zw_push hm_40 dX4_findRoom_67 (v := .inl n) rfl ?_
                      refine zw_cv hm_40 dX4_findRoom_68 v_4_43_4 hm_41 [.inl n, .inl v114] [] rfl (zT_rt (zT_pi hS113) s_91 rfl) ⟨by omega, by omega⟩ rfl ?_
                      show ma_wp X (d - 1) (w - 22) 41 0 [(0, .inr (.inr (some 91))), (1, .inl v114), (2, .inl n)] [] (ma_put S113 91 5 (.inl v114)) _
                      refine zw_push hm_41 dX4_fits_0 (v := .inl v114) rfl ?_
                      refine zw_if0 hm_41 dX4_fits_1 (t := 29) rfl zc0_lt ?_ ?_
                      · intro hc
                        rw [if_pos hc] at h
                        refine zw_push hm_41 dX4_fits_29 (v := .inl (0 : Int32)) rfl ?_
                        refine zw_bret hm_41 dX4_fits_30 (by decide) ?_
                        show ma_wp X d w 40 71 [(0, .inr (.inr (some 91))), (1, .inl n)] [.inl (0 : Int32)] (ma_put S113 91 5 (.inl v114)) _
                        refine zw_if0 hm_40 dX4_findRoom_71 (t := 81) rfl zc0_eq (fun _ => ?_) (fun hc => absurd (by decide) hc)
                        refine zw_push hm_40 dX4_findRoom_81 (v := .inl (-1 : Int32)) rfl ?_
                        exact zw_iret hm_40 dX4_findRoom_82 h
                      · intro hc
                        rw [if_neg hc] at h
                        refine zw_push hm_41 dX4_fits_4 (v := .inl v114) rfl ?_
                        refine zw_push hm_41 dX4_fits_5 (v := .inl (93 : Int32)) rfl ?_
                        refine zw_if2 hm_41 dX4_fits_7 (t := 29) rfl zc2_ge ?_ ?_
                        · intro hc
                          rw [if_pos hc] at h
                          refine zw_push hm_41 dX4_fits_29 (v := .inl (0 : Int32)) rfl ?_
                          refine zw_bret hm_41 dX4_fits_30 (by decide) ?_
                          show ma_wp X d w 40 71 [(0, .inr (.inr (some 91))), (1, .inl n)] [.inl (0 : Int32)] (ma_put S113 91 5 (.inl v114)) _
                          refine zw_if0 hm_40 dX4_findRoom_71 (t := 81) rfl zc0_eq (fun _ => ?_) (fun hc => absurd (by decide) hc)
                          refine zw_push hm_40 dX4_findRoom_81 (v := .inl (-1 : Int32)) rfl ?_
                          exact zw_iret hm_40 dX4_findRoom_82 h
                        · intro hc
                          rw [if_neg hc] at h
                          refine zw_push hm_41 dX4_fits_10 (v := .inr (.inr (some 91))) rfl ?_
                          refine zw_gf hm_41 dX4_fits_11 (v := .inr (.inr (some 92))) (zT_is (zT_pi hS113) s_91) (zT_t (zT_pi hS113) s_91) rfl f_4_9_4 (zT_f (zT_pi hS113) r_91_7) ?_
                          refine zw_push hm_41 dX4_fits_14 (v := .inl v114) rfl ?_
                          obtain ⟨hg, h⟩ := h
                          refine zw_ia hm_41 dX4_fits_15 (zT_is (zT_pi hS113) s_92) (zT_h (zT_pi hS113) s_92) rfl hg ?_
                          show ma_wp X (d - 1) (w - 22) 41 16 [(0, .inr (.inr (some 91))), (1, .inl v114), (2, .inl n)] [.inl (mI S113 92 v114.toNatClampNeg)] (ma_put S113 91 5 (.inl v114)) _
                          refine zw_push hm_41 dX4_fits_16 (v := .inl n) rfl ?_
                          refine zw_stk hm_41 dX4_fits_17 (st' := [.inl ((mI S113 92 v114.toNatClampNeg) + n)]) rfl rfl ?_
                          refine zw_push hm_41 dX4_fits_18 (v := .inr (.inr (some 91))) rfl ?_
                          refine zw_gf hm_41 dX4_fits_19 (v := .inl (mI S113 91 2)) (zT_is (zT_pi hS113) s_91) (zT_t (zT_pi hS113) s_91) rfl f_4_18_4 rfl ?_
                          refine zw_if2 hm_41 dX4_fits_22 (t := 29) rfl zc2_gt ?_ ?_
                          · intro hc
                            rw [if_pos hc] at h
                            refine zw_push hm_41 dX4_fits_29 (v := .inl (0 : Int32)) rfl ?_
                            refine zw_bret hm_41 dX4_fits_30 (by decide) ?_
                            show ma_wp X d w 40 71 [(0, .inr (.inr (some 91))), (1, .inl n)] [.inl (0 : Int32)] (ma_put S113 91 5 (.inl v114)) _
                            refine zw_if0 hm_40 dX4_findRoom_71 (t := 81) rfl zc0_eq (fun _ => ?_) (fun hc => absurd (by decide) hc)
                            refine zw_push hm_40 dX4_findRoom_81 (v := .inl (-1 : Int32)) rfl ?_
                            exact zw_iret hm_40 dX4_findRoom_82 h
                          · intro hc
                            rw [if_neg hc] at h
                            refine zw_push hm_41 dX4_fits_25 (v := .inl (1 : Int32)) rfl ?_
                            refine zw_goto hm_41 dX4_fits_26 (t := 30) rfl ?_
                            refine zw_bret hm_41 dX4_fits_30 (by decide) ?_
                            show ma_wp X d w 40 71 [(0, .inr (.inr (some 91))), (1, .inl n)] [.inl (1 : Int32)] (ma_put S113 91 5 (.inl v114)) _
                            refine zw_if0 hm_40 dX4_findRoom_71 (t := 81) rfl zc0_eq (fun hc => absurd hc (by decide)) (fun _ => ?_)
                            refine zw_push hm_40 dX4_findRoom_74 (v := .inr (.inr (some 91))) rfl ?_
                            refine zw_cv hm_40 dX4_findRoom_75 v_4_60_4 hm_55 [] [] rfl (zT_rt (zT_pi hS113) s_91 rfl) ⟨by omega, by omega⟩ rfl (zw_mono h (zi_go ?_ ?_))
                            · intro v116 S115 hv
                              obtain ⟨hS115, h⟩ := hv
                              refine zw_goto hm_40 dX4_findRoom_78 (t := 82) rfl ?_
                              exact zw_iret hm_40 dX4_findRoom_82 h
                            · intro x S9 hx
                              exact ⟨by decide, hx⟩
                    · intro hc
                      rw [if_pos (Classical.not_not.mp hc)] at h
                      refine zw_push hm_54 dX4_orElse_5 (v := .inl (mI S113 91 5)) rfl ?_
                      refine zw_goto hm_54 dX4_orElse_6 (t := 10) rfl ?_
                      refine zw_iret hm_54 dX4_orElse_10 ?_
                      show ma_wp X d w 40 59 [(0, .inr (.inr (some 91))), (1, .inl n)] [.inl (mI S113 91 5), .inr (.inr (some 91))] S113 _
                      refine zw_pf hm_40 dX4_findRoom_59 (zT_is hS113 s_91) (zT_t hS113 s_91) p_4_34_4 zk_int ?_
                      refine zw_push hm_40 dX4_findRoom_62 (v := .inr (.inr (some 91))) rfl ?_
                      refine zw_push hm_40 dX4_findRoom_63 (v := .inr (.inr (some 91))) rfl ?_
                      refine zw_gf hm_40 dX4_findRoom_64 (v := .inl (mI S113 91 5)) (zT_is (zT_pi hS113) s_91) (zT_t (zT_pi hS113) s_91) rfl f_4_34_4 rfl ?_
                      refine zw_push hm_40 dX4_findRoom_67 (v := .inl n) rfl ?_
                      refine zw_cv hm_40 dX4_findRoom_68 v_4_43_4 hm_41 [.inl n, .inl (mI S113 91 5)] [] rfl (zT_rt (zT_pi hS113) s_91 rfl) ⟨by omega, by omega⟩ rfl ?_
                      show ma_wp X (d - 1) (w - 22) 41 0 [(0, .inr (.inr (some 91))), (1, .inl (mI S113 91 5)), (2, .inl n)] [] (ma_put S113 91 5 (.inl (mI S113 91 5))) _
                      refine zw_push hm_41 dX4_fits_0 (v := .inl (mI S113 91 5)) rfl ?_
                      refine zw_if0 hm_41 dX4_fits_1 (t := 29) rfl zc0_lt ?_ ?_
                      · intro hc
                        rw [if_pos hc] at h
                        refine zw_push hm_41 dX4_fits_29 (v := .inl (0 : Int32)) rfl ?_
                        refine zw_bret hm_41 dX4_fits_30 (by decide) ?_
                        show ma_wp X d w 40 71 [(0, .inr (.inr (some 91))), (1, .inl n)] [.inl (0 : Int32)] (ma_put S113 91 5 (.inl (mI S113 91 5))) _
                        refine zw_if0 hm_40 dX4_findRoom_71 (t := 81) rfl zc0_eq (fun _ => ?_) (fun hc => absurd (by decide) hc)
                        refine zw_push hm_40 dX4_findRoom_81 (v := .inl (-1 : Int32)) rfl ?_
                        exact zw_iret hm_40 dX4_findRoom_82 h
                      · intro hc
                        rw [if_neg hc] at h
                        refine zw_push hm_41 dX4_fits_4 (v := .inl (mI S113 91 5)) rfl ?_
                        refine zw_push hm_41 dX4_fits_5 (v := .inl (93 : Int32)) rfl ?_
                        refine zw_if2 hm_41 dX4_fits_7 (t := 29) rfl zc2_ge ?_ ?_
                        · intro hc
                          rw [if_pos hc] at h
                          refine zw_push hm_41 dX4_fits_29 (v := .inl (0 : Int32)) rfl ?_
                          refine zw_bret hm_41 dX4_fits_30 (by decide) ?_
                          show ma_wp X d w 40 71 [(0, .inr (.inr (some 91))), (1, .inl n)] [.inl (0 : Int32)] (ma_put S113 91 5 (.inl (mI S113 91 5))) _
                          refine zw_if0 hm_40 dX4_findRoom_71 (t := 81) rfl zc0_eq (fun _ => ?_) (fun hc => absurd (by decide) hc)
                          refine zw_push hm_40 dX4_findRoom_81 (v := .inl (-1 : Int32)) rfl ?_
                          exact zw_iret hm_40 dX4_findRoom_82 h
                        · intro hc
                          rw [if_neg hc] at h
                          refine zw_push hm_41 dX4_fits_10 (v := .inr (.inr (some 91))) rfl ?_
                          refine zw_gf hm_41 dX4_fits_11 (v := .inr (.inr (some 92))) (zT_is (zT_pi hS113) s_91) (zT_t (zT_pi hS113) s_91) rfl f_4_9_4 (zT_f (zT_pi hS113) r_91_7) ?_
                          refine zw_push hm_41 dX4_fits_14 (v := .inl (mI S113 91 5)) rfl ?_
                          obtain ⟨hg, h⟩ := h
                          refine zw_ia hm_41 dX4_fits_15 (zT_is (zT_pi hS113) s_92) (zT_h (zT_pi hS113) s_92) rfl hg ?_
                          show ma_wp X (d - 1) (w - 22) 41 16 [(0, .inr (.inr (some 91))), (1, .inl (mI S113 91 5)), (2, .inl n)] [.inl (mI S113 92 (mI S113 91 5).toNatClampNeg)] (ma_put S113 91 5 (.inl (mI S113 91 5))) _
                          refine zw_push hm_41 dX4_fits_16 (v := .inl n) rfl ?_
                          refine zw_stk hm_41 dX4_fits_17 (st' := [.inl ((mI S113 92 (mI S113 91 5).toNatClampNeg) + n)]) rfl rfl ?_
                          refine zw_push hm_41 dX4_fits_18 (v := .inr (.inr (some 91))) rfl ?_
                          refine zw_gf hm_41 dX4_fits_19 (v := .inl (mI S113 91 2)) (zT_is (zT_pi hS113) s_91) (zT_t (zT_pi hS113) s_91) rfl f_4_18_4 rfl ?_
                          refine zw_if2 hm_41 dX4_fits_22 (t := 29) rfl zc2_gt ?_ ?_
                          · intro hc
                            rw [if_pos hc] at h
                            refine zw_push hm_41 dX4_fits_29 (v := .inl (0 : Int32)) rfl ?_
                            refine zw_bret hm_41 dX4_fits_30 (by decide) ?_
                            show ma_wp X d w 40 71 [(0, .inr (.inr (some 91))), (1, .inl n)] [.inl (0 : Int32)] (ma_put S113 91 5 (.inl (mI S113 91 5))) _
                            refine zw_if0 hm_40 dX4_findRoom_71 (t := 81) rfl zc0_eq (fun _ => ?_) (fun hc => absurd (by decide) hc)
                            refine zw_push hm_40 dX4_findRoom_81 (v := .inl (-1 : Int32)) rfl ?_
                            exact zw_iret hm_40 dX4_findRoom_82 h
                          · intro hc
                            rw [if_neg hc] at h
                            refine zw_push hm_41 dX4_fits_25 (v := .inl (1 : Int32)) rfl ?_
                            refine zw_goto hm_41 dX4_fits_26 (t := 30) rfl ?_
                            refine zw_bret hm_41 dX4_fits_30 (by decide) ?_
                            show ma_wp X d w 40 71 [(0, .inr (.inr (some 91))), (1, .inl n)] [.inl (1 : Int32)] (ma_put S113 91 5 (.inl (mI S113 91 5))) _
                            refine zw_if0 hm_40 dX4_findRoom_71 (t := 81) rfl zc0_eq (fun hc => absurd hc (by decide)) (fun _ => ?_)
                            refine zw_push hm_40 dX4_findRoom_74 (v := .inr (.inr (some 91))) rfl ?_
                            refine zw_cv hm_40 dX4_findRoom_75 v_4_60_4 hm_55 [] [] rfl (zT_rt (zT_pi hS113) s_91 rfl) ⟨by omega, by omega⟩ rfl (zw_mono h (zi_go ?_ ?_))
                            · intro v118 S117 hv
                              obtain ⟨hS117, h⟩ := hv
                              refine zw_goto hm_40 dX4_findRoom_78 (t := 82) rfl ?_
                              exact zw_iret hm_40 dX4_findRoom_82 h
                            · intro x S9 hx
                              exact ⟨by decide, hx⟩
                  · intro x S9 hx
                    exact ⟨by decide, hx⟩
                · intro hc
                  rw [if_neg hc] at h
                  refine zw_push hm_41 dX4_fits_4 (v := .inl (mI S111 91 5)) rfl ?_
                  refine zw_push hm_41 dX4_fits_5 (v := .inl (93 : Int32)) rfl ?_
                  refine zw_if2 hm_41 dX4_fits_7 (t := 29) rfl zc2_ge ?_ ?_
                  · intro hc
                    rw [if_pos hc] at h
                    refine zw_push hm_41 dX4_fits_29 (v := .inl (0 : Int32)) rfl ?_
                    refine zw_bret hm_41 dX4_fits_30 (by decide) ?_
                    show ma_wp X d w 40 44 [(0, .inr (.inr (some 91))), (1, .inl n)] [.inl (0 : Int32)] S111 _
                    refine zw_if0 hm_40 dX4_findRoom_44 (t := 62) rfl zc0_ne (fun hc => absurd hc (by decide)) (fun _ => ?_)
                    refine zw_push hm_40 dX4_findRoom_47 (v := .inr (.inr (some 91))) rfl ?_
                    refine zw_push hm_40 dX4_findRoom_48 (v := .inr (.inr (some 91))) rfl ?_
                    refine zw_cv hm_40 dX4_findRoom_49 v_4_54_4 hm_52 [] [.inr (.inr (some 91))] rfl (zT_rt hS111 s_91 rfl) ⟨by omega, by omega⟩ rfl (zw_mono h (zi_go ?_ ?_))
                    · intro v120 S119 hv
                      obtain ⟨hS119, h⟩ := hv
                      refine zw_push hm_40 dX4_findRoom_52 (v := .inr (.inr (some 91))) rfl ?_
                      refine zw_gf hm_40 dX4_findRoom_53 (v := .inl (mI S119 91 5)) (zT_is hS119 s_91) (zT_t hS119 s_91) rfl f_4_34_4 rfl ?_
                      refine zw_cs hm_40 dX4_findRoom_56 pn_4_57 sl_4_57 hm_54 [.inl (mI S119 91 5), .inl v120] [.inr (.inr (some 91))] rfl ⟨by omega, by omega⟩ rfl ?_
                      show ma_wp X (d - 1) (w - 21) 54 0 [(0, .inl v120), (1, .inl (mI S119 91 5))] [] S119 _
                      refine zw_push hm_54 dX4_orElse_0 (v := .inl v120) rfl ?_
                      refine zw_push hm_54 dX4_orElse_1 (v := .inl (-1 : Int32)) rfl ?_
                      refine zw_if2 hm_54 dX4_orElse_2 (t := 9) rfl zc2_ne ?_ ?_
                      · intro hc
                        rw [if_neg hc] at h
                        refine zw_push hm_54 dX4_orElse_9 (v := .inl v120) rfl ?_
                        refine zw_iret hm_54 dX4_orElse_10 ?_
                        show ma_wp X d w 40 59 [(0, .inr (.inr (some 91))), (1, .inl n)] [.inl v120, .inr (.inr (some 91))] S119 _
                        refine zw_pf hm_40 dX4_findRoom_59 (zT_is hS119 s_91) (zT_t hS119 s_91) p_4_34_4 zk_int ?_
                        refine zw_push hm_40 dX4_findRoom_62 (v := .inr (.inr (some 91))) rfl ?_
                        refine zw_push hm_40 dX4_findRoom_63 (v := .inr (.inr (some 91))) rfl ?_
                        refine zw_gf hm_40 dX4_findRoom_64 (v := .inl v120) (zT_is (zT_pi hS119) s_91) (zT_t (zT_pi hS119) s_91) rfl f_4_34_4 rfl ?_
                        refine zw_push hm_40 dX4_findRoom_67 (v := .inl n) rfl ?_
                        refine zw_cv hm_40 dX4_findRoom_68 v_4_43_4 hm_41 [.inl n, .inl v120] [] rfl (zT_rt (zT_pi hS119) s_91 rfl) ⟨by omega, by omega⟩ rfl ?_
                        show ma_wp X (d - 1) (w - 22) 41 0 [(0, .inr (.inr (some 91))), (1, .inl v120), (2, .inl n)] [] (ma_put S119 91 5 (.inl v120)) _
                        refine zw_push hm_41 dX4_fits_0 (v := .inl v120) rfl ?_
                        refine zw_if0 hm_41 dX4_fits_1 (t := 29) rfl zc0_lt ?_ ?_
                        · intro hc
                          rw [if_pos hc] at h
                          refine zw_push hm_41 dX4_fits_29 (v := .inl (0 : Int32)) rfl ?_
                          refine zw_bret hm_41 dX4_fits_30 (by decide) ?_
                          show ma_wp X d w 40 71 [(0, .inr (.inr (some 91))), (1, .inl n)] [.inl (0 : Int32)] (ma_put S119 91 5 (.inl v120)) _
                          refine zw_if0 hm_40 dX4_findRoom_71 (t := 81) rfl zc0_eq (fun _ => ?_) (fun hc => absurd (by decide) hc)
                          refine zw_push hm_40 dX4_findRoom_81 (v := .inl (-1 : Int32)) rfl ?_
                          exact zw_iret hm_40 dX4_findRoom_82 h
                        · intro hc
                          rw [if_neg hc] at h
                          refine zw_push hm_41 dX4_fits_4 (v := .inl v120) rfl ?_
                          refine zw_push hm_41 dX4_fits_5 (v := .inl (93 : Int32)) rfl ?_
                          refine zw_if2 hm_41 dX4_fits_7 (t := 29) rfl zc2_ge ?_ ?_
                          · intro hc
                            rw [if_pos hc] at h
                            refine zw_push hm_41 dX4_fits_29 (v := .inl (0 : Int32)) rfl ?_
                            refine zw_bret hm_41 dX4_fits_30 (by decide) ?_
                            show ma_wp X d w 40 71 [(0, .inr (.inr (some 91))), (1, .inl n)] [.inl (0 : Int32)] (ma_put S119 91 5 (.inl v120)) _
                            refine zw_if0 hm_40 dX4_findRoom_71 (t := 81) rfl zc0_eq (fun _ => ?_) (fun hc => absurd (by decide) hc)
                            refine zw_push hm_40 dX4_findRoom_81 (v := .inl (-1 : Int32)) rfl ?_
                            exact zw_iret hm_40 dX4_findRoom_82 h
                          · intro hc
                            rw [if_neg hc] at h
                            refine zw_push hm_41 dX4_fits_10 (v := .inr (.inr (some 91))) rfl ?_
                            refine zw_gf hm_41 dX4_fits_11 (v := .inr (.inr (some 92))) (zT_is (zT_pi hS119) s_91) (zT_t (zT_pi hS119) s_91) rfl f_4_9_4 (zT_f (zT_pi hS119) r_91_7) ?_
                            refine zw_push hm_41 dX4_fits_14 (v := .inl v120) rfl ?_
                            obtain ⟨hg, h⟩ := h
                            refine zw_ia hm_41 dX4_fits_15 (zT_is (zT_pi hS119) s_92) (zT_h (zT_pi hS119) s_92) rfl hg ?_
                            show ma_wp X (d - 1) (w - 22) 41 16 [(0, .inr (.inr (some 91))), (1, .inl v120), (2, .inl n)] [.inl (mI S119 92 v120.toNatClampNeg)] (ma_put S119 91 5 (.inl v120)) _
                            refine zw_push hm_41 dX4_fits_16 (v := .inl n) rfl ?_
                            refine zw_stk hm_41 dX4_fits_17 (st' := [.inl ((mI S119 92 v120.toNatClampNeg) + n)]) rfl rfl ?_
                            refine zw_push hm_41 dX4_fits_18 (v := .inr (.inr (some 91))) rfl ?_
                            refine zw_gf hm_41 dX4_fits_19 (v := .inl (mI S119 91 2)) (zT_is (zT_pi hS119) s_91) (zT_t (zT_pi hS119) s_91) rfl f_4_18_4 rfl ?_
                            refine zw_if2 hm_41 dX4_fits_22 (t := 29) rfl zc2_gt ?_ ?_
                            · intro hc
                              rw [if_pos hc] at h
                              refine zw_push hm_41 dX4_fits_29 (v := .inl (0 : Int32)) rfl ?_
                              refine zw_bret hm_41 dX4_fits_30 (by decide) ?_
                              show ma_wp X d w 40 71 [(0, .inr (.inr (some 91))), (1, .inl n)] [.inl (0 : Int32)] (ma_put S119 91 5 (.inl v120)) _
                              refine zw_if0 hm_40 dX4_findRoom_71 (t := 81) rfl zc0_eq (fun _ => ?_) (fun hc => absurd (by decide) hc)
                              refine zw_push hm_40 dX4_findRoom_81 (v := .inl (-1 : Int32)) rfl ?_
                              exact zw_iret hm_40 dX4_findRoom_82 h
                            · intro hc
                              rw [if_neg hc] at h
                              refine zw_push hm_41 dX4_fits_25 (v := .inl (1 : Int32)) rfl ?_
                              refine zw_goto hm_41 dX4_fits_26 (t := 30) rfl ?_
                              refine zw_bret hm_41 dX4_fits_30 (by decide) ?_
                              show ma_wp X d w 40 71 [(0, .inr (.inr (some 91))), (1, .inl n)] [.inl (1 : Int32)] (ma_put S119 91 5 (.inl v120)) _
                              refine zw_if0 hm_40 dX4_findRoom_71 (t := 81) rfl zc0_eq (fun hc => absurd hc (by decide)) (fun _ => ?_)
                              refine zw_push hm_40 dX4_findRoom_74 (v := .inr (.inr (some 91))) rfl ?_
                              refine zw_cv hm_40 dX4_findRoom_75 v_4_60_4 hm_55 [] [] rfl (zT_rt (zT_pi hS119) s_91 rfl) ⟨by omega, by omega⟩ rfl (zw_mono h (zi_go ?_ ?_))
                              · intro v122 S121 hv
                                obtain ⟨hS121, h⟩ := hv
                                refine zw_goto hm_40 dX4_findRoom_78 (t := 82) rfl ?_
                                exact zw_iret hm_40 dX4_findRoom_82 h
                              · intro x S9 hx
                                exact ⟨by decide, hx⟩
                      · intro hc
                        rw [if_pos (Classical.not_not.mp hc)] at h
                        refine zw_push hm_54 dX4_orElse_5 (v := .inl (mI S119 91 5)) rfl ?_
                        refine zw_goto hm_54 dX4_orElse_6 (t := 10) rfl ?_
                        refine zw_iret hm_54 dX4_orElse_10 ?_
                        show ma_wp X d w 40 59 [(0, .inr (.inr (some 91))), (1, .inl n)] [.inl (mI S119 91 5), .inr (.inr (some 91))] S119 _
                        refine zw_pf hm_40 dX4_findRoom_59 (zT_is hS119 s_91) (zT_t hS119 s_91) p_4_34_4 zk_int ?_
                        refine zw_push hm_40 dX4_findRoom_62 (v := .inr (.inr (some 91))) rfl ?_
                        refine zw_push hm_40 dX4_findRoom_63 (v := .inr (.inr (some 91))) rfl ?_
                        refine zw_gf hm_40 dX4_findRoom_64 (v := .inl (mI S119 91 5)) (zT_is (zT_pi hS119) s_91) (zT_t (zT_pi hS119) s_91) rfl f_4_34_4 rfl ?_
                        refine zw_push hm_40 dX4_findRoom_67 (v := .inl n) rfl ?_
                        refine zw_cv hm_40 dX4_findRoom_68 v_4_43_4 hm_41 [.inl n, .inl (mI S119 91 5)] [] rfl (zT_rt (zT_pi hS119) s_91 rfl) ⟨by omega, by omega⟩ rfl ?_
                        show ma_wp X (d - 1) (w - 22) 41 0 [(0, .inr (.inr (some 91))), (1, .inl (mI S119 91 5)), (2, .inl n)] [] (ma_put S119 91 5 (.inl (mI S119 91 5))) _
                        refine zw_push hm_41 dX4_fits_0 (v := .inl (mI S119 91 5)) rfl ?_
                        refine zw_if0 hm_41 dX4_fits_1 (t := 29) rfl zc0_lt ?_ ?_
                        · intro hc
                          rw [if_pos hc] at h
                          refine zw_push hm_41 dX4_fits_29 (v := .inl (0 : Int32)) rfl ?_
                          refine zw_bret hm_41 dX4_fits_30 (by decide) ?_
                          show ma_wp X d w 40 71 [(0, .inr (.inr (some 91))), (1, .inl n)] [.inl (0 : Int32)] (ma_put S119 91 5 (.inl (mI S119 91 5))) _
                          refine zw_if0 hm_40 dX4_findRoom_71 (t := 81) rfl zc0_eq (fun _ => ?_) (fun hc => absurd (by decide) hc)
                          refine zw_push hm_40 dX4_findRoom_81 (v := .inl (-1 : Int32)) rfl ?_
                          exact zw_iret hm_40 dX4_findRoom_82 h
                        · intro hc
                          rw [if_neg hc] at h
                          refine zw_push hm_41 dX4_fits_4 (v := .inl (mI S119 91 5)) rfl ?_
                          refine zw_push hm_41 dX4_fits_5 (v := .inl (93 : Int32)) rfl ?_
                          refine zw_if2 hm_41 dX4_fits_7 (t := 29) rfl zc2_ge ?_ ?_
                          · intro hc
                            rw [if_pos hc] at h
                            refine zw_push hm_41 dX4_fits_29 (v := .inl (0 : Int32)) rfl ?_
                            refine zw_bret hm_41 dX4_fits_30 (by decide) ?_
                            show ma_wp X d w 40 71 [(0, .inr (.inr (some 91))), (1, .inl n)] [.inl (0 : Int32)] (ma_put S119 91 5 (.inl (mI S119 91 5))) _
                            refine zw_if0 hm_40 dX4_findRoom_71 (t := 81) rfl zc0_eq (fun _ => ?_) (fun hc => absurd (by decide) hc)
                            refine zw_push hm_40 dX4_findRoom_81 (v := .inl (-1 : Int32)) rfl ?_
                            exact zw_iret hm_40 dX4_findRoom_82 h
                          · intro hc
                            rw [if_neg hc] at h
                            refine zw_push hm_41 dX4_fits_10 (v := .inr (.inr (some 91))) rfl ?_
                            refine zw_gf hm_41 dX4_fits_11 (v := .inr (.inr (some 92))) (zT_is (zT_pi hS119) s_91) (zT_t (zT_pi hS119) s_91) rfl f_4_9_4 (zT_f (zT_pi hS119) r_91_7) ?_
                            refine zw_push hm_41 dX4_fits_14 (v := .inl (mI S119 91 5)) rfl ?_
                            obtain ⟨hg, h⟩ := h
                            refine zw_ia hm_41 dX4_fits_15 (zT_is (zT_pi hS119) s_92) (zT_h (zT_pi hS119) s_92) rfl hg ?_
                            show ma_wp X (d - 1) (w - 22) 41 16 [(0, .inr (.inr (some 91))), (1, .inl (mI S119 91 5)), (2, .inl n)] [.inl (mI S119 92 (mI S119 91 5).toNatClampNeg)] (ma_put S119 91 5 (.inl (mI S119 91 5))) _
                            refine zw_push hm_41 dX4_fits_16 (v := .inl n) rfl ?_
                            refine zw_stk hm_41 dX4_fits_17 (st' := [.inl ((mI S119 92 (mI S119 91 5).toNatClampNeg) + n)]) rfl rfl ?_
                            refine zw_push hm_41 dX4_fits_18 (v := .inr (.inr (some 91))) rfl ?_
                            refine zw_gf hm_41 dX4_fits_19 (v := .inl (mI S119 91 2)) (zT_is (zT_pi hS119) s_91) (zT_t (zT_pi hS119) s_91) rfl f_4_18_4 rfl ?_
                            refine zw_if2 hm_41 dX4_fits_22 (t := 29) rfl zc2_gt ?_ ?_
                            · intro hc
                              rw [if_pos hc] at h
                              refine zw_push hm_41 dX4_fits_29 (v := .inl (0 : Int32)) rfl ?_
                              refine zw_bret hm_41 dX4_fits_30 (by decide) ?_
                              show ma_wp X d w 40 71 [(0, .inr (.inr (some 91))), (1, .inl n)] [.inl (0 : Int32)] (ma_put S119 91 5 (.inl (mI S119 91 5))) _
                              refine zw_if0 hm_40 dX4_findRoom_71 (t := 81) rfl zc0_eq (fun _ => ?_) (fun hc => absurd (by decide) hc)
                              refine zw_push hm_40 dX4_findRoom_81 (v := .inl (-1 : Int32)) rfl ?_
                              exact zw_iret hm_40 dX4_findRoom_82 h
                            · intro hc
                              rw [if_neg hc] at h
                              refine zw_push hm_41 dX4_fits_25 (v := .inl (1 : Int32)) rfl ?_
                              refine zw_goto hm_41 dX4_fits_26 (t := 30) rfl ?_
                              refine zw_bret hm_41 dX4_fits_30 (by decide) ?_
                              show ma_wp X d w 40 71 [(0, .inr (.inr (some 91))), (1, .inl n)] [.inl (1 : Int32)] (ma_put S119 91 5 (.inl (mI S119 91 5))) _
                              refine zw_if0 hm_40 dX4_findRoom_71 (t := 81) rfl zc0_eq (fun hc => absurd hc (by decide)) (fun _ => ?_)
                              refine zw_push hm_40 dX4_findRoom_74 (v := .inr (.inr (some 91))) rfl ?_
                              refine zw_cv hm_40 dX4_findRoom_75 v_4_60_4 hm_55 [] [] rfl (zT_rt (zT_pi hS119) s_91 rfl) ⟨by omega, by omega⟩ rfl (zw_mono h (zi_go ?_ ?_))
                              · intro v124 S123 hv
                                obtain ⟨hS123, h⟩ := hv
                                refine zw_goto hm_40 dX4_findRoom_78 (t := 82) rfl ?_
                                exact zw_iret hm_40 dX4_findRoom_82 h
                              · intro x S9 hx
                                exact ⟨by decide, hx⟩
                    · intro x S9 hx
                      exact ⟨by decide, hx⟩
                  · intro hc
                    rw [if_neg hc] at h
                    refine zw_push hm_41 dX4_fits_10 (v := .inr (.inr (some 91))) rfl ?_
                    refine zw_gf hm_41 dX4_fits_11 (v := .inr (.inr (some 92))) (zT_is hS111 s_91) (zT_t hS111 s_91) rfl f_4_9_4 (zT_f hS111 r_91_7) ?_
                    refine zw_push hm_41 dX4_fits_14 (v := .inl (mI S111 91 5)) rfl ?_
                    obtain ⟨hg, h⟩ := h
                    refine zw_ia hm_41 dX4_fits_15 (zT_is hS111 s_92) (zT_h hS111 s_92) rfl hg ?_
                    show ma_wp X (d - 1) (w - 22) 41 16 [(0, .inr (.inr (some 91))), (1, .inl (mI S111 91 5)), (2, .inl n)] [.inl (mI S111 92 (mI S111 91 5).toNatClampNeg)] S111 _
                    refine zw_push hm_41 dX4_fits_16 (v := .inl n) rfl ?_
                    refine zw_stk hm_41 dX4_fits_17 (st' := [.inl ((mI S111 92 (mI S111 91 5).toNatClampNeg) + n)]) rfl rfl ?_
                    refine zw_push hm_41 dX4_fits_18 (v := .inr (.inr (some 91))) rfl ?_
                    refine zw_gf hm_41 dX4_fits_19 (v := .inl (mI S111 91 2)) (zT_is hS111 s_91) (zT_t hS111 s_91) rfl f_4_18_4 rfl ?_
                    refine zw_if2 hm_41 dX4_fits_22 (t := 29) rfl zc2_gt ?_ ?_
                    · intro hc
                      rw [if_pos hc] at h
                      refine zw_push hm_41 dX4_fits_29 (v := .inl (0 : Int32)) rfl ?_
                      refine zw_bret hm_41 dX4_fits_30 (by decide) ?_
                      show ma_wp X d w 40 44 [(0, .inr (.inr (some 91))), (1, .inl n)] [.inl (0 : Int32)] S111 _
                      refine zw_if0 hm_40 dX4_findRoom_44 (t := 62) rfl zc0_ne (fun hc => absurd hc (by decide)) (fun _ => ?_)
                      refine zw_push hm_40 dX4_findRoom_47 (v := .inr (.inr (some 91))) rfl ?_
                      refine zw_push hm_40 dX4_findRoom_48 (v := .inr (.inr (some 91))) rfl ?_
                      refine zw_cv hm_40 dX4_findRoom_49 v_4_54_4 hm_52 [] [.inr (.inr (some 91))] rfl (zT_rt hS111 s_91 rfl) ⟨by omega, by omega⟩ rfl (zw_mono h (zi_go ?_ ?_))
                      · intro v126 S125 hv
                        obtain ⟨hS125, h⟩ := hv
                        refine zw_push hm_40 dX4_findRoom_52 (v := .inr (.inr (some 91))) rfl ?_
                        refine zw_gf hm_40 dX4_findRoom_53 (v := .inl (mI S125 91 5)) (zT_is hS125 s_91) (zT_t hS125 s_91) rfl f_4_34_4 rfl ?_
                        refine zw_cs hm_40 dX4_findRoom_56 pn_4_57 sl_4_57 hm_54 [.inl (mI S125 91 5), .inl v126] [.inr (.inr (some 91))] rfl ⟨by omega, by omega⟩ rfl ?_
                        show ma_wp X (d - 1) (w - 21) 54 0 [(0, .inl v126), (1, .inl (mI S125 91 5))] [] S125 _
                        refine zw_push hm_54 dX4_orElse_0 (v := .inl v126) rfl ?_
                        refine zw_push hm_54 dX4_orElse_1 (v := .inl (-1 : Int32)) rfl ?_
                        refine zw_if2 hm_54 dX4_orElse_2 (t := 9) rfl zc2_ne ?_ ?_
                        · intro hc
                          rw [if_neg hc] at h
                          refine zw_push hm_54 dX4_orElse_9 (v := .inl v126) rfl ?_
                          refine zw_iret hm_54 dX4_orElse_10 ?_
                          show ma_wp X d w 40 59 [(0, .inr (.inr (some 91))), (1, .inl n)] [.inl v126, .inr (.inr (some 91))] S125 _
                          refine zw_pf hm_40 dX4_findRoom_59 (zT_is hS125 s_91) (zT_t hS125 s_91) p_4_34_4 zk_int ?_
                          refine zw_push hm_40 dX4_findRoom_62 (v := .inr (.inr (some 91))) rfl ?_
                          refine zw_push hm_40 dX4_findRoom_63 (v := .inr (.inr (some 91))) rfl ?_
                          refine zw_gf hm_40 dX4_findRoom_64 (v := .inl v126) (zT_is (zT_pi hS125) s_91) (zT_t (zT_pi hS125) s_91) rfl f_4_34_4 rfl ?_
                          refine zw_push hm_40 dX4_findRoom_67 (v := .inl n) rfl ?_
                          refine zw_cv hm_40 dX4_findRoom_68 v_4_43_4 hm_41 [.inl n, .inl v126] [] rfl (zT_rt (zT_pi hS125) s_91 rfl) ⟨by omega, by omega⟩ rfl ?_
                          show ma_wp X (d - 1) (w - 22) 41 0 [(0, .inr (.inr (some 91))), (1, .inl v126), (2, .inl n)] [] (ma_put S125 91 5 (.inl v126)) _
                          refine zw_push hm_41 dX4_fits_0 (v := .inl v126) rfl ?_
                          refine zw_if0 hm_41 dX4_fits_1 (t := 29) rfl zc0_lt ?_ ?_
                          · intro hc
                            rw [if_pos hc] at h
                            refine zw_push hm_41 dX4_fits_29 (v := .inl (0 : Int32)) rfl ?_
                            refine zw_bret hm_41 dX4_fits_30 (by decide) ?_
                            show ma_wp X d w 40 71 [(0, .inr (.inr (some 91))), (1, .inl n)] [.inl (0 : Int32)] (ma_put S125 91 5 (.inl v126)) _
                            refine zw_if0 hm_40 dX4_findRoom_71 (t := 81) rfl zc0_eq (fun _ => ?_) (fun hc => absurd (by decide) hc)
                            refine zw_push hm_40 dX4_findRoom_81 (v := .inl (-1 : Int32)) rfl ?_
                            exact zw_iret hm_40 dX4_findRoom_82 h
                          · intro hc
                            rw [if_neg hc] at h
                            refine zw_push hm_41 dX4_fits_4 (v := .inl v126) rfl ?_
                            refine zw_push hm_41 dX4_fits_5 (v := .inl (93 : Int32)) rfl ?_
                            refine zw_if2 hm_41 dX4_fits_7 (t := 29) rfl zc2_ge ?_ ?_
                            · intro hc
                              rw [if_pos hc] at h
                              refine zw_push hm_41 dX4_fits_29 (v := .inl (0 : Int32)) rfl ?_
                              refine zw_bret hm_41 dX4_fits_30 (by decide) ?_
                              show ma_wp X d w 40 71 [(0, .inr (.inr (some 91))), (1, .inl n)] [.inl (0 : Int32)] (ma_put S125 91 5 (.inl v126)) _
                              refine zw_if0 hm_40 dX4_findRoom_71 (t := 81) rfl zc0_eq (fun _ => ?_) (fun hc => absurd (by decide) hc)
                              refine zw_push hm_40 dX4_findRoom_81 (v := .inl (-1 : Int32)) rfl ?_
                              exact zw_iret hm_40 dX4_findRoom_82 h
                            · intro hc
                              rw [if_neg hc] at h
                              refine zw_push hm_41 dX4_fits_10 (v := .inr (.inr (some 91))) rfl ?_
                              refine zw_gf hm_41 dX4_fits_11 (v := .inr (.inr (some 92))) (zT_is (zT_pi hS125) s_91) (zT_t (zT_pi hS125) s_91) rfl f_4_9_4 (zT_f (zT_pi hS125) r_91_7) ?_
                              refine zw_push hm_41 dX4_fits_14 (v := .inl v126) rfl ?_
                              obtain ⟨hg, h⟩ := h
                              refine zw_ia hm_41 dX4_fits_15 (zT_is (zT_pi hS125) s_92) (zT_h (zT_pi hS125) s_92) rfl hg ?_
                              show ma_wp X (d - 1) (w - 22) 41 16 [(0, .inr (.inr (some 91))), (1, .inl v126), (2, .inl n)] [.inl (mI S125 92 v126.toNatClampNeg)] (ma_put S125 91 5 (.inl v126)) _
                              refine zw_push hm_41 dX4_fits_16 (v := .inl n) rfl ?_
                              refine zw_stk hm_41 dX4_fits_17 (st' := [.inl ((mI S125 92 v126.toNatClampNeg) + n)]) rfl rfl ?_
                              refine zw_push hm_41 dX4_fits_18 (v := .inr (.inr (some 91))) rfl ?_
                              refine zw_gf hm_41 dX4_fits_19 (v := .inl (mI S125 91 2)) (zT_is (zT_pi hS125) s_91) (zT_t (zT_pi hS125) s_91) rfl f_4_18_4 rfl ?_
                              refine zw_if2 hm_41 dX4_fits_22 (t := 29) rfl zc2_gt ?_ ?_
                              · intro hc
                                rw [if_pos hc] at h
                                refine zw_push hm_41 dX4_fits_29 (v := .inl (0 : Int32)) rfl ?_
                                refine zw_bret hm_41 dX4_fits_30 (by decide) ?_
                                show ma_wp X d w 40 71 [(0, .inr (.inr (some 91))), (1, .inl n)] [.inl (0 : Int32)] (ma_put S125 91 5 (.inl v126)) _
                                refine zw_if0 hm_40 dX4_findRoom_71 (t := 81) rfl zc0_eq (fun _ => ?_) (fun hc => absurd (by decide) hc)
                                refine zw_push hm_40 dX4_findRoom_81 (v := .inl (-1 : Int32)) rfl ?_
                                exact zw_iret hm_40 dX4_findRoom_82 h
                              · intro hc
                                rw [if_neg hc] at h
                                refine zw_push hm_41 dX4_fits_25 (v := .inl (1 : Int32)) rfl ?_
                                refine zw_goto hm_41 dX4_fits_26 (t := 30) rfl ?_
                                refine zw_bret hm_41 dX4_fits_30 (by decide) ?_
                                show ma_wp X d w 40 71 [(0, .inr (.inr (some 91))), (1, .inl n)] [.inl (1 : Int32)] (ma_put S125 91 5 (.inl v126)) _
                                refine zw_if0 hm_40 dX4_findRoom_71 (t := 81) rfl zc0_eq (fun hc => absurd hc (by decide)) (fun _ => ?_)
                                refine zw_push hm_40 dX4_findRoom_74 (v := .inr (.inr (some 91))) rfl ?_
                                refine zw_cv hm_40 dX4_findRoom_75 v_4_60_4 hm_55 [] [] rfl (zT_rt (zT_pi hS125) s_91 rfl) ⟨by omega, by omega⟩ rfl (zw_mono h (zi_go ?_ ?_))
                                · intro v128 S127 hv
                                  obtain ⟨hS127, h⟩ := hv
                                  refine zw_goto hm_40 dX4_findRoom_78 (t := 82) rfl ?_
                                  exact zw_iret hm_40 dX4_findRoom_82 h
                                · intro x S9 hx
                                  exact ⟨by decide, hx⟩
                        · intro hc
                          rw [if_pos (Classical.not_not.mp hc)] at h
                          refine zw_push hm_54 dX4_orElse_5 (v := .inl (mI S125 91 5)) rfl ?_
                          refine zw_goto hm_54 dX4_orElse_6 (t := 10) rfl ?_
                          refine zw_iret hm_54 dX4_orElse_10 ?_
                          show ma_wp X d w 40 59 [(0, .inr (.inr (some 91))), (1, .inl n)] [.inl (mI S125 91 5), .inr (.inr (some 91))] S125 _
                          refine zw_pf hm_40 dX4_findRoom_59 (zT_is hS125 s_91) (zT_t hS125 s_91) p_4_34_4 zk_int ?_
                          refine zw_push hm_40 dX4_findRoom_62 (v := .inr (.inr (some 91))) rfl ?_
                          refine zw_push hm_40 dX4_findRoom_63 (v := .inr (.inr (some 91))) rfl ?_
                          refine zw_gf hm_40 dX4_findRoom_64 (v := .inl (mI S125 91 5)) (zT_is (zT_pi hS125) s_91) (zT_t (zT_pi hS125) s_91) rfl f_4_34_4 rfl ?_
                          refine zw_push hm_40 dX4_findRoom_67 (v := .inl n) rfl ?_
                          refine zw_cv hm_40 dX4_findRoom_68 v_4_43_4 hm_41 [.inl n, .inl (mI S125 91 5)] [] rfl (zT_rt (zT_pi hS125) s_91 rfl) ⟨by omega, by omega⟩ rfl ?_
                          show ma_wp X (d - 1) (w - 22) 41 0 [(0, .inr (.inr (some 91))), (1, .inl (mI S125 91 5)), (2, .inl n)] [] (ma_put S125 91 5 (.inl (mI S125 91 5))) _
                          refine zw_push hm_41 dX4_fits_0 (v := .inl (mI S125 91 5)) rfl ?_
                          refine zw_if0 hm_41 dX4_fits_1 (t := 29) rfl zc0_lt ?_ ?_
                          · intro hc
                            rw [if_pos hc] at h
                            refine zw_push hm_41 dX4_fits_29 (v := .inl (0 : Int32)) rfl ?_
                            refine zw_bret hm_41 dX4_fits_30 (by decide) ?_
                            show ma_wp X d w 40 71 [(0, .inr (.inr (some 91))), (1, .inl n)] [.inl (0 : Int32)] (ma_put S125 91 5 (.inl (mI S125 91 5))) _
                            refine zw_if0 hm_40 dX4_findRoom_71 (t := 81) rfl zc0_eq (fun _ => ?_) (fun hc => absurd (by decide) hc)
                            refine zw_push hm_40 dX4_findRoom_81 (v := .inl (-1 : Int32)) rfl ?_
                            exact zw_iret hm_40 dX4_findRoom_82 h
                          · intro hc
                            rw [if_neg hc] at h
                            refine zw_push hm_41 dX4_fits_4 (v := .inl (mI S125 91 5)) rfl ?_
                            refine zw_push hm_41 dX4_fits_5 (v := .inl (93 : Int32)) rfl ?_
                            refine zw_if2 hm_41 dX4_fits_7 (t := 29) rfl zc2_ge ?_ ?_
                            · intro hc
                              rw [if_pos hc] at h
                              refine zw_push hm_41 dX4_fits_29 (v := .inl (0 : Int32)) rfl ?_
                              refine zw_bret hm_41 dX4_fits_30 (by decide) ?_
                              show ma_wp X d w 40 71 [(0, .inr (.inr (some 91))), (1, .inl n)] [.inl (0 : Int32)] (ma_put S125 91 5 (.inl (mI S125 91 5))) _
                              refine zw_if0 hm_40 dX4_findRoom_71 (t := 81) rfl zc0_eq (fun _ => ?_) (fun hc => absurd (by decide) hc)
                              refine zw_push hm_40 dX4_findRoom_81 (v := .inl (-1 : Int32)) rfl ?_
                              exact zw_iret hm_40 dX4_findRoom_82 h
                            · intro hc
                              rw [if_neg hc] at h
                              refine zw_push hm_41 dX4_fits_10 (v := .inr (.inr (some 91))) rfl ?_
                              refine zw_gf hm_41 dX4_fits_11 (v := .inr (.inr (some 92))) (zT_is (zT_pi hS125) s_91) (zT_t (zT_pi hS125) s_91) rfl f_4_9_4 (zT_f (zT_pi hS125) r_91_7) ?_
                              refine zw_push hm_41 dX4_fits_14 (v := .inl (mI S125 91 5)) rfl ?_
                              obtain ⟨hg, h⟩ := h
                              refine zw_ia hm_41 dX4_fits_15 (zT_is (zT_pi hS125) s_92) (zT_h (zT_pi hS125) s_92) rfl hg ?_
                              show ma_wp X (d - 1) (w - 22) 41 16 [(0, .inr (.inr (some 91))), (1, .inl (mI S125 91 5)), (2, .inl n)] [.inl (mI S125 92 (mI S125 91 5).toNatClampNeg)] (ma_put S125 91 5 (.inl (mI S125 91 5))) _
                              refine zw_push hm_41 dX4_fits_16 (v := .inl n) rfl ?_
                              refine zw_stk hm_41 dX4_fits_17 (st' := [.inl ((mI S125 92 (mI S125 91 5).toNatClampNeg) + n)]) rfl rfl ?_
                              refine zw_push hm_41 dX4_fits_18 (v := .inr (.inr (some 91))) rfl ?_
                              refine zw_gf hm_41 dX4_fits_19 (v := .inl (mI S125 91 2)) (zT_is (zT_pi hS125) s_91) (zT_t (zT_pi hS125) s_91) rfl f_4_18_4 rfl ?_
                              refine zw_if2 hm_41 dX4_fits_22 (t := 29) rfl zc2_gt ?_ ?_
                              · intro hc
                                rw [if_pos hc] at h
                                refine zw_push hm_41 dX4_fits_29 (v := .inl (0 : Int32)) rfl ?_
                                refine zw_bret hm_41 dX4_fits_30 (by decide) ?_
                                show ma_wp X d w 40 71 [(0, .inr (.inr (some 91))), (1, .inl n)] [.inl (0 : Int32)] (ma_put S125 91 5 (.inl (mI S125 91 5))) _
                                refine zw_if0 hm_40 dX4_findRoom_71 (t := 81) rfl zc0_eq (fun _ => ?_) (fun hc => absurd (by decide) hc)
                                refine zw_push hm_40 dX4_findRoom_81 (v := .inl (-1 : Int32)) rfl ?_
                                exact zw_iret hm_40 dX4_findRoom_82 h
                              · intro hc
                                rw [if_neg hc] at h
                                refine zw_push hm_41 dX4_fits_25 (v := .inl (1 : Int32)) rfl ?_
                                refine zw_goto hm_41 dX4_fits_26 (t := 30) rfl ?_
                                refine zw_bret hm_41 dX4_fits_30 (by decide) ?_
                                show ma_wp X d w 40 71 [(0, .inr (.inr (some 91))), (1, .inl n)] [.inl (1 : Int32)] (ma_put S125 91 5 (.inl (mI S125 91 5))) _
                                refine zw_if0 hm_40 dX4_findRoom_71 (t := 81) rfl zc0_eq (fun hc => absurd hc (by decide)) (fun _ => ?_)
                                refine zw_push hm_40 dX4_findRoom_74 (v := .inr (.inr (some 91))) rfl ?_
                                refine zw_cv hm_40 dX4_findRoom_75 v_4_60_4 hm_55 [] [] rfl (zT_rt (zT_pi hS125) s_91 rfl) ⟨by omega, by omega⟩ rfl (zw_mono h (zi_go ?_ ?_))
                                · intro v130 S129 hv
                                  obtain ⟨hS129, h⟩ := hv
                                  refine zw_goto hm_40 dX4_findRoom_78 (t := 82) rfl ?_
                                  exact zw_iret hm_40 dX4_findRoom_82 h
                                · intro x S9 hx
                                  exact ⟨by decide, hx⟩
                      · intro x S9 hx
                        exact ⟨by decide, hx⟩
                    · intro hc
                      rw [if_neg hc] at h
                      refine zw_push hm_41 dX4_fits_25 (v := .inl (1 : Int32)) rfl ?_
                      refine zw_goto hm_41 dX4_fits_26 (t := 30) rfl ?_
                      refine zw_bret hm_41 dX4_fits_30 (by decide) ?_
                      show ma_wp X d w 40 44 [(0, .inr (.inr (some 91))), (1, .inl n)] [.inl (1 : Int32)] S111 _
                      refine zw_if0 hm_40 dX4_findRoom_44 (t := 62) rfl zc0_ne (fun _ => ?_) (fun hc => absurd (by decide) hc)
                      refine zw_push hm_40 dX4_findRoom_62 (v := .inr (.inr (some 91))) rfl ?_
                      refine zw_push hm_40 dX4_findRoom_63 (v := .inr (.inr (some 91))) rfl ?_
                      refine zw_gf hm_40 dX4_findRoom_64 (v := .inl (mI S111 91 5)) (zT_is hS111 s_91) (zT_t hS111 s_91) rfl f_4_34_4 rfl ?_
                      refine zw_push hm_40 dX4_findRoom_67 (v := .inl n) rfl ?_
                      refine zw_cv hm_40 dX4_findRoom_68 v_4_43_4 hm_41 [.inl n, .inl (mI S111 91 5)] [] rfl (zT_rt hS111 s_91 rfl) ⟨by omega, by omega⟩ rfl ?_
                      show ma_wp X (d - 1) (w - 22) 41 0 [(0, .inr (.inr (some 91))), (1, .inl (mI S111 91 5)), (2, .inl n)] [] S111 _
                      refine zw_push hm_41 dX4_fits_0 (v := .inl (mI S111 91 5)) rfl ?_
                      refine zw_if0 hm_41 dX4_fits_1 (t := 29) rfl zc0_lt ?_ ?_
                      · intro hc
                        rw [if_pos hc] at h
                        refine zw_push hm_41 dX4_fits_29 (v := .inl (0 : Int32)) rfl ?_
                        refine zw_bret hm_41 dX4_fits_30 (by decide) ?_
                        show ma_wp X d w 40 71 [(0, .inr (.inr (some 91))), (1, .inl n)] [.inl (0 : Int32)] S111 _
                        refine zw_if0 hm_40 dX4_findRoom_71 (t := 81) rfl zc0_eq (fun _ => ?_) (fun hc => absurd (by decide) hc)
                        refine zw_push hm_40 dX4_findRoom_81 (v := .inl (-1 : Int32)) rfl ?_
                        exact zw_iret hm_40 dX4_findRoom_82 h
                      · intro hc
                        rw [if_neg hc] at h
                        refine zw_push hm_41 dX4_fits_4 (v := .inl (mI S111 91 5)) rfl ?_
                        refine zw_push hm_41 dX4_fits_5 (v := .inl (93 : Int32)) rfl ?_
                        refine zw_if2 hm_41 dX4_fits_7 (t := 29) rfl zc2_ge ?_ ?_
                        · intro hc
                          rw [if_pos hc] at h
                          refine zw_push hm_41 dX4_fits_29 (v := .inl (0 : Int32)) rfl ?_
                          refine zw_bret hm_41 dX4_fits_30 (by decide) ?_
                          show ma_wp X d w 40 71 [(0, .inr (.inr (some 91))), (1, .inl n)] [.inl (0 : Int32)] S111 _
                          refine zw_if0 hm_40 dX4_findRoom_71 (t := 81) rfl zc0_eq (fun _ => ?_) (fun hc => absurd (by decide) hc)
                          refine zw_push hm_40 dX4_findRoom_81 (v := .inl (-1 : Int32)) rfl ?_
                          exact zw_iret hm_40 dX4_findRoom_82 h
                        · intro hc
                          rw [if_neg hc] at h
                          refine zw_push hm_41 dX4_fits_10 (v := .inr (.inr (some 91))) rfl ?_
                          refine zw_gf hm_41 dX4_fits_11 (v := .inr (.inr (some 92))) (zT_is hS111 s_91) (zT_t hS111 s_91) rfl f_4_9_4 (zT_f hS111 r_91_7) ?_
                          refine zw_push hm_41 dX4_fits_14 (v := .inl (mI S111 91 5)) rfl ?_
                          obtain ⟨hg, h⟩ := h
                          refine zw_ia hm_41 dX4_fits_15 (zT_is hS111 s_92) (zT_h hS111 s_92) rfl hg ?_
                          show ma_wp X (d - 1) (w - 22) 41 16 [(0, .inr (.inr (some 91))), (1, .inl (mI S111 91 5)), (2, .inl n)] [.inl (mI S111 92 (mI S111 91 5).toNatClampNeg)] S111 _
                          refine zw_push hm_41 dX4_fits_16 (v := .inl n) rfl ?_
                          refine zw_stk hm_41 dX4_fits_17 (st' := [.inl ((mI S111 92 (mI S111 91 5).toNatClampNeg) + n)]) rfl rfl ?_
                          refine zw_push hm_41 dX4_fits_18 (v := .inr (.inr (some 91))) rfl ?_
                          refine zw_gf hm_41 dX4_fits_19 (v := .inl (mI S111 91 2)) (zT_is hS111 s_91) (zT_t hS111 s_91) rfl f_4_18_4 rfl ?_
                          refine zw_if2 hm_41 dX4_fits_22 (t := 29) rfl zc2_gt ?_ ?_
                          · intro hc
                            rw [if_pos hc] at h
                            refine zw_push hm_41 dX4_fits_29 (v := .inl (0 : Int32)) rfl ?_
                            refine zw_bret hm_41 dX4_fits_30 (by decide) ?_
                            show ma_wp X d w 40 71 [(0, .inr (.inr (some 91))), (1, .inl n)] [.inl (0 : Int32)] S111 _
                            refine zw_if0 hm_40 dX4_findRoom_71 (t := 81) rfl zc0_eq (fun _ => ?_) (fun hc => absurd (by decide) hc)
                            refine zw_push hm_40 dX4_findRoom_81 (v := .inl (-1 : Int32)) rfl ?_
                            exact zw_iret hm_40 dX4_findRoom_82 h
                          · intro hc
                            rw [if_neg hc] at h
                            refine zw_push hm_41 dX4_fits_25 (v := .inl (1 : Int32)) rfl ?_
                            refine zw_goto hm_41 dX4_fits_26 (t := 30) rfl ?_
                            refine zw_bret hm_41 dX4_fits_30 (by decide) ?_
                            show ma_wp X d w 40 71 [(0, .inr (.inr (some 91))), (1, .inl n)] [.inl (1 : Int32)] S111 _
                            refine zw_if0 hm_40 dX4_findRoom_71 (t := 81) rfl zc0_eq (fun hc => absurd hc (by decide)) (fun _ => ?_)
                            refine zw_push hm_40 dX4_findRoom_74 (v := .inr (.inr (some 91))) rfl ?_
                            refine zw_cv hm_40 dX4_findRoom_75 v_4_60_4 hm_55 [] [] rfl (zT_rt hS111 s_91 rfl) ⟨by omega, by omega⟩ rfl (zw_mono h (zi_go ?_ ?_))
                            · intro v132 S131 hv
                              obtain ⟨hS131, h⟩ := hv
                              refine zw_goto hm_40 dX4_findRoom_78 (t := 82) rfl ?_
                              exact zw_iret hm_40 dX4_findRoom_82 h
                            · intro x S9 hx
                              exact ⟨by decide, hx⟩
              · intro x S9 hx
                exact ⟨by decide, hx⟩
          · intro x S9 hx
            exact ⟨by decide, hx⟩
        · intro hc
          rw [if_neg hc] at h
          refine zw_push hm_41 dX4_fits_25 (v := .inl (1 : Int32)) rfl ?_
          refine zw_goto hm_41 dX4_fits_26 (t := 30) rfl ?_
          refine zw_bret hm_41 dX4_fits_30 (by decide) ?_
          show ma_wp X d w 40 19 [(0, .inr (.inr (some 91))), (1, .inl n)] [.inl (1 : Int32)] S _
          refine zw_if0 hm_40 dX4_findRoom_19 (t := 35) rfl zc0_ne (fun _ => ?_) (fun hc => absurd (by decide) hc)
          refine zw_push hm_40 dX4_findRoom_35 (v := .inr (.inr (some 91))) rfl ?_
          refine zw_push hm_40 dX4_findRoom_36 (v := .inr (.inr (some 91))) rfl ?_
          refine zw_gf hm_40 dX4_findRoom_37 (v := .inl (mI S 91 5)) (zT_is hS s_91) (zT_t hS s_91) rfl f_4_34_4 rfl ?_
          refine zw_push hm_40 dX4_findRoom_40 (v := .inl n) rfl ?_
          refine zw_cv hm_40 dX4_findRoom_41 v_4_43_4 hm_41 [.inl n, .inl (mI S 91 5)] [] rfl (zT_rt hS s_91 rfl) ⟨by omega, by omega⟩ rfl ?_
          show ma_wp X (d - 1) (w - 22) 41 0 [(0, .inr (.inr (some 91))), (1, .inl (mI S 91 5)), (2, .inl n)] [] S _
          refine zw_push hm_41 dX4_fits_0 (v := .inl (mI S 91 5)) rfl ?_
          refine zw_if0 hm_41 dX4_fits_1 (t := 29) rfl zc0_lt ?_ ?_
          · intro hc
            rw [if_pos hc] at h
            refine zw_push hm_41 dX4_fits_29 (v := .inl (0 : Int32)) rfl ?_
            refine zw_bret hm_41 dX4_fits_30 (by decide) ?_
            show ma_wp X d w 40 44 [(0, .inr (.inr (some 91))), (1, .inl n)] [.inl (0 : Int32)] S _
            refine zw_if0 hm_40 dX4_findRoom_44 (t := 62) rfl zc0_ne (fun hc => absurd hc (by decide)) (fun _ => ?_)
            refine zw_push hm_40 dX4_findRoom_47 (v := .inr (.inr (some 91))) rfl ?_
            refine zw_push hm_40 dX4_findRoom_48 (v := .inr (.inr (some 91))) rfl ?_
            refine zw_cv hm_40 dX4_findRoom_49 v_4_54_4 hm_52 [] [.inr (.inr (some 91))] rfl (zT_rt hS s_91 rfl) ⟨by omega, by omega⟩ rfl (zw_mono h (zi_go ?_ ?_))
            · intro v134 S133 hv
              obtain ⟨hS133, h⟩ := hv
              refine zw_push hm_40 dX4_findRoom_52 (v := .inr (.inr (some 91))) rfl ?_
              refine zw_gf hm_40 dX4_findRoom_53 (v := .inl (mI S133 91 5)) (zT_is hS133 s_91) (zT_t hS133 s_91) rfl f_4_34_4 rfl ?_
              refine zw_cs hm_40 dX4_findRoom_56 pn_4_57 sl_4_57 hm_54 [.inl (mI S133 91 5), .inl v134] [.inr (.inr (some 91))] rfl ⟨by omega, by omega⟩ rfl ?_
              show ma_wp X (d - 1) (w - 21) 54 0 [(0, .inl v134), (1, .inl (mI S133 91 5))] [] S133 _
              refine zw_push hm_54 dX4_orElse_0 (v := .inl v134) rfl ?_
              refine zw_push hm_54 dX4_orElse_1 (v := .inl (-1 : Int32)) rfl ?_
              refine zw_if2 hm_54 dX4_orElse_2 (t := 9) rfl zc2_ne ?_ ?_
              · intro hc
                rw [if_neg hc] at h
                refine zw_push hm_54 dX4_orElse_9 (v := .inl v134) rfl ?_
                refine zw_iret hm_54 dX4_orElse_10 ?_
                show ma_wp X d w 40 59 [(0, .inr (.inr (some 91))), (1, .inl n)] [.inl v134, .inr (.inr (some 91))] S133 _
                refine zw_pf hm_40 dX4_findRoom_59 (zT_is hS133 s_91) (zT_t hS133 s_91) p_4_34_4 zk_int ?_
                refine zw_push hm_40 dX4_findRoom_62 (v := .inr (.inr (some 91))) rfl ?_
                refine zw_push hm_40 dX4_findRoom_63 (v := .inr (.inr (some 91))) rfl ?_
                refine zw_gf hm_40 dX4_findRoom_64 (v := .inl v134) (zT_is (zT_pi hS133) s_91) (zT_t (zT_pi hS133) s_91) rfl f_4_34_4 rfl ?_
                refine zw_push hm_40 dX4_findRoom_67 (v := .inl n) rfl ?_
                refine zw_cv hm_40 dX4_findRoom_68 v_4_43_4 hm_41 [.inl n, .inl v134] [] rfl (zT_rt (zT_pi hS133) s_91 rfl) ⟨by omega, by omega⟩ rfl ?_
                show ma_wp X (d - 1) (w - 22) 41 0 [(0, .inr (.inr (some 91))), (1, .inl v134), (2, .inl n)] [] (ma_put S133 91 5 (.inl v134)) _
                refine zw_push hm_41 dX4_fits_0 (v := .inl v134) rfl ?_
                refine zw_if0 hm_41 dX4_fits_1 (t := 29) rfl zc0_lt ?_ ?_
                · intro hc
                  rw [if_pos hc] at h
                  refine zw_push hm_41 dX4_fits_29 (v := .inl (0 : Int32)) rfl ?_
                  refine zw_bret hm_41 dX4_fits_30 (by decide) ?_
                  show ma_wp X d w 40 71 [(0, .inr (.inr (some 91))), (1, .inl n)] [.inl (0 : Int32)] (ma_put S133 91 5 (.inl v134)) _
                  refine zw_if0 hm_40 dX4_findRoom_71 (t := 81) rfl zc0_eq (fun _ => ?_) (fun hc => absurd (by decide) hc)
                  refine zw_push hm_40 dX4_findRoom_81 (v := .inl (-1 : Int32)) rfl ?_
                  exact zw_iret hm_40 dX4_findRoom_82 h
                · intro hc
                  rw [if_neg hc] at h
                  refine zw_push hm_41 dX4_fits_4 (v := .inl v134) rfl ?_
                  refine zw_push hm_41 dX4_fits_5 (v := .inl (93 : Int32)) rfl ?_
                  refine zw_if2 hm_41 dX4_fits_7 (t := 29) rfl zc2_ge ?_ ?_
                  · intro hc
                    rw [if_pos hc] at h
                    refine zw_push hm_41 dX4_fits_29 (v := .inl (0 : Int32)) rfl ?_
                    refine zw_bret hm_41 dX4_fits_30 (by decide) ?_
                    show ma_wp X d w 40 71 [(0, .inr (.inr (some 91))), (1, .inl n)] [.inl (0 : Int32)] (ma_put S133 91 5 (.inl v134)) _
                    refine zw_if0 hm_40 dX4_findRoom_71 (t := 81) rfl zc0_eq (fun _ => ?_) (fun hc => absurd (by decide) hc)
                    refine zw_push hm_40 dX4_findRoom_81 (v := .inl (-1 : Int32)) rfl ?_
                    exact zw_iret hm_40 dX4_findRoom_82 h
                  · intro hc
                    rw [if_neg hc] at h
                    refine zw_push hm_41 dX4_fits_10 (v := .inr (.inr (some 91))) rfl ?_
                    refine zw_gf hm_41 dX4_fits_11 (v := .inr (.inr (some 92))) (zT_is (zT_pi hS133) s_91) (zT_t (zT_pi hS133) s_91) rfl f_4_9_4 (zT_f (zT_pi hS133) r_91_7) ?_
                    refine zw_push hm_41 dX4_fits_14 (v := .inl v134) rfl ?_
                    obtain ⟨hg, h⟩ := h
                    refine zw_ia hm_41 dX4_fits_15 (zT_is (zT_pi hS133) s_92) (zT_h (zT_pi hS133) s_92) rfl hg ?_
                    show ma_wp X (d - 1) (w - 22) 41 16 [(0, .inr (.inr (some 91))), (1, .inl v134), (2, .inl n)] [.inl (mI S133 92 v134.toNatClampNeg)] (ma_put S133 91 5 (.inl v134)) _
                    refine zw_push hm_41 dX4_fits_16 (v := .inl n) rfl ?_
                    refine zw_stk hm_41 dX4_fits_17 (st' := [.inl ((mI S133 92 v134.toNatClampNeg) + n)]) rfl rfl ?_
                    refine zw_push hm_41 dX4_fits_18 (v := .inr (.inr (some 91))) rfl ?_
                    refine zw_gf hm_41 dX4_fits_19 (v := .inl (mI S133 91 2)) (zT_is (zT_pi hS133) s_91) (zT_t (zT_pi hS133) s_91) rfl f_4_18_4 rfl ?_
                    refine zw_if2 hm_41 dX4_fits_22 (t := 29) rfl zc2_gt ?_ ?_
                    · intro hc
                      rw [if_pos hc] at h
                      refine zw_push hm_41 dX4_fits_29 (v := .inl (0 : Int32)) rfl ?_
                      refine zw_bret hm_41 dX4_fits_30 (by decide) ?_
                      show ma_wp X d w 40 71 [(0, .inr (.inr (some 91))), (1, .inl n)] [.inl (0 : Int32)] (ma_put S133 91 5 (.inl v134)) _
                      refine zw_if0 hm_40 dX4_findRoom_71 (t := 81) rfl zc0_eq (fun _ => ?_) (fun hc => absurd (by decide) hc)
                      refine zw_push hm_40 dX4_findRoom_81 (v := .inl (-1 : Int32)) rfl ?_
                      exact zw_iret hm_40 dX4_findRoom_82 h
                    · intro hc
                      rw [if_neg hc] at h
                      refine zw_push hm_41 dX4_fits_25 (v := .inl (1 : Int32)) rfl ?_
                      refine zw_goto hm_41 dX4_fits_26 (t := 30) rfl ?_
                      refine zw_bret hm_41 dX4_fits_30 (by decide) ?_
                      show ma_wp X d w 40 71 [(0, .inr (.inr (some 91))), (1, .inl n)] [.inl (1 : Int32)] (ma_put S133 91 5 (.inl v134)) _
                      refine zw_if0 hm_40 dX4_findRoom_71 (t := 81) rfl zc0_eq (fun hc => absurd hc (by decide)) (fun _ => ?_)
                      refine zw_push hm_40 dX4_findRoom_74 (v := .inr (.inr (some 91))) rfl ?_
                      refine zw_cv hm_40 dX4_findRoom_75 v_4_60_4 hm_55 [] [] rfl (zT_rt (zT_pi hS133) s_91 rfl) ⟨by omega, by omega⟩ rfl (zw_mono h (zi_go ?_ ?_))
                      · intro v136 S135 hv
                        obtain ⟨hS135, h⟩ := hv
                        refine zw_goto hm_40 dX4_findRoom_78 (t := 82) rfl ?_
                        exact zw_iret hm_40 dX4_findRoom_82 h
                      · intro x S9 hx
                        exact ⟨by decide, hx⟩
              · intro hc
                rw [if_pos (Classical.not_not.mp hc)] at h
                refine zw_push hm_54 dX4_orElse_5 (v := .inl (mI S133 91 5)) rfl ?_
                refine zw_goto hm_54 dX4_orElse_6 (t := 10) rfl ?_
                refine zw_iret hm_54 dX4_orElse_10 ?_
                show ma_wp X d w 40 59 [(0, .inr (.inr (some 91))), (1, .inl n)] [.inl (mI S133 91 5), .inr (.inr (some 91))] S133 _
                refine zw_pf hm_40 dX4_findRoom_59 (zT_is hS133 s_91) (zT_t hS133 s_91) p_4_34_4 zk_int ?_
                refine zw_push hm_40 dX4_findRoom_62 (v := .inr (.inr (some 91))) rfl ?_
                refine zw_push hm_40 dX4_findRoom_63 (v := .inr (.inr (some 91))) rfl ?_
                refine zw_gf hm_40 dX4_findRoom_64 (v := .inl (mI S133 91 5)) (zT_is (zT_pi hS133) s_91) (zT_t (zT_pi hS133) s_91) rfl f_4_34_4 rfl ?_
                refine zw_push hm_40 dX4_findRoom_67 (v := .inl n) rfl ?_
                refine zw_cv hm_40 dX4_findRoom_68 v_4_43_4 hm_41 [.inl n, .inl (mI S133 91 5)] [] rfl (zT_rt (zT_pi hS133) s_91 rfl) ⟨by omega, by omega⟩ rfl ?_
                show ma_wp X (d - 1) (w - 22) 41 0 [(0, .inr (.inr (some 91))), (1, .inl (mI S133 91 5)), (2, .inl n)] [] (ma_put S133 91 5 (.inl (mI S133 91 5))) _
                refine zw_push hm_41 dX4_fits_0 (v := .inl (mI S133 91 5)) rfl ?_
                refine zw_if0 hm_41 dX4_fits_1 (t := 29) rfl zc0_lt ?_ ?_
                · intro hc
                  rw [if_pos hc] at h
                  refine zw_push hm_41 dX4_fits_29 (v := .inl (0 : Int32)) rfl ?_
                  refine zw_bret hm_41 dX4_fits_30 (by decide) ?_
                  show ma_wp X d w 40 71 [(0, .inr (.inr (some 91))), (1, .inl n)] [.inl (0 : Int32)] (ma_put S133 91 5 (.inl (mI S133 91 5))) _
                  refine zw_if0 hm_40 dX4_findRoom_71 (t := 81) rfl zc0_eq (fun _ => ?_) (fun hc => absurd (by decide) hc)
                  refine zw_push hm_40 dX4_findRoom_81 (v := .inl (-1 : Int32)) rfl ?_
                  exact zw_iret hm_40 dX4_findRoom_82 h
                · intro hc
                  rw [if_neg hc] at h
                  refine zw_push hm_41 dX4_fits_4 (v := .inl (mI S133 91 5)) rfl ?_
                  refine zw_push hm_41 dX4_fits_5 (v := .inl (93 : Int32)) rfl ?_
                  refine zw_if2 hm_41 dX4_fits_7 (t := 29) rfl zc2_ge ?_ ?_
                  · intro hc
                    rw [if_pos hc] at h
                    refine zw_push hm_41 dX4_fits_29 (v := .inl (0 : Int32)) rfl ?_
                    refine zw_bret hm_41 dX4_fits_30 (by decide) ?_
                    show ma_wp X d w 40 71 [(0, .inr (.inr (some 91))), (1, .inl n)] [.inl (0 : Int32)] (ma_put S133 91 5 (.inl (mI S133 91 5))) _
                    refine zw_if0 hm_40 dX4_findRoom_71 (t := 81) rfl zc0_eq (fun _ => ?_) (fun hc => absurd (by decide) hc)
                    refine zw_push hm_40 dX4_findRoom_81 (v := .inl (-1 : Int32)) rfl ?_
                    exact zw_iret hm_40 dX4_findRoom_82 h
                  · intro hc
                    rw [if_neg hc] at h
                    refine zw_push hm_41 dX4_fits_10 (v := .inr (.inr (some 91))) rfl ?_
                    refine zw_gf hm_41 dX4_fits_11 (v := .inr (.inr (some 92))) (zT_is (zT_pi hS133) s_91) (zT_t (zT_pi hS133) s_91) rfl f_4_9_4 (zT_f (zT_pi hS133) r_91_7) ?_
                    refine zw_push hm_41 dX4_fits_14 (v := .inl (mI S133 91 5)) rfl ?_
                    obtain ⟨hg, h⟩ := h
                    refine zw_ia hm_41 dX4_fits_15 (zT_is (zT_pi hS133) s_92) (zT_h (zT_pi hS133) s_92) rfl hg ?_
                    show ma_wp X (d - 1) (w - 22) 41 16 [(0, .inr (.inr (some 91))), (1, .inl (mI S133 91 5)), (2, .inl n)] [.inl (mI S133 92 (mI S133 91 5).toNatClampNeg)] (ma_put S133 91 5 (.inl (mI S133 91 5))) _
                    refine zw_push hm_41 dX4_fits_16 (v := .inl n) rfl ?_
                    refine zw_stk hm_41 dX4_fits_17 (st' := [.inl ((mI S133 92 (mI S133 91 5).toNatClampNeg) + n)]) rfl rfl ?_
                    refine zw_push hm_41 dX4_fits_18 (v := .inr (.inr (some 91))) rfl ?_
                    refine zw_gf hm_41 dX4_fits_19 (v := .inl (mI S133 91 2)) (zT_is (zT_pi hS133) s_91) (zT_t (zT_pi hS133) s_91) rfl f_4_18_4 rfl ?_
                    refine zw_if2 hm_41 dX4_fits_22 (t := 29) rfl zc2_gt ?_ ?_
                    · intro hc
                      rw [if_pos hc] at h
                      refine zw_push hm_41 dX4_fits_29 (v := .inl (0 : Int32)) rfl ?_
                      refine zw_bret hm_41 dX4_fits_30 (by decide) ?_
                      show ma_wp X d w 40 71 [(0, .inr (.inr (some 91))), (1, .inl n)] [.inl (0 : Int32)] (ma_put S133 91 5 (.inl (mI S133 91 5))) _
                      refine zw_if0 hm_40 dX4_findRoom_71 (t := 81) rfl zc0_eq (fun _ => ?_) (fun hc => absurd (by decide) hc)
                      refine zw_push hm_40 dX4_findRoom_81 (v := .inl (-1 : Int32)) rfl ?_
                      exact zw_iret hm_40 dX4_findRoom_82 h
                    · intro hc
                      rw [if_neg hc] at h
                      refine zw_push hm_41 dX4_fits_25 (v := .inl (1 : Int32)) rfl ?_
                      refine zw_goto hm_41 dX4_fits_26 (t := 30) rfl ?_
                      refine zw_bret hm_41 dX4_fits_30 (by decide) ?_
                      show ma_wp X d w 40 71 [(0, .inr (.inr (some 91))), (1, .inl n)] [.inl (1 : Int32)] (ma_put S133 91 5 (.inl (mI S133 91 5))) _
                      refine zw_if0 hm_40 dX4_findRoom_71 (t := 81) rfl zc0_eq (fun hc => absurd hc (by decide)) (fun _ => ?_)
                      refine zw_push hm_40 dX4_findRoom_74 (v := .inr (.inr (some 91))) rfl ?_
                      refine zw_cv hm_40 dX4_findRoom_75 v_4_60_4 hm_55 [] [] rfl (zT_rt (zT_pi hS133) s_91 rfl) ⟨by omega, by omega⟩ rfl (zw_mono h (zi_go ?_ ?_))
                      · intro v138 S137 hv
                        obtain ⟨hS137, h⟩ := hv
                        refine zw_goto hm_40 dX4_findRoom_78 (t := 82) rfl ?_
                        exact zw_iret hm_40 dX4_findRoom_82 h
                      · intro x S9 hx
                        exact ⟨by decide, hx⟩
            · intro x S9 hx
              exact ⟨by decide, hx⟩
          · intro hc
            rw [if_neg hc] at h
            refine zw_push hm_41 dX4_fits_4 (v := .inl (mI S 91 5)) rfl ?_
            refine zw_push hm_41 dX4_fits_5 (v := .inl (93 : Int32)) rfl ?_
            refine zw_if2 hm_41 dX4_fits_7 (t := 29) rfl zc2_ge ?_ ?_
            · intro hc
              rw [if_pos hc] at h
              refine zw_push hm_41 dX4_fits_29 (v := .inl (0 : Int32)) rfl ?_
              refine zw_bret hm_41 dX4_fits_30 (by decide) ?_
              show ma_wp X d w 40 44 [(0, .inr (.inr (some 91))), (1, .inl n)] [.inl (0 : Int32)] S _
              refine zw_if0 hm_40 dX4_findRoom_44 (t := 62) rfl zc0_ne (fun hc => absurd hc (by decide)) (fun _ => ?_)
              refine zw_push hm_40 dX4_findRoom_47 (v := .inr (.inr (some 91))) rfl ?_
              refine zw_push hm_40 dX4_findRoom_48 (v := .inr (.inr (some 91))) rfl ?_
              refine zw_cv hm_40 dX4_findRoom_49 v_4_54_4 hm_52 [] [.inr (.inr (some 91))] rfl (zT_rt hS s_91 rfl) ⟨by omega, by omega⟩ rfl (zw_mono h (zi_go ?_ ?_))
              · intro v140 S139 hv
                obtain ⟨hS139, h⟩ := hv
                refine zw_push hm_40 dX4_findRoom_52 (v := .inr (.inr (some 91))) rfl ?_
                refine zw_gf hm_40 dX4_findRoom_53 (v := .inl (mI S139 91 5)) (zT_is hS139 s_91) (zT_t hS139 s_91) rfl f_4_34_4 rfl ?_
                refine zw_cs hm_40 dX4_findRoom_56 pn_4_57 sl_4_57 hm_54 [.inl (mI S139 91 5), .inl v140] [.inr (.inr (some 91))] rfl ⟨by omega, by omega⟩ rfl ?_
                show ma_wp X (d - 1) (w - 21) 54 0 [(0, .inl v140), (1, .inl (mI S139 91 5))] [] S139 _
                refine zw_push hm_54 dX4_orElse_0 (v := .inl v140) rfl ?_
                refine zw_push hm_54 dX4_orElse_1 (v := .inl (-1 : Int32)) rfl ?_
                refine zw_if2 hm_54 dX4_orElse_2 (t := 9) rfl zc2_ne ?_ ?_
                · intro hc
                  rw [if_neg hc] at h
                  refine zw_push hm_54 dX4_orElse_9 (v := .inl v140) rfl ?_
                  refine zw_iret hm_54 dX4_orElse_10 ?_
                  show ma_wp X d w 40 59 [(0, .inr (.inr (some 91))), (1, .inl n)] [.inl v140, .inr (.inr (some 91))] S139 _
                  refine zw_pf hm_40 dX4_findRoom_59 (zT_is hS139 s_91) (zT_t hS139 s_91) p_4_34_4 zk_int ?_
                  refine zw_push hm_40 dX4_findRoom_62 (v := .inr (.inr (some 91))) rfl ?_
                  refine zw_push hm_40 dX4_findRoom_63 (v := .inr (.inr (some 91))) rfl ?_
                  refine zw_gf hm_40 dX4_findRoom_64 (v := .inl v140) (zT_is (zT_pi hS139) s_91) (zT_t (zT_pi hS139) s_91) rfl f_4_34_4 rfl ?_
                  refine zw_push hm_40 dX4_findRoom_67 (v := .inl n) rfl ?_
                  refine zw_cv hm_40 dX4_findRoom_68 v_4_43_4 hm_41 [.inl n, .inl v140] [] rfl (zT_rt (zT_pi hS139) s_91 rfl) ⟨by omega, by omega⟩ rfl ?_
                  show ma_wp X (d - 1) (w - 22) 41 0 [(0, .inr (.inr (some 91))), (1, .inl v140), (2, .inl n)] [] (ma_put S139 91 5 (.inl v140)) _
                  refine zw_push hm_41 dX4_fits_0 (v := .inl v140) rfl ?_
                  refine zw_if0 hm_41 dX4_fits_1 (t := 29) rfl zc0_lt ?_ ?_
                  · intro hc
                    rw [if_pos hc] at h
                    refine zw_push hm_41 dX4_fits_29 (v := .inl (0 : Int32)) rfl ?_
                    refine zw_bret hm_41 dX4_fits_30 (by decide) ?_
                    show ma_wp X d w 40 71 [(0, .inr (.inr (some 91))), (1, .inl n)] [.inl (0 : Int32)] (ma_put S139 91 5 (.inl v140)) _
                    refine zw_if0 hm_40 dX4_findRoom_71 (t := 81) rfl zc0_eq (fun _ => ?_) (fun hc => absurd (by decide) hc)
                    refine zw_push hm_40 dX4_findRoom_81 (v := .inl (-1 : Int32)) rfl ?_
                    exact zw_iret hm_40 dX4_findRoom_82 h
                  · intro hc
                    rw [if_neg hc] at h
                    refine zw_push hm_41 dX4_fits_4 (v := .inl v140) rfl ?_
                    refine zw_push hm_41 dX4_fits_5 (v := .inl (93 : Int32)) rfl ?_
                    refine zw_if2 hm_41 dX4_fits_7 (t := 29) rfl zc2_ge ?_ ?_
                    · intro hc
                      rw [if_pos hc] at h
                      refine zw_push hm_41 dX4_fits_29 (v := .inl (0 : Int32)) rfl ?_
                      refine zw_bret hm_41 dX4_fits_30 (by decide) ?_
                      show ma_wp X d w 40 71 [(0, .inr (.inr (some 91))), (1, .inl n)] [.inl (0 : Int32)] (ma_put S139 91 5 (.inl v140)) _
                      refine zw_if0 hm_40 dX4_findRoom_71 (t := 81) rfl zc0_eq (fun _ => ?_) (fun hc => absurd (by decide) hc)
                      refine zw_push hm_40 dX4_findRoom_81 (v := .inl (-1 : Int32)) rfl ?_
                      exact zw_iret hm_40 dX4_findRoom_82 h
                    · intro hc
                      rw [if_neg hc] at h
                      refine zw_push hm_41 dX4_fits_10 (v := .inr (.inr (some 91))) rfl ?_
                      refine zw_gf hm_41 dX4_fits_11 (v := .inr (.inr (some 92))) (zT_is (zT_pi hS139) s_91) (zT_t (zT_pi hS139) s_91) rfl f_4_9_4 (zT_f (zT_pi hS139) r_91_7) ?_
                      refine zw_push hm_41 dX4_fits_14 (v := .inl v140) rfl ?_
                      obtain ⟨hg, h⟩ := h
                      refine zw_ia hm_41 dX4_fits_15 (zT_is (zT_pi hS139) s_92) (zT_h (zT_pi hS139) s_92) rfl hg ?_
                      show ma_wp X (d - 1) (w - 22) 41 16 [(0, .inr (.inr (some 91))), (1, .inl v140), (2, .inl n)] [.inl (mI S139 92 v140.toNatClampNeg)] (ma_put S139 91 5 (.inl v140)) _
                      refine zw_push hm_41 dX4_fits_16 (v := .inl n) rfl ?_
                      refine zw_stk hm_41 dX4_fits_17 (st' := [.inl ((mI S139 92 v140.toNatClampNeg) + n)]) rfl rfl ?_
                      refine zw_push hm_41 dX4_fits_18 (v := .inr (.inr (some 91))) rfl ?_
                      refine zw_gf hm_41 dX4_fits_19 (v := .inl (mI S139 91 2)) (zT_is (zT_pi hS139) s_91) (zT_t (zT_pi hS139) s_91) rfl f_4_18_4 rfl ?_
                      refine zw_if2 hm_41 dX4_fits_22 (t := 29) rfl zc2_gt ?_ ?_
                      · intro hc
                        rw [if_pos hc] at h
                        refine zw_push hm_41 dX4_fits_29 (v := .inl (0 : Int32)) rfl ?_
                        refine zw_bret hm_41 dX4_fits_30 (by decide) ?_
                        show ma_wp X d w 40 71 [(0, .inr (.inr (some 91))), (1, .inl n)] [.inl (0 : Int32)] (ma_put S139 91 5 (.inl v140)) _
                        refine zw_if0 hm_40 dX4_findRoom_71 (t := 81) rfl zc0_eq (fun _ => ?_) (fun hc => absurd (by decide) hc)
                        refine zw_push hm_40 dX4_findRoom_81 (v := .inl (-1 : Int32)) rfl ?_
                        exact zw_iret hm_40 dX4_findRoom_82 h
                      · intro hc
                        rw [if_neg hc] at h
                        refine zw_push hm_41 dX4_fits_25 (v := .inl (1 : Int32)) rfl ?_
                        refine zw_goto hm_41 dX4_fits_26 (t := 30) rfl ?_
                        refine zw_bret hm_41 dX4_fits_30 (by decide) ?_
                        show ma_wp X d w 40 71 [(0, .inr (.inr (some 91))), (1, .inl n)] [.inl (1 : Int32)] (ma_put S139 91 5 (.inl v140)) _
                        refine zw_if0 hm_40 dX4_findRoom_71 (t := 81) rfl zc0_eq (fun hc => absurd hc (by decide)) (fun _ => ?_)
                        refine zw_push hm_40 dX4_findRoom_74 (v := .inr (.inr (some 91))) rfl ?_
                        refine zw_cv hm_40 dX4_findRoom_75 v_4_60_4 hm_55 [] [] rfl (zT_rt (zT_pi hS139) s_91 rfl) ⟨by omega, by omega⟩ rfl (zw_mono h (zi_go ?_ ?_))
                        · intro v142 S141 hv
                          obtain ⟨hS141, h⟩ := hv
                          refine zw_goto hm_40 dX4_findRoom_78 (t := 82) rfl ?_
                          exact zw_iret hm_40 dX4_findRoom_82 h
                        · intro x S9 hx
                          exact ⟨by decide, hx⟩
                · intro hc
                  rw [if_pos (Classical.not_not.mp hc)] at h
                  refine zw_push hm_54 dX4_orElse_5 (v := .inl (mI S139 91 5)) rfl ?_
                  refine zw_goto hm_54 dX4_orElse_6 (t := 10) rfl ?_
                  refine zw_iret hm_54 dX4_orElse_10 ?_
                  show ma_wp X d w 40 59 [(0, .inr (.inr (some 91))), (1, .inl n)] [.inl (mI S139 91 5), .inr (.inr (some 91))] S139 _
                  refine zw_pf hm_40 dX4_findRoom_59 (zT_is hS139 s_91) (zT_t hS139 s_91) p_4_34_4 zk_int ?_
                  refine zw_push hm_40 dX4_findRoom_62 (v := .inr (.inr (some 91))) rfl ?_
                  refine zw_push hm_40 dX4_findRoom_63 (v := .inr (.inr (some 91))) rfl ?_
                  refine zw_gf hm_40 dX4_findRoom_64 (v := .inl (mI S139 91 5)) (zT_is (zT_pi hS139) s_91) (zT_t (zT_pi hS139) s_91) rfl f_4_34_4 rfl ?_
                  refine zw_push hm_40 dX4_findRoom_67 (v := .inl n) rfl ?_
                  refine zw_cv hm_40 dX4_findRoom_68 v_4_43_4 hm_41 [.inl n, .inl (mI S139 91 5)] [] rfl (zT_rt (zT_pi hS139) s_91 rfl) ⟨by omega, by omega⟩ rfl ?_
                  show ma_wp X (d - 1) (w - 22) 41 0 [(0, .inr (.inr (some 91))), (1, .inl (mI S139 91 5)), (2, .inl n)] [] (ma_put S139 91 5 (.inl (mI S139 91 5))) _
                  refine zw_push hm_41 dX4_fits_0 (v := .inl (mI S139 91 5)) rfl ?_
                  refine zw_if0 hm_41 dX4_fits_1 (t := 29) rfl zc0_lt ?_ ?_
                  · intro hc
                    rw [if_pos hc] at h
                    refine zw_push hm_41 dX4_fits_29 (v := .inl (0 : Int32)) rfl ?_
                    refine zw_bret hm_41 dX4_fits_30 (by decide) ?_
                    show ma_wp X d w 40 71 [(0, .inr (.inr (some 91))), (1, .inl n)] [.inl (0 : Int32)] (ma_put S139 91 5 (.inl (mI S139 91 5))) _
                    refine zw_if0 hm_40 dX4_findRoom_71 (t := 81) rfl zc0_eq (fun _ => ?_) (fun hc => absurd (by decide) hc)
                    refine zw_push hm_40 dX4_findRoom_81 (v := .inl (-1 : Int32)) rfl ?_
                    exact zw_iret hm_40 dX4_findRoom_82 h
                  · intro hc
                    rw [if_neg hc] at h
                    refine zw_push hm_41 dX4_fits_4 (v := .inl (mI S139 91 5)) rfl ?_
                    refine zw_push hm_41 dX4_fits_5 (v := .inl (93 : Int32)) rfl ?_
                    refine zw_if2 hm_41 dX4_fits_7 (t := 29) rfl zc2_ge ?_ ?_
                    · intro hc
                      rw [if_pos hc] at h
                      refine zw_push hm_41 dX4_fits_29 (v := .inl (0 : Int32)) rfl ?_
                      refine zw_bret hm_41 dX4_fits_30 (by decide) ?_
                      show ma_wp X d w 40 71 [(0, .inr (.inr (some 91))), (1, .inl n)] [.inl (0 : Int32)] (ma_put S139 91 5 (.inl (mI S139 91 5))) _
                      refine zw_if0 hm_40 dX4_findRoom_71 (t := 81) rfl zc0_eq (fun _ => ?_) (fun hc => absurd (by decide) hc)
                      refine zw_push hm_40 dX4_findRoom_81 (v := .inl (-1 : Int32)) rfl ?_
                      exact zw_iret hm_40 dX4_findRoom_82 h
                    · intro hc
                      rw [if_neg hc] at h
                      refine zw_push hm_41 dX4_fits_10 (v := .inr (.inr (some 91))) rfl ?_
                      refine zw_gf hm_41 dX4_fits_11 (v := .inr (.inr (some 92))) (zT_is (zT_pi hS139) s_91) (zT_t (zT_pi hS139) s_91) rfl f_4_9_4 (zT_f (zT_pi hS139) r_91_7) ?_
                      refine zw_push hm_41 dX4_fits_14 (v := .inl (mI S139 91 5)) rfl ?_
                      obtain ⟨hg, h⟩ := h
                      refine zw_ia hm_41 dX4_fits_15 (zT_is (zT_pi hS139) s_92) (zT_h (zT_pi hS139) s_92) rfl hg ?_
                      show ma_wp X (d - 1) (w - 22) 41 16 [(0, .inr (.inr (some 91))), (1, .inl (mI S139 91 5)), (2, .inl n)] [.inl (mI S139 92 (mI S139 91 5).toNatClampNeg)] (ma_put S139 91 5 (.inl (mI S139 91 5))) _
                      refine zw_push hm_41 dX4_fits_16 (v := .inl n) rfl ?_
                      refine zw_stk hm_41 dX4_fits_17 (st' := [.inl ((mI S139 92 (mI S139 91 5).toNatClampNeg) + n)]) rfl rfl ?_
                      refine zw_push hm_41 dX4_fits_18 (v := .inr (.inr (some 91))) rfl ?_
                      refine zw_gf hm_41 dX4_fits_19 (v := .inl (mI S139 91 2)) (zT_is (zT_pi hS139) s_91) (zT_t (zT_pi hS139) s_91) rfl f_4_18_4 rfl ?_
                      refine zw_if2 hm_41 dX4_fits_22 (t := 29) rfl zc2_gt ?_ ?_
                      · intro hc
                        rw [if_pos hc] at h
                        refine zw_push hm_41 dX4_fits_29 (v := .inl (0 : Int32)) rfl ?_
                        refine zw_bret hm_41 dX4_fits_30 (by decide) ?_
                        show ma_wp X d w 40 71 [(0, .inr (.inr (some 91))), (1, .inl n)] [.inl (0 : Int32)] (ma_put S139 91 5 (.inl (mI S139 91 5))) _
                        refine zw_if0 hm_40 dX4_findRoom_71 (t := 81) rfl zc0_eq (fun _ => ?_) (fun hc => absurd (by decide) hc)
                        refine zw_push hm_40 dX4_findRoom_81 (v := .inl (-1 : Int32)) rfl ?_
                        exact zw_iret hm_40 dX4_findRoom_82 h
                      · intro hc
                        rw [if_neg hc] at h
                        refine zw_push hm_41 dX4_fits_25 (v := .inl (1 : Int32)) rfl ?_
                        refine zw_goto hm_41 dX4_fits_26 (t := 30) rfl ?_
                        refine zw_bret hm_41 dX4_fits_30 (by decide) ?_
                        show ma_wp X d w 40 71 [(0, .inr (.inr (some 91))), (1, .inl n)] [.inl (1 : Int32)] (ma_put S139 91 5 (.inl (mI S139 91 5))) _
                        refine zw_if0 hm_40 dX4_findRoom_71 (t := 81) rfl zc0_eq (fun hc => absurd hc (by decide)) (fun _ => ?_)
                        refine zw_push hm_40 dX4_findRoom_74 (v := .inr (.inr (some 91))) rfl ?_
                        refine zw_cv hm_40 dX4_findRoom_75 v_4_60_4 hm_55 [] [] rfl (zT_rt (zT_pi hS139) s_91 rfl) ⟨by omega, by omega⟩ rfl (zw_mono h (zi_go ?_ ?_))
                        · intro v144 S143 hv
                          obtain ⟨hS143, h⟩ := hv
                          refine zw_goto hm_40 dX4_findRoom_78 (t := 82) rfl ?_
                          exact zw_iret hm_40 dX4_findRoom_82 h
                        · intro x S9 hx
                          exact ⟨by decide, hx⟩
              · intro x S9 hx
                exact ⟨by decide, hx⟩
            · intro hc
              rw [if_neg hc] at h
              refine zw_push hm_41 dX4_fits_10 (v := .inr (.inr (some 91))) rfl ?_
              refine zw_gf hm_41 dX4_fits_11 (v := .inr (.inr (some 92))) (zT_is hS s_91) (zT_t hS s_91) rfl f_4_9_4 (zT_f hS r_91_7) ?_
              refine zw_push hm_41 dX4_fits_14 (v := .inl (mI S 91 5)) rfl ?_
              obtain ⟨hg, h⟩ := h
              refine zw_ia hm_41 dX4_fits_15 (zT_is hS s_92) (zT_h hS s_92) rfl hg ?_
              show ma_wp X (d - 1) (w - 22) 41 16 [(0, .inr (.inr (some 91))), (1, .inl (mI S 91 5)), (2, .inl n)] [.inl (mI S 92 (mI S 91 5).toNatClampNeg)] S _
              refine zw_push hm_41 dX4_fits_16 (v := .inl n) rfl ?_
              refine zw_stk hm_41 dX4_fits_17 (st' := [.inl ((mI S 92 (mI S 91 5).toNatClampNeg) + n)]) rfl rfl ?_
              refine zw_push hm_41 dX4_fits_18 (v := .inr (.inr (some 91))) rfl ?_
              refine zw_gf hm_41 dX4_fits_19 (v := .inl (mI S 91 2)) (zT_is hS s_91) (zT_t hS s_91) rfl f_4_18_4 rfl ?_
              refine zw_if2 hm_41 dX4_fits_22 (t := 29) rfl zc2_gt ?_ ?_
              · intro hc
                rw [if_pos hc] at h
                refine zw_push hm_41 dX4_fits_29 (v := .inl (0 : Int32)) rfl ?_
                refine zw_bret hm_41 dX4_fits_30 (by decide) ?_
                show ma_wp X d w 40 44 [(0, .inr (.inr (some 91))), (1, .inl n)] [.inl (0 : Int32)] S _
                refine zw_if0 hm_40 dX4_findRoom_44 (t := 62) rfl zc0_ne (fun hc => absurd hc (by decide)) (fun _ => ?_)
                refine zw_push hm_40 dX4_findRoom_47 (v := .inr (.inr (some 91))) rfl ?_
                refine zw_push hm_40 dX4_findRoom_48 (v := .inr (.inr (some 91))) rfl ?_
                refine zw_cv hm_40 dX4_findRoom_49 v_4_54_4 hm_52 [] [.inr (.inr (some 91))] rfl (zT_rt hS s_91 rfl) ⟨by omega, by omega⟩ rfl (zw_mono h (zi_go ?_ ?_))
                · intro v146 S145 hv
                  obtain ⟨hS145, h⟩ := hv
                  refine zw_push hm_40 dX4_findRoom_52 (v := .inr (.inr (some 91))) rfl ?_
                  refine zw_gf hm_40 dX4_findRoom_53 (v := .inl (mI S145 91 5)) (zT_is hS145 s_91) (zT_t hS145 s_91) rfl f_4_34_4 rfl ?_
                  refine zw_cs hm_40 dX4_findRoom_56 pn_4_57 sl_4_57 hm_54 [.inl (mI S145 91 5), .inl v146] [.inr (.inr (some 91))] rfl ⟨by omega, by omega⟩ rfl ?_
                  show ma_wp X (d - 1) (w - 21) 54 0 [(0, .inl v146), (1, .inl (mI S145 91 5))] [] S145 _
                  refine zw_push hm_54 dX4_orElse_0 (v := .inl v146) rfl ?_
                  refine zw_push hm_54 dX4_orElse_1 (v := .inl (-1 : Int32)) rfl ?_
                  refine zw_if2 hm_54 dX4_orElse_2 (t := 9) rfl zc2_ne ?_ ?_
                  · intro hc
                    rw [if_neg hc] at h
                    refine zw_push hm_54 dX4_orElse_9 (v := .inl v146) rfl ?_
                    refine zw_iret hm_54 dX4_orElse_10 ?_
                    show ma_wp X d w 40 59 [(0, .inr (.inr (some 91))), (1, .inl n)] [.inl v146, .inr (.inr (some 91))] S145 _
                    refine zw_pf hm_40 dX4_findRoom_59 (zT_is hS145 s_91) (zT_t hS145 s_91) p_4_34_4 zk_int ?_
                    refine zw_push hm_40 dX4_findRoom_62 (v := .inr (.inr (some 91))) rfl ?_
                    refine zw_push hm_40 dX4_findRoom_63 (v := .inr (.inr (some 91))) rfl ?_
                    refine zw_gf hm_40 dX4_findRoom_64 (v := .inl v146) (zT_is (zT_pi hS145) s_91) (zT_t (zT_pi hS145) s_91) rfl f_4_34_4 rfl ?_
                    refine zw_push hm_40 dX4_findRoom_67 (v := .inl n) rfl ?_
                    refine zw_cv hm_40 dX4_findRoom_68 v_4_43_4 hm_41 [.inl n, .inl v146] [] rfl (zT_rt (zT_pi hS145) s_91 rfl) ⟨by omega, by omega⟩ rfl ?_
                    show ma_wp X (d - 1) (w - 22) 41 0 [(0, .inr (.inr (some 91))), (1, .inl v146), (2, .inl n)] [] (ma_put S145 91 5 (.inl v146)) _
                    refine zw_push hm_41 dX4_fits_0 (v := .inl v146) rfl ?_
                    refine zw_if0 hm_41 dX4_fits_1 (t := 29) rfl zc0_lt ?_ ?_
                    · intro hc
                      rw [if_pos hc] at h
                      refine zw_push hm_41 dX4_fits_29 (v := .inl (0 : Int32)) rfl ?_
                      refine zw_bret hm_41 dX4_fits_30 (by decide) ?_
                      show ma_wp X d w 40 71 [(0, .inr (.inr (some 91))), (1, .inl n)] [.inl (0 : Int32)] (ma_put S145 91 5 (.inl v146)) _
                      refine zw_if0 hm_40 dX4_findRoom_71 (t := 81) rfl zc0_eq (fun _ => ?_) (fun hc => absurd (by decide) hc)
                      refine zw_push hm_40 dX4_findRoom_81 (v := .inl (-1 : Int32)) rfl ?_
                      exact zw_iret hm_40 dX4_findRoom_82 h
                    · intro hc
                      rw [if_neg hc] at h
                      refine zw_push hm_41 dX4_fits_4 (v := .inl v146) rfl ?_
                      refine zw_push hm_41 dX4_fits_5 (v := .inl (93 : Int32)) rfl ?_
                      refine zw_if2 hm_41 dX4_fits_7 (t := 29) rfl zc2_ge ?_ ?_
                      · intro hc
                        rw [if_pos hc] at h
                        refine zw_push hm_41 dX4_fits_29 (v := .inl (0 : Int32)) rfl ?_
                        refine zw_bret hm_41 dX4_fits_30 (by decide) ?_
                        show ma_wp X d w 40 71 [(0, .inr (.inr (some 91))), (1, .inl n)] [.inl (0 : Int32)] (ma_put S145 91 5 (.inl v146)) _
                        refine zw_if0 hm_40 dX4_findRoom_71 (t := 81) rfl zc0_eq (fun _ => ?_) (fun hc => absurd (by decide) hc)
                        refine zw_push hm_40 dX4_findRoom_81 (v := .inl (-1 : Int32)) rfl ?_
                        exact zw_iret hm_40 dX4_findRoom_82 h
                      · intro hc
                        rw [if_neg hc] at h
                        refine zw_push hm_41 dX4_fits_10 (v := .inr (.inr (some 91))) rfl ?_
                        refine zw_gf hm_41 dX4_fits_11 (v := .inr (.inr (some 92))) (zT_is (zT_pi hS145) s_91) (zT_t (zT_pi hS145) s_91) rfl f_4_9_4 (zT_f (zT_pi hS145) r_91_7) ?_
                        refine zw_push hm_41 dX4_fits_14 (v := .inl v146) rfl ?_
                        obtain ⟨hg, h⟩ := h
                        refine zw_ia hm_41 dX4_fits_15 (zT_is (zT_pi hS145) s_92) (zT_h (zT_pi hS145) s_92) rfl hg ?_
                        show ma_wp X (d - 1) (w - 22) 41 16 [(0, .inr (.inr (some 91))), (1, .inl v146), (2, .inl n)] [.inl (mI S145 92 v146.toNatClampNeg)] (ma_put S145 91 5 (.inl v146)) _
                        refine zw_push hm_41 dX4_fits_16 (v := .inl n) rfl ?_
                        refine zw_stk hm_41 dX4_fits_17 (st' := [.inl ((mI S145 92 v146.toNatClampNeg) + n)]) rfl rfl ?_
                        refine zw_push hm_41 dX4_fits_18 (v := .inr (.inr (some 91))) rfl ?_
                        refine zw_gf hm_41 dX4_fits_19 (v := .inl (mI S145 91 2)) (zT_is (zT_pi hS145) s_91) (zT_t (zT_pi hS145) s_91) rfl f_4_18_4 rfl ?_
                        refine zw_if2 hm_41 dX4_fits_22 (t := 29) rfl zc2_gt ?_ ?_
                        · intro hc
                          rw [if_pos hc] at h
                          refine zw_push hm_41 dX4_fits_29 (v := .inl (0 : Int32)) rfl ?_
                          refine zw_bret hm_41 dX4_fits_30 (by decide) ?_
                          show ma_wp X d w 40 71 [(0, .inr (.inr (some 91))), (1, .inl n)] [.inl (0 : Int32)] (ma_put S145 91 5 (.inl v146)) _
                          refine zw_if0 hm_40 dX4_findRoom_71 (t := 81) rfl zc0_eq (fun _ => ?_) (fun hc => absurd (by decide) hc)
                          refine zw_push hm_40 dX4_findRoom_81 (v := .inl (-1 : Int32)) rfl ?_
                          exact zw_iret hm_40 dX4_findRoom_82 h
                        · intro hc
                          rw [if_neg hc] at h
                          refine zw_push hm_41 dX4_fits_25 (v := .inl (1 : Int32)) rfl ?_
                          refine zw_goto hm_41 dX4_fits_26 (t := 30) rfl ?_
                          refine zw_bret hm_41 dX4_fits_30 (by decide) ?_
                          show ma_wp X d w 40 71 [(0, .inr (.inr (some 91))), (1, .inl n)] [.inl (1 : Int32)] (ma_put S145 91 5 (.inl v146)) _
                          refine zw_if0 hm_40 dX4_findRoom_71 (t := 81) rfl zc0_eq (fun hc => absurd hc (by decide)) (fun _ => ?_)
                          refine zw_push hm_40 dX4_findRoom_74 (v := .inr (.inr (some 91))) rfl ?_
                          refine zw_cv hm_40 dX4_findRoom_75 v_4_60_4 hm_55 [] [] rfl (zT_rt (zT_pi hS145) s_91 rfl) ⟨by omega, by omega⟩ rfl (zw_mono h (zi_go ?_ ?_))
                          · intro v148 S147 hv
                            obtain ⟨hS147, h⟩ := hv
                            refine zw_goto hm_40 dX4_findRoom_78 (t := 82) rfl ?_
                            exact zw_iret hm_40 dX4_findRoom_82 h
                          · intro x S9 hx
                            exact ⟨by decide, hx⟩
                  · intro hc
                    rw [if_pos (Classical.not_not.mp hc)] at h
                    refine zw_push hm_54 dX4_orElse_5 (v := .inl (mI S145 91 5)) rfl ?_
                    refine zw_goto hm_54 dX4_orElse_6 (t := 10) rfl ?_
                    refine zw_iret hm_54 dX4_orElse_10 ?_
                    show ma_wp X d w 40 59 [(0, .inr (.inr (some 91))), (1, .inl n)] [.inl (mI S145 91 5), .inr (.inr (some 91))] S145 _
                    refine zw_pf hm_40 dX4_findRoom_59 (zT_is hS145 s_91) (zT_t hS145 s_91) p_4_34_4 zk_int ?_
                    refine zw_push hm_40 dX4_findRoom_62 (v := .inr (.inr (some 91))) rfl ?_
                    refine zw_push hm_40 dX4_findRoom_63 (v := .inr (.inr (some 91))) rfl ?_
                    refine zw_gf hm_40 dX4_findRoom_64 (v := .inl (mI S145 91 5)) (zT_is (zT_pi hS145) s_91) (zT_t (zT_pi hS145) s_91) rfl f_4_34_4 rfl ?_
                    refine zw_push hm_40 dX4_findRoom_67 (v := .inl n) rfl ?_
                    refine zw_cv hm_40 dX4_findRoom_68 v_4_43_4 hm_41 [.inl n, .inl (mI S145 91 5)] [] rfl (zT_rt (zT_pi hS145) s_91 rfl) ⟨by omega, by omega⟩ rfl ?_
                    show ma_wp X (d - 1) (w - 22) 41 0 [(0, .inr (.inr (some 91))), (1, .inl (mI S145 91 5)), (2, .inl n)] [] (ma_put S145 91 5 (.inl (mI S145 91 5))) _
                    refine zw_push hm_41 dX4_fits_0 (v := .inl (mI S145 91 5)) rfl ?_
                    refine zw_if0 hm_41 dX4_fits_1 (t := 29) rfl zc0_lt ?_ ?_
                    · intro hc
                      rw [if_pos hc] at h
                      refine zw_push hm_41 dX4_fits_29 (v := .inl (0 : Int32)) rfl ?_
                      refine zw_bret hm_41 dX4_fits_30 (by decide) ?_
                      show ma_wp X d w 40 71 [(0, .inr (.inr (some 91))), (1, .inl n)] [.inl (0 : Int32)] (ma_put S145 91 5 (.inl (mI S145 91 5))) _
                      refine zw_if0 hm_40 dX4_findRoom_71 (t := 81) rfl zc0_eq (fun _ => ?_) (fun hc => absurd (by decide) hc)
                      refine zw_push hm_40 dX4_findRoom_81 (v := .inl (-1 : Int32)) rfl ?_
                      exact zw_iret hm_40 dX4_findRoom_82 h
                    · intro hc
                      rw [if_neg hc] at h
                      refine zw_push hm_41 dX4_fits_4 (v := .inl (mI S145 91 5)) rfl ?_
                      refine zw_push hm_41 dX4_fits_5 (v := .inl (93 : Int32)) rfl ?_
                      refine zw_if2 hm_41 dX4_fits_7 (t := 29) rfl zc2_ge ?_ ?_
                      · intro hc
                        rw [if_pos hc] at h
                        refine zw_push hm_41 dX4_fits_29 (v := .inl (0 : Int32)) rfl ?_
                        refine zw_bret hm_41 dX4_fits_30 (by decide) ?_
                        show ma_wp X d w 40 71 [(0, .inr (.inr (some 91))), (1, .inl n)] [.inl (0 : Int32)] (ma_put S145 91 5 (.inl (mI S145 91 5))) _
                        refine zw_if0 hm_40 dX4_findRoom_71 (t := 81) rfl zc0_eq (fun _ => ?_) (fun hc => absurd (by decide) hc)
                        refine zw_push hm_40 dX4_findRoom_81 (v := .inl (-1 : Int32)) rfl ?_
                        exact zw_iret hm_40 dX4_findRoom_82 h
                      · intro hc
                        rw [if_neg hc] at h
                        refine zw_push hm_41 dX4_fits_10 (v := .inr (.inr (some 91))) rfl ?_
                        refine zw_gf hm_41 dX4_fits_11 (v := .inr (.inr (some 92))) (zT_is (zT_pi hS145) s_91) (zT_t (zT_pi hS145) s_91) rfl f_4_9_4 (zT_f (zT_pi hS145) r_91_7) ?_
                        refine zw_push hm_41 dX4_fits_14 (v := .inl (mI S145 91 5)) rfl ?_
                        obtain ⟨hg, h⟩ := h
                        refine zw_ia hm_41 dX4_fits_15 (zT_is (zT_pi hS145) s_92) (zT_h (zT_pi hS145) s_92) rfl hg ?_
                        show ma_wp X (d - 1) (w - 22) 41 16 [(0, .inr (.inr (some 91))), (1, .inl (mI S145 91 5)), (2, .inl n)] [.inl (mI S145 92 (mI S145 91 5).toNatClampNeg)] (ma_put S145 91 5 (.inl (mI S145 91 5))) _
                        refine zw_push hm_41 dX4_fits_16 (v := .inl n) rfl ?_
                        refine zw_stk hm_41 dX4_fits_17 (st' := [.inl ((mI S145 92 (mI S145 91 5).toNatClampNeg) + n)]) rfl rfl ?_
                        refine zw_push hm_41 dX4_fits_18 (v := .inr (.inr (some 91))) rfl ?_
                        refine zw_gf hm_41 dX4_fits_19 (v := .inl (mI S145 91 2)) (zT_is (zT_pi hS145) s_91) (zT_t (zT_pi hS145) s_91) rfl f_4_18_4 rfl ?_
                        refine zw_if2 hm_41 dX4_fits_22 (t := 29) rfl zc2_gt ?_ ?_
                        · intro hc
                          rw [if_pos hc] at h
                          refine zw_push hm_41 dX4_fits_29 (v := .inl (0 : Int32)) rfl ?_
                          refine zw_bret hm_41 dX4_fits_30 (by decide) ?_
                          show ma_wp X d w 40 71 [(0, .inr (.inr (some 91))), (1, .inl n)] [.inl (0 : Int32)] (ma_put S145 91 5 (.inl (mI S145 91 5))) _
                          refine zw_if0 hm_40 dX4_findRoom_71 (t := 81) rfl zc0_eq (fun _ => ?_) (fun hc => absurd (by decide) hc)
                          refine zw_push hm_40 dX4_findRoom_81 (v := .inl (-1 : Int32)) rfl ?_
                          exact zw_iret hm_40 dX4_findRoom_82 h
                        · intro hc
                          rw [if_neg hc] at h
                          refine zw_push hm_41 dX4_fits_25 (v := .inl (1 : Int32)) rfl ?_
                          refine zw_goto hm_41 dX4_fits_26 (t := 30) rfl ?_
                          refine zw_bret hm_41 dX4_fits_30 (by decide) ?_
                          show ma_wp X d w 40 71 [(0, .inr (.inr (some 91))), (1, .inl n)] [.inl (1 : Int32)] (ma_put S145 91 5 (.inl (mI S145 91 5))) _
                          refine zw_if0 hm_40 dX4_findRoom_71 (t := 81) rfl zc0_eq (fun hc => absurd hc (by decide)) (fun _ => ?_)
                          refine zw_push hm_40 dX4_findRoom_74 (v := .inr (.inr (some 91))) rfl ?_
                          refine zw_cv hm_40 dX4_findRoom_75 v_4_60_4 hm_55 [] [] rfl (zT_rt (zT_pi hS145) s_91 rfl) ⟨by omega, by omega⟩ rfl (zw_mono h (zi_go ?_ ?_))
                          · intro v150 S149 hv
                            obtain ⟨hS149, h⟩ := hv
                            refine zw_goto hm_40 dX4_findRoom_78 (t := 82) rfl ?_
                            exact zw_iret hm_40 dX4_findRoom_82 h
                          · intro x S9 hx
                            exact ⟨by decide, hx⟩
                · intro x S9 hx
                  exact ⟨by decide, hx⟩
              · intro hc
                rw [if_neg hc] at h
                refine zw_push hm_41 dX4_fits_25 (v := .inl (1 : Int32)) rfl ?_
                refine zw_goto hm_41 dX4_fits_26 (t := 30) rfl ?_
                refine zw_bret hm_41 dX4_fits_30 (by decide) ?_
                show ma_wp X d w 40 44 [(0, .inr (.inr (some 91))), (1, .inl n)] [.inl (1 : Int32)] S _
                refine zw_if0 hm_40 dX4_findRoom_44 (t := 62) rfl zc0_ne (fun _ => ?_) (fun hc => absurd (by decide) hc)
                refine zw_push hm_40 dX4_findRoom_62 (v := .inr (.inr (some 91))) rfl ?_
                refine zw_push hm_40 dX4_findRoom_63 (v := .inr (.inr (some 91))) rfl ?_
                refine zw_gf hm_40 dX4_findRoom_64 (v := .inl (mI S 91 5)) (zT_is hS s_91) (zT_t hS s_91) rfl f_4_34_4 rfl ?_
                refine zw_push hm_40 dX4_findRoom_67 (v := .inl n) rfl ?_
                refine zw_cv hm_40 dX4_findRoom_68 v_4_43_4 hm_41 [.inl n, .inl (mI S 91 5)] [] rfl (zT_rt hS s_91 rfl) ⟨by omega, by omega⟩ rfl ?_
                show ma_wp X (d - 1) (w - 22) 41 0 [(0, .inr (.inr (some 91))), (1, .inl (mI S 91 5)), (2, .inl n)] [] S _
                refine zw_push hm_41 dX4_fits_0 (v := .inl (mI S 91 5)) rfl ?_
                refine zw_if0 hm_41 dX4_fits_1 (t := 29) rfl zc0_lt ?_ ?_
                · intro hc
                  rw [if_pos hc] at h
                  refine zw_push hm_41 dX4_fits_29 (v := .inl (0 : Int32)) rfl ?_
                  refine zw_bret hm_41 dX4_fits_30 (by decide) ?_
                  show ma_wp X d w 40 71 [(0, .inr (.inr (some 91))), (1, .inl n)] [.inl (0 : Int32)] S _
                  refine zw_if0 hm_40 dX4_findRoom_71 (t := 81) rfl zc0_eq (fun _ => ?_) (fun hc => absurd (by decide) hc)
                  refine zw_push hm_40 dX4_findRoom_81 (v := .inl (-1 : Int32)) rfl ?_
                  exact zw_iret hm_40 dX4_findRoom_82 h
                · intro hc
                  rw [if_neg hc] at h
                  refine zw_push hm_41 dX4_fits_4 (v := .inl (mI S 91 5)) rfl ?_
                  refine zw_push hm_41 dX4_fits_5 (v := .inl (93 : Int32)) rfl ?_
                  refine zw_if2 hm_41 dX4_fits_7 (t := 29) rfl zc2_ge ?_ ?_
                  · intro hc
                    rw [if_pos hc] at h
                    refine zw_push hm_41 dX4_fits_29 (v := .inl (0 : Int32)) rfl ?_
                    refine zw_bret hm_41 dX4_fits_30 (by decide) ?_
                    show ma_wp X d w 40 71 [(0, .inr (.inr (some 91))), (1, .inl n)] [.inl (0 : Int32)] S _
                    refine zw_if0 hm_40 dX4_findRoom_71 (t := 81) rfl zc0_eq (fun _ => ?_) (fun hc => absurd (by decide) hc)
                    refine zw_push hm_40 dX4_findRoom_81 (v := .inl (-1 : Int32)) rfl ?_
                    exact zw_iret hm_40 dX4_findRoom_82 h
                  · intro hc
                    rw [if_neg hc] at h
                    refine zw_push hm_41 dX4_fits_10 (v := .inr (.inr (some 91))) rfl ?_
                    refine zw_gf hm_41 dX4_fits_11 (v := .inr (.inr (some 92))) (zT_is hS s_91) (zT_t hS s_91) rfl f_4_9_4 (zT_f hS r_91_7) ?_
                    refine zw_push hm_41 dX4_fits_14 (v := .inl (mI S 91 5)) rfl ?_
                    obtain ⟨hg, h⟩ := h
                    refine zw_ia hm_41 dX4_fits_15 (zT_is hS s_92) (zT_h hS s_92) rfl hg ?_
                    show ma_wp X (d - 1) (w - 22) 41 16 [(0, .inr (.inr (some 91))), (1, .inl (mI S 91 5)), (2, .inl n)] [.inl (mI S 92 (mI S 91 5).toNatClampNeg)] S _
                    refine zw_push hm_41 dX4_fits_16 (v := .inl n) rfl ?_
                    refine zw_stk hm_41 dX4_fits_17 (st' := [.inl ((mI S 92 (mI S 91 5).toNatClampNeg) + n)]) rfl rfl ?_
                    refine zw_push hm_41 dX4_fits_18 (v := .inr (.inr (some 91))) rfl ?_
                    refine zw_gf hm_41 dX4_fits_19 (v := .inl (mI S 91 2)) (zT_is hS s_91) (zT_t hS s_91) rfl f_4_18_4 rfl ?_
                    refine zw_if2 hm_41 dX4_fits_22 (t := 29) rfl zc2_gt ?_ ?_
                    · intro hc
                      rw [if_pos hc] at h
                      refine zw_push hm_41 dX4_fits_29 (v := .inl (0 : Int32)) rfl ?_
                      refine zw_bret hm_41 dX4_fits_30 (by decide) ?_
                      show ma_wp X d w 40 71 [(0, .inr (.inr (some 91))), (1, .inl n)] [.inl (0 : Int32)] S _
                      refine zw_if0 hm_40 dX4_findRoom_71 (t := 81) rfl zc0_eq (fun _ => ?_) (fun hc => absurd (by decide) hc)
                      refine zw_push hm_40 dX4_findRoom_81 (v := .inl (-1 : Int32)) rfl ?_
                      exact zw_iret hm_40 dX4_findRoom_82 h
                    · intro hc
                      rw [if_neg hc] at h
                      refine zw_push hm_41 dX4_fits_25 (v := .inl (1 : Int32)) rfl ?_
                      refine zw_goto hm_41 dX4_fits_26 (t := 30) rfl ?_
                      refine zw_bret hm_41 dX4_fits_30 (by decide) ?_
                      show ma_wp X d w 40 71 [(0, .inr (.inr (some 91))), (1, .inl n)] [.inl (1 : Int32)] S _
                      refine zw_if0 hm_40 dX4_findRoom_71 (t := 81) rfl zc0_eq (fun hc => absurd hc (by decide)) (fun _ => ?_)
                      refine zw_push hm_40 dX4_findRoom_74 (v := .inr (.inr (some 91))) rfl ?_
                      refine zw_cv hm_40 dX4_findRoom_75 v_4_60_4 hm_55 [] [] rfl (zT_rt hS s_91 rfl) ⟨by omega, by omega⟩ rfl (zw_mono h (zi_go ?_ ?_))
                      · intro v152 S151 hv
                        obtain ⟨hS151, h⟩ := hv
                        refine zw_goto hm_40 dX4_findRoom_78 (t := 82) rfl ?_
                        exact zw_iret hm_40 dX4_findRoom_82 h
                      · intro x S9 hx
                        exact ⟨by decide, hx⟩
  · intro hc
    rw [if_neg hc] at h
    refine zw_push hm_40 dX4_findRoom_8 (v := .inl (-1 : Int32)) rfl ?_
    exact zw_iret hm_40 dX4_findRoom_9 h
theorem sp_40_91 {X : Nat × (Nat → Int32)} {d w : Nat} {f : Nat → Nat → Int32} {r : Nat → Nat → Option Nat} {C Z N : Nat} {Q : Option ma_V ⊕ Nat → ma_S → Prop} {S : ma_S} (n : Int32) (hd : 5 ≤ d) (hw : 183 ≤ w) (hI : zL91 f r C Z N S) (hpre0 : 1 ≤ n.toInt) (hpre1 : n.toInt ≤ 61) (K : ∀ v S', zL91 f r C Z N S' → (-1 ≤ v.toInt ∧ v.toInt ≤ 300000) → Q (.inl (some (.inl v))) S') : ma_wp X d w 40 0 [(0, .inr (.inr (some 91))), (1, .inl n)] [] S Q := by
  refine g_40_91_0 n (by omega) (by omega) (zG_T hI) ?_
  have b1 := i_bd n
  have f2 := zG_s hI (0) (1500) (c := 91) (k := 2) (by decide)
  refine zd (fun h3 => ?_) (fun h3 => ?_)
  · skip
    have g4 := i_le h3
    have f5 := zG_s hI (0) (92) (c := 91) (k := 5) (by decide)
    have li6 : (0 : Int32).toInt = 0 := rfl
    refine zd (fun h7 => ?_) (fun h7 => ?_)
    · skip
      have g8 := i_lt h7
      refine sp_42_91  (by omega) (by omega) hI  (fun v2 S1 hI_S1 hp_v2 => zi_n ⟨zG_T hI_S1, ?_⟩)
      have li9 : (2 : Int32).toInt = 2 := rfl
      have b10 := i_bd v2
      refine zd (fun h11 => ?_) (fun h11 => ?_)
      · skip
        have g12 := i_le h11
        have f13 := zG_s hI_S1 (0) (92) (c := 91) (k := 5) (by decide)
        refine zd (fun h14 => ?_) (fun h14 => ?_)
        · skip
          have g15 := i_lt h14
          refine sp_52_91  (by omega) (by omega) hI_S1  (fun v4 S3 hI_S3 hp_v4 => zi_n ⟨zG_T hI_S3, ?_⟩)
          have b16 := i_bd v4
          have li17 : (-1 : Int32).toInt = -1 := rfl
          refine zd (fun h18 => ?_) (fun h18 => ?_)
          · skip
            have g19 := i_eq h18
            have f20 := zG_s hI_S3 (0) (92) (c := 91) (k := 5) (by decide)
            refine zd (fun h21 => ?_) (fun h21 => ?_)
            · skip
              have g22 := i_lt h21
              have hI23 : zL91 f r C Z N (ma_put S3 91 5 (.inl (mI S3 91 5))) := zG_sp hI_S3 (0) (92) rfl (by decide) (by decide) (by decide) trivial (by omega) (by omega)
              exact K ((-1 : Int32)) _ hI23 (show -1 ≤ (-1 : Int32).toInt ∧ (-1 : Int32).toInt ≤ 300000 from by omega)
            · skip
              have g24 := i_nlt h21
              have li25 : (93 : Int32).toInt = 93 := rfl
              refine zd (fun h26 => ?_) (fun h26 => ?_)
              · skip
                have g27 := i_le h26
                have hI28 : zL91 f r C Z N (ma_put S3 91 5 (.inl (mI S3 91 5))) := zG_sp hI_S3 (0) (92) rfl (by decide) (by decide) (by decide) trivial (by omega) (by omega)
                exact K ((-1 : Int32)) _ hI28 (show -1 ≤ (-1 : Int32).toInt ∧ (-1 : Int32).toInt ≤ 300000 from by omega)
              · skip
                have g29 := i_nle h26
                refine ⟨i_ix (by omega) (by omega), ?_⟩
                have f30 := zG_s hI_S3 (0) (1500) (c := 91) (k := 2) (by decide)
                first | have f31 := zG_a hI_S3 93 (0) (3000) (c := 92) (k := (mI S3 91 5).toNatClampNeg) (by decide) (i_ix (n := 93) (by omega) (by omega)).2 | have b32 := i_bd (mI S3 92 (mI S3 91 5).toNatClampNeg)
                first | have e33 : ((mI S3 92 (mI S3 91 5).toNatClampNeg) + n).toInt = (mI S3 92 (mI S3 91 5).toNatClampNeg).toInt + n.toInt := i_add (by omega) (by omega) | have b34 := i_bd ((mI S3 92 (mI S3 91 5).toNatClampNeg) + n)
                refine zd (fun h35 => ?_) (fun h35 => ?_)
                · skip
                  have g36 := i_lt h35
                  have hI37 : zL91 f r C Z N (ma_put S3 91 5 (.inl (mI S3 91 5))) := zG_sp hI_S3 (0) (92) rfl (by decide) (by decide) (by decide) trivial (by omega) (by omega)
                  exact K ((-1 : Int32)) _ hI37 (show -1 ≤ (-1 : Int32).toInt ∧ (-1 : Int32).toInt ≤ 300000 from by omega)
                · skip
                  have g38 := i_nlt h35
                  have hI39 : zL91 f r C Z N (ma_put S3 91 5 (.inl (mI S3 91 5))) := zG_sp hI_S3 (0) (92) rfl (by decide) (by decide) (by decide) trivial (by omega) (by omega)
                  refine sp_55_91  (by omega) (by omega) hI39  (fun v8 S7 hI_S7 hp_v8 => zi_n ⟨zG_T hI_S7, ?_⟩)
                  have b40 := i_bd v8
                  exact K (v8) _ hI_S7 (show -1 ≤ v8.toInt ∧ v8.toInt ≤ 300000 from by omega)
          · skip
            have g41 := i_ne h18
            refine zd (fun h42 => ?_) (fun h42 => ?_)
            · skip
              have g43 := i_lt h42
              have hI44 : zL91 f r C Z N (ma_put S3 91 5 (.inl v4)) := zG_sp hI_S3 (0) (92) rfl (by decide) (by decide) (by decide) trivial (by omega) (by omega)
              exact K ((-1 : Int32)) _ hI44 (show -1 ≤ (-1 : Int32).toInt ∧ (-1 : Int32).toInt ≤ 300000 from by omega)
            · skip
              have g45 := i_nlt h42
              have li46 : (93 : Int32).toInt = 93 := rfl
              refine zd (fun h47 => ?_) (fun h47 => ?_)
              · skip
                have g48 := i_le h47
                have hI49 : zL91 f r C Z N (ma_put S3 91 5 (.inl v4)) := zG_sp hI_S3 (0) (92) rfl (by decide) (by decide) (by decide) trivial (by omega) (by omega)
                exact K ((-1 : Int32)) _ hI49 (show -1 ≤ (-1 : Int32).toInt ∧ (-1 : Int32).toInt ≤ 300000 from by omega)
              · skip
                have g50 := i_nle h47
                refine ⟨i_ix (by omega) (by omega), ?_⟩
                have f51 := zG_s hI_S3 (0) (1500) (c := 91) (k := 2) (by decide)
                first | have f52 := zG_a hI_S3 93 (0) (3000) (c := 92) (k := v4.toNatClampNeg) (by decide) (i_ix (n := 93) (by omega) (by omega)).2 | have b53 := i_bd (mI S3 92 v4.toNatClampNeg)
                first | have e54 : ((mI S3 92 v4.toNatClampNeg) + n).toInt = (mI S3 92 v4.toNatClampNeg).toInt + n.toInt := i_add (by omega) (by omega) | have b55 := i_bd ((mI S3 92 v4.toNatClampNeg) + n)
                refine zd (fun h56 => ?_) (fun h56 => ?_)
                · skip
                  have g57 := i_lt h56
                  have hI58 : zL91 f r C Z N (ma_put S3 91 5 (.inl v4)) := zG_sp hI_S3 (0) (92) rfl (by decide) (by decide) (by decide) trivial (by omega) (by omega)
                  exact K ((-1 : Int32)) _ hI58 (show -1 ≤ (-1 : Int32).toInt ∧ (-1 : Int32).toInt ≤ 300000 from by omega)
                · skip
                  have g59 := i_nlt h56
                  have hI60 : zL91 f r C Z N (ma_put S3 91 5 (.inl v4)) := zG_sp hI_S3 (0) (92) rfl (by decide) (by decide) (by decide) trivial (by omega) (by omega)
                  refine sp_55_91  (by omega) (by omega) hI60  (fun v6 S5 hI_S5 hp_v6 => zi_n ⟨zG_T hI_S5, ?_⟩)
                  have b61 := i_bd v6
                  exact K (v6) _ hI_S5 (show -1 ≤ v6.toInt ∧ v6.toInt ≤ 300000 from by omega)
        · skip
          have g62 := i_nlt h14
          have li63 : (93 : Int32).toInt = 93 := rfl
          refine zd (fun h64 => ?_) (fun h64 => ?_)
          · skip
            have g65 := i_le h64
            refine sp_52_91  (by omega) (by omega) hI_S1  (fun v10 S9 hI_S9 hp_v10 => zi_n ⟨zG_T hI_S9, ?_⟩)
            have b66 := i_bd v10
            have li67 : (-1 : Int32).toInt = -1 := rfl
            refine zd (fun h68 => ?_) (fun h68 => ?_)
            · skip
              have g69 := i_eq h68
              have f70 := zG_s hI_S9 (0) (92) (c := 91) (k := 5) (by decide)
              refine zd (fun h71 => ?_) (fun h71 => ?_)
              · skip
                have g72 := i_lt h71
                have hI73 : zL91 f r C Z N (ma_put S9 91 5 (.inl (mI S9 91 5))) := zG_sp hI_S9 (0) (92) rfl (by decide) (by decide) (by decide) trivial (by omega) (by omega)
                exact K ((-1 : Int32)) _ hI73 (show -1 ≤ (-1 : Int32).toInt ∧ (-1 : Int32).toInt ≤ 300000 from by omega)
              · skip
                have g74 := i_nlt h71
                refine zd (fun h75 => ?_) (fun h75 => ?_)
                · skip
                  have g76 := i_le h75
                  have hI77 : zL91 f r C Z N (ma_put S9 91 5 (.inl (mI S9 91 5))) := zG_sp hI_S9 (0) (92) rfl (by decide) (by decide) (by decide) trivial (by omega) (by omega)
                  exact K ((-1 : Int32)) _ hI77 (show -1 ≤ (-1 : Int32).toInt ∧ (-1 : Int32).toInt ≤ 300000 from by omega)
                · skip
                  have g78 := i_nle h75
                  refine ⟨i_ix (by omega) (by omega), ?_⟩
                  have f79 := zG_s hI_S9 (0) (1500) (c := 91) (k := 2) (by decide)
                  first | have f80 := zG_a hI_S9 93 (0) (3000) (c := 92) (k := (mI S9 91 5).toNatClampNeg) (by decide) (i_ix (n := 93) (by omega) (by omega)).2 | have b81 := i_bd (mI S9 92 (mI S9 91 5).toNatClampNeg)
                  first | have e82 : ((mI S9 92 (mI S9 91 5).toNatClampNeg) + n).toInt = (mI S9 92 (mI S9 91 5).toNatClampNeg).toInt + n.toInt := i_add (by omega) (by omega) | have b83 := i_bd ((mI S9 92 (mI S9 91 5).toNatClampNeg) + n)
                  refine zd (fun h84 => ?_) (fun h84 => ?_)
                  · skip
                    have g85 := i_lt h84
                    have hI86 : zL91 f r C Z N (ma_put S9 91 5 (.inl (mI S9 91 5))) := zG_sp hI_S9 (0) (92) rfl (by decide) (by decide) (by decide) trivial (by omega) (by omega)
                    exact K ((-1 : Int32)) _ hI86 (show -1 ≤ (-1 : Int32).toInt ∧ (-1 : Int32).toInt ≤ 300000 from by omega)
                  · skip
                    have g87 := i_nlt h84
                    have hI88 : zL91 f r C Z N (ma_put S9 91 5 (.inl (mI S9 91 5))) := zG_sp hI_S9 (0) (92) rfl (by decide) (by decide) (by decide) trivial (by omega) (by omega)
                    refine sp_55_91  (by omega) (by omega) hI88  (fun v14 S13 hI_S13 hp_v14 => zi_n ⟨zG_T hI_S13, ?_⟩)
                    have b89 := i_bd v14
                    exact K (v14) _ hI_S13 (show -1 ≤ v14.toInt ∧ v14.toInt ≤ 300000 from by omega)
            · skip
              have g90 := i_ne h68
              refine zd (fun h91 => ?_) (fun h91 => ?_)
              · skip
                have g92 := i_lt h91
                have hI93 : zL91 f r C Z N (ma_put S9 91 5 (.inl v10)) := zG_sp hI_S9 (0) (92) rfl (by decide) (by decide) (by decide) trivial (by omega) (by omega)
                exact K ((-1 : Int32)) _ hI93 (show -1 ≤ (-1 : Int32).toInt ∧ (-1 : Int32).toInt ≤ 300000 from by omega)
              · skip
                have g94 := i_nlt h91
                refine zd (fun h95 => ?_) (fun h95 => ?_)
                · skip
                  have g96 := i_le h95
                  have hI97 : zL91 f r C Z N (ma_put S9 91 5 (.inl v10)) := zG_sp hI_S9 (0) (92) rfl (by decide) (by decide) (by decide) trivial (by omega) (by omega)
                  exact K ((-1 : Int32)) _ hI97 (show -1 ≤ (-1 : Int32).toInt ∧ (-1 : Int32).toInt ≤ 300000 from by omega)
                · skip
                  have g98 := i_nle h95
                  refine ⟨i_ix (by omega) (by omega), ?_⟩
                  have f99 := zG_s hI_S9 (0) (1500) (c := 91) (k := 2) (by decide)
                  first | have f100 := zG_a hI_S9 93 (0) (3000) (c := 92) (k := v10.toNatClampNeg) (by decide) (i_ix (n := 93) (by omega) (by omega)).2 | have b101 := i_bd (mI S9 92 v10.toNatClampNeg)
                  first | have e102 : ((mI S9 92 v10.toNatClampNeg) + n).toInt = (mI S9 92 v10.toNatClampNeg).toInt + n.toInt := i_add (by omega) (by omega) | have b103 := i_bd ((mI S9 92 v10.toNatClampNeg) + n)
                  refine zd (fun h104 => ?_) (fun h104 => ?_)
                  · skip
                    have g105 := i_lt h104
                    have hI106 : zL91 f r C Z N (ma_put S9 91 5 (.inl v10)) := zG_sp hI_S9 (0) (92) rfl (by decide) (by decide) (by decide) trivial (by omega) (by omega)
                    exact K ((-1 : Int32)) _ hI106 (show -1 ≤ (-1 : Int32).toInt ∧ (-1 : Int32).toInt ≤ 300000 from by omega)
                  · skip
                    have g107 := i_nlt h104
                    have hI108 : zL91 f r C Z N (ma_put S9 91 5 (.inl v10)) := zG_sp hI_S9 (0) (92) rfl (by decide) (by decide) (by decide) trivial (by omega) (by omega)
                    refine sp_55_91  (by omega) (by omega) hI108  (fun v12 S11 hI_S11 hp_v12 => zi_n ⟨zG_T hI_S11, ?_⟩)
                    have b109 := i_bd v12
                    exact K (v12) _ hI_S11 (show -1 ≤ v12.toInt ∧ v12.toInt ≤ 300000 from by omega)
          · skip
            have g110 := i_nle h64
            refine ⟨i_ix (by omega) (by omega), ?_⟩
            have f111 := zG_s hI_S1 (0) (1500) (c := 91) (k := 2) (by decide)
            first | have f112 := zG_a hI_S1 93 (0) (3000) (c := 92) (k := (mI S1 91 5).toNatClampNeg) (by decide) (i_ix (n := 93) (by omega) (by omega)).2 | have b113 := i_bd (mI S1 92 (mI S1 91 5).toNatClampNeg)
            first | have e114 : ((mI S1 92 (mI S1 91 5).toNatClampNeg) + n).toInt = (mI S1 92 (mI S1 91 5).toNatClampNeg).toInt + n.toInt := i_add (by omega) (by omega) | have b115 := i_bd ((mI S1 92 (mI S1 91 5).toNatClampNeg) + n)
            refine zd (fun h116 => ?_) (fun h116 => ?_)
            · skip
              have g117 := i_lt h116
              refine sp_52_91  (by omega) (by omega) hI_S1  (fun v16 S15 hI_S15 hp_v16 => zi_n ⟨zG_T hI_S15, ?_⟩)
              have b118 := i_bd v16
              have li119 : (-1 : Int32).toInt = -1 := rfl
              refine zd (fun h120 => ?_) (fun h120 => ?_)
              · skip
                have g121 := i_eq h120
                have f122 := zG_s hI_S15 (0) (92) (c := 91) (k := 5) (by decide)
                refine zd (fun h123 => ?_) (fun h123 => ?_)
                · skip
                  have g124 := i_lt h123
                  have hI125 : zL91 f r C Z N (ma_put S15 91 5 (.inl (mI S15 91 5))) := zG_sp hI_S15 (0) (92) rfl (by decide) (by decide) (by decide) trivial (by omega) (by omega)
                  exact K ((-1 : Int32)) _ hI125 (show -1 ≤ (-1 : Int32).toInt ∧ (-1 : Int32).toInt ≤ 300000 from by omega)
                · skip
                  have g126 := i_nlt h123
                  refine zd (fun h127 => ?_) (fun h127 => ?_)
                  · skip
                    have g128 := i_le h127
                    have hI129 : zL91 f r C Z N (ma_put S15 91 5 (.inl (mI S15 91 5))) := zG_sp hI_S15 (0) (92) rfl (by decide) (by decide) (by decide) trivial (by omega) (by omega)
                    exact K ((-1 : Int32)) _ hI129 (show -1 ≤ (-1 : Int32).toInt ∧ (-1 : Int32).toInt ≤ 300000 from by omega)
                  · skip
                    have g130 := i_nle h127
                    refine ⟨i_ix (by omega) (by omega), ?_⟩
                    have f131 := zG_s hI_S15 (0) (1500) (c := 91) (k := 2) (by decide)
                    first | have f132 := zG_a hI_S15 93 (0) (3000) (c := 92) (k := (mI S15 91 5).toNatClampNeg) (by decide) (i_ix (n := 93) (by omega) (by omega)).2 | have b133 := i_bd (mI S15 92 (mI S15 91 5).toNatClampNeg)
                    first | have e134 : ((mI S15 92 (mI S15 91 5).toNatClampNeg) + n).toInt = (mI S15 92 (mI S15 91 5).toNatClampNeg).toInt + n.toInt := i_add (by omega) (by omega) | have b135 := i_bd ((mI S15 92 (mI S15 91 5).toNatClampNeg) + n)
                    refine zd (fun h136 => ?_) (fun h136 => ?_)
                    · skip
                      have g137 := i_lt h136
                      have hI138 : zL91 f r C Z N (ma_put S15 91 5 (.inl (mI S15 91 5))) := zG_sp hI_S15 (0) (92) rfl (by decide) (by decide) (by decide) trivial (by omega) (by omega)
                      exact K ((-1 : Int32)) _ hI138 (show -1 ≤ (-1 : Int32).toInt ∧ (-1 : Int32).toInt ≤ 300000 from by omega)
                    · skip
                      have g139 := i_nlt h136
                      have hI140 : zL91 f r C Z N (ma_put S15 91 5 (.inl (mI S15 91 5))) := zG_sp hI_S15 (0) (92) rfl (by decide) (by decide) (by decide) trivial (by omega) (by omega)
                      refine sp_55_91  (by omega) (by omega) hI140  (fun v20 S19 hI_S19 hp_v20 => zi_n ⟨zG_T hI_S19, ?_⟩)
                      have b141 := i_bd v20
                      exact K (v20) _ hI_S19 (show -1 ≤ v20.toInt ∧ v20.toInt ≤ 300000 from by omega)
              · skip
                have g142 := i_ne h120
                refine zd (fun h143 => ?_) (fun h143 => ?_)
                · skip
                  have g144 := i_lt h143
                  have hI145 : zL91 f r C Z N (ma_put S15 91 5 (.inl v16)) := zG_sp hI_S15 (0) (92) rfl (by decide) (by decide) (by decide) trivial (by omega) (by omega)
                  exact K ((-1 : Int32)) _ hI145 (show -1 ≤ (-1 : Int32).toInt ∧ (-1 : Int32).toInt ≤ 300000 from by omega)
                · skip
                  have g146 := i_nlt h143
                  refine zd (fun h147 => ?_) (fun h147 => ?_)
                  · skip
                    have g148 := i_le h147
                    have hI149 : zL91 f r C Z N (ma_put S15 91 5 (.inl v16)) := zG_sp hI_S15 (0) (92) rfl (by decide) (by decide) (by decide) trivial (by omega) (by omega)
                    exact K ((-1 : Int32)) _ hI149 (show -1 ≤ (-1 : Int32).toInt ∧ (-1 : Int32).toInt ≤ 300000 from by omega)
                  · skip
                    have g150 := i_nle h147
                    refine ⟨i_ix (by omega) (by omega), ?_⟩
                    have f151 := zG_s hI_S15 (0) (1500) (c := 91) (k := 2) (by decide)
                    first | have f152 := zG_a hI_S15 93 (0) (3000) (c := 92) (k := v16.toNatClampNeg) (by decide) (i_ix (n := 93) (by omega) (by omega)).2 | have b153 := i_bd (mI S15 92 v16.toNatClampNeg)
                    first | have e154 : ((mI S15 92 v16.toNatClampNeg) + n).toInt = (mI S15 92 v16.toNatClampNeg).toInt + n.toInt := i_add (by omega) (by omega) | have b155 := i_bd ((mI S15 92 v16.toNatClampNeg) + n)
                    refine zd (fun h156 => ?_) (fun h156 => ?_)
                    · skip
                      have g157 := i_lt h156
                      have hI158 : zL91 f r C Z N (ma_put S15 91 5 (.inl v16)) := zG_sp hI_S15 (0) (92) rfl (by decide) (by decide) (by decide) trivial (by omega) (by omega)
                      exact K ((-1 : Int32)) _ hI158 (show -1 ≤ (-1 : Int32).toInt ∧ (-1 : Int32).toInt ≤ 300000 from by omega)
                    · skip
                      have g159 := i_nlt h156
                      have hI160 : zL91 f r C Z N (ma_put S15 91 5 (.inl v16)) := zG_sp hI_S15 (0) (92) rfl (by decide) (by decide) (by decide) trivial (by omega) (by omega)
                      refine sp_55_91  (by omega) (by omega) hI160  (fun v18 S17 hI_S17 hp_v18 => zi_n ⟨zG_T hI_S17, ?_⟩)
                      have b161 := i_bd v18
                      exact K (v18) _ hI_S17 (show -1 ≤ v18.toInt ∧ v18.toInt ≤ 300000 from by omega)
            · skip
              have g162 := i_nlt h116
              refine zd (fun h163 => ?_) (fun h163 => ?_)
              · skip
                have g164 := i_lt h163
                have li165 : (-1 : Int32).toInt = -1 := rfl
                exact K ((-1 : Int32)) _ hI_S1 (show -1 ≤ (-1 : Int32).toInt ∧ (-1 : Int32).toInt ≤ 300000 from by omega)
              · skip
                have g166 := i_nlt h163
                refine zd (fun h167 => ?_) (fun h167 => ?_)
                · skip
                  have g168 := i_le h167
                  have li169 : (-1 : Int32).toInt = -1 := rfl
                  exact K ((-1 : Int32)) _ hI_S1 (show -1 ≤ (-1 : Int32).toInt ∧ (-1 : Int32).toInt ≤ 300000 from by omega)
                · skip
                  have g170 := i_nle h167
                  refine ⟨i_ix (by omega) (by omega), ?_⟩
                  refine zd (fun h171 => ?_) (fun h171 => ?_)
                  · skip
                    have g172 := i_lt h171
                    have li173 : (-1 : Int32).toInt = -1 := rfl
                    exact K ((-1 : Int32)) _ hI_S1 (show -1 ≤ (-1 : Int32).toInt ∧ (-1 : Int32).toInt ≤ 300000 from by omega)
                  · skip
                    have g174 := i_nlt h171
                    refine sp_55_91  (by omega) (by omega) hI_S1  (fun v22 S21 hI_S21 hp_v22 => zi_n ⟨zG_T hI_S21, ?_⟩)
                    have b175 := i_bd v22
                    exact K (v22) _ hI_S21 (show -1 ≤ v22.toInt ∧ v22.toInt ≤ 300000 from by omega)
      · skip
        have g176 := i_nle h11
        refine sp_43_91  (by omega) (by omega) hI_S1  (fun v24 S23 hI_S23 hp_v24 => zi_n ⟨zG_T hI_S23, ?_⟩)
        have f177 := zG_s hI_S23 (0) (92) (c := 91) (k := 5) (by decide)
        refine zd (fun h178 => ?_) (fun h178 => ?_)
        · skip
          have g179 := i_lt h178
          refine sp_52_91  (by omega) (by omega) hI_S23  (fun v26 S25 hI_S25 hp_v26 => zi_n ⟨zG_T hI_S25, ?_⟩)
          have b180 := i_bd v26
          have li181 : (-1 : Int32).toInt = -1 := rfl
          refine zd (fun h182 => ?_) (fun h182 => ?_)
          · skip
            have g183 := i_eq h182
            have f184 := zG_s hI_S25 (0) (92) (c := 91) (k := 5) (by decide)
            refine zd (fun h185 => ?_) (fun h185 => ?_)
            · skip
              have g186 := i_lt h185
              have hI187 : zL91 f r C Z N (ma_put S25 91 5 (.inl (mI S25 91 5))) := zG_sp hI_S25 (0) (92) rfl (by decide) (by decide) (by decide) trivial (by omega) (by omega)
              exact K ((-1 : Int32)) _ hI187 (show -1 ≤ (-1 : Int32).toInt ∧ (-1 : Int32).toInt ≤ 300000 from by omega)
            · skip
              have g188 := i_nlt h185
              have li189 : (93 : Int32).toInt = 93 := rfl
              refine zd (fun h190 => ?_) (fun h190 => ?_)
              · skip
                have g191 := i_le h190
                have hI192 : zL91 f r C Z N (ma_put S25 91 5 (.inl (mI S25 91 5))) := zG_sp hI_S25 (0) (92) rfl (by decide) (by decide) (by decide) trivial (by omega) (by omega)
                exact K ((-1 : Int32)) _ hI192 (show -1 ≤ (-1 : Int32).toInt ∧ (-1 : Int32).toInt ≤ 300000 from by omega)
              · skip
                have g193 := i_nle h190
                refine ⟨i_ix (by omega) (by omega), ?_⟩
                have f194 := zG_s hI_S25 (0) (1500) (c := 91) (k := 2) (by decide)
                first | have f195 := zG_a hI_S25 93 (0) (3000) (c := 92) (k := (mI S25 91 5).toNatClampNeg) (by decide) (i_ix (n := 93) (by omega) (by omega)).2 | have b196 := i_bd (mI S25 92 (mI S25 91 5).toNatClampNeg)
                first | have e197 : ((mI S25 92 (mI S25 91 5).toNatClampNeg) + n).toInt = (mI S25 92 (mI S25 91 5).toNatClampNeg).toInt + n.toInt := i_add (by omega) (by omega) | have b198 := i_bd ((mI S25 92 (mI S25 91 5).toNatClampNeg) + n)
                refine zd (fun h199 => ?_) (fun h199 => ?_)
                · skip
                  have g200 := i_lt h199
                  have hI201 : zL91 f r C Z N (ma_put S25 91 5 (.inl (mI S25 91 5))) := zG_sp hI_S25 (0) (92) rfl (by decide) (by decide) (by decide) trivial (by omega) (by omega)
                  exact K ((-1 : Int32)) _ hI201 (show -1 ≤ (-1 : Int32).toInt ∧ (-1 : Int32).toInt ≤ 300000 from by omega)
                · skip
                  have g202 := i_nlt h199
                  have hI203 : zL91 f r C Z N (ma_put S25 91 5 (.inl (mI S25 91 5))) := zG_sp hI_S25 (0) (92) rfl (by decide) (by decide) (by decide) trivial (by omega) (by omega)
                  refine sp_55_91  (by omega) (by omega) hI203  (fun v30 S29 hI_S29 hp_v30 => zi_n ⟨zG_T hI_S29, ?_⟩)
                  have b204 := i_bd v30
                  exact K (v30) _ hI_S29 (show -1 ≤ v30.toInt ∧ v30.toInt ≤ 300000 from by omega)
          · skip
            have g205 := i_ne h182
            refine zd (fun h206 => ?_) (fun h206 => ?_)
            · skip
              have g207 := i_lt h206
              have hI208 : zL91 f r C Z N (ma_put S25 91 5 (.inl v26)) := zG_sp hI_S25 (0) (92) rfl (by decide) (by decide) (by decide) trivial (by omega) (by omega)
              exact K ((-1 : Int32)) _ hI208 (show -1 ≤ (-1 : Int32).toInt ∧ (-1 : Int32).toInt ≤ 300000 from by omega)
            · skip
              have g209 := i_nlt h206
              have li210 : (93 : Int32).toInt = 93 := rfl
              refine zd (fun h211 => ?_) (fun h211 => ?_)
              · skip
                have g212 := i_le h211
                have hI213 : zL91 f r C Z N (ma_put S25 91 5 (.inl v26)) := zG_sp hI_S25 (0) (92) rfl (by decide) (by decide) (by decide) trivial (by omega) (by omega)
                exact K ((-1 : Int32)) _ hI213 (show -1 ≤ (-1 : Int32).toInt ∧ (-1 : Int32).toInt ≤ 300000 from by omega)
              · skip
                have g214 := i_nle h211
                refine ⟨i_ix (by omega) (by omega), ?_⟩
                have f215 := zG_s hI_S25 (0) (1500) (c := 91) (k := 2) (by decide)
                first | have f216 := zG_a hI_S25 93 (0) (3000) (c := 92) (k := v26.toNatClampNeg) (by decide) (i_ix (n := 93) (by omega) (by omega)).2 | have b217 := i_bd (mI S25 92 v26.toNatClampNeg)
                first | have e218 : ((mI S25 92 v26.toNatClampNeg) + n).toInt = (mI S25 92 v26.toNatClampNeg).toInt + n.toInt := i_add (by omega) (by omega) | have b219 := i_bd ((mI S25 92 v26.toNatClampNeg) + n)
                refine zd (fun h220 => ?_) (fun h220 => ?_)
                · skip
                  have g221 := i_lt h220
                  have hI222 : zL91 f r C Z N (ma_put S25 91 5 (.inl v26)) := zG_sp hI_S25 (0) (92) rfl (by decide) (by decide) (by decide) trivial (by omega) (by omega)
                  exact K ((-1 : Int32)) _ hI222 (show -1 ≤ (-1 : Int32).toInt ∧ (-1 : Int32).toInt ≤ 300000 from by omega)
                · skip
                  have g223 := i_nlt h220
                  have hI224 : zL91 f r C Z N (ma_put S25 91 5 (.inl v26)) := zG_sp hI_S25 (0) (92) rfl (by decide) (by decide) (by decide) trivial (by omega) (by omega)
                  refine sp_55_91  (by omega) (by omega) hI224  (fun v28 S27 hI_S27 hp_v28 => zi_n ⟨zG_T hI_S27, ?_⟩)
                  have b225 := i_bd v28
                  exact K (v28) _ hI_S27 (show -1 ≤ v28.toInt ∧ v28.toInt ≤ 300000 from by omega)
        · skip
          have g226 := i_nlt h178
          have li227 : (93 : Int32).toInt = 93 := rfl
          refine zd (fun h228 => ?_) (fun h228 => ?_)
          · skip
            have g229 := i_le h228
            refine sp_52_91  (by omega) (by omega) hI_S23  (fun v32 S31 hI_S31 hp_v32 => zi_n ⟨zG_T hI_S31, ?_⟩)
            have b230 := i_bd v32
            have li231 : (-1 : Int32).toInt = -1 := rfl
            refine zd (fun h232 => ?_) (fun h232 => ?_)
            · skip
              have g233 := i_eq h232
              have f234 := zG_s hI_S31 (0) (92) (c := 91) (k := 5) (by decide)
              refine zd (fun h235 => ?_) (fun h235 => ?_)
              · skip
                have g236 := i_lt h235
                have hI237 : zL91 f r C Z N (ma_put S31 91 5 (.inl (mI S31 91 5))) := zG_sp hI_S31 (0) (92) rfl (by decide) (by decide) (by decide) trivial (by omega) (by omega)
                exact K ((-1 : Int32)) _ hI237 (show -1 ≤ (-1 : Int32).toInt ∧ (-1 : Int32).toInt ≤ 300000 from by omega)
              · skip
                have g238 := i_nlt h235
                refine zd (fun h239 => ?_) (fun h239 => ?_)
                · skip
                  have g240 := i_le h239
                  have hI241 : zL91 f r C Z N (ma_put S31 91 5 (.inl (mI S31 91 5))) := zG_sp hI_S31 (0) (92) rfl (by decide) (by decide) (by decide) trivial (by omega) (by omega)
                  exact K ((-1 : Int32)) _ hI241 (show -1 ≤ (-1 : Int32).toInt ∧ (-1 : Int32).toInt ≤ 300000 from by omega)
                · skip
                  have g242 := i_nle h239
                  refine ⟨i_ix (by omega) (by omega), ?_⟩
                  have f243 := zG_s hI_S31 (0) (1500) (c := 91) (k := 2) (by decide)
                  first | have f244 := zG_a hI_S31 93 (0) (3000) (c := 92) (k := (mI S31 91 5).toNatClampNeg) (by decide) (i_ix (n := 93) (by omega) (by omega)).2 | have b245 := i_bd (mI S31 92 (mI S31 91 5).toNatClampNeg)
                  first | have e246 : ((mI S31 92 (mI S31 91 5).toNatClampNeg) + n).toInt = (mI S31 92 (mI S31 91 5).toNatClampNeg).toInt + n.toInt := i_add (by omega) (by omega) | have b247 := i_bd ((mI S31 92 (mI S31 91 5).toNatClampNeg) + n)
                  refine zd (fun h248 => ?_) (fun h248 => ?_)
                  · skip
                    have g249 := i_lt h248
                    have hI250 : zL91 f r C Z N (ma_put S31 91 5 (.inl (mI S31 91 5))) := zG_sp hI_S31 (0) (92) rfl (by decide) (by decide) (by decide) trivial (by omega) (by omega)
                    exact K ((-1 : Int32)) _ hI250 (show -1 ≤ (-1 : Int32).toInt ∧ (-1 : Int32).toInt ≤ 300000 from by omega)
                  · skip
                    have g251 := i_nlt h248
                    have hI252 : zL91 f r C Z N (ma_put S31 91 5 (.inl (mI S31 91 5))) := zG_sp hI_S31 (0) (92) rfl (by decide) (by decide) (by decide) trivial (by omega) (by omega)
                    refine sp_55_91  (by omega) (by omega) hI252  (fun v36 S35 hI_S35 hp_v36 => zi_n ⟨zG_T hI_S35, ?_⟩)
                    have b253 := i_bd v36
                    exact K (v36) _ hI_S35 (show -1 ≤ v36.toInt ∧ v36.toInt ≤ 300000 from by omega)
            · skip
              have g254 := i_ne h232
              refine zd (fun h255 => ?_) (fun h255 => ?_)
              · skip
                have g256 := i_lt h255
                have hI257 : zL91 f r C Z N (ma_put S31 91 5 (.inl v32)) := zG_sp hI_S31 (0) (92) rfl (by decide) (by decide) (by decide) trivial (by omega) (by omega)
                exact K ((-1 : Int32)) _ hI257 (show -1 ≤ (-1 : Int32).toInt ∧ (-1 : Int32).toInt ≤ 300000 from by omega)
              · skip
                have g258 := i_nlt h255
                refine zd (fun h259 => ?_) (fun h259 => ?_)
                · skip
                  have g260 := i_le h259
                  have hI261 : zL91 f r C Z N (ma_put S31 91 5 (.inl v32)) := zG_sp hI_S31 (0) (92) rfl (by decide) (by decide) (by decide) trivial (by omega) (by omega)
                  exact K ((-1 : Int32)) _ hI261 (show -1 ≤ (-1 : Int32).toInt ∧ (-1 : Int32).toInt ≤ 300000 from by omega)
                · skip
                  have g262 := i_nle h259
                  refine ⟨i_ix (by omega) (by omega), ?_⟩
                  have f263 := zG_s hI_S31 (0) (1500) (c := 91) (k := 2) (by decide)
                  first | have f264 := zG_a hI_S31 93 (0) (3000) (c := 92) (k := v32.toNatClampNeg) (by decide) (i_ix (n := 93) (by omega) (by omega)).2 | have b265 := i_bd (mI S31 92 v32.toNatClampNeg)
                  first | have e266 : ((mI S31 92 v32.toNatClampNeg) + n).toInt = (mI S31 92 v32.toNatClampNeg).toInt + n.toInt := i_add (by omega) (by omega) | have b267 := i_bd ((mI S31 92 v32.toNatClampNeg) + n)
                  refine zd (fun h268 => ?_) (fun h268 => ?_)
                  · skip
                    have g269 := i_lt h268
                    have hI270 : zL91 f r C Z N (ma_put S31 91 5 (.inl v32)) := zG_sp hI_S31 (0) (92) rfl (by decide) (by decide) (by decide) trivial (by omega) (by omega)
                    exact K ((-1 : Int32)) _ hI270 (show -1 ≤ (-1 : Int32).toInt ∧ (-1 : Int32).toInt ≤ 300000 from by omega)
                  · skip
                    have g271 := i_nlt h268
                    have hI272 : zL91 f r C Z N (ma_put S31 91 5 (.inl v32)) := zG_sp hI_S31 (0) (92) rfl (by decide) (by decide) (by decide) trivial (by omega) (by omega)
                    refine sp_55_91  (by omega) (by omega) hI272  (fun v34 S33 hI_S33 hp_v34 => zi_n ⟨zG_T hI_S33, ?_⟩)
                    have b273 := i_bd v34
                    exact K (v34) _ hI_S33 (show -1 ≤ v34.toInt ∧ v34.toInt ≤ 300000 from by omega)
          · skip
            have g274 := i_nle h228
            refine ⟨i_ix (by omega) (by omega), ?_⟩
            have f275 := zG_s hI_S23 (0) (1500) (c := 91) (k := 2) (by decide)
            first | have f276 := zG_a hI_S23 93 (0) (3000) (c := 92) (k := (mI S23 91 5).toNatClampNeg) (by decide) (i_ix (n := 93) (by omega) (by omega)).2 | have b277 := i_bd (mI S23 92 (mI S23 91 5).toNatClampNeg)
            first | have e278 : ((mI S23 92 (mI S23 91 5).toNatClampNeg) + n).toInt = (mI S23 92 (mI S23 91 5).toNatClampNeg).toInt + n.toInt := i_add (by omega) (by omega) | have b279 := i_bd ((mI S23 92 (mI S23 91 5).toNatClampNeg) + n)
            refine zd (fun h280 => ?_) (fun h280 => ?_)
            · skip
              have g281 := i_lt h280
              refine sp_52_91  (by omega) (by omega) hI_S23  (fun v38 S37 hI_S37 hp_v38 => zi_n ⟨zG_T hI_S37, ?_⟩)
              have b282 := i_bd v38
              have li283 : (-1 : Int32).toInt = -1 := rfl
              refine zd (fun h284 => ?_) (fun h284 => ?_)
              · skip
                have g285 := i_eq h284
                have f286 := zG_s hI_S37 (0) (92) (c := 91) (k := 5) (by decide)
                refine zd (fun h287 => ?_) (fun h287 => ?_)
                · skip
                  have g288 := i_lt h287
                  have hI289 : zL91 f r C Z N (ma_put S37 91 5 (.inl (mI S37 91 5))) := zG_sp hI_S37 (0) (92) rfl (by decide) (by decide) (by decide) trivial (by omega) (by omega)
                  exact K ((-1 : Int32)) _ hI289 (show -1 ≤ (-1 : Int32).toInt ∧ (-1 : Int32).toInt ≤ 300000 from by omega)
                · skip
                  have g290 := i_nlt h287
                  refine zd (fun h291 => ?_) (fun h291 => ?_)
                  · skip
                    have g292 := i_le h291
                    have hI293 : zL91 f r C Z N (ma_put S37 91 5 (.inl (mI S37 91 5))) := zG_sp hI_S37 (0) (92) rfl (by decide) (by decide) (by decide) trivial (by omega) (by omega)
                    exact K ((-1 : Int32)) _ hI293 (show -1 ≤ (-1 : Int32).toInt ∧ (-1 : Int32).toInt ≤ 300000 from by omega)
                  · skip
                    have g294 := i_nle h291
                    refine ⟨i_ix (by omega) (by omega), ?_⟩
                    have f295 := zG_s hI_S37 (0) (1500) (c := 91) (k := 2) (by decide)
                    first | have f296 := zG_a hI_S37 93 (0) (3000) (c := 92) (k := (mI S37 91 5).toNatClampNeg) (by decide) (i_ix (n := 93) (by omega) (by omega)).2 | have b297 := i_bd (mI S37 92 (mI S37 91 5).toNatClampNeg)
                    first | have e298 : ((mI S37 92 (mI S37 91 5).toNatClampNeg) + n).toInt = (mI S37 92 (mI S37 91 5).toNatClampNeg).toInt + n.toInt := i_add (by omega) (by omega) | have b299 := i_bd ((mI S37 92 (mI S37 91 5).toNatClampNeg) + n)
                    refine zd (fun h300 => ?_) (fun h300 => ?_)
                    · skip
                      have g301 := i_lt h300
                      have hI302 : zL91 f r C Z N (ma_put S37 91 5 (.inl (mI S37 91 5))) := zG_sp hI_S37 (0) (92) rfl (by decide) (by decide) (by decide) trivial (by omega) (by omega)
                      exact K ((-1 : Int32)) _ hI302 (show -1 ≤ (-1 : Int32).toInt ∧ (-1 : Int32).toInt ≤ 300000 from by omega)
                    · skip
                      have g303 := i_nlt h300
                      have hI304 : zL91 f r C Z N (ma_put S37 91 5 (.inl (mI S37 91 5))) := zG_sp hI_S37 (0) (92) rfl (by decide) (by decide) (by decide) trivial (by omega) (by omega)
                      refine sp_55_91  (by omega) (by omega) hI304  (fun v42 S41 hI_S41 hp_v42 => zi_n ⟨zG_T hI_S41, ?_⟩)
                      have b305 := i_bd v42
                      exact K (v42) _ hI_S41 (show -1 ≤ v42.toInt ∧ v42.toInt ≤ 300000 from by omega)
              · skip
                have g306 := i_ne h284
                refine zd (fun h307 => ?_) (fun h307 => ?_)
                · skip
                  have g308 := i_lt h307
                  have hI309 : zL91 f r C Z N (ma_put S37 91 5 (.inl v38)) := zG_sp hI_S37 (0) (92) rfl (by decide) (by decide) (by decide) trivial (by omega) (by omega)
                  exact K ((-1 : Int32)) _ hI309 (show -1 ≤ (-1 : Int32).toInt ∧ (-1 : Int32).toInt ≤ 300000 from by omega)
                · skip
                  have g310 := i_nlt h307
                  refine zd (fun h311 => ?_) (fun h311 => ?_)
                  · skip
                    have g312 := i_le h311
                    have hI313 : zL91 f r C Z N (ma_put S37 91 5 (.inl v38)) := zG_sp hI_S37 (0) (92) rfl (by decide) (by decide) (by decide) trivial (by omega) (by omega)
                    exact K ((-1 : Int32)) _ hI313 (show -1 ≤ (-1 : Int32).toInt ∧ (-1 : Int32).toInt ≤ 300000 from by omega)
                  · skip
                    have g314 := i_nle h311
                    refine ⟨i_ix (by omega) (by omega), ?_⟩
                    have f315 := zG_s hI_S37 (0) (1500) (c := 91) (k := 2) (by decide)
                    first | have f316 := zG_a hI_S37 93 (0) (3000) (c := 92) (k := v38.toNatClampNeg) (by decide) (i_ix (n := 93) (by omega) (by omega)).2 | have b317 := i_bd (mI S37 92 v38.toNatClampNeg)
                    first | have e318 : ((mI S37 92 v38.toNatClampNeg) + n).toInt = (mI S37 92 v38.toNatClampNeg).toInt + n.toInt := i_add (by omega) (by omega) | have b319 := i_bd ((mI S37 92 v38.toNatClampNeg) + n)
                    refine zd (fun h320 => ?_) (fun h320 => ?_)
                    · skip
                      have g321 := i_lt h320
                      have hI322 : zL91 f r C Z N (ma_put S37 91 5 (.inl v38)) := zG_sp hI_S37 (0) (92) rfl (by decide) (by decide) (by decide) trivial (by omega) (by omega)
                      exact K ((-1 : Int32)) _ hI322 (show -1 ≤ (-1 : Int32).toInt ∧ (-1 : Int32).toInt ≤ 300000 from by omega)
                    · skip
                      have g323 := i_nlt h320
                      have hI324 : zL91 f r C Z N (ma_put S37 91 5 (.inl v38)) := zG_sp hI_S37 (0) (92) rfl (by decide) (by decide) (by decide) trivial (by omega) (by omega)
                      refine sp_55_91  (by omega) (by omega) hI324  (fun v40 S39 hI_S39 hp_v40 => zi_n ⟨zG_T hI_S39, ?_⟩)
                      have b325 := i_bd v40
                      exact K (v40) _ hI_S39 (show -1 ≤ v40.toInt ∧ v40.toInt ≤ 300000 from by omega)
            · skip
              have g326 := i_nlt h280
              refine zd (fun h327 => ?_) (fun h327 => ?_)
              · skip
                have g328 := i_lt h327
                have li329 : (-1 : Int32).toInt = -1 := rfl
                exact K ((-1 : Int32)) _ hI_S23 (show -1 ≤ (-1 : Int32).toInt ∧ (-1 : Int32).toInt ≤ 300000 from by omega)
              · skip
                have g330 := i_nlt h327
                refine zd (fun h331 => ?_) (fun h331 => ?_)
                · skip
                  have g332 := i_le h331
                  have li333 : (-1 : Int32).toInt = -1 := rfl
                  exact K ((-1 : Int32)) _ hI_S23 (show -1 ≤ (-1 : Int32).toInt ∧ (-1 : Int32).toInt ≤ 300000 from by omega)
                · skip
                  have g334 := i_nle h331
                  refine ⟨i_ix (by omega) (by omega), ?_⟩
                  refine zd (fun h335 => ?_) (fun h335 => ?_)
                  · skip
                    have g336 := i_lt h335
                    have li337 : (-1 : Int32).toInt = -1 := rfl
                    exact K ((-1 : Int32)) _ hI_S23 (show -1 ≤ (-1 : Int32).toInt ∧ (-1 : Int32).toInt ≤ 300000 from by omega)
                  · skip
                    have g338 := i_nlt h335
                    refine sp_55_91  (by omega) (by omega) hI_S23  (fun v44 S43 hI_S43 hp_v44 => zi_n ⟨zG_T hI_S43, ?_⟩)
                    have b339 := i_bd v44
                    exact K (v44) _ hI_S43 (show -1 ≤ v44.toInt ∧ v44.toInt ≤ 300000 from by omega)
    · skip
      have g340 := i_nlt h7
      have li341 : (93 : Int32).toInt = 93 := rfl
      refine zd (fun h342 => ?_) (fun h342 => ?_)
      · skip
        have g343 := i_le h342
        refine sp_42_91  (by omega) (by omega) hI  (fun v46 S45 hI_S45 hp_v46 => zi_n ⟨zG_T hI_S45, ?_⟩)
        have li344 : (2 : Int32).toInt = 2 := rfl
        have b345 := i_bd v46
        refine zd (fun h346 => ?_) (fun h346 => ?_)
        · skip
          have g347 := i_le h346
          have f348 := zG_s hI_S45 (0) (92) (c := 91) (k := 5) (by decide)
          refine zd (fun h349 => ?_) (fun h349 => ?_)
          · skip
            have g350 := i_lt h349
            refine sp_52_91  (by omega) (by omega) hI_S45  (fun v48 S47 hI_S47 hp_v48 => zi_n ⟨zG_T hI_S47, ?_⟩)
            have b351 := i_bd v48
            have li352 : (-1 : Int32).toInt = -1 := rfl
            refine zd (fun h353 => ?_) (fun h353 => ?_)
            · skip
              have g354 := i_eq h353
              have f355 := zG_s hI_S47 (0) (92) (c := 91) (k := 5) (by decide)
              refine zd (fun h356 => ?_) (fun h356 => ?_)
              · skip
                have g357 := i_lt h356
                have hI358 : zL91 f r C Z N (ma_put S47 91 5 (.inl (mI S47 91 5))) := zG_sp hI_S47 (0) (92) rfl (by decide) (by decide) (by decide) trivial (by omega) (by omega)
                exact K ((-1 : Int32)) _ hI358 (show -1 ≤ (-1 : Int32).toInt ∧ (-1 : Int32).toInt ≤ 300000 from by omega)
              · skip
                have g359 := i_nlt h356
                refine zd (fun h360 => ?_) (fun h360 => ?_)
                · skip
                  have g361 := i_le h360
                  have hI362 : zL91 f r C Z N (ma_put S47 91 5 (.inl (mI S47 91 5))) := zG_sp hI_S47 (0) (92) rfl (by decide) (by decide) (by decide) trivial (by omega) (by omega)
                  exact K ((-1 : Int32)) _ hI362 (show -1 ≤ (-1 : Int32).toInt ∧ (-1 : Int32).toInt ≤ 300000 from by omega)
                · skip
                  have g363 := i_nle h360
                  refine ⟨i_ix (by omega) (by omega), ?_⟩
                  have f364 := zG_s hI_S47 (0) (1500) (c := 91) (k := 2) (by decide)
                  first | have f365 := zG_a hI_S47 93 (0) (3000) (c := 92) (k := (mI S47 91 5).toNatClampNeg) (by decide) (i_ix (n := 93) (by omega) (by omega)).2 | have b366 := i_bd (mI S47 92 (mI S47 91 5).toNatClampNeg)
                  first | have e367 : ((mI S47 92 (mI S47 91 5).toNatClampNeg) + n).toInt = (mI S47 92 (mI S47 91 5).toNatClampNeg).toInt + n.toInt := i_add (by omega) (by omega) | have b368 := i_bd ((mI S47 92 (mI S47 91 5).toNatClampNeg) + n)
                  refine zd (fun h369 => ?_) (fun h369 => ?_)
                  · skip
                    have g370 := i_lt h369
                    have hI371 : zL91 f r C Z N (ma_put S47 91 5 (.inl (mI S47 91 5))) := zG_sp hI_S47 (0) (92) rfl (by decide) (by decide) (by decide) trivial (by omega) (by omega)
                    exact K ((-1 : Int32)) _ hI371 (show -1 ≤ (-1 : Int32).toInt ∧ (-1 : Int32).toInt ≤ 300000 from by omega)
                  · skip
                    have g372 := i_nlt h369
                    have hI373 : zL91 f r C Z N (ma_put S47 91 5 (.inl (mI S47 91 5))) := zG_sp hI_S47 (0) (92) rfl (by decide) (by decide) (by decide) trivial (by omega) (by omega)
                    refine sp_55_91  (by omega) (by omega) hI373  (fun v52 S51 hI_S51 hp_v52 => zi_n ⟨zG_T hI_S51, ?_⟩)
                    have b374 := i_bd v52
                    exact K (v52) _ hI_S51 (show -1 ≤ v52.toInt ∧ v52.toInt ≤ 300000 from by omega)
            · skip
              have g375 := i_ne h353
              refine zd (fun h376 => ?_) (fun h376 => ?_)
              · skip
                have g377 := i_lt h376
                have hI378 : zL91 f r C Z N (ma_put S47 91 5 (.inl v48)) := zG_sp hI_S47 (0) (92) rfl (by decide) (by decide) (by decide) trivial (by omega) (by omega)
                exact K ((-1 : Int32)) _ hI378 (show -1 ≤ (-1 : Int32).toInt ∧ (-1 : Int32).toInt ≤ 300000 from by omega)
              · skip
                have g379 := i_nlt h376
                refine zd (fun h380 => ?_) (fun h380 => ?_)
                · skip
                  have g381 := i_le h380
                  have hI382 : zL91 f r C Z N (ma_put S47 91 5 (.inl v48)) := zG_sp hI_S47 (0) (92) rfl (by decide) (by decide) (by decide) trivial (by omega) (by omega)
                  exact K ((-1 : Int32)) _ hI382 (show -1 ≤ (-1 : Int32).toInt ∧ (-1 : Int32).toInt ≤ 300000 from by omega)
                · skip
                  have g383 := i_nle h380
                  refine ⟨i_ix (by omega) (by omega), ?_⟩
                  have f384 := zG_s hI_S47 (0) (1500) (c := 91) (k := 2) (by decide)
                  first | have f385 := zG_a hI_S47 93 (0) (3000) (c := 92) (k := v48.toNatClampNeg) (by decide) (i_ix (n := 93) (by omega) (by omega)).2 | have b386 := i_bd (mI S47 92 v48.toNatClampNeg)
                  first | have e387 : ((mI S47 92 v48.toNatClampNeg) + n).toInt = (mI S47 92 v48.toNatClampNeg).toInt + n.toInt := i_add (by omega) (by omega) | have b388 := i_bd ((mI S47 92 v48.toNatClampNeg) + n)
                  refine zd (fun h389 => ?_) (fun h389 => ?_)
                  · skip
                    have g390 := i_lt h389
                    have hI391 : zL91 f r C Z N (ma_put S47 91 5 (.inl v48)) := zG_sp hI_S47 (0) (92) rfl (by decide) (by decide) (by decide) trivial (by omega) (by omega)
                    exact K ((-1 : Int32)) _ hI391 (show -1 ≤ (-1 : Int32).toInt ∧ (-1 : Int32).toInt ≤ 300000 from by omega)
                  · skip
                    have g392 := i_nlt h389
                    have hI393 : zL91 f r C Z N (ma_put S47 91 5 (.inl v48)) := zG_sp hI_S47 (0) (92) rfl (by decide) (by decide) (by decide) trivial (by omega) (by omega)
                    refine sp_55_91  (by omega) (by omega) hI393  (fun v50 S49 hI_S49 hp_v50 => zi_n ⟨zG_T hI_S49, ?_⟩)
                    have b394 := i_bd v50
                    exact K (v50) _ hI_S49 (show -1 ≤ v50.toInt ∧ v50.toInt ≤ 300000 from by omega)
          · skip
            have g395 := i_nlt h349
            refine zd (fun h396 => ?_) (fun h396 => ?_)
            · skip
              have g397 := i_le h396
              refine sp_52_91  (by omega) (by omega) hI_S45  (fun v54 S53 hI_S53 hp_v54 => zi_n ⟨zG_T hI_S53, ?_⟩)
              have b398 := i_bd v54
              have li399 : (-1 : Int32).toInt = -1 := rfl
              refine zd (fun h400 => ?_) (fun h400 => ?_)
              · skip
                have g401 := i_eq h400
                have f402 := zG_s hI_S53 (0) (92) (c := 91) (k := 5) (by decide)
                refine zd (fun h403 => ?_) (fun h403 => ?_)
                · skip
                  have g404 := i_lt h403
                  have hI405 : zL91 f r C Z N (ma_put S53 91 5 (.inl (mI S53 91 5))) := zG_sp hI_S53 (0) (92) rfl (by decide) (by decide) (by decide) trivial (by omega) (by omega)
                  exact K ((-1 : Int32)) _ hI405 (show -1 ≤ (-1 : Int32).toInt ∧ (-1 : Int32).toInt ≤ 300000 from by omega)
                · skip
                  have g406 := i_nlt h403
                  refine zd (fun h407 => ?_) (fun h407 => ?_)
                  · skip
                    have g408 := i_le h407
                    have hI409 : zL91 f r C Z N (ma_put S53 91 5 (.inl (mI S53 91 5))) := zG_sp hI_S53 (0) (92) rfl (by decide) (by decide) (by decide) trivial (by omega) (by omega)
                    exact K ((-1 : Int32)) _ hI409 (show -1 ≤ (-1 : Int32).toInt ∧ (-1 : Int32).toInt ≤ 300000 from by omega)
                  · skip
                    have g410 := i_nle h407
                    refine ⟨i_ix (by omega) (by omega), ?_⟩
                    have f411 := zG_s hI_S53 (0) (1500) (c := 91) (k := 2) (by decide)
                    first | have f412 := zG_a hI_S53 93 (0) (3000) (c := 92) (k := (mI S53 91 5).toNatClampNeg) (by decide) (i_ix (n := 93) (by omega) (by omega)).2 | have b413 := i_bd (mI S53 92 (mI S53 91 5).toNatClampNeg)
                    first | have e414 : ((mI S53 92 (mI S53 91 5).toNatClampNeg) + n).toInt = (mI S53 92 (mI S53 91 5).toNatClampNeg).toInt + n.toInt := i_add (by omega) (by omega) | have b415 := i_bd ((mI S53 92 (mI S53 91 5).toNatClampNeg) + n)
                    refine zd (fun h416 => ?_) (fun h416 => ?_)
                    · skip
                      have g417 := i_lt h416
                      have hI418 : zL91 f r C Z N (ma_put S53 91 5 (.inl (mI S53 91 5))) := zG_sp hI_S53 (0) (92) rfl (by decide) (by decide) (by decide) trivial (by omega) (by omega)
                      exact K ((-1 : Int32)) _ hI418 (show -1 ≤ (-1 : Int32).toInt ∧ (-1 : Int32).toInt ≤ 300000 from by omega)
                    · skip
                      have g419 := i_nlt h416
                      have hI420 : zL91 f r C Z N (ma_put S53 91 5 (.inl (mI S53 91 5))) := zG_sp hI_S53 (0) (92) rfl (by decide) (by decide) (by decide) trivial (by omega) (by omega)
                      refine sp_55_91  (by omega) (by omega) hI420  (fun v58 S57 hI_S57 hp_v58 => zi_n ⟨zG_T hI_S57, ?_⟩)
                      have b421 := i_bd v58
                      exact K (v58) _ hI_S57 (show -1 ≤ v58.toInt ∧ v58.toInt ≤ 300000 from by omega)
              · skip
                have g422 := i_ne h400
                refine zd (fun h423 => ?_) (fun h423 => ?_)
                · skip
                  have g424 := i_lt h423
                  have hI425 : zL91 f r C Z N (ma_put S53 91 5 (.inl v54)) := zG_sp hI_S53 (0) (92) rfl (by decide) (by decide) (by decide) trivial (by omega) (by omega)
                  exact K ((-1 : Int32)) _ hI425 (show -1 ≤ (-1 : Int32).toInt ∧ (-1 : Int32).toInt ≤ 300000 from by omega)
                · skip
                  have g426 := i_nlt h423
                  refine zd (fun h427 => ?_) (fun h427 => ?_)
                  · skip
                    have g428 := i_le h427
                    have hI429 : zL91 f r C Z N (ma_put S53 91 5 (.inl v54)) := zG_sp hI_S53 (0) (92) rfl (by decide) (by decide) (by decide) trivial (by omega) (by omega)
                    exact K ((-1 : Int32)) _ hI429 (show -1 ≤ (-1 : Int32).toInt ∧ (-1 : Int32).toInt ≤ 300000 from by omega)
                  · skip
                    have g430 := i_nle h427
                    refine ⟨i_ix (by omega) (by omega), ?_⟩
                    have f431 := zG_s hI_S53 (0) (1500) (c := 91) (k := 2) (by decide)
                    first | have f432 := zG_a hI_S53 93 (0) (3000) (c := 92) (k := v54.toNatClampNeg) (by decide) (i_ix (n := 93) (by omega) (by omega)).2 | have b433 := i_bd (mI S53 92 v54.toNatClampNeg)
                    first | have e434 : ((mI S53 92 v54.toNatClampNeg) + n).toInt = (mI S53 92 v54.toNatClampNeg).toInt + n.toInt := i_add (by omega) (by omega) | have b435 := i_bd ((mI S53 92 v54.toNatClampNeg) + n)
                    refine zd (fun h436 => ?_) (fun h436 => ?_)
                    · skip
                      have g437 := i_lt h436
                      have hI438 : zL91 f r C Z N (ma_put S53 91 5 (.inl v54)) := zG_sp hI_S53 (0) (92) rfl (by decide) (by decide) (by decide) trivial (by omega) (by omega)
                      exact K ((-1 : Int32)) _ hI438 (show -1 ≤ (-1 : Int32).toInt ∧ (-1 : Int32).toInt ≤ 300000 from by omega)
                    · skip
                      have g439 := i_nlt h436
                      have hI440 : zL91 f r C Z N (ma_put S53 91 5 (.inl v54)) := zG_sp hI_S53 (0) (92) rfl (by decide) (by decide) (by decide) trivial (by omega) (by omega)
                      refine sp_55_91  (by omega) (by omega) hI440  (fun v56 S55 hI_S55 hp_v56 => zi_n ⟨zG_T hI_S55, ?_⟩)
                      have b441 := i_bd v56
                      exact K (v56) _ hI_S55 (show -1 ≤ v56.toInt ∧ v56.toInt ≤ 300000 from by omega)
            · skip
              have g442 := i_nle h396
              refine ⟨i_ix (by omega) (by omega), ?_⟩
              have f443 := zG_s hI_S45 (0) (1500) (c := 91) (k := 2) (by decide)
              first | have f444 := zG_a hI_S45 93 (0) (3000) (c := 92) (k := (mI S45 91 5).toNatClampNeg) (by decide) (i_ix (n := 93) (by omega) (by omega)).2 | have b445 := i_bd (mI S45 92 (mI S45 91 5).toNatClampNeg)
              first | have e446 : ((mI S45 92 (mI S45 91 5).toNatClampNeg) + n).toInt = (mI S45 92 (mI S45 91 5).toNatClampNeg).toInt + n.toInt := i_add (by omega) (by omega) | have b447 := i_bd ((mI S45 92 (mI S45 91 5).toNatClampNeg) + n)
              refine zd (fun h448 => ?_) (fun h448 => ?_)
              · skip
                have g449 := i_lt h448
                refine sp_52_91  (by omega) (by omega) hI_S45  (fun v60 S59 hI_S59 hp_v60 => zi_n ⟨zG_T hI_S59, ?_⟩)
                have b450 := i_bd v60
                have li451 : (-1 : Int32).toInt = -1 := rfl
                refine zd (fun h452 => ?_) (fun h452 => ?_)
                · skip
                  have g453 := i_eq h452
                  have f454 := zG_s hI_S59 (0) (92) (c := 91) (k := 5) (by decide)
                  refine zd (fun h455 => ?_) (fun h455 => ?_)
                  · skip
                    have g456 := i_lt h455
                    have hI457 : zL91 f r C Z N (ma_put S59 91 5 (.inl (mI S59 91 5))) := zG_sp hI_S59 (0) (92) rfl (by decide) (by decide) (by decide) trivial (by omega) (by omega)
                    exact K ((-1 : Int32)) _ hI457 (show -1 ≤ (-1 : Int32).toInt ∧ (-1 : Int32).toInt ≤ 300000 from by omega)
                  · skip
                    have g458 := i_nlt h455
                    refine zd (fun h459 => ?_) (fun h459 => ?_)
                    · skip
                      have g460 := i_le h459
                      have hI461 : zL91 f r C Z N (ma_put S59 91 5 (.inl (mI S59 91 5))) := zG_sp hI_S59 (0) (92) rfl (by decide) (by decide) (by decide) trivial (by omega) (by omega)
                      exact K ((-1 : Int32)) _ hI461 (show -1 ≤ (-1 : Int32).toInt ∧ (-1 : Int32).toInt ≤ 300000 from by omega)
                    · skip
                      have g462 := i_nle h459
                      refine ⟨i_ix (by omega) (by omega), ?_⟩
                      have f463 := zG_s hI_S59 (0) (1500) (c := 91) (k := 2) (by decide)
                      first | have f464 := zG_a hI_S59 93 (0) (3000) (c := 92) (k := (mI S59 91 5).toNatClampNeg) (by decide) (i_ix (n := 93) (by omega) (by omega)).2 | have b465 := i_bd (mI S59 92 (mI S59 91 5).toNatClampNeg)
                      first | have e466 : ((mI S59 92 (mI S59 91 5).toNatClampNeg) + n).toInt = (mI S59 92 (mI S59 91 5).toNatClampNeg).toInt + n.toInt := i_add (by omega) (by omega) | have b467 := i_bd ((mI S59 92 (mI S59 91 5).toNatClampNeg) + n)
                      refine zd (fun h468 => ?_) (fun h468 => ?_)
                      · skip
                        have g469 := i_lt h468
                        have hI470 : zL91 f r C Z N (ma_put S59 91 5 (.inl (mI S59 91 5))) := zG_sp hI_S59 (0) (92) rfl (by decide) (by decide) (by decide) trivial (by omega) (by omega)
                        exact K ((-1 : Int32)) _ hI470 (show -1 ≤ (-1 : Int32).toInt ∧ (-1 : Int32).toInt ≤ 300000 from by omega)
                      · skip
                        have g471 := i_nlt h468
                        have hI472 : zL91 f r C Z N (ma_put S59 91 5 (.inl (mI S59 91 5))) := zG_sp hI_S59 (0) (92) rfl (by decide) (by decide) (by decide) trivial (by omega) (by omega)
                        refine sp_55_91  (by omega) (by omega) hI472  (fun v64 S63 hI_S63 hp_v64 => zi_n ⟨zG_T hI_S63, ?_⟩)
                        have b473 := i_bd v64
                        exact K (v64) _ hI_S63 (show -1 ≤ v64.toInt ∧ v64.toInt ≤ 300000 from by omega)
                · skip
                  have g474 := i_ne h452
                  refine zd (fun h475 => ?_) (fun h475 => ?_)
                  · skip
                    have g476 := i_lt h475
                    have hI477 : zL91 f r C Z N (ma_put S59 91 5 (.inl v60)) := zG_sp hI_S59 (0) (92) rfl (by decide) (by decide) (by decide) trivial (by omega) (by omega)
                    exact K ((-1 : Int32)) _ hI477 (show -1 ≤ (-1 : Int32).toInt ∧ (-1 : Int32).toInt ≤ 300000 from by omega)
                  · skip
                    have g478 := i_nlt h475
                    refine zd (fun h479 => ?_) (fun h479 => ?_)
                    · skip
                      have g480 := i_le h479
                      have hI481 : zL91 f r C Z N (ma_put S59 91 5 (.inl v60)) := zG_sp hI_S59 (0) (92) rfl (by decide) (by decide) (by decide) trivial (by omega) (by omega)
                      exact K ((-1 : Int32)) _ hI481 (show -1 ≤ (-1 : Int32).toInt ∧ (-1 : Int32).toInt ≤ 300000 from by omega)
                    · skip
                      have g482 := i_nle h479
                      refine ⟨i_ix (by omega) (by omega), ?_⟩
                      have f483 := zG_s hI_S59 (0) (1500) (c := 91) (k := 2) (by decide)
                      first | have f484 := zG_a hI_S59 93 (0) (3000) (c := 92) (k := v60.toNatClampNeg) (by decide) (i_ix (n := 93) (by omega) (by omega)).2 | have b485 := i_bd (mI S59 92 v60.toNatClampNeg)
                      first | have e486 : ((mI S59 92 v60.toNatClampNeg) + n).toInt = (mI S59 92 v60.toNatClampNeg).toInt + n.toInt := i_add (by omega) (by omega) | have b487 := i_bd ((mI S59 92 v60.toNatClampNeg) + n)
                      refine zd (fun h488 => ?_) (fun h488 => ?_)
                      · skip
                        have g489 := i_lt h488
                        have hI490 : zL91 f r C Z N (ma_put S59 91 5 (.inl v60)) := zG_sp hI_S59 (0) (92) rfl (by decide) (by decide) (by decide) trivial (by omega) (by omega)
                        exact K ((-1 : Int32)) _ hI490 (show -1 ≤ (-1 : Int32).toInt ∧ (-1 : Int32).toInt ≤ 300000 from by omega)
                      · skip
                        have g491 := i_nlt h488
                        have hI492 : zL91 f r C Z N (ma_put S59 91 5 (.inl v60)) := zG_sp hI_S59 (0) (92) rfl (by decide) (by decide) (by decide) trivial (by omega) (by omega)
                        refine sp_55_91  (by omega) (by omega) hI492  (fun v62 S61 hI_S61 hp_v62 => zi_n ⟨zG_T hI_S61, ?_⟩)
                        have b493 := i_bd v62
                        exact K (v62) _ hI_S61 (show -1 ≤ v62.toInt ∧ v62.toInt ≤ 300000 from by omega)
              · skip
                have g494 := i_nlt h448
                refine zd (fun h495 => ?_) (fun h495 => ?_)
                · skip
                  have g496 := i_lt h495
                  have li497 : (-1 : Int32).toInt = -1 := rfl
                  exact K ((-1 : Int32)) _ hI_S45 (show -1 ≤ (-1 : Int32).toInt ∧ (-1 : Int32).toInt ≤ 300000 from by omega)
                · skip
                  have g498 := i_nlt h495
                  refine zd (fun h499 => ?_) (fun h499 => ?_)
                  · skip
                    have g500 := i_le h499
                    have li501 : (-1 : Int32).toInt = -1 := rfl
                    exact K ((-1 : Int32)) _ hI_S45 (show -1 ≤ (-1 : Int32).toInt ∧ (-1 : Int32).toInt ≤ 300000 from by omega)
                  · skip
                    have g502 := i_nle h499
                    refine ⟨i_ix (by omega) (by omega), ?_⟩
                    refine zd (fun h503 => ?_) (fun h503 => ?_)
                    · skip
                      have g504 := i_lt h503
                      have li505 : (-1 : Int32).toInt = -1 := rfl
                      exact K ((-1 : Int32)) _ hI_S45 (show -1 ≤ (-1 : Int32).toInt ∧ (-1 : Int32).toInt ≤ 300000 from by omega)
                    · skip
                      have g506 := i_nlt h503
                      refine sp_55_91  (by omega) (by omega) hI_S45  (fun v66 S65 hI_S65 hp_v66 => zi_n ⟨zG_T hI_S65, ?_⟩)
                      have b507 := i_bd v66
                      exact K (v66) _ hI_S65 (show -1 ≤ v66.toInt ∧ v66.toInt ≤ 300000 from by omega)
        · skip
          have g508 := i_nle h346
          refine sp_43_91  (by omega) (by omega) hI_S45  (fun v68 S67 hI_S67 hp_v68 => zi_n ⟨zG_T hI_S67, ?_⟩)
          have f509 := zG_s hI_S67 (0) (92) (c := 91) (k := 5) (by decide)
          refine zd (fun h510 => ?_) (fun h510 => ?_)
          · skip
            have g511 := i_lt h510
            refine sp_52_91  (by omega) (by omega) hI_S67  (fun v70 S69 hI_S69 hp_v70 => zi_n ⟨zG_T hI_S69, ?_⟩)
            have b512 := i_bd v70
            have li513 : (-1 : Int32).toInt = -1 := rfl
            refine zd (fun h514 => ?_) (fun h514 => ?_)
            · skip
              have g515 := i_eq h514
              have f516 := zG_s hI_S69 (0) (92) (c := 91) (k := 5) (by decide)
              refine zd (fun h517 => ?_) (fun h517 => ?_)
              · skip
                have g518 := i_lt h517
                have hI519 : zL91 f r C Z N (ma_put S69 91 5 (.inl (mI S69 91 5))) := zG_sp hI_S69 (0) (92) rfl (by decide) (by decide) (by decide) trivial (by omega) (by omega)
                exact K ((-1 : Int32)) _ hI519 (show -1 ≤ (-1 : Int32).toInt ∧ (-1 : Int32).toInt ≤ 300000 from by omega)
              · skip
                have g520 := i_nlt h517
                refine zd (fun h521 => ?_) (fun h521 => ?_)
                · skip
                  have g522 := i_le h521
                  have hI523 : zL91 f r C Z N (ma_put S69 91 5 (.inl (mI S69 91 5))) := zG_sp hI_S69 (0) (92) rfl (by decide) (by decide) (by decide) trivial (by omega) (by omega)
                  exact K ((-1 : Int32)) _ hI523 (show -1 ≤ (-1 : Int32).toInt ∧ (-1 : Int32).toInt ≤ 300000 from by omega)
                · skip
                  have g524 := i_nle h521
                  refine ⟨i_ix (by omega) (by omega), ?_⟩
                  have f525 := zG_s hI_S69 (0) (1500) (c := 91) (k := 2) (by decide)
                  first | have f526 := zG_a hI_S69 93 (0) (3000) (c := 92) (k := (mI S69 91 5).toNatClampNeg) (by decide) (i_ix (n := 93) (by omega) (by omega)).2 | have b527 := i_bd (mI S69 92 (mI S69 91 5).toNatClampNeg)
                  first | have e528 : ((mI S69 92 (mI S69 91 5).toNatClampNeg) + n).toInt = (mI S69 92 (mI S69 91 5).toNatClampNeg).toInt + n.toInt := i_add (by omega) (by omega) | have b529 := i_bd ((mI S69 92 (mI S69 91 5).toNatClampNeg) + n)
                  refine zd (fun h530 => ?_) (fun h530 => ?_)
                  · skip
                    have g531 := i_lt h530
                    have hI532 : zL91 f r C Z N (ma_put S69 91 5 (.inl (mI S69 91 5))) := zG_sp hI_S69 (0) (92) rfl (by decide) (by decide) (by decide) trivial (by omega) (by omega)
                    exact K ((-1 : Int32)) _ hI532 (show -1 ≤ (-1 : Int32).toInt ∧ (-1 : Int32).toInt ≤ 300000 from by omega)
                  · skip
                    have g533 := i_nlt h530
                    have hI534 : zL91 f r C Z N (ma_put S69 91 5 (.inl (mI S69 91 5))) := zG_sp hI_S69 (0) (92) rfl (by decide) (by decide) (by decide) trivial (by omega) (by omega)
                    refine sp_55_91  (by omega) (by omega) hI534  (fun v74 S73 hI_S73 hp_v74 => zi_n ⟨zG_T hI_S73, ?_⟩)
                    have b535 := i_bd v74
                    exact K (v74) _ hI_S73 (show -1 ≤ v74.toInt ∧ v74.toInt ≤ 300000 from by omega)
            · skip
              have g536 := i_ne h514
              refine zd (fun h537 => ?_) (fun h537 => ?_)
              · skip
                have g538 := i_lt h537
                have hI539 : zL91 f r C Z N (ma_put S69 91 5 (.inl v70)) := zG_sp hI_S69 (0) (92) rfl (by decide) (by decide) (by decide) trivial (by omega) (by omega)
                exact K ((-1 : Int32)) _ hI539 (show -1 ≤ (-1 : Int32).toInt ∧ (-1 : Int32).toInt ≤ 300000 from by omega)
              · skip
                have g540 := i_nlt h537
                refine zd (fun h541 => ?_) (fun h541 => ?_)
                · skip
                  have g542 := i_le h541
                  have hI543 : zL91 f r C Z N (ma_put S69 91 5 (.inl v70)) := zG_sp hI_S69 (0) (92) rfl (by decide) (by decide) (by decide) trivial (by omega) (by omega)
                  exact K ((-1 : Int32)) _ hI543 (show -1 ≤ (-1 : Int32).toInt ∧ (-1 : Int32).toInt ≤ 300000 from by omega)
                · skip
                  have g544 := i_nle h541
                  refine ⟨i_ix (by omega) (by omega), ?_⟩
                  have f545 := zG_s hI_S69 (0) (1500) (c := 91) (k := 2) (by decide)
                  first | have f546 := zG_a hI_S69 93 (0) (3000) (c := 92) (k := v70.toNatClampNeg) (by decide) (i_ix (n := 93) (by omega) (by omega)).2 | have b547 := i_bd (mI S69 92 v70.toNatClampNeg)
                  first | have e548 : ((mI S69 92 v70.toNatClampNeg) + n).toInt = (mI S69 92 v70.toNatClampNeg).toInt + n.toInt := i_add (by omega) (by omega) | have b549 := i_bd ((mI S69 92 v70.toNatClampNeg) + n)
                  refine zd (fun h550 => ?_) (fun h550 => ?_)
                  · skip
                    have g551 := i_lt h550
                    have hI552 : zL91 f r C Z N (ma_put S69 91 5 (.inl v70)) := zG_sp hI_S69 (0) (92) rfl (by decide) (by decide) (by decide) trivial (by omega) (by omega)
                    exact K ((-1 : Int32)) _ hI552 (show -1 ≤ (-1 : Int32).toInt ∧ (-1 : Int32).toInt ≤ 300000 from by omega)
                  · skip
                    have g553 := i_nlt h550
                    have hI554 : zL91 f r C Z N (ma_put S69 91 5 (.inl v70)) := zG_sp hI_S69 (0) (92) rfl (by decide) (by decide) (by decide) trivial (by omega) (by omega)
                    refine sp_55_91  (by omega) (by omega) hI554  (fun v72 S71 hI_S71 hp_v72 => zi_n ⟨zG_T hI_S71, ?_⟩)
                    have b555 := i_bd v72
                    exact K (v72) _ hI_S71 (show -1 ≤ v72.toInt ∧ v72.toInt ≤ 300000 from by omega)
          · skip
            have g556 := i_nlt h510
            refine zd (fun h557 => ?_) (fun h557 => ?_)
            · skip
              have g558 := i_le h557
              refine sp_52_91  (by omega) (by omega) hI_S67  (fun v76 S75 hI_S75 hp_v76 => zi_n ⟨zG_T hI_S75, ?_⟩)
              have b559 := i_bd v76
              have li560 : (-1 : Int32).toInt = -1 := rfl
              refine zd (fun h561 => ?_) (fun h561 => ?_)
              · skip
                have g562 := i_eq h561
                have f563 := zG_s hI_S75 (0) (92) (c := 91) (k := 5) (by decide)
                refine zd (fun h564 => ?_) (fun h564 => ?_)
                · skip
                  have g565 := i_lt h564
                  have hI566 : zL91 f r C Z N (ma_put S75 91 5 (.inl (mI S75 91 5))) := zG_sp hI_S75 (0) (92) rfl (by decide) (by decide) (by decide) trivial (by omega) (by omega)
                  exact K ((-1 : Int32)) _ hI566 (show -1 ≤ (-1 : Int32).toInt ∧ (-1 : Int32).toInt ≤ 300000 from by omega)
                · skip
                  have g567 := i_nlt h564
                  refine zd (fun h568 => ?_) (fun h568 => ?_)
                  · skip
                    have g569 := i_le h568
                    have hI570 : zL91 f r C Z N (ma_put S75 91 5 (.inl (mI S75 91 5))) := zG_sp hI_S75 (0) (92) rfl (by decide) (by decide) (by decide) trivial (by omega) (by omega)
                    exact K ((-1 : Int32)) _ hI570 (show -1 ≤ (-1 : Int32).toInt ∧ (-1 : Int32).toInt ≤ 300000 from by omega)
                  · skip
                    have g571 := i_nle h568
                    refine ⟨i_ix (by omega) (by omega), ?_⟩
                    have f572 := zG_s hI_S75 (0) (1500) (c := 91) (k := 2) (by decide)
                    first | have f573 := zG_a hI_S75 93 (0) (3000) (c := 92) (k := (mI S75 91 5).toNatClampNeg) (by decide) (i_ix (n := 93) (by omega) (by omega)).2 | have b574 := i_bd (mI S75 92 (mI S75 91 5).toNatClampNeg)
                    first | have e575 : ((mI S75 92 (mI S75 91 5).toNatClampNeg) + n).toInt = (mI S75 92 (mI S75 91 5).toNatClampNeg).toInt + n.toInt := i_add (by omega) (by omega) | have b576 := i_bd ((mI S75 92 (mI S75 91 5).toNatClampNeg) + n)
                    refine zd (fun h577 => ?_) (fun h577 => ?_)
                    · skip
                      have g578 := i_lt h577
                      have hI579 : zL91 f r C Z N (ma_put S75 91 5 (.inl (mI S75 91 5))) := zG_sp hI_S75 (0) (92) rfl (by decide) (by decide) (by decide) trivial (by omega) (by omega)
                      exact K ((-1 : Int32)) _ hI579 (show -1 ≤ (-1 : Int32).toInt ∧ (-1 : Int32).toInt ≤ 300000 from by omega)
                    · skip
                      have g580 := i_nlt h577
                      have hI581 : zL91 f r C Z N (ma_put S75 91 5 (.inl (mI S75 91 5))) := zG_sp hI_S75 (0) (92) rfl (by decide) (by decide) (by decide) trivial (by omega) (by omega)
                      refine sp_55_91  (by omega) (by omega) hI581  (fun v80 S79 hI_S79 hp_v80 => zi_n ⟨zG_T hI_S79, ?_⟩)
                      have b582 := i_bd v80
                      exact K (v80) _ hI_S79 (show -1 ≤ v80.toInt ∧ v80.toInt ≤ 300000 from by omega)
              · skip
                have g583 := i_ne h561
                refine zd (fun h584 => ?_) (fun h584 => ?_)
                · skip
                  have g585 := i_lt h584
                  have hI586 : zL91 f r C Z N (ma_put S75 91 5 (.inl v76)) := zG_sp hI_S75 (0) (92) rfl (by decide) (by decide) (by decide) trivial (by omega) (by omega)
                  exact K ((-1 : Int32)) _ hI586 (show -1 ≤ (-1 : Int32).toInt ∧ (-1 : Int32).toInt ≤ 300000 from by omega)
                · skip
                  have g587 := i_nlt h584
                  refine zd (fun h588 => ?_) (fun h588 => ?_)
                  · skip
                    have g589 := i_le h588
                    have hI590 : zL91 f r C Z N (ma_put S75 91 5 (.inl v76)) := zG_sp hI_S75 (0) (92) rfl (by decide) (by decide) (by decide) trivial (by omega) (by omega)
                    exact K ((-1 : Int32)) _ hI590 (show -1 ≤ (-1 : Int32).toInt ∧ (-1 : Int32).toInt ≤ 300000 from by omega)
                  · skip
                    have g591 := i_nle h588
                    refine ⟨i_ix (by omega) (by omega), ?_⟩
                    have f592 := zG_s hI_S75 (0) (1500) (c := 91) (k := 2) (by decide)
                    first | have f593 := zG_a hI_S75 93 (0) (3000) (c := 92) (k := v76.toNatClampNeg) (by decide) (i_ix (n := 93) (by omega) (by omega)).2 | have b594 := i_bd (mI S75 92 v76.toNatClampNeg)
                    first | have e595 : ((mI S75 92 v76.toNatClampNeg) + n).toInt = (mI S75 92 v76.toNatClampNeg).toInt + n.toInt := i_add (by omega) (by omega) | have b596 := i_bd ((mI S75 92 v76.toNatClampNeg) + n)
                    refine zd (fun h597 => ?_) (fun h597 => ?_)
                    · skip
                      have g598 := i_lt h597
                      have hI599 : zL91 f r C Z N (ma_put S75 91 5 (.inl v76)) := zG_sp hI_S75 (0) (92) rfl (by decide) (by decide) (by decide) trivial (by omega) (by omega)
                      exact K ((-1 : Int32)) _ hI599 (show -1 ≤ (-1 : Int32).toInt ∧ (-1 : Int32).toInt ≤ 300000 from by omega)
                    · skip
                      have g600 := i_nlt h597
                      have hI601 : zL91 f r C Z N (ma_put S75 91 5 (.inl v76)) := zG_sp hI_S75 (0) (92) rfl (by decide) (by decide) (by decide) trivial (by omega) (by omega)
                      refine sp_55_91  (by omega) (by omega) hI601  (fun v78 S77 hI_S77 hp_v78 => zi_n ⟨zG_T hI_S77, ?_⟩)
                      have b602 := i_bd v78
                      exact K (v78) _ hI_S77 (show -1 ≤ v78.toInt ∧ v78.toInt ≤ 300000 from by omega)
            · skip
              have g603 := i_nle h557
              refine ⟨i_ix (by omega) (by omega), ?_⟩
              have f604 := zG_s hI_S67 (0) (1500) (c := 91) (k := 2) (by decide)
              first | have f605 := zG_a hI_S67 93 (0) (3000) (c := 92) (k := (mI S67 91 5).toNatClampNeg) (by decide) (i_ix (n := 93) (by omega) (by omega)).2 | have b606 := i_bd (mI S67 92 (mI S67 91 5).toNatClampNeg)
              first | have e607 : ((mI S67 92 (mI S67 91 5).toNatClampNeg) + n).toInt = (mI S67 92 (mI S67 91 5).toNatClampNeg).toInt + n.toInt := i_add (by omega) (by omega) | have b608 := i_bd ((mI S67 92 (mI S67 91 5).toNatClampNeg) + n)
              refine zd (fun h609 => ?_) (fun h609 => ?_)
              · skip
                have g610 := i_lt h609
                refine sp_52_91  (by omega) (by omega) hI_S67  (fun v82 S81 hI_S81 hp_v82 => zi_n ⟨zG_T hI_S81, ?_⟩)
                have b611 := i_bd v82
                have li612 : (-1 : Int32).toInt = -1 := rfl
                refine zd (fun h613 => ?_) (fun h613 => ?_)
                · skip
                  have g614 := i_eq h613
                  have f615 := zG_s hI_S81 (0) (92) (c := 91) (k := 5) (by decide)
                  refine zd (fun h616 => ?_) (fun h616 => ?_)
                  · skip
                    have g617 := i_lt h616
                    have hI618 : zL91 f r C Z N (ma_put S81 91 5 (.inl (mI S81 91 5))) := zG_sp hI_S81 (0) (92) rfl (by decide) (by decide) (by decide) trivial (by omega) (by omega)
                    exact K ((-1 : Int32)) _ hI618 (show -1 ≤ (-1 : Int32).toInt ∧ (-1 : Int32).toInt ≤ 300000 from by omega)
                  · skip
                    have g619 := i_nlt h616
                    refine zd (fun h620 => ?_) (fun h620 => ?_)
                    · skip
                      have g621 := i_le h620
                      have hI622 : zL91 f r C Z N (ma_put S81 91 5 (.inl (mI S81 91 5))) := zG_sp hI_S81 (0) (92) rfl (by decide) (by decide) (by decide) trivial (by omega) (by omega)
                      exact K ((-1 : Int32)) _ hI622 (show -1 ≤ (-1 : Int32).toInt ∧ (-1 : Int32).toInt ≤ 300000 from by omega)
                    · skip
                      have g623 := i_nle h620
                      refine ⟨i_ix (by omega) (by omega), ?_⟩
                      have f624 := zG_s hI_S81 (0) (1500) (c := 91) (k := 2) (by decide)
                      first | have f625 := zG_a hI_S81 93 (0) (3000) (c := 92) (k := (mI S81 91 5).toNatClampNeg) (by decide) (i_ix (n := 93) (by omega) (by omega)).2 | have b626 := i_bd (mI S81 92 (mI S81 91 5).toNatClampNeg)
                      first | have e627 : ((mI S81 92 (mI S81 91 5).toNatClampNeg) + n).toInt = (mI S81 92 (mI S81 91 5).toNatClampNeg).toInt + n.toInt := i_add (by omega) (by omega) | have b628 := i_bd ((mI S81 92 (mI S81 91 5).toNatClampNeg) + n)
                      refine zd (fun h629 => ?_) (fun h629 => ?_)
                      · skip
                        have g630 := i_lt h629
                        have hI631 : zL91 f r C Z N (ma_put S81 91 5 (.inl (mI S81 91 5))) := zG_sp hI_S81 (0) (92) rfl (by decide) (by decide) (by decide) trivial (by omega) (by omega)
                        exact K ((-1 : Int32)) _ hI631 (show -1 ≤ (-1 : Int32).toInt ∧ (-1 : Int32).toInt ≤ 300000 from by omega)
                      · skip
                        have g632 := i_nlt h629
                        have hI633 : zL91 f r C Z N (ma_put S81 91 5 (.inl (mI S81 91 5))) := zG_sp hI_S81 (0) (92) rfl (by decide) (by decide) (by decide) trivial (by omega) (by omega)
                        refine sp_55_91  (by omega) (by omega) hI633  (fun v86 S85 hI_S85 hp_v86 => zi_n ⟨zG_T hI_S85, ?_⟩)
                        have b634 := i_bd v86
                        exact K (v86) _ hI_S85 (show -1 ≤ v86.toInt ∧ v86.toInt ≤ 300000 from by omega)
                · skip
                  have g635 := i_ne h613
                  refine zd (fun h636 => ?_) (fun h636 => ?_)
                  · skip
                    have g637 := i_lt h636
                    have hI638 : zL91 f r C Z N (ma_put S81 91 5 (.inl v82)) := zG_sp hI_S81 (0) (92) rfl (by decide) (by decide) (by decide) trivial (by omega) (by omega)
                    exact K ((-1 : Int32)) _ hI638 (show -1 ≤ (-1 : Int32).toInt ∧ (-1 : Int32).toInt ≤ 300000 from by omega)
                  · skip
                    have g639 := i_nlt h636
                    refine zd (fun h640 => ?_) (fun h640 => ?_)
                    · skip
                      have g641 := i_le h640
                      have hI642 : zL91 f r C Z N (ma_put S81 91 5 (.inl v82)) := zG_sp hI_S81 (0) (92) rfl (by decide) (by decide) (by decide) trivial (by omega) (by omega)
                      exact K ((-1 : Int32)) _ hI642 (show -1 ≤ (-1 : Int32).toInt ∧ (-1 : Int32).toInt ≤ 300000 from by omega)
                    · skip
                      have g643 := i_nle h640
                      refine ⟨i_ix (by omega) (by omega), ?_⟩
                      have f644 := zG_s hI_S81 (0) (1500) (c := 91) (k := 2) (by decide)
                      first | have f645 := zG_a hI_S81 93 (0) (3000) (c := 92) (k := v82.toNatClampNeg) (by decide) (i_ix (n := 93) (by omega) (by omega)).2 | have b646 := i_bd (mI S81 92 v82.toNatClampNeg)
                      first | have e647 : ((mI S81 92 v82.toNatClampNeg) + n).toInt = (mI S81 92 v82.toNatClampNeg).toInt + n.toInt := i_add (by omega) (by omega) | have b648 := i_bd ((mI S81 92 v82.toNatClampNeg) + n)
                      refine zd (fun h649 => ?_) (fun h649 => ?_)
                      · skip
                        have g650 := i_lt h649
                        have hI651 : zL91 f r C Z N (ma_put S81 91 5 (.inl v82)) := zG_sp hI_S81 (0) (92) rfl (by decide) (by decide) (by decide) trivial (by omega) (by omega)
                        exact K ((-1 : Int32)) _ hI651 (show -1 ≤ (-1 : Int32).toInt ∧ (-1 : Int32).toInt ≤ 300000 from by omega)
                      · skip
                        have g652 := i_nlt h649
                        have hI653 : zL91 f r C Z N (ma_put S81 91 5 (.inl v82)) := zG_sp hI_S81 (0) (92) rfl (by decide) (by decide) (by decide) trivial (by omega) (by omega)
                        refine sp_55_91  (by omega) (by omega) hI653  (fun v84 S83 hI_S83 hp_v84 => zi_n ⟨zG_T hI_S83, ?_⟩)
                        have b654 := i_bd v84
                        exact K (v84) _ hI_S83 (show -1 ≤ v84.toInt ∧ v84.toInt ≤ 300000 from by omega)
              · skip
                have g655 := i_nlt h609
                refine zd (fun h656 => ?_) (fun h656 => ?_)
                · skip
                  have g657 := i_lt h656
                  have li658 : (-1 : Int32).toInt = -1 := rfl
                  exact K ((-1 : Int32)) _ hI_S67 (show -1 ≤ (-1 : Int32).toInt ∧ (-1 : Int32).toInt ≤ 300000 from by omega)
                · skip
                  have g659 := i_nlt h656
                  refine zd (fun h660 => ?_) (fun h660 => ?_)
                  · skip
                    have g661 := i_le h660
                    have li662 : (-1 : Int32).toInt = -1 := rfl
                    exact K ((-1 : Int32)) _ hI_S67 (show -1 ≤ (-1 : Int32).toInt ∧ (-1 : Int32).toInt ≤ 300000 from by omega)
                  · skip
                    have g663 := i_nle h660
                    refine ⟨i_ix (by omega) (by omega), ?_⟩
                    refine zd (fun h664 => ?_) (fun h664 => ?_)
                    · skip
                      have g665 := i_lt h664
                      have li666 : (-1 : Int32).toInt = -1 := rfl
                      exact K ((-1 : Int32)) _ hI_S67 (show -1 ≤ (-1 : Int32).toInt ∧ (-1 : Int32).toInt ≤ 300000 from by omega)
                    · skip
                      have g667 := i_nlt h664
                      refine sp_55_91  (by omega) (by omega) hI_S67  (fun v88 S87 hI_S87 hp_v88 => zi_n ⟨zG_T hI_S87, ?_⟩)
                      have b668 := i_bd v88
                      exact K (v88) _ hI_S87 (show -1 ≤ v88.toInt ∧ v88.toInt ≤ 300000 from by omega)
      · skip
        have g669 := i_nle h342
        refine ⟨i_ix (by omega) (by omega), ?_⟩
        first | have f670 := zG_a hI 93 (0) (3000) (c := 92) (k := (mI S 91 5).toNatClampNeg) (by decide) (i_ix (n := 93) (by omega) (by omega)).2 | have b671 := i_bd (mI S 92 (mI S 91 5).toNatClampNeg)
        first | have e672 : ((mI S 92 (mI S 91 5).toNatClampNeg) + n).toInt = (mI S 92 (mI S 91 5).toNatClampNeg).toInt + n.toInt := i_add (by omega) (by omega) | have b673 := i_bd ((mI S 92 (mI S 91 5).toNatClampNeg) + n)
        refine zd (fun h674 => ?_) (fun h674 => ?_)
        · skip
          have g675 := i_lt h674
          refine sp_42_91  (by omega) (by omega) hI  (fun v90 S89 hI_S89 hp_v90 => zi_n ⟨zG_T hI_S89, ?_⟩)
          have li676 : (2 : Int32).toInt = 2 := rfl
          have b677 := i_bd v90
          refine zd (fun h678 => ?_) (fun h678 => ?_)
          · skip
            have g679 := i_le h678
            have f680 := zG_s hI_S89 (0) (92) (c := 91) (k := 5) (by decide)
            refine zd (fun h681 => ?_) (fun h681 => ?_)
            · skip
              have g682 := i_lt h681
              refine sp_52_91  (by omega) (by omega) hI_S89  (fun v92 S91 hI_S91 hp_v92 => zi_n ⟨zG_T hI_S91, ?_⟩)
              have b683 := i_bd v92
              have li684 : (-1 : Int32).toInt = -1 := rfl
              refine zd (fun h685 => ?_) (fun h685 => ?_)
              · skip
                have g686 := i_eq h685
                have f687 := zG_s hI_S91 (0) (92) (c := 91) (k := 5) (by decide)
                refine zd (fun h688 => ?_) (fun h688 => ?_)
                · skip
                  have g689 := i_lt h688
                  have hI690 : zL91 f r C Z N (ma_put S91 91 5 (.inl (mI S91 91 5))) := zG_sp hI_S91 (0) (92) rfl (by decide) (by decide) (by decide) trivial (by omega) (by omega)
                  exact K ((-1 : Int32)) _ hI690 (show -1 ≤ (-1 : Int32).toInt ∧ (-1 : Int32).toInt ≤ 300000 from by omega)
                · skip
                  have g691 := i_nlt h688
                  refine zd (fun h692 => ?_) (fun h692 => ?_)
                  · skip
                    have g693 := i_le h692
                    have hI694 : zL91 f r C Z N (ma_put S91 91 5 (.inl (mI S91 91 5))) := zG_sp hI_S91 (0) (92) rfl (by decide) (by decide) (by decide) trivial (by omega) (by omega)
                    exact K ((-1 : Int32)) _ hI694 (show -1 ≤ (-1 : Int32).toInt ∧ (-1 : Int32).toInt ≤ 300000 from by omega)
                  · skip
                    have g695 := i_nle h692
                    refine ⟨i_ix (by omega) (by omega), ?_⟩
                    have f696 := zG_s hI_S91 (0) (1500) (c := 91) (k := 2) (by decide)
                    first | have f697 := zG_a hI_S91 93 (0) (3000) (c := 92) (k := (mI S91 91 5).toNatClampNeg) (by decide) (i_ix (n := 93) (by omega) (by omega)).2 | have b698 := i_bd (mI S91 92 (mI S91 91 5).toNatClampNeg)
                    first | have e699 : ((mI S91 92 (mI S91 91 5).toNatClampNeg) + n).toInt = (mI S91 92 (mI S91 91 5).toNatClampNeg).toInt + n.toInt := i_add (by omega) (by omega) | have b700 := i_bd ((mI S91 92 (mI S91 91 5).toNatClampNeg) + n)
                    refine zd (fun h701 => ?_) (fun h701 => ?_)
                    · skip
                      have g702 := i_lt h701
                      have hI703 : zL91 f r C Z N (ma_put S91 91 5 (.inl (mI S91 91 5))) := zG_sp hI_S91 (0) (92) rfl (by decide) (by decide) (by decide) trivial (by omega) (by omega)
                      exact K ((-1 : Int32)) _ hI703 (show -1 ≤ (-1 : Int32).toInt ∧ (-1 : Int32).toInt ≤ 300000 from by omega)
                    · skip
                      have g704 := i_nlt h701
                      have hI705 : zL91 f r C Z N (ma_put S91 91 5 (.inl (mI S91 91 5))) := zG_sp hI_S91 (0) (92) rfl (by decide) (by decide) (by decide) trivial (by omega) (by omega)
                      refine sp_55_91  (by omega) (by omega) hI705  (fun v96 S95 hI_S95 hp_v96 => zi_n ⟨zG_T hI_S95, ?_⟩)
                      have b706 := i_bd v96
                      exact K (v96) _ hI_S95 (show -1 ≤ v96.toInt ∧ v96.toInt ≤ 300000 from by omega)
              · skip
                have g707 := i_ne h685
                refine zd (fun h708 => ?_) (fun h708 => ?_)
                · skip
                  have g709 := i_lt h708
                  have hI710 : zL91 f r C Z N (ma_put S91 91 5 (.inl v92)) := zG_sp hI_S91 (0) (92) rfl (by decide) (by decide) (by decide) trivial (by omega) (by omega)
                  exact K ((-1 : Int32)) _ hI710 (show -1 ≤ (-1 : Int32).toInt ∧ (-1 : Int32).toInt ≤ 300000 from by omega)
                · skip
                  have g711 := i_nlt h708
                  refine zd (fun h712 => ?_) (fun h712 => ?_)
                  · skip
                    have g713 := i_le h712
                    have hI714 : zL91 f r C Z N (ma_put S91 91 5 (.inl v92)) := zG_sp hI_S91 (0) (92) rfl (by decide) (by decide) (by decide) trivial (by omega) (by omega)
                    exact K ((-1 : Int32)) _ hI714 (show -1 ≤ (-1 : Int32).toInt ∧ (-1 : Int32).toInt ≤ 300000 from by omega)
                  · skip
                    have g715 := i_nle h712
                    refine ⟨i_ix (by omega) (by omega), ?_⟩
                    have f716 := zG_s hI_S91 (0) (1500) (c := 91) (k := 2) (by decide)
                    first | have f717 := zG_a hI_S91 93 (0) (3000) (c := 92) (k := v92.toNatClampNeg) (by decide) (i_ix (n := 93) (by omega) (by omega)).2 | have b718 := i_bd (mI S91 92 v92.toNatClampNeg)
                    first | have e719 : ((mI S91 92 v92.toNatClampNeg) + n).toInt = (mI S91 92 v92.toNatClampNeg).toInt + n.toInt := i_add (by omega) (by omega) | have b720 := i_bd ((mI S91 92 v92.toNatClampNeg) + n)
                    refine zd (fun h721 => ?_) (fun h721 => ?_)
                    · skip
                      have g722 := i_lt h721
                      have hI723 : zL91 f r C Z N (ma_put S91 91 5 (.inl v92)) := zG_sp hI_S91 (0) (92) rfl (by decide) (by decide) (by decide) trivial (by omega) (by omega)
                      exact K ((-1 : Int32)) _ hI723 (show -1 ≤ (-1 : Int32).toInt ∧ (-1 : Int32).toInt ≤ 300000 from by omega)
                    · skip
                      have g724 := i_nlt h721
                      have hI725 : zL91 f r C Z N (ma_put S91 91 5 (.inl v92)) := zG_sp hI_S91 (0) (92) rfl (by decide) (by decide) (by decide) trivial (by omega) (by omega)
                      refine sp_55_91  (by omega) (by omega) hI725  (fun v94 S93 hI_S93 hp_v94 => zi_n ⟨zG_T hI_S93, ?_⟩)
                      have b726 := i_bd v94
                      exact K (v94) _ hI_S93 (show -1 ≤ v94.toInt ∧ v94.toInt ≤ 300000 from by omega)
            · skip
              have g727 := i_nlt h681
              refine zd (fun h728 => ?_) (fun h728 => ?_)
              · skip
                have g729 := i_le h728
                refine sp_52_91  (by omega) (by omega) hI_S89  (fun v98 S97 hI_S97 hp_v98 => zi_n ⟨zG_T hI_S97, ?_⟩)
                have b730 := i_bd v98
                have li731 : (-1 : Int32).toInt = -1 := rfl
                refine zd (fun h732 => ?_) (fun h732 => ?_)
                · skip
                  have g733 := i_eq h732
                  have f734 := zG_s hI_S97 (0) (92) (c := 91) (k := 5) (by decide)
                  refine zd (fun h735 => ?_) (fun h735 => ?_)
                  · skip
                    have g736 := i_lt h735
                    have hI737 : zL91 f r C Z N (ma_put S97 91 5 (.inl (mI S97 91 5))) := zG_sp hI_S97 (0) (92) rfl (by decide) (by decide) (by decide) trivial (by omega) (by omega)
                    exact K ((-1 : Int32)) _ hI737 (show -1 ≤ (-1 : Int32).toInt ∧ (-1 : Int32).toInt ≤ 300000 from by omega)
                  · skip
                    have g738 := i_nlt h735
                    refine zd (fun h739 => ?_) (fun h739 => ?_)
                    · skip
                      have g740 := i_le h739
                      have hI741 : zL91 f r C Z N (ma_put S97 91 5 (.inl (mI S97 91 5))) := zG_sp hI_S97 (0) (92) rfl (by decide) (by decide) (by decide) trivial (by omega) (by omega)
                      exact K ((-1 : Int32)) _ hI741 (show -1 ≤ (-1 : Int32).toInt ∧ (-1 : Int32).toInt ≤ 300000 from by omega)
                    · skip
                      have g742 := i_nle h739
                      refine ⟨i_ix (by omega) (by omega), ?_⟩
                      have f743 := zG_s hI_S97 (0) (1500) (c := 91) (k := 2) (by decide)
                      first | have f744 := zG_a hI_S97 93 (0) (3000) (c := 92) (k := (mI S97 91 5).toNatClampNeg) (by decide) (i_ix (n := 93) (by omega) (by omega)).2 | have b745 := i_bd (mI S97 92 (mI S97 91 5).toNatClampNeg)
                      first | have e746 : ((mI S97 92 (mI S97 91 5).toNatClampNeg) + n).toInt = (mI S97 92 (mI S97 91 5).toNatClampNeg).toInt + n.toInt := i_add (by omega) (by omega) | have b747 := i_bd ((mI S97 92 (mI S97 91 5).toNatClampNeg) + n)
                      refine zd (fun h748 => ?_) (fun h748 => ?_)
                      · skip
                        have g749 := i_lt h748
                        have hI750 : zL91 f r C Z N (ma_put S97 91 5 (.inl (mI S97 91 5))) := zG_sp hI_S97 (0) (92) rfl (by decide) (by decide) (by decide) trivial (by omega) (by omega)
                        exact K ((-1 : Int32)) _ hI750 (show -1 ≤ (-1 : Int32).toInt ∧ (-1 : Int32).toInt ≤ 300000 from by omega)
                      · skip
                        have g751 := i_nlt h748
                        have hI752 : zL91 f r C Z N (ma_put S97 91 5 (.inl (mI S97 91 5))) := zG_sp hI_S97 (0) (92) rfl (by decide) (by decide) (by decide) trivial (by omega) (by omega)
                        refine sp_55_91  (by omega) (by omega) hI752  (fun v102 S101 hI_S101 hp_v102 => zi_n ⟨zG_T hI_S101, ?_⟩)
                        have b753 := i_bd v102
                        exact K (v102) _ hI_S101 (show -1 ≤ v102.toInt ∧ v102.toInt ≤ 300000 from by omega)
                · skip
                  have g754 := i_ne h732
                  refine zd (fun h755 => ?_) (fun h755 => ?_)
                  · skip
                    have g756 := i_lt h755
                    have hI757 : zL91 f r C Z N (ma_put S97 91 5 (.inl v98)) := zG_sp hI_S97 (0) (92) rfl (by decide) (by decide) (by decide) trivial (by omega) (by omega)
                    exact K ((-1 : Int32)) _ hI757 (show -1 ≤ (-1 : Int32).toInt ∧ (-1 : Int32).toInt ≤ 300000 from by omega)
                  · skip
                    have g758 := i_nlt h755
                    refine zd (fun h759 => ?_) (fun h759 => ?_)
                    · skip
                      have g760 := i_le h759
                      have hI761 : zL91 f r C Z N (ma_put S97 91 5 (.inl v98)) := zG_sp hI_S97 (0) (92) rfl (by decide) (by decide) (by decide) trivial (by omega) (by omega)
                      exact K ((-1 : Int32)) _ hI761 (show -1 ≤ (-1 : Int32).toInt ∧ (-1 : Int32).toInt ≤ 300000 from by omega)
                    · skip
                      have g762 := i_nle h759
                      refine ⟨i_ix (by omega) (by omega), ?_⟩
                      have f763 := zG_s hI_S97 (0) (1500) (c := 91) (k := 2) (by decide)
                      first | have f764 := zG_a hI_S97 93 (0) (3000) (c := 92) (k := v98.toNatClampNeg) (by decide) (i_ix (n := 93) (by omega) (by omega)).2 | have b765 := i_bd (mI S97 92 v98.toNatClampNeg)
                      first | have e766 : ((mI S97 92 v98.toNatClampNeg) + n).toInt = (mI S97 92 v98.toNatClampNeg).toInt + n.toInt := i_add (by omega) (by omega) | have b767 := i_bd ((mI S97 92 v98.toNatClampNeg) + n)
                      refine zd (fun h768 => ?_) (fun h768 => ?_)
                      · skip
                        have g769 := i_lt h768
                        have hI770 : zL91 f r C Z N (ma_put S97 91 5 (.inl v98)) := zG_sp hI_S97 (0) (92) rfl (by decide) (by decide) (by decide) trivial (by omega) (by omega)
                        exact K ((-1 : Int32)) _ hI770 (show -1 ≤ (-1 : Int32).toInt ∧ (-1 : Int32).toInt ≤ 300000 from by omega)
                      · skip
                        have g771 := i_nlt h768
                        have hI772 : zL91 f r C Z N (ma_put S97 91 5 (.inl v98)) := zG_sp hI_S97 (0) (92) rfl (by decide) (by decide) (by decide) trivial (by omega) (by omega)
                        refine sp_55_91  (by omega) (by omega) hI772  (fun v100 S99 hI_S99 hp_v100 => zi_n ⟨zG_T hI_S99, ?_⟩)
                        have b773 := i_bd v100
                        exact K (v100) _ hI_S99 (show -1 ≤ v100.toInt ∧ v100.toInt ≤ 300000 from by omega)
              · skip
                have g774 := i_nle h728
                refine ⟨i_ix (by omega) (by omega), ?_⟩
                have f775 := zG_s hI_S89 (0) (1500) (c := 91) (k := 2) (by decide)
                first | have f776 := zG_a hI_S89 93 (0) (3000) (c := 92) (k := (mI S89 91 5).toNatClampNeg) (by decide) (i_ix (n := 93) (by omega) (by omega)).2 | have b777 := i_bd (mI S89 92 (mI S89 91 5).toNatClampNeg)
                first | have e778 : ((mI S89 92 (mI S89 91 5).toNatClampNeg) + n).toInt = (mI S89 92 (mI S89 91 5).toNatClampNeg).toInt + n.toInt := i_add (by omega) (by omega) | have b779 := i_bd ((mI S89 92 (mI S89 91 5).toNatClampNeg) + n)
                refine zd (fun h780 => ?_) (fun h780 => ?_)
                · skip
                  have g781 := i_lt h780
                  refine sp_52_91  (by omega) (by omega) hI_S89  (fun v104 S103 hI_S103 hp_v104 => zi_n ⟨zG_T hI_S103, ?_⟩)
                  have b782 := i_bd v104
                  have li783 : (-1 : Int32).toInt = -1 := rfl
                  refine zd (fun h784 => ?_) (fun h784 => ?_)
                  · skip
                    have g785 := i_eq h784
                    have f786 := zG_s hI_S103 (0) (92) (c := 91) (k := 5) (by decide)
                    refine zd (fun h787 => ?_) (fun h787 => ?_)
                    · skip
                      have g788 := i_lt h787
                      have hI789 : zL91 f r C Z N (ma_put S103 91 5 (.inl (mI S103 91 5))) := zG_sp hI_S103 (0) (92) rfl (by decide) (by decide) (by decide) trivial (by omega) (by omega)
                      exact K ((-1 : Int32)) _ hI789 (show -1 ≤ (-1 : Int32).toInt ∧ (-1 : Int32).toInt ≤ 300000 from by omega)
                    · skip
                      have g790 := i_nlt h787
                      refine zd (fun h791 => ?_) (fun h791 => ?_)
                      · skip
                        have g792 := i_le h791
                        have hI793 : zL91 f r C Z N (ma_put S103 91 5 (.inl (mI S103 91 5))) := zG_sp hI_S103 (0) (92) rfl (by decide) (by decide) (by decide) trivial (by omega) (by omega)
                        exact K ((-1 : Int32)) _ hI793 (show -1 ≤ (-1 : Int32).toInt ∧ (-1 : Int32).toInt ≤ 300000 from by omega)
                      · skip
                        have g794 := i_nle h791
                        refine ⟨i_ix (by omega) (by omega), ?_⟩
                        have f795 := zG_s hI_S103 (0) (1500) (c := 91) (k := 2) (by decide)
                        first | have f796 := zG_a hI_S103 93 (0) (3000) (c := 92) (k := (mI S103 91 5).toNatClampNeg) (by decide) (i_ix (n := 93) (by omega) (by omega)).2 | have b797 := i_bd (mI S103 92 (mI S103 91 5).toNatClampNeg)
                        first | have e798 : ((mI S103 92 (mI S103 91 5).toNatClampNeg) + n).toInt = (mI S103 92 (mI S103 91 5).toNatClampNeg).toInt + n.toInt := i_add (by omega) (by omega) | have b799 := i_bd ((mI S103 92 (mI S103 91 5).toNatClampNeg) + n)
                        refine zd (fun h800 => ?_) (fun h800 => ?_)
                        · skip
                          have g801 := i_lt h800
                          have hI802 : zL91 f r C Z N (ma_put S103 91 5 (.inl (mI S103 91 5))) := zG_sp hI_S103 (0) (92) rfl (by decide) (by decide) (by decide) trivial (by omega) (by omega)
                          exact K ((-1 : Int32)) _ hI802 (show -1 ≤ (-1 : Int32).toInt ∧ (-1 : Int32).toInt ≤ 300000 from by omega)
                        · skip
                          have g803 := i_nlt h800
                          have hI804 : zL91 f r C Z N (ma_put S103 91 5 (.inl (mI S103 91 5))) := zG_sp hI_S103 (0) (92) rfl (by decide) (by decide) (by decide) trivial (by omega) (by omega)
                          refine sp_55_91  (by omega) (by omega) hI804  (fun v108 S107 hI_S107 hp_v108 => zi_n ⟨zG_T hI_S107, ?_⟩)
                          have b805 := i_bd v108
                          exact K (v108) _ hI_S107 (show -1 ≤ v108.toInt ∧ v108.toInt ≤ 300000 from by omega)
                  · skip
                    have g806 := i_ne h784
                    refine zd (fun h807 => ?_) (fun h807 => ?_)
                    · skip
                      have g808 := i_lt h807
                      have hI809 : zL91 f r C Z N (ma_put S103 91 5 (.inl v104)) := zG_sp hI_S103 (0) (92) rfl (by decide) (by decide) (by decide) trivial (by omega) (by omega)
                      exact K ((-1 : Int32)) _ hI809 (show -1 ≤ (-1 : Int32).toInt ∧ (-1 : Int32).toInt ≤ 300000 from by omega)
                    · skip
                      have g810 := i_nlt h807
                      refine zd (fun h811 => ?_) (fun h811 => ?_)
                      · skip
                        have g812 := i_le h811
                        have hI813 : zL91 f r C Z N (ma_put S103 91 5 (.inl v104)) := zG_sp hI_S103 (0) (92) rfl (by decide) (by decide) (by decide) trivial (by omega) (by omega)
                        exact K ((-1 : Int32)) _ hI813 (show -1 ≤ (-1 : Int32).toInt ∧ (-1 : Int32).toInt ≤ 300000 from by omega)
                      · skip
                        have g814 := i_nle h811
                        refine ⟨i_ix (by omega) (by omega), ?_⟩
                        have f815 := zG_s hI_S103 (0) (1500) (c := 91) (k := 2) (by decide)
                        first | have f816 := zG_a hI_S103 93 (0) (3000) (c := 92) (k := v104.toNatClampNeg) (by decide) (i_ix (n := 93) (by omega) (by omega)).2 | have b817 := i_bd (mI S103 92 v104.toNatClampNeg)
                        first | have e818 : ((mI S103 92 v104.toNatClampNeg) + n).toInt = (mI S103 92 v104.toNatClampNeg).toInt + n.toInt := i_add (by omega) (by omega) | have b819 := i_bd ((mI S103 92 v104.toNatClampNeg) + n)
                        refine zd (fun h820 => ?_) (fun h820 => ?_)
                        · skip
                          have g821 := i_lt h820
                          have hI822 : zL91 f r C Z N (ma_put S103 91 5 (.inl v104)) := zG_sp hI_S103 (0) (92) rfl (by decide) (by decide) (by decide) trivial (by omega) (by omega)
                          exact K ((-1 : Int32)) _ hI822 (show -1 ≤ (-1 : Int32).toInt ∧ (-1 : Int32).toInt ≤ 300000 from by omega)
                        · skip
                          have g823 := i_nlt h820
                          have hI824 : zL91 f r C Z N (ma_put S103 91 5 (.inl v104)) := zG_sp hI_S103 (0) (92) rfl (by decide) (by decide) (by decide) trivial (by omega) (by omega)
                          refine sp_55_91  (by omega) (by omega) hI824  (fun v106 S105 hI_S105 hp_v106 => zi_n ⟨zG_T hI_S105, ?_⟩)
                          have b825 := i_bd v106
                          exact K (v106) _ hI_S105 (show -1 ≤ v106.toInt ∧ v106.toInt ≤ 300000 from by omega)
                · skip
                  have g826 := i_nlt h780
                  refine zd (fun h827 => ?_) (fun h827 => ?_)
                  · skip
                    have g828 := i_lt h827
                    have li829 : (-1 : Int32).toInt = -1 := rfl
                    exact K ((-1 : Int32)) _ hI_S89 (show -1 ≤ (-1 : Int32).toInt ∧ (-1 : Int32).toInt ≤ 300000 from by omega)
                  · skip
                    have g830 := i_nlt h827
                    refine zd (fun h831 => ?_) (fun h831 => ?_)
                    · skip
                      have g832 := i_le h831
                      have li833 : (-1 : Int32).toInt = -1 := rfl
                      exact K ((-1 : Int32)) _ hI_S89 (show -1 ≤ (-1 : Int32).toInt ∧ (-1 : Int32).toInt ≤ 300000 from by omega)
                    · skip
                      have g834 := i_nle h831
                      refine ⟨i_ix (by omega) (by omega), ?_⟩
                      refine zd (fun h835 => ?_) (fun h835 => ?_)
                      · skip
                        have g836 := i_lt h835
                        have li837 : (-1 : Int32).toInt = -1 := rfl
                        exact K ((-1 : Int32)) _ hI_S89 (show -1 ≤ (-1 : Int32).toInt ∧ (-1 : Int32).toInt ≤ 300000 from by omega)
                      · skip
                        have g838 := i_nlt h835
                        refine sp_55_91  (by omega) (by omega) hI_S89  (fun v110 S109 hI_S109 hp_v110 => zi_n ⟨zG_T hI_S109, ?_⟩)
                        have b839 := i_bd v110
                        exact K (v110) _ hI_S109 (show -1 ≤ v110.toInt ∧ v110.toInt ≤ 300000 from by omega)
          · skip
            have g840 := i_nle h678
            refine sp_43_91  (by omega) (by omega) hI_S89  (fun v112 S111 hI_S111 hp_v112 => zi_n ⟨zG_T hI_S111, ?_⟩)
            have f841 := zG_s hI_S111 (0) (92) (c := 91) (k := 5) (by decide)
            refine zd (fun h842 => ?_) (fun h842 => ?_)
            · skip
              have g843 := i_lt h842
              refine sp_52_91  (by omega) (by omega) hI_S111  (fun v114 S113 hI_S113 hp_v114 => zi_n ⟨zG_T hI_S113, ?_⟩)
              have b844 := i_bd v114
              have li845 : (-1 : Int32).toInt = -1 := rfl
              refine zd (fun h846 => ?_) (fun h846 => ?_)
              · skip
                have g847 := i_eq h846
                have f848 := zG_s hI_S113 (0) (92) (c := 91) (k := 5) (by decide)
                refine zd (fun h849 => ?_) (fun h849 => ?_)
                · skip
                  have g850 := i_lt h849
                  have hI851 : zL91 f r C Z N (ma_put S113 91 5 (.inl (mI S113 91 5))) := zG_sp hI_S113 (0) (92) rfl (by decide) (by decide) (by decide) trivial (by omega) (by omega)
                  exact K ((-1 : Int32)) _ hI851 (show -1 ≤ (-1 : Int32).toInt ∧ (-1 : Int32).toInt ≤ 300000 from by omega)
                · skip
                  have g852 := i_nlt h849
                  refine zd (fun h853 => ?_) (fun h853 => ?_)
                  · skip
                    have g854 := i_le h853
                    have hI855 : zL91 f r C Z N (ma_put S113 91 5 (.inl (mI S113 91 5))) := zG_sp hI_S113 (0) (92) rfl (by decide) (by decide) (by decide) trivial (by omega) (by omega)
                    exact K ((-1 : Int32)) _ hI855 (show -1 ≤ (-1 : Int32).toInt ∧ (-1 : Int32).toInt ≤ 300000 from by omega)
                  · skip
                    have g856 := i_nle h853
                    refine ⟨i_ix (by omega) (by omega), ?_⟩
                    have f857 := zG_s hI_S113 (0) (1500) (c := 91) (k := 2) (by decide)
                    first | have f858 := zG_a hI_S113 93 (0) (3000) (c := 92) (k := (mI S113 91 5).toNatClampNeg) (by decide) (i_ix (n := 93) (by omega) (by omega)).2 | have b859 := i_bd (mI S113 92 (mI S113 91 5).toNatClampNeg)
                    first | have e860 : ((mI S113 92 (mI S113 91 5).toNatClampNeg) + n).toInt = (mI S113 92 (mI S113 91 5).toNatClampNeg).toInt + n.toInt := i_add (by omega) (by omega) | have b861 := i_bd ((mI S113 92 (mI S113 91 5).toNatClampNeg) + n)
                    refine zd (fun h862 => ?_) (fun h862 => ?_)
                    · skip
                      have g863 := i_lt h862
                      have hI864 : zL91 f r C Z N (ma_put S113 91 5 (.inl (mI S113 91 5))) := zG_sp hI_S113 (0) (92) rfl (by decide) (by decide) (by decide) trivial (by omega) (by omega)
                      exact K ((-1 : Int32)) _ hI864 (show -1 ≤ (-1 : Int32).toInt ∧ (-1 : Int32).toInt ≤ 300000 from by omega)
                    · skip
                      have g865 := i_nlt h862
                      have hI866 : zL91 f r C Z N (ma_put S113 91 5 (.inl (mI S113 91 5))) := zG_sp hI_S113 (0) (92) rfl (by decide) (by decide) (by decide) trivial (by omega) (by omega)
                      refine sp_55_91  (by omega) (by omega) hI866  (fun v118 S117 hI_S117 hp_v118 => zi_n ⟨zG_T hI_S117, ?_⟩)
                      have b867 := i_bd v118
                      exact K (v118) _ hI_S117 (show -1 ≤ v118.toInt ∧ v118.toInt ≤ 300000 from by omega)
              · skip
                have g868 := i_ne h846
                refine zd (fun h869 => ?_) (fun h869 => ?_)
                · skip
                  have g870 := i_lt h869
                  have hI871 : zL91 f r C Z N (ma_put S113 91 5 (.inl v114)) := zG_sp hI_S113 (0) (92) rfl (by decide) (by decide) (by decide) trivial (by omega) (by omega)
                  exact K ((-1 : Int32)) _ hI871 (show -1 ≤ (-1 : Int32).toInt ∧ (-1 : Int32).toInt ≤ 300000 from by omega)
                · skip
                  have g872 := i_nlt h869
                  refine zd (fun h873 => ?_) (fun h873 => ?_)
                  · skip
                    have g874 := i_le h873
                    have hI875 : zL91 f r C Z N (ma_put S113 91 5 (.inl v114)) := zG_sp hI_S113 (0) (92) rfl (by decide) (by decide) (by decide) trivial (by omega) (by omega)
                    exact K ((-1 : Int32)) _ hI875 (show -1 ≤ (-1 : Int32).toInt ∧ (-1 : Int32).toInt ≤ 300000 from by omega)
                  · skip
                    have g876 := i_nle h873
                    refine ⟨i_ix (by omega) (by omega), ?_⟩
                    have f877 := zG_s hI_S113 (0) (1500) (c := 91) (k := 2) (by decide)
                    first | have f878 := zG_a hI_S113 93 (0) (3000) (c := 92) (k := v114.toNatClampNeg) (by decide) (i_ix (n := 93) (by omega) (by omega)).2 | have b879 := i_bd (mI S113 92 v114.toNatClampNeg)
                    first | have e880 : ((mI S113 92 v114.toNatClampNeg) + n).toInt = (mI S113 92 v114.toNatClampNeg).toInt + n.toInt := i_add (by omega) (by omega) | have b881 := i_bd ((mI S113 92 v114.toNatClampNeg) + n)
                    refine zd (fun h882 => ?_) (fun h882 => ?_)
                    · skip
                      have g883 := i_lt h882
                      have hI884 : zL91 f r C Z N (ma_put S113 91 5 (.inl v114)) := zG_sp hI_S113 (0) (92) rfl (by decide) (by decide) (by decide) trivial (by omega) (by omega)
                      exact K ((-1 : Int32)) _ hI884 (show -1 ≤ (-1 : Int32).toInt ∧ (-1 : Int32).toInt ≤ 300000 from by omega)
                    · skip
                      have g885 := i_nlt h882
                      have hI886 : zL91 f r C Z N (ma_put S113 91 5 (.inl v114)) := zG_sp hI_S113 (0) (92) rfl (by decide) (by decide) (by decide) trivial (by omega) (by omega)
                      refine sp_55_91  (by omega) (by omega) hI886  (fun v116 S115 hI_S115 hp_v116 => zi_n ⟨zG_T hI_S115, ?_⟩)
                      have b887 := i_bd v116
                      exact K (v116) _ hI_S115 (show -1 ≤ v116.toInt ∧ v116.toInt ≤ 300000 from by omega)
            · skip
              have g888 := i_nlt h842
              refine zd (fun h889 => ?_) (fun h889 => ?_)
              · skip
                have g890 := i_le h889
                refine sp_52_91  (by omega) (by omega) hI_S111  (fun v120 S119 hI_S119 hp_v120 => zi_n ⟨zG_T hI_S119, ?_⟩)
                have b891 := i_bd v120
                have li892 : (-1 : Int32).toInt = -1 := rfl
                refine zd (fun h893 => ?_) (fun h893 => ?_)
                · skip
                  have g894 := i_eq h893
                  have f895 := zG_s hI_S119 (0) (92) (c := 91) (k := 5) (by decide)
                  refine zd (fun h896 => ?_) (fun h896 => ?_)
                  · skip
                    have g897 := i_lt h896
                    have hI898 : zL91 f r C Z N (ma_put S119 91 5 (.inl (mI S119 91 5))) := zG_sp hI_S119 (0) (92) rfl (by decide) (by decide) (by decide) trivial (by omega) (by omega)
                    exact K ((-1 : Int32)) _ hI898 (show -1 ≤ (-1 : Int32).toInt ∧ (-1 : Int32).toInt ≤ 300000 from by omega)
                  · skip
                    have g899 := i_nlt h896
                    refine zd (fun h900 => ?_) (fun h900 => ?_)
                    · skip
                      have g901 := i_le h900
                      have hI902 : zL91 f r C Z N (ma_put S119 91 5 (.inl (mI S119 91 5))) := zG_sp hI_S119 (0) (92) rfl (by decide) (by decide) (by decide) trivial (by omega) (by omega)
                      exact K ((-1 : Int32)) _ hI902 (show -1 ≤ (-1 : Int32).toInt ∧ (-1 : Int32).toInt ≤ 300000 from by omega)
                    · skip
                      have g903 := i_nle h900
                      refine ⟨i_ix (by omega) (by omega), ?_⟩
                      have f904 := zG_s hI_S119 (0) (1500) (c := 91) (k := 2) (by decide)
                      first | have f905 := zG_a hI_S119 93 (0) (3000) (c := 92) (k := (mI S119 91 5).toNatClampNeg) (by decide) (i_ix (n := 93) (by omega) (by omega)).2 | have b906 := i_bd (mI S119 92 (mI S119 91 5).toNatClampNeg)
                      first | have e907 : ((mI S119 92 (mI S119 91 5).toNatClampNeg) + n).toInt = (mI S119 92 (mI S119 91 5).toNatClampNeg).toInt + n.toInt := i_add (by omega) (by omega) | have b908 := i_bd ((mI S119 92 (mI S119 91 5).toNatClampNeg) + n)
                      refine zd (fun h909 => ?_) (fun h909 => ?_)
                      · skip
                        have g910 := i_lt h909
                        have hI911 : zL91 f r C Z N (ma_put S119 91 5 (.inl (mI S119 91 5))) := zG_sp hI_S119 (0) (92) rfl (by decide) (by decide) (by decide) trivial (by omega) (by omega)
                        exact K ((-1 : Int32)) _ hI911 (show -1 ≤ (-1 : Int32).toInt ∧ (-1 : Int32).toInt ≤ 300000 from by omega)
                      · skip
                        have g912 := i_nlt h909
                        have hI913 : zL91 f r C Z N (ma_put S119 91 5 (.inl (mI S119 91 5))) := zG_sp hI_S119 (0) (92) rfl (by decide) (by decide) (by decide) trivial (by omega) (by omega)
                        refine sp_55_91  (by omega) (by omega) hI913  (fun v124 S123 hI_S123 hp_v124 => zi_n ⟨zG_T hI_S123, ?_⟩)
                        have b914 := i_bd v124
                        exact K (v124) _ hI_S123 (show -1 ≤ v124.toInt ∧ v124.toInt ≤ 300000 from by omega)
                · skip
                  have g915 := i_ne h893
                  refine zd (fun h916 => ?_) (fun h916 => ?_)
                  · skip
                    have g917 := i_lt h916
                    have hI918 : zL91 f r C Z N (ma_put S119 91 5 (.inl v120)) := zG_sp hI_S119 (0) (92) rfl (by decide) (by decide) (by decide) trivial (by omega) (by omega)
                    exact K ((-1 : Int32)) _ hI918 (show -1 ≤ (-1 : Int32).toInt ∧ (-1 : Int32).toInt ≤ 300000 from by omega)
                  · skip
                    have g919 := i_nlt h916
                    refine zd (fun h920 => ?_) (fun h920 => ?_)
                    · skip
                      have g921 := i_le h920
                      have hI922 : zL91 f r C Z N (ma_put S119 91 5 (.inl v120)) := zG_sp hI_S119 (0) (92) rfl (by decide) (by decide) (by decide) trivial (by omega) (by omega)
                      exact K ((-1 : Int32)) _ hI922 (show -1 ≤ (-1 : Int32).toInt ∧ (-1 : Int32).toInt ≤ 300000 from by omega)
                    · skip
                      have g923 := i_nle h920
                      refine ⟨i_ix (by omega) (by omega), ?_⟩
                      have f924 := zG_s hI_S119 (0) (1500) (c := 91) (k := 2) (by decide)
                      first | have f925 := zG_a hI_S119 93 (0) (3000) (c := 92) (k := v120.toNatClampNeg) (by decide) (i_ix (n := 93) (by omega) (by omega)).2 | have b926 := i_bd (mI S119 92 v120.toNatClampNeg)
                      first | have e927 : ((mI S119 92 v120.toNatClampNeg) + n).toInt = (mI S119 92 v120.toNatClampNeg).toInt + n.toInt := i_add (by omega) (by omega) | have b928 := i_bd ((mI S119 92 v120.toNatClampNeg) + n)
                      refine zd (fun h929 => ?_) (fun h929 => ?_)
                      · skip
                        have g930 := i_lt h929
                        have hI931 : zL91 f r C Z N (ma_put S119 91 5 (.inl v120)) := zG_sp hI_S119 (0) (92) rfl (by decide) (by decide) (by decide) trivial (by omega) (by omega)
                        exact K ((-1 : Int32)) _ hI931 (show -1 ≤ (-1 : Int32).toInt ∧ (-1 : Int32).toInt ≤ 300000 from by omega)
                      · skip
                        have g932 := i_nlt h929
                        have hI933 : zL91 f r C Z N (ma_put S119 91 5 (.inl v120)) := zG_sp hI_S119 (0) (92) rfl (by decide) (by decide) (by decide) trivial (by omega) (by omega)
                        refine sp_55_91  (by omega) (by omega) hI933  (fun v122 S121 hI_S121 hp_v122 => zi_n ⟨zG_T hI_S121, ?_⟩)
                        have b934 := i_bd v122
                        exact K (v122) _ hI_S121 (show -1 ≤ v122.toInt ∧ v122.toInt ≤ 300000 from by omega)
              · skip
                have g935 := i_nle h889
                refine ⟨i_ix (by omega) (by omega), ?_⟩
                have f936 := zG_s hI_S111 (0) (1500) (c := 91) (k := 2) (by decide)
                first | have f937 := zG_a hI_S111 93 (0) (3000) (c := 92) (k := (mI S111 91 5).toNatClampNeg) (by decide) (i_ix (n := 93) (by omega) (by omega)).2 | have b938 := i_bd (mI S111 92 (mI S111 91 5).toNatClampNeg)
                first | have e939 : ((mI S111 92 (mI S111 91 5).toNatClampNeg) + n).toInt = (mI S111 92 (mI S111 91 5).toNatClampNeg).toInt + n.toInt := i_add (by omega) (by omega) | have b940 := i_bd ((mI S111 92 (mI S111 91 5).toNatClampNeg) + n)
                refine zd (fun h941 => ?_) (fun h941 => ?_)
                · skip
                  have g942 := i_lt h941
                  refine sp_52_91  (by omega) (by omega) hI_S111  (fun v126 S125 hI_S125 hp_v126 => zi_n ⟨zG_T hI_S125, ?_⟩)
                  have b943 := i_bd v126
                  have li944 : (-1 : Int32).toInt = -1 := rfl
                  refine zd (fun h945 => ?_) (fun h945 => ?_)
                  · skip
                    have g946 := i_eq h945
                    have f947 := zG_s hI_S125 (0) (92) (c := 91) (k := 5) (by decide)
                    refine zd (fun h948 => ?_) (fun h948 => ?_)
                    · skip
                      have g949 := i_lt h948
                      have hI950 : zL91 f r C Z N (ma_put S125 91 5 (.inl (mI S125 91 5))) := zG_sp hI_S125 (0) (92) rfl (by decide) (by decide) (by decide) trivial (by omega) (by omega)
                      exact K ((-1 : Int32)) _ hI950 (show -1 ≤ (-1 : Int32).toInt ∧ (-1 : Int32).toInt ≤ 300000 from by omega)
                    · skip
                      have g951 := i_nlt h948
                      refine zd (fun h952 => ?_) (fun h952 => ?_)
                      · skip
                        have g953 := i_le h952
                        have hI954 : zL91 f r C Z N (ma_put S125 91 5 (.inl (mI S125 91 5))) := zG_sp hI_S125 (0) (92) rfl (by decide) (by decide) (by decide) trivial (by omega) (by omega)
                        exact K ((-1 : Int32)) _ hI954 (show -1 ≤ (-1 : Int32).toInt ∧ (-1 : Int32).toInt ≤ 300000 from by omega)
                      · skip
                        have g955 := i_nle h952
                        refine ⟨i_ix (by omega) (by omega), ?_⟩
                        have f956 := zG_s hI_S125 (0) (1500) (c := 91) (k := 2) (by decide)
                        first | have f957 := zG_a hI_S125 93 (0) (3000) (c := 92) (k := (mI S125 91 5).toNatClampNeg) (by decide) (i_ix (n := 93) (by omega) (by omega)).2 | have b958 := i_bd (mI S125 92 (mI S125 91 5).toNatClampNeg)
                        first | have e959 : ((mI S125 92 (mI S125 91 5).toNatClampNeg) + n).toInt = (mI S125 92 (mI S125 91 5).toNatClampNeg).toInt + n.toInt := i_add (by omega) (by omega) | have b960 := i_bd ((mI S125 92 (mI S125 91 5).toNatClampNeg) + n)
                        refine zd (fun h961 => ?_) (fun h961 => ?_)
                        · skip
                          have g962 := i_lt h961
                          have hI963 : zL91 f r C Z N (ma_put S125 91 5 (.inl (mI S125 91 5))) := zG_sp hI_S125 (0) (92) rfl (by decide) (by decide) (by decide) trivial (by omega) (by omega)
                          exact K ((-1 : Int32)) _ hI963 (show -1 ≤ (-1 : Int32).toInt ∧ (-1 : Int32).toInt ≤ 300000 from by omega)
                        · skip
                          have g964 := i_nlt h961
                          have hI965 : zL91 f r C Z N (ma_put S125 91 5 (.inl (mI S125 91 5))) := zG_sp hI_S125 (0) (92) rfl (by decide) (by decide) (by decide) trivial (by omega) (by omega)
                          refine sp_55_91  (by omega) (by omega) hI965  (fun v130 S129 hI_S129 hp_v130 => zi_n ⟨zG_T hI_S129, ?_⟩)
                          have b966 := i_bd v130
                          exact K (v130) _ hI_S129 (show -1 ≤ v130.toInt ∧ v130.toInt ≤ 300000 from by omega)
                  · skip
                    have g967 := i_ne h945
                    refine zd (fun h968 => ?_) (fun h968 => ?_)
                    · skip
                      have g969 := i_lt h968
                      have hI970 : zL91 f r C Z N (ma_put S125 91 5 (.inl v126)) := zG_sp hI_S125 (0) (92) rfl (by decide) (by decide) (by decide) trivial (by omega) (by omega)
                      exact K ((-1 : Int32)) _ hI970 (show -1 ≤ (-1 : Int32).toInt ∧ (-1 : Int32).toInt ≤ 300000 from by omega)
                    · skip
                      have g971 := i_nlt h968
                      refine zd (fun h972 => ?_) (fun h972 => ?_)
                      · skip
                        have g973 := i_le h972
                        have hI974 : zL91 f r C Z N (ma_put S125 91 5 (.inl v126)) := zG_sp hI_S125 (0) (92) rfl (by decide) (by decide) (by decide) trivial (by omega) (by omega)
                        exact K ((-1 : Int32)) _ hI974 (show -1 ≤ (-1 : Int32).toInt ∧ (-1 : Int32).toInt ≤ 300000 from by omega)
                      · skip
                        have g975 := i_nle h972
                        refine ⟨i_ix (by omega) (by omega), ?_⟩
                        have f976 := zG_s hI_S125 (0) (1500) (c := 91) (k := 2) (by decide)
                        first | have f977 := zG_a hI_S125 93 (0) (3000) (c := 92) (k := v126.toNatClampNeg) (by decide) (i_ix (n := 93) (by omega) (by omega)).2 | have b978 := i_bd (mI S125 92 v126.toNatClampNeg)
                        first | have e979 : ((mI S125 92 v126.toNatClampNeg) + n).toInt = (mI S125 92 v126.toNatClampNeg).toInt + n.toInt := i_add (by omega) (by omega) | have b980 := i_bd ((mI S125 92 v126.toNatClampNeg) + n)
                        refine zd (fun h981 => ?_) (fun h981 => ?_)
                        · skip
                          have g982 := i_lt h981
                          have hI983 : zL91 f r C Z N (ma_put S125 91 5 (.inl v126)) := zG_sp hI_S125 (0) (92) rfl (by decide) (by decide) (by decide) trivial (by omega) (by omega)
                          exact K ((-1 : Int32)) _ hI983 (show -1 ≤ (-1 : Int32).toInt ∧ (-1 : Int32).toInt ≤ 300000 from by omega)
                        · skip
                          have g984 := i_nlt h981
                          have hI985 : zL91 f r C Z N (ma_put S125 91 5 (.inl v126)) := zG_sp hI_S125 (0) (92) rfl (by decide) (by decide) (by decide) trivial (by omega) (by omega)
                          refine sp_55_91  (by omega) (by omega) hI985  (fun v128 S127 hI_S127 hp_v128 => zi_n ⟨zG_T hI_S127, ?_⟩)
                          have b986 := i_bd v128
                          exact K (v128) _ hI_S127 (show -1 ≤ v128.toInt ∧ v128.toInt ≤ 300000 from by omega)
                · skip
                  have g987 := i_nlt h941
                  refine zd (fun h988 => ?_) (fun h988 => ?_)
                  · skip
                    have g989 := i_lt h988
                    have li990 : (-1 : Int32).toInt = -1 := rfl
                    exact K ((-1 : Int32)) _ hI_S111 (show -1 ≤ (-1 : Int32).toInt ∧ (-1 : Int32).toInt ≤ 300000 from by omega)
                  · skip
                    have g991 := i_nlt h988
                    refine zd (fun h992 => ?_) (fun h992 => ?_)
                    · skip
                      have g993 := i_le h992
                      have li994 : (-1 : Int32).toInt = -1 := rfl
                      exact K ((-1 : Int32)) _ hI_S111 (show -1 ≤ (-1 : Int32).toInt ∧ (-1 : Int32).toInt ≤ 300000 from by omega)
                    · skip
                      have g995 := i_nle h992
                      refine ⟨i_ix (by omega) (by omega), ?_⟩
                      refine zd (fun h996 => ?_) (fun h996 => ?_)
                      · skip
                        have g997 := i_lt h996
                        have li998 : (-1 : Int32).toInt = -1 := rfl
                        exact K ((-1 : Int32)) _ hI_S111 (show -1 ≤ (-1 : Int32).toInt ∧ (-1 : Int32).toInt ≤ 300000 from by omega)
                      · skip
                        have g999 := i_nlt h996
                        refine sp_55_91  (by omega) (by omega) hI_S111  (fun v132 S131 hI_S131 hp_v132 => zi_n ⟨zG_T hI_S131, ?_⟩)
                        have b1000 := i_bd v132
                        exact K (v132) _ hI_S131 (show -1 ≤ v132.toInt ∧ v132.toInt ≤ 300000 from by omega)
        · skip
          have g1001 := i_nlt h674
          refine zd (fun h1002 => ?_) (fun h1002 => ?_)
          · skip
            have g1003 := i_lt h1002
            refine sp_52_91  (by omega) (by omega) hI  (fun v134 S133 hI_S133 hp_v134 => zi_n ⟨zG_T hI_S133, ?_⟩)
            have b1004 := i_bd v134
            have li1005 : (-1 : Int32).toInt = -1 := rfl
            refine zd (fun h1006 => ?_) (fun h1006 => ?_)
            · skip
              have g1007 := i_eq h1006
              have f1008 := zG_s hI_S133 (0) (92) (c := 91) (k := 5) (by decide)
              refine zd (fun h1009 => ?_) (fun h1009 => ?_)
              · skip
                have g1010 := i_lt h1009
                have hI1011 : zL91 f r C Z N (ma_put S133 91 5 (.inl (mI S133 91 5))) := zG_sp hI_S133 (0) (92) rfl (by decide) (by decide) (by decide) trivial (by omega) (by omega)
                exact K ((-1 : Int32)) _ hI1011 (show -1 ≤ (-1 : Int32).toInt ∧ (-1 : Int32).toInt ≤ 300000 from by omega)
              · skip
                have g1012 := i_nlt h1009
                refine zd (fun h1013 => ?_) (fun h1013 => ?_)
                · skip
                  have g1014 := i_le h1013
                  have hI1015 : zL91 f r C Z N (ma_put S133 91 5 (.inl (mI S133 91 5))) := zG_sp hI_S133 (0) (92) rfl (by decide) (by decide) (by decide) trivial (by omega) (by omega)
                  exact K ((-1 : Int32)) _ hI1015 (show -1 ≤ (-1 : Int32).toInt ∧ (-1 : Int32).toInt ≤ 300000 from by omega)
                · skip
                  have g1016 := i_nle h1013
                  refine ⟨i_ix (by omega) (by omega), ?_⟩
                  have f1017 := zG_s hI_S133 (0) (1500) (c := 91) (k := 2) (by decide)
                  first | have f1018 := zG_a hI_S133 93 (0) (3000) (c := 92) (k := (mI S133 91 5).toNatClampNeg) (by decide) (i_ix (n := 93) (by omega) (by omega)).2 | have b1019 := i_bd (mI S133 92 (mI S133 91 5).toNatClampNeg)
                  first | have e1020 : ((mI S133 92 (mI S133 91 5).toNatClampNeg) + n).toInt = (mI S133 92 (mI S133 91 5).toNatClampNeg).toInt + n.toInt := i_add (by omega) (by omega) | have b1021 := i_bd ((mI S133 92 (mI S133 91 5).toNatClampNeg) + n)
                  refine zd (fun h1022 => ?_) (fun h1022 => ?_)
                  · skip
                    have g1023 := i_lt h1022
                    have hI1024 : zL91 f r C Z N (ma_put S133 91 5 (.inl (mI S133 91 5))) := zG_sp hI_S133 (0) (92) rfl (by decide) (by decide) (by decide) trivial (by omega) (by omega)
                    exact K ((-1 : Int32)) _ hI1024 (show -1 ≤ (-1 : Int32).toInt ∧ (-1 : Int32).toInt ≤ 300000 from by omega)
                  · skip
                    have g1025 := i_nlt h1022
                    have hI1026 : zL91 f r C Z N (ma_put S133 91 5 (.inl (mI S133 91 5))) := zG_sp hI_S133 (0) (92) rfl (by decide) (by decide) (by decide) trivial (by omega) (by omega)
                    refine sp_55_91  (by omega) (by omega) hI1026  (fun v138 S137 hI_S137 hp_v138 => zi_n ⟨zG_T hI_S137, ?_⟩)
                    have b1027 := i_bd v138
                    exact K (v138) _ hI_S137 (show -1 ≤ v138.toInt ∧ v138.toInt ≤ 300000 from by omega)
            · skip
              have g1028 := i_ne h1006
              refine zd (fun h1029 => ?_) (fun h1029 => ?_)
              · skip
                have g1030 := i_lt h1029
                have hI1031 : zL91 f r C Z N (ma_put S133 91 5 (.inl v134)) := zG_sp hI_S133 (0) (92) rfl (by decide) (by decide) (by decide) trivial (by omega) (by omega)
                exact K ((-1 : Int32)) _ hI1031 (show -1 ≤ (-1 : Int32).toInt ∧ (-1 : Int32).toInt ≤ 300000 from by omega)
              · skip
                have g1032 := i_nlt h1029
                refine zd (fun h1033 => ?_) (fun h1033 => ?_)
                · skip
                  have g1034 := i_le h1033
                  have hI1035 : zL91 f r C Z N (ma_put S133 91 5 (.inl v134)) := zG_sp hI_S133 (0) (92) rfl (by decide) (by decide) (by decide) trivial (by omega) (by omega)
                  exact K ((-1 : Int32)) _ hI1035 (show -1 ≤ (-1 : Int32).toInt ∧ (-1 : Int32).toInt ≤ 300000 from by omega)
                · skip
                  have g1036 := i_nle h1033
                  refine ⟨i_ix (by omega) (by omega), ?_⟩
                  have f1037 := zG_s hI_S133 (0) (1500) (c := 91) (k := 2) (by decide)
                  first | have f1038 := zG_a hI_S133 93 (0) (3000) (c := 92) (k := v134.toNatClampNeg) (by decide) (i_ix (n := 93) (by omega) (by omega)).2 | have b1039 := i_bd (mI S133 92 v134.toNatClampNeg)
                  first | have e1040 : ((mI S133 92 v134.toNatClampNeg) + n).toInt = (mI S133 92 v134.toNatClampNeg).toInt + n.toInt := i_add (by omega) (by omega) | have b1041 := i_bd ((mI S133 92 v134.toNatClampNeg) + n)
                  refine zd (fun h1042 => ?_) (fun h1042 => ?_)
                  · skip
                    have g1043 := i_lt h1042
                    have hI1044 : zL91 f r C Z N (ma_put S133 91 5 (.inl v134)) := zG_sp hI_S133 (0) (92) rfl (by decide) (by decide) (by decide) trivial (by omega) (by omega)
                    exact K ((-1 : Int32)) _ hI1044 (show -1 ≤ (-1 : Int32).toInt ∧ (-1 : Int32).toInt ≤ 300000 from by omega)
                  · skip
                    have g1045 := i_nlt h1042
                    have hI1046 : zL91 f r C Z N (ma_put S133 91 5 (.inl v134)) := zG_sp hI_S133 (0) (92) rfl (by decide) (by decide) (by decide) trivial (by omega) (by omega)
                    refine sp_55_91  (by omega) (by omega) hI1046  (fun v136 S135 hI_S135 hp_v136 => zi_n ⟨zG_T hI_S135, ?_⟩)
                    have b1047 := i_bd v136
                    exact K (v136) _ hI_S135 (show -1 ≤ v136.toInt ∧ v136.toInt ≤ 300000 from by omega)
          · skip
            have g1048 := i_nlt h1002
            refine zd (fun h1049 => ?_) (fun h1049 => ?_)
            · skip
              have g1050 := i_le h1049
              refine sp_52_91  (by omega) (by omega) hI  (fun v140 S139 hI_S139 hp_v140 => zi_n ⟨zG_T hI_S139, ?_⟩)
              have b1051 := i_bd v140
              have li1052 : (-1 : Int32).toInt = -1 := rfl
              refine zd (fun h1053 => ?_) (fun h1053 => ?_)
              · skip
                have g1054 := i_eq h1053
                have f1055 := zG_s hI_S139 (0) (92) (c := 91) (k := 5) (by decide)
                refine zd (fun h1056 => ?_) (fun h1056 => ?_)
                · skip
                  have g1057 := i_lt h1056
                  have hI1058 : zL91 f r C Z N (ma_put S139 91 5 (.inl (mI S139 91 5))) := zG_sp hI_S139 (0) (92) rfl (by decide) (by decide) (by decide) trivial (by omega) (by omega)
                  exact K ((-1 : Int32)) _ hI1058 (show -1 ≤ (-1 : Int32).toInt ∧ (-1 : Int32).toInt ≤ 300000 from by omega)
                · skip
                  have g1059 := i_nlt h1056
                  refine zd (fun h1060 => ?_) (fun h1060 => ?_)
                  · skip
                    have g1061 := i_le h1060
                    have hI1062 : zL91 f r C Z N (ma_put S139 91 5 (.inl (mI S139 91 5))) := zG_sp hI_S139 (0) (92) rfl (by decide) (by decide) (by decide) trivial (by omega) (by omega)
                    exact K ((-1 : Int32)) _ hI1062 (show -1 ≤ (-1 : Int32).toInt ∧ (-1 : Int32).toInt ≤ 300000 from by omega)
                  · skip
                    have g1063 := i_nle h1060
                    refine ⟨i_ix (by omega) (by omega), ?_⟩
                    have f1064 := zG_s hI_S139 (0) (1500) (c := 91) (k := 2) (by decide)
                    first | have f1065 := zG_a hI_S139 93 (0) (3000) (c := 92) (k := (mI S139 91 5).toNatClampNeg) (by decide) (i_ix (n := 93) (by omega) (by omega)).2 | have b1066 := i_bd (mI S139 92 (mI S139 91 5).toNatClampNeg)
                    first | have e1067 : ((mI S139 92 (mI S139 91 5).toNatClampNeg) + n).toInt = (mI S139 92 (mI S139 91 5).toNatClampNeg).toInt + n.toInt := i_add (by omega) (by omega) | have b1068 := i_bd ((mI S139 92 (mI S139 91 5).toNatClampNeg) + n)
                    refine zd (fun h1069 => ?_) (fun h1069 => ?_)
                    · skip
                      have g1070 := i_lt h1069
                      have hI1071 : zL91 f r C Z N (ma_put S139 91 5 (.inl (mI S139 91 5))) := zG_sp hI_S139 (0) (92) rfl (by decide) (by decide) (by decide) trivial (by omega) (by omega)
                      exact K ((-1 : Int32)) _ hI1071 (show -1 ≤ (-1 : Int32).toInt ∧ (-1 : Int32).toInt ≤ 300000 from by omega)
                    · skip
                      have g1072 := i_nlt h1069
                      have hI1073 : zL91 f r C Z N (ma_put S139 91 5 (.inl (mI S139 91 5))) := zG_sp hI_S139 (0) (92) rfl (by decide) (by decide) (by decide) trivial (by omega) (by omega)
                      refine sp_55_91  (by omega) (by omega) hI1073  (fun v144 S143 hI_S143 hp_v144 => zi_n ⟨zG_T hI_S143, ?_⟩)
                      have b1074 := i_bd v144
                      exact K (v144) _ hI_S143 (show -1 ≤ v144.toInt ∧ v144.toInt ≤ 300000 from by omega)
              · skip
                have g1075 := i_ne h1053
                refine zd (fun h1076 => ?_) (fun h1076 => ?_)
                · skip
                  have g1077 := i_lt h1076
                  have hI1078 : zL91 f r C Z N (ma_put S139 91 5 (.inl v140)) := zG_sp hI_S139 (0) (92) rfl (by decide) (by decide) (by decide) trivial (by omega) (by omega)
                  exact K ((-1 : Int32)) _ hI1078 (show -1 ≤ (-1 : Int32).toInt ∧ (-1 : Int32).toInt ≤ 300000 from by omega)
                · skip
                  have g1079 := i_nlt h1076
                  refine zd (fun h1080 => ?_) (fun h1080 => ?_)
                  · skip
                    have g1081 := i_le h1080
                    have hI1082 : zL91 f r C Z N (ma_put S139 91 5 (.inl v140)) := zG_sp hI_S139 (0) (92) rfl (by decide) (by decide) (by decide) trivial (by omega) (by omega)
                    exact K ((-1 : Int32)) _ hI1082 (show -1 ≤ (-1 : Int32).toInt ∧ (-1 : Int32).toInt ≤ 300000 from by omega)
                  · skip
                    have g1083 := i_nle h1080
                    refine ⟨i_ix (by omega) (by omega), ?_⟩
                    have f1084 := zG_s hI_S139 (0) (1500) (c := 91) (k := 2) (by decide)
                    first | have f1085 := zG_a hI_S139 93 (0) (3000) (c := 92) (k := v140.toNatClampNeg) (by decide) (i_ix (n := 93) (by omega) (by omega)).2 | have b1086 := i_bd (mI S139 92 v140.toNatClampNeg)
                    first | have e1087 : ((mI S139 92 v140.toNatClampNeg) + n).toInt = (mI S139 92 v140.toNatClampNeg).toInt + n.toInt := i_add (by omega) (by omega) | have b1088 := i_bd ((mI S139 92 v140.toNatClampNeg) + n)
                    refine zd (fun h1089 => ?_) (fun h1089 => ?_)
                    · skip
                      have g1090 := i_lt h1089
                      have hI1091 : zL91 f r C Z N (ma_put S139 91 5 (.inl v140)) := zG_sp hI_S139 (0) (92) rfl (by decide) (by decide) (by decide) trivial (by omega) (by omega)
                      exact K ((-1 : Int32)) _ hI1091 (show -1 ≤ (-1 : Int32).toInt ∧ (-1 : Int32).toInt ≤ 300000 from by omega)
                    · skip
                      have g1092 := i_nlt h1089
                      have hI1093 : zL91 f r C Z N (ma_put S139 91 5 (.inl v140)) := zG_sp hI_S139 (0) (92) rfl (by decide) (by decide) (by decide) trivial (by omega) (by omega)
                      refine sp_55_91  (by omega) (by omega) hI1093  (fun v142 S141 hI_S141 hp_v142 => zi_n ⟨zG_T hI_S141, ?_⟩)
                      have b1094 := i_bd v142
                      exact K (v142) _ hI_S141 (show -1 ≤ v142.toInt ∧ v142.toInt ≤ 300000 from by omega)
            · skip
              have g1095 := i_nle h1049
              refine ⟨i_ix (by omega) (by omega), ?_⟩
              refine zd (fun h1096 => ?_) (fun h1096 => ?_)
              · skip
                have g1097 := i_lt h1096
                refine sp_52_91  (by omega) (by omega) hI  (fun v146 S145 hI_S145 hp_v146 => zi_n ⟨zG_T hI_S145, ?_⟩)
                have b1098 := i_bd v146
                have li1099 : (-1 : Int32).toInt = -1 := rfl
                refine zd (fun h1100 => ?_) (fun h1100 => ?_)
                · skip
                  have g1101 := i_eq h1100
                  have f1102 := zG_s hI_S145 (0) (92) (c := 91) (k := 5) (by decide)
                  refine zd (fun h1103 => ?_) (fun h1103 => ?_)
                  · skip
                    have g1104 := i_lt h1103
                    have hI1105 : zL91 f r C Z N (ma_put S145 91 5 (.inl (mI S145 91 5))) := zG_sp hI_S145 (0) (92) rfl (by decide) (by decide) (by decide) trivial (by omega) (by omega)
                    exact K ((-1 : Int32)) _ hI1105 (show -1 ≤ (-1 : Int32).toInt ∧ (-1 : Int32).toInt ≤ 300000 from by omega)
                  · skip
                    have g1106 := i_nlt h1103
                    refine zd (fun h1107 => ?_) (fun h1107 => ?_)
                    · skip
                      have g1108 := i_le h1107
                      have hI1109 : zL91 f r C Z N (ma_put S145 91 5 (.inl (mI S145 91 5))) := zG_sp hI_S145 (0) (92) rfl (by decide) (by decide) (by decide) trivial (by omega) (by omega)
                      exact K ((-1 : Int32)) _ hI1109 (show -1 ≤ (-1 : Int32).toInt ∧ (-1 : Int32).toInt ≤ 300000 from by omega)
                    · skip
                      have g1110 := i_nle h1107
                      refine ⟨i_ix (by omega) (by omega), ?_⟩
                      have f1111 := zG_s hI_S145 (0) (1500) (c := 91) (k := 2) (by decide)
                      first | have f1112 := zG_a hI_S145 93 (0) (3000) (c := 92) (k := (mI S145 91 5).toNatClampNeg) (by decide) (i_ix (n := 93) (by omega) (by omega)).2 | have b1113 := i_bd (mI S145 92 (mI S145 91 5).toNatClampNeg)
                      first | have e1114 : ((mI S145 92 (mI S145 91 5).toNatClampNeg) + n).toInt = (mI S145 92 (mI S145 91 5).toNatClampNeg).toInt + n.toInt := i_add (by omega) (by omega) | have b1115 := i_bd ((mI S145 92 (mI S145 91 5).toNatClampNeg) + n)
                      refine zd (fun h1116 => ?_) (fun h1116 => ?_)
                      · skip
                        have g1117 := i_lt h1116
                        have hI1118 : zL91 f r C Z N (ma_put S145 91 5 (.inl (mI S145 91 5))) := zG_sp hI_S145 (0) (92) rfl (by decide) (by decide) (by decide) trivial (by omega) (by omega)
                        exact K ((-1 : Int32)) _ hI1118 (show -1 ≤ (-1 : Int32).toInt ∧ (-1 : Int32).toInt ≤ 300000 from by omega)
                      · skip
                        have g1119 := i_nlt h1116
                        have hI1120 : zL91 f r C Z N (ma_put S145 91 5 (.inl (mI S145 91 5))) := zG_sp hI_S145 (0) (92) rfl (by decide) (by decide) (by decide) trivial (by omega) (by omega)
                        refine sp_55_91  (by omega) (by omega) hI1120  (fun v150 S149 hI_S149 hp_v150 => zi_n ⟨zG_T hI_S149, ?_⟩)
                        have b1121 := i_bd v150
                        exact K (v150) _ hI_S149 (show -1 ≤ v150.toInt ∧ v150.toInt ≤ 300000 from by omega)
                · skip
                  have g1122 := i_ne h1100
                  refine zd (fun h1123 => ?_) (fun h1123 => ?_)
                  · skip
                    have g1124 := i_lt h1123
                    have hI1125 : zL91 f r C Z N (ma_put S145 91 5 (.inl v146)) := zG_sp hI_S145 (0) (92) rfl (by decide) (by decide) (by decide) trivial (by omega) (by omega)
                    exact K ((-1 : Int32)) _ hI1125 (show -1 ≤ (-1 : Int32).toInt ∧ (-1 : Int32).toInt ≤ 300000 from by omega)
                  · skip
                    have g1126 := i_nlt h1123
                    refine zd (fun h1127 => ?_) (fun h1127 => ?_)
                    · skip
                      have g1128 := i_le h1127
                      have hI1129 : zL91 f r C Z N (ma_put S145 91 5 (.inl v146)) := zG_sp hI_S145 (0) (92) rfl (by decide) (by decide) (by decide) trivial (by omega) (by omega)
                      exact K ((-1 : Int32)) _ hI1129 (show -1 ≤ (-1 : Int32).toInt ∧ (-1 : Int32).toInt ≤ 300000 from by omega)
                    · skip
                      have g1130 := i_nle h1127
                      refine ⟨i_ix (by omega) (by omega), ?_⟩
                      have f1131 := zG_s hI_S145 (0) (1500) (c := 91) (k := 2) (by decide)
                      first | have f1132 := zG_a hI_S145 93 (0) (3000) (c := 92) (k := v146.toNatClampNeg) (by decide) (i_ix (n := 93) (by omega) (by omega)).2 | have b1133 := i_bd (mI S145 92 v146.toNatClampNeg)
                      first | have e1134 : ((mI S145 92 v146.toNatClampNeg) + n).toInt = (mI S145 92 v146.toNatClampNeg).toInt + n.toInt := i_add (by omega) (by omega) | have b1135 := i_bd ((mI S145 92 v146.toNatClampNeg) + n)
                      refine zd (fun h1136 => ?_) (fun h1136 => ?_)
                      · skip
                        have g1137 := i_lt h1136
                        have hI1138 : zL91 f r C Z N (ma_put S145 91 5 (.inl v146)) := zG_sp hI_S145 (0) (92) rfl (by decide) (by decide) (by decide) trivial (by omega) (by omega)
                        exact K ((-1 : Int32)) _ hI1138 (show -1 ≤ (-1 : Int32).toInt ∧ (-1 : Int32).toInt ≤ 300000 from by omega)
                      · skip
                        have g1139 := i_nlt h1136
                        have hI1140 : zL91 f r C Z N (ma_put S145 91 5 (.inl v146)) := zG_sp hI_S145 (0) (92) rfl (by decide) (by decide) (by decide) trivial (by omega) (by omega)
                        refine sp_55_91  (by omega) (by omega) hI1140  (fun v148 S147 hI_S147 hp_v148 => zi_n ⟨zG_T hI_S147, ?_⟩)
                        have b1141 := i_bd v148
                        exact K (v148) _ hI_S147 (show -1 ≤ v148.toInt ∧ v148.toInt ≤ 300000 from by omega)
              · skip
                have g1142 := i_nlt h1096
                refine zd (fun h1143 => ?_) (fun h1143 => ?_)
                · skip
                  have g1144 := i_lt h1143
                  have li1145 : (-1 : Int32).toInt = -1 := rfl
                  exact K ((-1 : Int32)) _ hI (show -1 ≤ (-1 : Int32).toInt ∧ (-1 : Int32).toInt ≤ 300000 from by omega)
                · skip
                  have g1146 := i_nlt h1143
                  refine zd (fun h1147 => ?_) (fun h1147 => ?_)
                  · skip
                    have g1148 := i_le h1147
                    have li1149 : (-1 : Int32).toInt = -1 := rfl
                    exact K ((-1 : Int32)) _ hI (show -1 ≤ (-1 : Int32).toInt ∧ (-1 : Int32).toInt ≤ 300000 from by omega)
                  · skip
                    have g1150 := i_nle h1147
                    refine ⟨i_ix (by omega) (by omega), ?_⟩
                    refine zd (fun h1151 => ?_) (fun h1151 => ?_)
                    · skip
                      have g1152 := i_lt h1151
                      have li1153 : (-1 : Int32).toInt = -1 := rfl
                      exact K ((-1 : Int32)) _ hI (show -1 ≤ (-1 : Int32).toInt ∧ (-1 : Int32).toInt ≤ 300000 from by omega)
                    · skip
                      have g1154 := i_nlt h1151
                      refine sp_55_91  (by omega) (by omega) hI  (fun v152 S151 hI_S151 hp_v152 => zi_n ⟨zG_T hI_S151, ?_⟩)
                      have b1155 := i_bd v152
                      exact K (v152) _ hI_S151 (show -1 ≤ v152.toInt ∧ v152.toInt ≤ 300000 from by omega)
  · skip
    have g1156 := i_nle h3
    have li1157 : (-1 : Int32).toInt = -1 := rfl
    exact K ((-1 : Int32)) _ hI (show -1 ≤ (-1 : Int32).toInt ∧ (-1 : Int32).toInt ≤ 300000 from by omega)
