/-! the constructor of the reference, array by array -/
section MK3
variable {d : Nat} {L : Nat} {xs : Nat → Int32} {h : xe_H} {Q : Option Value → xe_H → Prop}
theorem ma_4 (B : BK L xs 49 47 h) (K : ∀ h', BK L xs 50 48 h' → KP 49 h h' → (∀ j, xe_I h' 48 j = xe_I h 48 j) → xe_P d 119 13 [.ref 48] [] h' Q) : xe_P d 119 4 [.ref 48] [] h Q := by
  have n1 := B.1.1
  have C := BK_new (t := 8) (k := 140) B (by decide) (by decide) (by decide)
  have o1 := BK_ob (a := 48) (t := 7) C (by decide) (by decide)
  have k := K (xe_sR (xe_new h 8 140) 48 0 (some 49)) (BK_sR C (by decide) (by decide)) (KP_sR (KP_new (KP_rf _ _) (by rw [n1]; decide))) (fun j => by rw [hI_sR, hI_new, if_neg (by rw [n1]; omega)])
  simp only [xs_119_4, xs_119_5, xs_119_8, xs_119_10, n1, o1, lS72, lE72, rf_some, xc_int, xc_ref, xc_ret, xc_long, xw_nil, xw_int, xw_ref, xw_long, tl_some, tl_none, true_and, and_true, Nat.zero_le, Nat.reduceAdd, Nat.reduceMul, Nat.reduceLeDiff, Nat.reduceLT, Nat.reduceEqDiff, Nat.reducePow, Int32.reduceAdd, Int32.reduceMul, Int32.reduceSub, Int32.reduceLT, Int32.reduceLE, Int32.reduceToNatClampNeg, litE, ixU, not_false_eq_true, not_true_eq_false, ↓reduceIte, eq_self, true_or, or_true, false_and, and_false, or_false, false_or, i10, i01, in10, i1n, xbT, xbF, r_lt]
  exact k
theorem ma_13 (B : BK L xs 50 48 h) (K : ∀ h', BK L xs 50 48 h' → (∀ a j, ¬ (a = 48 ∧ j = 1) → xe_I h' a j = xe_I h a j) → xe_I h' 48 1 = 2 → xe_P d 119 18 [.ref 48] [] h' Q) : xe_P d 119 13 [.ref 48] [] h Q := by
  have o1 := BK_ob (a := 48) (t := 7) B (by decide) (by decide)
  have k := K (xe_sI h 48 1 2) (BK_sI B (Or.inl (by decide)) (by decide)) (fun a j z => by rw [hI_sI, if_neg z]) (by rw [hI_sI, if_pos ⟨rfl, rfl⟩])
  simp only [xs_119_13, xs_119_14, xs_119_15, o1, rf_some, xc_int, xc_ref, xc_ret, xc_long, xw_nil, xw_int, xw_ref, xw_long, tl_some, tl_none, true_and, and_true, Nat.zero_le, Nat.reduceAdd, Nat.reduceMul, Nat.reduceLeDiff, Nat.reduceLT, Nat.reduceEqDiff, Nat.reducePow, Int32.reduceAdd, Int32.reduceMul, Int32.reduceSub, Int32.reduceLT, Int32.reduceLE, Int32.reduceToNatClampNeg, litE, ixU, not_false_eq_true, not_true_eq_false, ↓reduceIte, eq_self, true_or, or_true, false_and, and_false, or_false, false_or, i10, i01, in10, i1n, xbT, xbF, r_lt]
  exact k
theorem ma_18 (B : BK L xs 50 48 h) (K : ∀ h', BK L xs 51 49 h' → KP 50 h h' → xe_P d 119 26 [.ref 48] [] h' Q) : xe_P d 119 18 [.ref 48] [] h Q := by
  have n1 := B.1.1
  have C := BK_new (t := 8) (k := 35) B (by decide) (by decide) (by decide)
  have o1 := BK_ob (a := 48) (t := 7) C (by decide) (by decide)
  have k := K (xe_sR (xe_new h 8 35) 48 2 (some 50)) (BK_sR C (by decide) (by decide)) (KP_sR (KP_new (KP_rf _ _) (by rw [n1]; decide)))
  simp only [xs_119_18, xs_119_19, xs_119_21, xs_119_23, n1, o1, lS72, lE72, rf_some, xc_int, xc_ref, xc_ret, xc_long, xw_nil, xw_int, xw_ref, xw_long, tl_some, tl_none, true_and, and_true, Nat.zero_le, Nat.reduceAdd, Nat.reduceMul, Nat.reduceLeDiff, Nat.reduceLT, Nat.reduceEqDiff, Nat.reducePow, Int32.reduceAdd, Int32.reduceMul, Int32.reduceSub, Int32.reduceLT, Int32.reduceLE, Int32.reduceToNatClampNeg, litE, ixU, not_false_eq_true, not_true_eq_false, ↓reduceIte, eq_self, true_or, or_true, false_and, and_false, or_false, false_or, i10, i01, in10, i1n, xbT, xbF, r_lt]
  exact k
theorem ma_26 (B : BK L xs 51 49 h) (K : ∀ h', BK L xs 52 50 h' → KP 51 h h' → xe_P d 119 34 [.ref 48] [] h' Q) : xe_P d 119 26 [.ref 48] [] h Q := by
  have n1 := B.1.1
  have C := BK_new (t := 8) (k := 6) B (by decide) (by decide) (by decide)
  have o1 := BK_ob (a := 48) (t := 7) C (by decide) (by decide)
  have k := K (xe_sR (xe_new h 8 6) 48 9 (some 51)) (BK_sR C (by decide) (by decide)) (KP_sR (KP_new (KP_rf _ _) (by rw [n1]; decide)))
  simp only [xs_119_26, xs_119_27, xs_119_29, xs_119_31, n1, o1, lS72, lE72, rf_some, xc_int, xc_ref, xc_ret, xc_long, xw_nil, xw_int, xw_ref, xw_long, tl_some, tl_none, true_and, and_true, Nat.zero_le, Nat.reduceAdd, Nat.reduceMul, Nat.reduceLeDiff, Nat.reduceLT, Nat.reduceEqDiff, Nat.reducePow, Int32.reduceAdd, Int32.reduceMul, Int32.reduceSub, Int32.reduceLT, Int32.reduceLE, Int32.reduceToNatClampNeg, litE, ixU, not_false_eq_true, not_true_eq_false, ↓reduceIte, eq_self, true_or, or_true, false_and, and_false, or_false, false_or, i10, i01, in10, i1n, xbT, xbF, r_lt]
  exact k
theorem ma_34 (B : BK L xs 52 50 h) (K : ∀ h', BK L xs 53 51 h' → KP 52 h h' → xe_P d 119 42 [.ref 48] [] h' Q) : xe_P d 119 34 [.ref 48] [] h Q := by
  have n1 := B.1.1
  have C := BK_new (t := 8) (k := 6) B (by decide) (by decide) (by decide)
  have o1 := BK_ob (a := 48) (t := 7) C (by decide) (by decide)
  have k := K (xe_sR (xe_new h 8 6) 48 10 (some 52)) (BK_sR C (by decide) (by decide)) (KP_sR (KP_new (KP_rf _ _) (by rw [n1]; decide)))
  simp only [xs_119_34, xs_119_35, xs_119_37, xs_119_39, n1, o1, lS72, lE72, rf_some, xc_int, xc_ref, xc_ret, xc_long, xw_nil, xw_int, xw_ref, xw_long, tl_some, tl_none, true_and, and_true, Nat.zero_le, Nat.reduceAdd, Nat.reduceMul, Nat.reduceLeDiff, Nat.reduceLT, Nat.reduceEqDiff, Nat.reducePow, Int32.reduceAdd, Int32.reduceMul, Int32.reduceSub, Int32.reduceLT, Int32.reduceLE, Int32.reduceToNatClampNeg, litE, ixU, not_false_eq_true, not_true_eq_false, ↓reduceIte, eq_self, true_or, or_true, false_and, and_false, or_false, false_or, i10, i01, in10, i1n, xbT, xbF, r_lt]
  exact k
theorem ma_42 (B : BK L xs 53 51 h) (K : ∀ h', BK L xs 54 52 h' → KP 53 h h' → xe_P d 119 51 [.ref 48] [] h' Q) : xe_P d 119 42 [.ref 48] [] h Q := by
  have n1 := B.1.1
  have C := BK_new (t := 8) (k := 320) B (by decide) (by decide) (by decide)
  have o1 := BK_ob (a := 48) (t := 7) C (by decide) (by decide)
  have k := K (xe_sR (xe_new h 8 320) 48 11 (some 53)) (BK_sR C (by decide) (by decide)) (KP_sR (KP_new (KP_rf _ _) (by rw [n1]; decide)))
  simp only [xs_119_42, xs_119_43, xs_119_46, xs_119_48, n1, o1, lS72, lE72, rf_some, xc_int, xc_ref, xc_ret, xc_long, xw_nil, xw_int, xw_ref, xw_long, tl_some, tl_none, true_and, and_true, Nat.zero_le, Nat.reduceAdd, Nat.reduceMul, Nat.reduceLeDiff, Nat.reduceLT, Nat.reduceEqDiff, Nat.reducePow, Int32.reduceAdd, Int32.reduceMul, Int32.reduceSub, Int32.reduceLT, Int32.reduceLE, Int32.reduceToNatClampNeg, litE, ixU, not_false_eq_true, not_true_eq_false, ↓reduceIte, eq_self, true_or, or_true, false_and, and_false, or_false, false_or, i10, i01, in10, i1n, xbT, xbF, r_lt]
  exact k
theorem ma_51 (B : BK L xs 54 52 h) (K : ∀ h', BK L xs 55 53 h' → KP 54 h h' → (∀ j, j < 8 → xe_I h' 54 j = (fun j => nI (cutL.getD j 0)) j) → xe_P d 119 100 [.ref 48] [] h' Q) : xe_P d 119 51 [.ref 48] [] h Q := by
  have n1 := B.1.1
  have C := BK_new (t := 8) (k := 8) B (by decide) (by decide) (by decide)
  have w0 := BK_ob (a := 54) (t := 8) C (by decide) (by decide)
  have N0 := BK_N (a := 54) (k := 8) C (by decide) (by decide)
  have x1 : KP 54 h (xe_new h 8 8) := KP_new (KP_rf _ _) (by rw [n1]; decide)
  simp only [xs_119_51, xs_119_52, xs_119_54, n1, lS72, lE72, rf_some, xc_int, xc_ref, xc_ret, xc_long, xw_nil, xw_int, xw_ref, xw_long, tl_some, tl_none, true_and, and_true, Nat.zero_le, Nat.reduceAdd, Nat.reduceMul, Nat.reduceLeDiff, Nat.reduceLT, Nat.reduceEqDiff, Nat.reducePow, Int32.reduceAdd, Int32.reduceMul, Int32.reduceSub, Int32.reduceLT, Int32.reduceLE, Int32.reduceToNatClampNeg, litE, ixU, not_false_eq_true, not_true_eq_false, ↓reduceIte, eq_self, true_or, or_true, false_and, and_false, or_false, false_or, i10, i01, in10, i1n, xbT, xbF, r_lt]
  generalize xe_new h 8 8 = q at C w0 N0 x1 ⊢
  have W : wr (fun a _ => a = 54) q q := wr_rf _ _
  have Z : ∀ j, j < 0 → xe_I q 54 j = (fun j => nI (cutL.getD j 0)) j := fun j hj => absurd hj (Nat.not_lt_zero j)
  have ob := stq_ob W.1 w0
  have nn := (W.1.2.2.2.1 54).trans N0
  replace W := wr_sI (k := 0) (v := 0) W rfl
  replace Z : ∀ j, j < 1 → xe_I (xe_sI q 54 0 0) 54 j = (fun j => nI (cutL.getD j 0)) j := ls_s (k := 0) (v := 0) Z (by decide)
  simp only [xs_119_56, xs_119_56i, xs_119_57, xs_119_58, xs_119_59, ob, nn, rf_some, xc_int, xc_ref, xc_ret, xc_long, xw_nil, xw_int, xw_ref, xw_long, tl_some, tl_none, true_and, and_true, Nat.zero_le, Nat.reduceAdd, Nat.reduceMul, Nat.reduceLeDiff, Nat.reduceLT, Nat.reduceEqDiff, Nat.reducePow, Int32.reduceAdd, Int32.reduceMul, Int32.reduceSub, Int32.reduceLT, Int32.reduceLE, Int32.reduceToNatClampNeg, litE, ixU, not_false_eq_true, not_true_eq_false, ↓reduceIte, eq_self, true_or, or_true, false_and, and_false, or_false, false_or, i10, i01, in10, i1n, xbT, xbF, r_lt]
  generalize xe_sI q 54 0 0 = q0 at W Z ⊢
  clear ob nn
  have ob := stq_ob W.1 w0
  have nn := (W.1.2.2.2.1 54).trans N0
  replace W := wr_sI (k := 1) (v := 6) W rfl
  replace Z : ∀ j, j < 2 → xe_I (xe_sI q0 54 1 6) 54 j = (fun j => nI (cutL.getD j 0)) j := ls_s (k := 1) (v := 6) Z (by decide)
  simp only [xs_119_60, xs_119_60i, xs_119_61, xs_119_62, xs_119_64, ob, nn, rf_some, xc_int, xc_ref, xc_ret, xc_long, xw_nil, xw_int, xw_ref, xw_long, tl_some, tl_none, true_and, and_true, Nat.zero_le, Nat.reduceAdd, Nat.reduceMul, Nat.reduceLeDiff, Nat.reduceLT, Nat.reduceEqDiff, Nat.reducePow, Int32.reduceAdd, Int32.reduceMul, Int32.reduceSub, Int32.reduceLT, Int32.reduceLE, Int32.reduceToNatClampNeg, litE, ixU, not_false_eq_true, not_true_eq_false, ↓reduceIte, eq_self, true_or, or_true, false_and, and_false, or_false, false_or, i10, i01, in10, i1n, xbT, xbF, r_lt]
  generalize xe_sI q0 54 1 6 = q1 at W Z ⊢
  clear ob nn
  have ob := stq_ob W.1 w0
  have nn := (W.1.2.2.2.1 54).trans N0
  replace W := wr_sI (k := 2) (v := 10) W rfl
  replace Z : ∀ j, j < 3 → xe_I (xe_sI q1 54 2 10) 54 j = (fun j => nI (cutL.getD j 0)) j := ls_s (k := 2) (v := 10) Z (by decide)
  simp only [xs_119_65, xs_119_65i, xs_119_66, xs_119_67, xs_119_69, ob, nn, rf_some, xc_int, xc_ref, xc_ret, xc_long, xw_nil, xw_int, xw_ref, xw_long, tl_some, tl_none, true_and, and_true, Nat.zero_le, Nat.reduceAdd, Nat.reduceMul, Nat.reduceLeDiff, Nat.reduceLT, Nat.reduceEqDiff, Nat.reducePow, Int32.reduceAdd, Int32.reduceMul, Int32.reduceSub, Int32.reduceLT, Int32.reduceLE, Int32.reduceToNatClampNeg, litE, ixU, not_false_eq_true, not_true_eq_false, ↓reduceIte, eq_self, true_or, or_true, false_and, and_false, or_false, false_or, i10, i01, in10, i1n, xbT, xbF, r_lt]
  generalize xe_sI q1 54 2 10 = q2 at W Z ⊢
  clear ob nn
  have ob := stq_ob W.1 w0
  have nn := (W.1.2.2.2.1 54).trans N0
  replace W := wr_sI (k := 3) (v := 13) W rfl
  replace Z : ∀ j, j < 4 → xe_I (xe_sI q2 54 3 13) 54 j = (fun j => nI (cutL.getD j 0)) j := ls_s (k := 3) (v := 13) Z (by decide)
  simp only [xs_119_70, xs_119_70i, xs_119_71, xs_119_72, xs_119_74, ob, nn, rf_some, xc_int, xc_ref, xc_ret, xc_long, xw_nil, xw_int, xw_ref, xw_long, tl_some, tl_none, true_and, and_true, Nat.zero_le, Nat.reduceAdd, Nat.reduceMul, Nat.reduceLeDiff, Nat.reduceLT, Nat.reduceEqDiff, Nat.reducePow, Int32.reduceAdd, Int32.reduceMul, Int32.reduceSub, Int32.reduceLT, Int32.reduceLE, Int32.reduceToNatClampNeg, litE, ixU, not_false_eq_true, not_true_eq_false, ↓reduceIte, eq_self, true_or, or_true, false_and, and_false, or_false, false_or, i10, i01, in10, i1n, xbT, xbF, r_lt]
  generalize xe_sI q2 54 3 13 = q3 at W Z ⊢
  clear ob nn
  have ob := stq_ob W.1 w0
  have nn := (W.1.2.2.2.1 54).trans N0
  replace W := wr_sI (k := 4) (v := 19) W rfl
  replace Z : ∀ j, j < 5 → xe_I (xe_sI q3 54 4 19) 54 j = (fun j => nI (cutL.getD j 0)) j := ls_s (k := 4) (v := 19) Z (by decide)
  simp only [xs_119_75, xs_119_75i, xs_119_76, xs_119_77, xs_119_79, ob, nn, rf_some, xc_int, xc_ref, xc_ret, xc_long, xw_nil, xw_int, xw_ref, xw_long, tl_some, tl_none, true_and, and_true, Nat.zero_le, Nat.reduceAdd, Nat.reduceMul, Nat.reduceLeDiff, Nat.reduceLT, Nat.reduceEqDiff, Nat.reducePow, Int32.reduceAdd, Int32.reduceMul, Int32.reduceSub, Int32.reduceLT, Int32.reduceLE, Int32.reduceToNatClampNeg, litE, ixU, not_false_eq_true, not_true_eq_false, ↓reduceIte, eq_self, true_or, or_true, false_and, and_false, or_false, false_or, i10, i01, in10, i1n, xbT, xbF, r_lt]
  generalize xe_sI q3 54 4 19 = q4 at W Z ⊢
  clear ob nn
  have ob := stq_ob W.1 w0
  have nn := (W.1.2.2.2.1 54).trans N0
  replace W := wr_sI (k := 5) (v := 24) W rfl
  replace Z : ∀ j, j < 6 → xe_I (xe_sI q4 54 5 24) 54 j = (fun j => nI (cutL.getD j 0)) j := ls_s (k := 5) (v := 24) Z (by decide)
  simp only [xs_119_80, xs_119_80i, xs_119_81, xs_119_82, xs_119_84, ob, nn, rf_some, xc_int, xc_ref, xc_ret, xc_long, xw_nil, xw_int, xw_ref, xw_long, tl_some, tl_none, true_and, and_true, Nat.zero_le, Nat.reduceAdd, Nat.reduceMul, Nat.reduceLeDiff, Nat.reduceLT, Nat.reduceEqDiff, Nat.reducePow, Int32.reduceAdd, Int32.reduceMul, Int32.reduceSub, Int32.reduceLT, Int32.reduceLE, Int32.reduceToNatClampNeg, litE, ixU, not_false_eq_true, not_true_eq_false, ↓reduceIte, eq_self, true_or, or_true, false_and, and_false, or_false, false_or, i10, i01, in10, i1n, xbT, xbF, r_lt]
  generalize xe_sI q4 54 5 24 = q5 at W Z ⊢
  clear ob nn
  have ob := stq_ob W.1 w0
  have nn := (W.1.2.2.2.1 54).trans N0
  replace W := wr_sI (k := 6) (v := 28) W rfl
  replace Z : ∀ j, j < 7 → xe_I (xe_sI q5 54 6 28) 54 j = (fun j => nI (cutL.getD j 0)) j := ls_s (k := 6) (v := 28) Z (by decide)
  simp only [xs_119_85, xs_119_85i, xs_119_86, xs_119_88, xs_119_90, ob, nn, rf_some, xc_int, xc_ref, xc_ret, xc_long, xw_nil, xw_int, xw_ref, xw_long, tl_some, tl_none, true_and, and_true, Nat.zero_le, Nat.reduceAdd, Nat.reduceMul, Nat.reduceLeDiff, Nat.reduceLT, Nat.reduceEqDiff, Nat.reducePow, Int32.reduceAdd, Int32.reduceMul, Int32.reduceSub, Int32.reduceLT, Int32.reduceLE, Int32.reduceToNatClampNeg, litE, ixU, not_false_eq_true, not_true_eq_false, ↓reduceIte, eq_self, true_or, or_true, false_and, and_false, or_false, false_or, i10, i01, in10, i1n, xbT, xbF, r_lt]
  generalize xe_sI q5 54 6 28 = q6 at W Z ⊢
  clear ob nn
  have ob := stq_ob W.1 w0
  have nn := (W.1.2.2.2.1 54).trans N0
  replace W := wr_sI (k := 7) (v := 31) W rfl
  replace Z : ∀ j, j < 8 → xe_I (xe_sI q6 54 7 31) 54 j = (fun j => nI (cutL.getD j 0)) j := ls_s (k := 7) (v := 31) Z (by decide)
  simp only [xs_119_91, xs_119_91i, xs_119_92, xs_119_94, xs_119_96, ob, nn, rf_some, xc_int, xc_ref, xc_ret, xc_long, xw_nil, xw_int, xw_ref, xw_long, tl_some, tl_none, true_and, and_true, Nat.zero_le, Nat.reduceAdd, Nat.reduceMul, Nat.reduceLeDiff, Nat.reduceLT, Nat.reduceEqDiff, Nat.reducePow, Int32.reduceAdd, Int32.reduceMul, Int32.reduceSub, Int32.reduceLT, Int32.reduceLE, Int32.reduceToNatClampNeg, litE, ixU, not_false_eq_true, not_true_eq_false, ↓reduceIte, eq_self, true_or, or_true, false_and, and_false, or_false, false_or, i10, i01, in10, i1n, xbT, xbF, r_lt]
  generalize xe_sI q6 54 7 31 = q7 at W Z ⊢
  clear ob nn
  have D : BK L xs 55 52 q7 := BK_wr (c := 54) C W (by decide) (by decide)
  have o1 := BK_ob (a := 48) (t := 7) D (by decide) (by decide)
  have D1 : BK L xs 55 53 (xe_sR q7 48 20 (some 54)) := BK_sR D (by decide) (by decide)
  have D2 : KP 54 h (xe_sR q7 48 20 (some 54)) := fun a j ha => by
    rw [hI_sR, W.2 a j (show ¬ a = 54 by omega)]
    exact x1 a j ha
  have D3 : ∀ j, j < 8 → xe_I (xe_sR q7 48 20 (some 54)) 54 j = (fun j => nI (cutL.getD j 0)) j := fun j hj => by
    rw [hI_sR]
    exact Z j hj
  have k := K _ D1 D2 D3
  rw [xs_119_97]
  exact ⟨⟨o1, of_eq_true (lS72 (by decide))⟩, k⟩
theorem ma_100 (B : BK L xs 55 53 h) (K : ∀ h', BK L xs 56 54 h' → KP 55 h h' → (∀ j, j < 31 → xe_I h' 55 j = (fun j => nI (letL.getD j 0)) j) → xe_P d 119 288 [.ref 48] [] h' Q) : xe_P d 119 100 [.ref 48] [] h Q := by
  have n1 := B.1.1
  have C := BK_new (t := 8) (k := 31) B (by decide) (by decide) (by decide)
  have w0 := BK_ob (a := 55) (t := 8) C (by decide) (by decide)
  have N0 := BK_N (a := 55) (k := 31) C (by decide) (by decide)
  have x1 : KP 55 h (xe_new h 8 31) := KP_new (KP_rf _ _) (by rw [n1]; decide)
  simp only [xs_119_100, xs_119_101, xs_119_103, n1, lS72, lE72, rf_some, xc_int, xc_ref, xc_ret, xc_long, xw_nil, xw_int, xw_ref, xw_long, tl_some, tl_none, true_and, and_true, Nat.zero_le, Nat.reduceAdd, Nat.reduceMul, Nat.reduceLeDiff, Nat.reduceLT, Nat.reduceEqDiff, Nat.reducePow, Int32.reduceAdd, Int32.reduceMul, Int32.reduceSub, Int32.reduceLT, Int32.reduceLE, Int32.reduceToNatClampNeg, litE, ixU, not_false_eq_true, not_true_eq_false, ↓reduceIte, eq_self, true_or, or_true, false_and, and_false, or_false, false_or, i10, i01, in10, i1n, xbT, xbF, r_lt]
  generalize xe_new h 8 31 = q at C w0 N0 x1 ⊢
  have W : wr (fun a _ => a = 55) q q := wr_rf _ _
  have Z : ∀ j, j < 0 → xe_I q 55 j = (fun j => nI (letL.getD j 0)) j := fun j hj => absurd hj (Nat.not_lt_zero j)
  have ob := stq_ob W.1 w0
  have nn := (W.1.2.2.2.1 55).trans N0
  replace W := wr_sI (k := 0) (v := 112) W rfl
  replace Z : ∀ j, j < 1 → xe_I (xe_sI q 55 0 112) 55 j = (fun j => nI (letL.getD j 0)) j := ls_s (k := 0) (v := 112) Z (by decide)
  simp only [xs_119_105, xs_119_105i, xs_119_106, xs_119_107, xs_119_109, ob, nn, rf_some, xc_int, xc_ref, xc_ret, xc_long, xw_nil, xw_int, xw_ref, xw_long, tl_some, tl_none, true_and, and_true, Nat.zero_le, Nat.reduceAdd, Nat.reduceMul, Nat.reduceLeDiff, Nat.reduceLT, Nat.reduceEqDiff, Nat.reducePow, Int32.reduceAdd, Int32.reduceMul, Int32.reduceSub, Int32.reduceLT, Int32.reduceLE, Int32.reduceToNatClampNeg, litE, ixU, not_false_eq_true, not_true_eq_false, ↓reduceIte, eq_self, true_or, or_true, false_and, and_false, or_false, false_or, i10, i01, in10, i1n, xbT, xbF, r_lt]
  generalize xe_sI q 55 0 112 = q0 at W Z ⊢
  clear ob nn
  have ob := stq_ob W.1 w0
  have nn := (W.1.2.2.2.1 55).trans N0
  replace W := wr_sI (k := 1) (v := 108) W rfl
  replace Z : ∀ j, j < 2 → xe_I (xe_sI q0 55 1 108) 55 j = (fun j => nI (letL.getD j 0)) j := ls_s (k := 1) (v := 108) Z (by decide)
  simp only [xs_119_110, xs_119_110i, xs_119_111, xs_119_112, xs_119_114, ob, nn, rf_some, xc_int, xc_ref, xc_ret, xc_long, xw_nil, xw_int, xw_ref, xw_long, tl_some, tl_none, true_and, and_true, Nat.zero_le, Nat.reduceAdd, Nat.reduceMul, Nat.reduceLeDiff, Nat.reduceLT, Nat.reduceEqDiff, Nat.reducePow, Int32.reduceAdd, Int32.reduceMul, Int32.reduceSub, Int32.reduceLT, Int32.reduceLE, Int32.reduceToNatClampNeg, litE, ixU, not_false_eq_true, not_true_eq_false, ↓reduceIte, eq_self, true_or, or_true, false_and, and_false, or_false, false_or, i10, i01, in10, i1n, xbT, xbF, r_lt]
  generalize xe_sI q0 55 1 108 = q1 at W Z ⊢
  clear ob nn
  have ob := stq_ob W.1 w0
  have nn := (W.1.2.2.2.1 55).trans N0
  replace W := wr_sI (k := 2) (v := 97) W rfl
  replace Z : ∀ j, j < 3 → xe_I (xe_sI q1 55 2 97) 55 j = (fun j => nI (letL.getD j 0)) j := ls_s (k := 2) (v := 97) Z (by decide)
  simp only [xs_119_115, xs_119_115i, xs_119_116, xs_119_117, xs_119_119, ob, nn, rf_some, xc_int, xc_ref, xc_ret, xc_long, xw_nil, xw_int, xw_ref, xw_long, tl_some, tl_none, true_and, and_true, Nat.zero_le, Nat.reduceAdd, Nat.reduceMul, Nat.reduceLeDiff, Nat.reduceLT, Nat.reduceEqDiff, Nat.reducePow, Int32.reduceAdd, Int32.reduceMul, Int32.reduceSub, Int32.reduceLT, Int32.reduceLE, Int32.reduceToNatClampNeg, litE, ixU, not_false_eq_true, not_true_eq_false, ↓reduceIte, eq_self, true_or, or_true, false_and, and_false, or_false, false_or, i10, i01, in10, i1n, xbT, xbF, r_lt]
  generalize xe_sI q1 55 2 97 = q2 at W Z ⊢
  clear ob nn
  have ob := stq_ob W.1 w0
  have nn := (W.1.2.2.2.1 55).trans N0
  replace W := wr_sI (k := 3) (v := 99) W rfl
  replace Z : ∀ j, j < 4 → xe_I (xe_sI q2 55 3 99) 55 j = (fun j => nI (letL.getD j 0)) j := ls_s (k := 3) (v := 99) Z (by decide)
  simp only [xs_119_120, xs_119_120i, xs_119_121, xs_119_122, xs_119_124, ob, nn, rf_some, xc_int, xc_ref, xc_ret, xc_long, xw_nil, xw_int, xw_ref, xw_long, tl_some, tl_none, true_and, and_true, Nat.zero_le, Nat.reduceAdd, Nat.reduceMul, Nat.reduceLeDiff, Nat.reduceLT, Nat.reduceEqDiff, Nat.reducePow, Int32.reduceAdd, Int32.reduceMul, Int32.reduceSub, Int32.reduceLT, Int32.reduceLE, Int32.reduceToNatClampNeg, litE, ixU, not_false_eq_true, not_true_eq_false, ↓reduceIte, eq_self, true_or, or_true, false_and, and_false, or_false, false_or, i10, i01, in10, i1n, xbT, xbF, r_lt]
  generalize xe_sI q2 55 3 99 = q3 at W Z ⊢
  clear ob nn
  have ob := stq_ob W.1 w0
  have nn := (W.1.2.2.2.1 55).trans N0
  replace W := wr_sI (k := 4) (v := 101) W rfl
  replace Z : ∀ j, j < 5 → xe_I (xe_sI q3 55 4 101) 55 j = (fun j => nI (letL.getD j 0)) j := ls_s (k := 4) (v := 101) Z (by decide)
  simp only [xs_119_125, xs_119_125i, xs_119_126, xs_119_127, xs_119_129, ob, nn, rf_some, xc_int, xc_ref, xc_ret, xc_long, xw_nil, xw_int, xw_ref, xw_long, tl_some, tl_none, true_and, and_true, Nat.zero_le, Nat.reduceAdd, Nat.reduceMul, Nat.reduceLeDiff, Nat.reduceLT, Nat.reduceEqDiff, Nat.reducePow, Int32.reduceAdd, Int32.reduceMul, Int32.reduceSub, Int32.reduceLT, Int32.reduceLE, Int32.reduceToNatClampNeg, litE, ixU, not_false_eq_true, not_true_eq_false, ↓reduceIte, eq_self, true_or, or_true, false_and, and_false, or_false, false_or, i10, i01, in10, i1n, xbT, xbF, r_lt]
  generalize xe_sI q3 55 4 101 = q4 at W Z ⊢
  clear ob nn
  have ob := stq_ob W.1 w0
  have nn := (W.1.2.2.2.1 55).trans N0
  replace W := wr_sI (k := 5) (v := 115) W rfl
  replace Z : ∀ j, j < 6 → xe_I (xe_sI q4 55 5 115) 55 j = (fun j => nI (letL.getD j 0)) j := ls_s (k := 5) (v := 115) Z (by decide)
  simp only [xs_119_130, xs_119_130i, xs_119_131, xs_119_132, xs_119_134, ob, nn, rf_some, xc_int, xc_ref, xc_ret, xc_long, xw_nil, xw_int, xw_ref, xw_long, tl_some, tl_none, true_and, and_true, Nat.zero_le, Nat.reduceAdd, Nat.reduceMul, Nat.reduceLeDiff, Nat.reduceLT, Nat.reduceEqDiff, Nat.reducePow, Int32.reduceAdd, Int32.reduceMul, Int32.reduceSub, Int32.reduceLT, Int32.reduceLE, Int32.reduceToNatClampNeg, litE, ixU, not_false_eq_true, not_true_eq_false, ↓reduceIte, eq_self, true_or, or_true, false_and, and_false, or_false, false_or, i10, i01, in10, i1n, xbT, xbF, r_lt]
  generalize xe_sI q4 55 5 115 = q5 at W Z ⊢
  clear ob nn
  have ob := stq_ob W.1 w0
  have nn := (W.1.2.2.2.1 55).trans N0
  replace W := wr_sI (k := 6) (v := 104) W rfl
  replace Z : ∀ j, j < 7 → xe_I (xe_sI q5 55 6 104) 55 j = (fun j => nI (letL.getD j 0)) j := ls_s (k := 6) (v := 104) Z (by decide)
  simp only [xs_119_135, xs_119_135i, xs_119_136, xs_119_138, xs_119_140, ob, nn, rf_some, xc_int, xc_ref, xc_ret, xc_long, xw_nil, xw_int, xw_ref, xw_long, tl_some, tl_none, true_and, and_true, Nat.zero_le, Nat.reduceAdd, Nat.reduceMul, Nat.reduceLeDiff, Nat.reduceLT, Nat.reduceEqDiff, Nat.reducePow, Int32.reduceAdd, Int32.reduceMul, Int32.reduceSub, Int32.reduceLT, Int32.reduceLE, Int32.reduceToNatClampNeg, litE, ixU, not_false_eq_true, not_true_eq_false, ↓reduceIte, eq_self, true_or, or_true, false_and, and_false, or_false, false_or, i10, i01, in10, i1n, xbT, xbF, r_lt]
  generalize xe_sI q5 55 6 104 = q6 at W Z ⊢
  clear ob nn
  have ob := stq_ob W.1 w0
  have nn := (W.1.2.2.2.1 55).trans N0
  replace W := wr_sI (k := 7) (v := 111) W rfl
  replace Z : ∀ j, j < 8 → xe_I (xe_sI q6 55 7 111) 55 j = (fun j => nI (letL.getD j 0)) j := ls_s (k := 7) (v := 111) Z (by decide)
  simp only [xs_119_141, xs_119_141i, xs_119_142, xs_119_144, xs_119_146, ob, nn, rf_some, xc_int, xc_ref, xc_ret, xc_long, xw_nil, xw_int, xw_ref, xw_long, tl_some, tl_none, true_and, and_true, Nat.zero_le, Nat.reduceAdd, Nat.reduceMul, Nat.reduceLeDiff, Nat.reduceLT, Nat.reduceEqDiff, Nat.reducePow, Int32.reduceAdd, Int32.reduceMul, Int32.reduceSub, Int32.reduceLT, Int32.reduceLE, Int32.reduceToNatClampNeg, litE, ixU, not_false_eq_true, not_true_eq_false, ↓reduceIte, eq_self, true_or, or_true, false_and, and_false, or_false, false_or, i10, i01, in10, i1n, xbT, xbF, r_lt]
  generalize xe_sI q6 55 7 111 = q7 at W Z ⊢
  clear ob nn
  have ob := stq_ob W.1 w0
  have nn := (W.1.2.2.2.1 55).trans N0
  replace W := wr_sI (k := 8) (v := 108) W rfl
  replace Z : ∀ j, j < 9 → xe_I (xe_sI q7 55 8 108) 55 j = (fun j => nI (letL.getD j 0)) j := ls_s (k := 8) (v := 108) Z (by decide)
  simp only [xs_119_147, xs_119_147i, xs_119_148, xs_119_150, xs_119_152, ob, nn, rf_some, xc_int, xc_ref, xc_ret, xc_long, xw_nil, xw_int, xw_ref, xw_long, tl_some, tl_none, true_and, and_true, Nat.zero_le, Nat.reduceAdd, Nat.reduceMul, Nat.reduceLeDiff, Nat.reduceLT, Nat.reduceEqDiff, Nat.reducePow, Int32.reduceAdd, Int32.reduceMul, Int32.reduceSub, Int32.reduceLT, Int32.reduceLE, Int32.reduceToNatClampNeg, litE, ixU, not_false_eq_true, not_true_eq_false, ↓reduceIte, eq_self, true_or, or_true, false_and, and_false, or_false, false_or, i10, i01, in10, i1n, xbT, xbF, r_lt]
  generalize xe_sI q7 55 8 108 = q8 at W Z ⊢
  clear ob nn
  have ob := stq_ob W.1 w0
  have nn := (W.1.2.2.2.1 55).trans N0
  replace W := wr_sI (k := 9) (v := 100) W rfl
  replace Z : ∀ j, j < 10 → xe_I (xe_sI q8 55 9 100) 55 j = (fun j => nI (letL.getD j 0)) j := ls_s (k := 9) (v := 100) Z (by decide)
  simp only [xs_119_153, xs_119_153i, xs_119_154, xs_119_156, xs_119_158, ob, nn, rf_some, xc_int, xc_ref, xc_ret, xc_long, xw_nil, xw_int, xw_ref, xw_long, tl_some, tl_none, true_and, and_true, Nat.zero_le, Nat.reduceAdd, Nat.reduceMul, Nat.reduceLeDiff, Nat.reduceLT, Nat.reduceEqDiff, Nat.reducePow, Int32.reduceAdd, Int32.reduceMul, Int32.reduceSub, Int32.reduceLT, Int32.reduceLE, Int32.reduceToNatClampNeg, litE, ixU, not_false_eq_true, not_true_eq_false, ↓reduceIte, eq_self, true_or, or_true, false_and, and_false, or_false, false_or, i10, i01, in10, i1n, xbT, xbF, r_lt]
  generalize xe_sI q8 55 9 100 = q9 at W Z ⊢
  clear ob nn
  have ob := stq_ob W.1 w0
  have nn := (W.1.2.2.2.1 55).trans N0
  replace W := wr_sI (k := 10) (v := 108) W rfl
  replace Z : ∀ j, j < 11 → xe_I (xe_sI q9 55 10 108) 55 j = (fun j => nI (letL.getD j 0)) j := ls_s (k := 10) (v := 108) Z (by decide)
  simp only [xs_119_159, xs_119_159i, xs_119_160, xs_119_162, xs_119_164, ob, nn, rf_some, xc_int, xc_ref, xc_ret, xc_long, xw_nil, xw_int, xw_ref, xw_long, tl_some, tl_none, true_and, and_true, Nat.zero_le, Nat.reduceAdd, Nat.reduceMul, Nat.reduceLeDiff, Nat.reduceLT, Nat.reduceEqDiff, Nat.reducePow, Int32.reduceAdd, Int32.reduceMul, Int32.reduceSub, Int32.reduceLT, Int32.reduceLE, Int32.reduceToNatClampNeg, litE, ixU, not_false_eq_true, not_true_eq_false, ↓reduceIte, eq_self, true_or, or_true, false_and, and_false, or_false, false_or, i10, i01, in10, i1n, xbT, xbF, r_lt]
  generalize xe_sI q9 55 10 108 = q10 at W Z ⊢
  clear ob nn
  have ob := stq_ob W.1 w0
  have nn := (W.1.2.2.2.1 55).trans N0
  replace W := wr_sI (k := 11) (v := 97) W rfl
  replace Z : ∀ j, j < 12 → xe_I (xe_sI q10 55 11 97) 55 j = (fun j => nI (letL.getD j 0)) j := ls_s (k := 11) (v := 97) Z (by decide)
  simp only [xs_119_165, xs_119_165i, xs_119_166, xs_119_168, xs_119_170, ob, nn, rf_some, xc_int, xc_ref, xc_ret, xc_long, xw_nil, xw_int, xw_ref, xw_long, tl_some, tl_none, true_and, and_true, Nat.zero_le, Nat.reduceAdd, Nat.reduceMul, Nat.reduceLeDiff, Nat.reduceLT, Nat.reduceEqDiff, Nat.reducePow, Int32.reduceAdd, Int32.reduceMul, Int32.reduceSub, Int32.reduceLT, Int32.reduceLE, Int32.reduceToNatClampNeg, litE, ixU, not_false_eq_true, not_true_eq_false, ↓reduceIte, eq_self, true_or, or_true, false_and, and_false, or_false, false_or, i10, i01, in10, i1n, xbT, xbF, r_lt]
  generalize xe_sI q10 55 11 97 = q11 at W Z ⊢
  clear ob nn
  have ob := stq_ob W.1 w0
  have nn := (W.1.2.2.2.1 55).trans N0
  replace W := wr_sI (k := 12) (v := 119) W rfl
  replace Z : ∀ j, j < 13 → xe_I (xe_sI q11 55 12 119) 55 j = (fun j => nI (letL.getD j 0)) j := ls_s (k := 12) (v := 119) Z (by decide)
  simp only [xs_119_171, xs_119_171i, xs_119_172, xs_119_174, xs_119_176, ob, nn, rf_some, xc_int, xc_ref, xc_ret, xc_long, xw_nil, xw_int, xw_ref, xw_long, tl_some, tl_none, true_and, and_true, Nat.zero_le, Nat.reduceAdd, Nat.reduceMul, Nat.reduceLeDiff, Nat.reduceLT, Nat.reduceEqDiff, Nat.reducePow, Int32.reduceAdd, Int32.reduceMul, Int32.reduceSub, Int32.reduceLT, Int32.reduceLE, Int32.reduceToNatClampNeg, litE, ixU, not_false_eq_true, not_true_eq_false, ↓reduceIte, eq_self, true_or, or_true, false_and, and_false, or_false, false_or, i10, i01, in10, i1n, xbT, xbF, r_lt]
  generalize xe_sI q11 55 12 119 = q12 at W Z ⊢
  clear ob nn
  have ob := stq_ob W.1 w0
  have nn := (W.1.2.2.2.1 55).trans N0
  replace W := wr_sI (k := 13) (v := 98) W rfl
  replace Z : ∀ j, j < 14 → xe_I (xe_sI q12 55 13 98) 55 j = (fun j => nI (letL.getD j 0)) j := ls_s (k := 13) (v := 98) Z (by decide)
  simp only [xs_119_177, xs_119_177i, xs_119_178, xs_119_180, xs_119_182, ob, nn, rf_some, xc_int, xc_ref, xc_ret, xc_long, xw_nil, xw_int, xw_ref, xw_long, tl_some, tl_none, true_and, and_true, Nat.zero_le, Nat.reduceAdd, Nat.reduceMul, Nat.reduceLeDiff, Nat.reduceLT, Nat.reduceEqDiff, Nat.reducePow, Int32.reduceAdd, Int32.reduceMul, Int32.reduceSub, Int32.reduceLT, Int32.reduceLE, Int32.reduceToNatClampNeg, litE, ixU, not_false_eq_true, not_true_eq_false, ↓reduceIte, eq_self, true_or, or_true, false_and, and_false, or_false, false_or, i10, i01, in10, i1n, xbT, xbF, r_lt]
  generalize xe_sI q12 55 13 98 = q13 at W Z ⊢
  clear ob nn
  have ob := stq_ob W.1 w0
  have nn := (W.1.2.2.2.1 55).trans N0
  replace W := wr_sI (k := 14) (v := 114) W rfl
  replace Z : ∀ j, j < 15 → xe_I (xe_sI q13 55 14 114) 55 j = (fun j => nI (letL.getD j 0)) j := ls_s (k := 14) (v := 114) Z (by decide)
  simp only [xs_119_183, xs_119_183i, xs_119_184, xs_119_186, xs_119_188, ob, nn, rf_some, xc_int, xc_ref, xc_ret, xc_long, xw_nil, xw_int, xw_ref, xw_long, tl_some, tl_none, true_and, and_true, Nat.zero_le, Nat.reduceAdd, Nat.reduceMul, Nat.reduceLeDiff, Nat.reduceLT, Nat.reduceEqDiff, Nat.reducePow, Int32.reduceAdd, Int32.reduceMul, Int32.reduceSub, Int32.reduceLT, Int32.reduceLE, Int32.reduceToNatClampNeg, litE, ixU, not_false_eq_true, not_true_eq_false, ↓reduceIte, eq_self, true_or, or_true, false_and, and_false, or_false, false_or, i10, i01, in10, i1n, xbT, xbF, r_lt]
  generalize xe_sI q13 55 14 114 = q14 at W Z ⊢
  clear ob nn
  have ob := stq_ob W.1 w0
  have nn := (W.1.2.2.2.1 55).trans N0
  replace W := wr_sI (k := 15) (v := 105) W rfl
  replace Z : ∀ j, j < 16 → xe_I (xe_sI q14 55 15 105) 55 j = (fun j => nI (letL.getD j 0)) j := ls_s (k := 15) (v := 105) Z (by decide)
  simp only [xs_119_189, xs_119_189i, xs_119_190, xs_119_192, xs_119_194, ob, nn, rf_some, xc_int, xc_ref, xc_ret, xc_long, xw_nil, xw_int, xw_ref, xw_long, tl_some, tl_none, true_and, and_true, Nat.zero_le, Nat.reduceAdd, Nat.reduceMul, Nat.reduceLeDiff, Nat.reduceLT, Nat.reduceEqDiff, Nat.reducePow, Int32.reduceAdd, Int32.reduceMul, Int32.reduceSub, Int32.reduceLT, Int32.reduceLE, Int32.reduceToNatClampNeg, litE, ixU, not_false_eq_true, not_true_eq_false, ↓reduceIte, eq_self, true_or, or_true, false_and, and_false, or_false, false_or, i10, i01, in10, i1n, xbT, xbF, r_lt]
  generalize xe_sI q14 55 15 105 = q15 at W Z ⊢
  clear ob nn
  have ob := stq_ob W.1 w0
  have nn := (W.1.2.2.2.1 55).trans N0
  replace W := wr_sI (k := 16) (v := 100) W rfl
  replace Z : ∀ j, j < 17 → xe_I (xe_sI q15 55 16 100) 55 j = (fun j => nI (letL.getD j 0)) j := ls_s (k := 16) (v := 100) Z (by decide)
  simp only [xs_119_195, xs_119_195i, xs_119_196, xs_119_198, xs_119_200, ob, nn, rf_some, xc_int, xc_ref, xc_ret, xc_long, xw_nil, xw_int, xw_ref, xw_long, tl_some, tl_none, true_and, and_true, Nat.zero_le, Nat.reduceAdd, Nat.reduceMul, Nat.reduceLeDiff, Nat.reduceLT, Nat.reduceEqDiff, Nat.reducePow, Int32.reduceAdd, Int32.reduceMul, Int32.reduceSub, Int32.reduceLT, Int32.reduceLE, Int32.reduceToNatClampNeg, litE, ixU, not_false_eq_true, not_true_eq_false, ↓reduceIte, eq_self, true_or, or_true, false_and, and_false, or_false, false_or, i10, i01, in10, i1n, xbT, xbF, r_lt]
  generalize xe_sI q15 55 16 100 = q16 at W Z ⊢
  clear ob nn
  have ob := stq_ob W.1 w0
  have nn := (W.1.2.2.2.1 55).trans N0
  replace W := wr_sI (k := 17) (v := 103) W rfl
  replace Z : ∀ j, j < 18 → xe_I (xe_sI q16 55 17 103) 55 j = (fun j => nI (letL.getD j 0)) j := ls_s (k := 17) (v := 103) Z (by decide)
  simp only [xs_119_201, xs_119_201i, xs_119_202, xs_119_204, xs_119_206, ob, nn, rf_some, xc_int, xc_ref, xc_ret, xc_long, xw_nil, xw_int, xw_ref, xw_long, tl_some, tl_none, true_and, and_true, Nat.zero_le, Nat.reduceAdd, Nat.reduceMul, Nat.reduceLeDiff, Nat.reduceLT, Nat.reduceEqDiff, Nat.reducePow, Int32.reduceAdd, Int32.reduceMul, Int32.reduceSub, Int32.reduceLT, Int32.reduceLE, Int32.reduceToNatClampNeg, litE, ixU, not_false_eq_true, not_true_eq_false, ↓reduceIte, eq_self, true_or, or_true, false_and, and_false, or_false, false_or, i10, i01, in10, i1n, xbT, xbF, r_lt]
  generalize xe_sI q16 55 17 103 = q17 at W Z ⊢
  clear ob nn
  have ob := stq_ob W.1 w0
  have nn := (W.1.2.2.2.1 55).trans N0
  replace W := wr_sI (k := 18) (v := 101) W rfl
  replace Z : ∀ j, j < 19 → xe_I (xe_sI q17 55 18 101) 55 j = (fun j => nI (letL.getD j 0)) j := ls_s (k := 18) (v := 101) Z (by decide)
  simp only [xs_119_207, xs_119_207i, xs_119_208, xs_119_210, xs_119_212, ob, nn, rf_some, xc_int, xc_ref, xc_ret, xc_long, xw_nil, xw_int, xw_ref, xw_long, tl_some, tl_none, true_and, and_true, Nat.zero_le, Nat.reduceAdd, Nat.reduceMul, Nat.reduceLeDiff, Nat.reduceLT, Nat.reduceEqDiff, Nat.reducePow, Int32.reduceAdd, Int32.reduceMul, Int32.reduceSub, Int32.reduceLT, Int32.reduceLE, Int32.reduceToNatClampNeg, litE, ixU, not_false_eq_true, not_true_eq_false, ↓reduceIte, eq_self, true_or, or_true, false_and, and_false, or_false, false_or, i10, i01, in10, i1n, xbT, xbF, r_lt]
  generalize xe_sI q17 55 18 101 = q18 at W Z ⊢
  clear ob nn
  have ob := stq_ob W.1 w0
  have nn := (W.1.2.2.2.1 55).trans N0
  replace W := wr_sI (k := 19) (v := 99) W rfl
  replace Z : ∀ j, j < 20 → xe_I (xe_sI q18 55 19 99) 55 j = (fun j => nI (letL.getD j 0)) j := ls_s (k := 19) (v := 99) Z (by decide)
  simp only [xs_119_213, xs_119_213i, xs_119_214, xs_119_216, xs_119_218, ob, nn, rf_some, xc_int, xc_ref, xc_ret, xc_long, xw_nil, xw_int, xw_ref, xw_long, tl_some, tl_none, true_and, and_true, Nat.zero_le, Nat.reduceAdd, Nat.reduceMul, Nat.reduceLeDiff, Nat.reduceLT, Nat.reduceEqDiff, Nat.reducePow, Int32.reduceAdd, Int32.reduceMul, Int32.reduceSub, Int32.reduceLT, Int32.reduceLE, Int32.reduceToNatClampNeg, litE, ixU, not_false_eq_true, not_true_eq_false, ↓reduceIte, eq_self, true_or, or_true, false_and, and_false, or_false, false_or, i10, i01, in10, i1n, xbT, xbF, r_lt]
  generalize xe_sI q18 55 19 99 = q19 at W Z ⊢
  clear ob nn
  have ob := stq_ob W.1 w0
  have nn := (W.1.2.2.2.1 55).trans N0
  replace W := wr_sI (k := 20) (v := 104) W rfl
  replace Z : ∀ j, j < 21 → xe_I (xe_sI q19 55 20 104) 55 j = (fun j => nI (letL.getD j 0)) j := ls_s (k := 20) (v := 104) Z (by decide)
  simp only [xs_119_219, xs_119_219i, xs_119_220, xs_119_222, xs_119_224, ob, nn, rf_some, xc_int, xc_ref, xc_ret, xc_long, xw_nil, xw_int, xw_ref, xw_long, tl_some, tl_none, true_and, and_true, Nat.zero_le, Nat.reduceAdd, Nat.reduceMul, Nat.reduceLeDiff, Nat.reduceLT, Nat.reduceEqDiff, Nat.reducePow, Int32.reduceAdd, Int32.reduceMul, Int32.reduceSub, Int32.reduceLT, Int32.reduceLE, Int32.reduceToNatClampNeg, litE, ixU, not_false_eq_true, not_true_eq_false, ↓reduceIte, eq_self, true_or, or_true, false_and, and_false, or_false, false_or, i10, i01, in10, i1n, xbT, xbF, r_lt]
  generalize xe_sI q19 55 20 104 = q20 at W Z ⊢
  clear ob nn
  have ob := stq_ob W.1 w0
  have nn := (W.1.2.2.2.1 55).trans N0
  replace W := wr_sI (k := 21) (v := 97) W rfl
  replace Z : ∀ j, j < 22 → xe_I (xe_sI q20 55 21 97) 55 j = (fun j => nI (letL.getD j 0)) j := ls_s (k := 21) (v := 97) Z (by decide)
  simp only [xs_119_225, xs_119_225i, xs_119_226, xs_119_228, xs_119_230, ob, nn, rf_some, xc_int, xc_ref, xc_ret, xc_long, xw_nil, xw_int, xw_ref, xw_long, tl_some, tl_none, true_and, and_true, Nat.zero_le, Nat.reduceAdd, Nat.reduceMul, Nat.reduceLeDiff, Nat.reduceLT, Nat.reduceEqDiff, Nat.reducePow, Int32.reduceAdd, Int32.reduceMul, Int32.reduceSub, Int32.reduceLT, Int32.reduceLE, Int32.reduceToNatClampNeg, litE, ixU, not_false_eq_true, not_true_eq_false, ↓reduceIte, eq_self, true_or, or_true, false_and, and_false, or_false, false_or, i10, i01, in10, i1n, xbT, xbF, r_lt]
  generalize xe_sI q20 55 21 97 = q21 at W Z ⊢
  clear ob nn
  have ob := stq_ob W.1 w0
  have nn := (W.1.2.2.2.1 55).trans N0
  replace W := wr_sI (k := 22) (v := 105) W rfl
  replace Z : ∀ j, j < 23 → xe_I (xe_sI q21 55 22 105) 55 j = (fun j => nI (letL.getD j 0)) j := ls_s (k := 22) (v := 105) Z (by decide)
  simp only [xs_119_231, xs_119_231i, xs_119_232, xs_119_234, xs_119_236, ob, nn, rf_some, xc_int, xc_ref, xc_ret, xc_long, xw_nil, xw_int, xw_ref, xw_long, tl_some, tl_none, true_and, and_true, Nat.zero_le, Nat.reduceAdd, Nat.reduceMul, Nat.reduceLeDiff, Nat.reduceLT, Nat.reduceEqDiff, Nat.reducePow, Int32.reduceAdd, Int32.reduceMul, Int32.reduceSub, Int32.reduceLT, Int32.reduceLE, Int32.reduceToNatClampNeg, litE, ixU, not_false_eq_true, not_true_eq_false, ↓reduceIte, eq_self, true_or, or_true, false_and, and_false, or_false, false_or, i10, i01, in10, i1n, xbT, xbF, r_lt]
  generalize xe_sI q21 55 22 105 = q22 at W Z ⊢
  clear ob nn
  have ob := stq_ob W.1 w0
  have nn := (W.1.2.2.2.1 55).trans N0
  replace W := wr_sI (k := 23) (v := 110) W rfl
  replace Z : ∀ j, j < 24 → xe_I (xe_sI q22 55 23 110) 55 j = (fun j => nI (letL.getD j 0)) j := ls_s (k := 23) (v := 110) Z (by decide)
  simp only [xs_119_237, xs_119_237i, xs_119_238, xs_119_240, xs_119_242, ob, nn, rf_some, xc_int, xc_ref, xc_ret, xc_long, xw_nil, xw_int, xw_ref, xw_long, tl_some, tl_none, true_and, and_true, Nat.zero_le, Nat.reduceAdd, Nat.reduceMul, Nat.reduceLeDiff, Nat.reduceLT, Nat.reduceEqDiff, Nat.reducePow, Int32.reduceAdd, Int32.reduceMul, Int32.reduceSub, Int32.reduceLT, Int32.reduceLE, Int32.reduceToNatClampNeg, litE, ixU, not_false_eq_true, not_true_eq_false, ↓reduceIte, eq_self, true_or, or_true, false_and, and_false, or_false, false_or, i10, i01, in10, i1n, xbT, xbF, r_lt]
  generalize xe_sI q22 55 23 110 = q23 at W Z ⊢
  clear ob nn
  have ob := stq_ob W.1 w0
  have nn := (W.1.2.2.2.1 55).trans N0
  replace W := wr_sI (k := 24) (v := 115) W rfl
  replace Z : ∀ j, j < 25 → xe_I (xe_sI q23 55 24 115) 55 j = (fun j => nI (letL.getD j 0)) j := ls_s (k := 24) (v := 115) Z (by decide)
  simp only [xs_119_243, xs_119_243i, xs_119_244, xs_119_246, xs_119_248, ob, nn, rf_some, xc_int, xc_ref, xc_ret, xc_long, xw_nil, xw_int, xw_ref, xw_long, tl_some, tl_none, true_and, and_true, Nat.zero_le, Nat.reduceAdd, Nat.reduceMul, Nat.reduceLeDiff, Nat.reduceLT, Nat.reduceEqDiff, Nat.reducePow, Int32.reduceAdd, Int32.reduceMul, Int32.reduceSub, Int32.reduceLT, Int32.reduceLE, Int32.reduceToNatClampNeg, litE, ixU, not_false_eq_true, not_true_eq_false, ↓reduceIte, eq_self, true_or, or_true, false_and, and_false, or_false, false_or, i10, i01, in10, i1n, xbT, xbF, r_lt]
  generalize xe_sI q23 55 24 115 = q24 at W Z ⊢
  clear ob nn
  have ob := stq_ob W.1 w0
  have nn := (W.1.2.2.2.1 55).trans N0
  replace W := wr_sI (k := 25) (v := 104) W rfl
  replace Z : ∀ j, j < 26 → xe_I (xe_sI q24 55 25 104) 55 j = (fun j => nI (letL.getD j 0)) j := ls_s (k := 25) (v := 104) Z (by decide)
  simp only [xs_119_249, xs_119_249i, xs_119_250, xs_119_252, xs_119_254, ob, nn, rf_some, xc_int, xc_ref, xc_ret, xc_long, xw_nil, xw_int, xw_ref, xw_long, tl_some, tl_none, true_and, and_true, Nat.zero_le, Nat.reduceAdd, Nat.reduceMul, Nat.reduceLeDiff, Nat.reduceLT, Nat.reduceEqDiff, Nat.reducePow, Int32.reduceAdd, Int32.reduceMul, Int32.reduceSub, Int32.reduceLT, Int32.reduceLE, Int32.reduceToNatClampNeg, litE, ixU, not_false_eq_true, not_true_eq_false, ↓reduceIte, eq_self, true_or, or_true, false_and, and_false, or_false, false_or, i10, i01, in10, i1n, xbT, xbF, r_lt]
  generalize xe_sI q24 55 25 104 = q25 at W Z ⊢
  clear ob nn
  have ob := stq_ob W.1 w0
  have nn := (W.1.2.2.2.1 55).trans N0
  replace W := wr_sI (k := 26) (v := 117) W rfl
  replace Z : ∀ j, j < 27 → xe_I (xe_sI q25 55 26 117) 55 j = (fun j => nI (letL.getD j 0)) j := ls_s (k := 26) (v := 117) Z (by decide)
  simp only [xs_119_255, xs_119_255i, xs_119_256, xs_119_258, xs_119_260, ob, nn, rf_some, xc_int, xc_ref, xc_ret, xc_long, xw_nil, xw_int, xw_ref, xw_long, tl_some, tl_none, true_and, and_true, Nat.zero_le, Nat.reduceAdd, Nat.reduceMul, Nat.reduceLeDiff, Nat.reduceLT, Nat.reduceEqDiff, Nat.reducePow, Int32.reduceAdd, Int32.reduceMul, Int32.reduceSub, Int32.reduceLT, Int32.reduceLE, Int32.reduceToNatClampNeg, litE, ixU, not_false_eq_true, not_true_eq_false, ↓reduceIte, eq_self, true_or, or_true, false_and, and_false, or_false, false_or, i10, i01, in10, i1n, xbT, xbF, r_lt]
  generalize xe_sI q25 55 26 117 = q26 at W Z ⊢
  clear ob nn
  have ob := stq_ob W.1 w0
  have nn := (W.1.2.2.2.1 55).trans N0
  replace W := wr_sI (k := 27) (v := 116) W rfl
  replace Z : ∀ j, j < 28 → xe_I (xe_sI q26 55 27 116) 55 j = (fun j => nI (letL.getD j 0)) j := ls_s (k := 27) (v := 116) Z (by decide)
  simp only [xs_119_261, xs_119_261i, xs_119_262, xs_119_264, xs_119_266, ob, nn, rf_some, xc_int, xc_ref, xc_ret, xc_long, xw_nil, xw_int, xw_ref, xw_long, tl_some, tl_none, true_and, and_true, Nat.zero_le, Nat.reduceAdd, Nat.reduceMul, Nat.reduceLeDiff, Nat.reduceLT, Nat.reduceEqDiff, Nat.reducePow, Int32.reduceAdd, Int32.reduceMul, Int32.reduceSub, Int32.reduceLT, Int32.reduceLE, Int32.reduceToNatClampNeg, litE, ixU, not_false_eq_true, not_true_eq_false, ↓reduceIte, eq_self, true_or, or_true, false_and, and_false, or_false, false_or, i10, i01, in10, i1n, xbT, xbF, r_lt]
  generalize xe_sI q26 55 27 116 = q27 at W Z ⊢
  clear ob nn
  have ob := stq_ob W.1 w0
  have nn := (W.1.2.2.2.1 55).trans N0
  replace W := wr_sI (k := 28) (v := 111) W rfl
  replace Z : ∀ j, j < 29 → xe_I (xe_sI q27 55 28 111) 55 j = (fun j => nI (letL.getD j 0)) j := ls_s (k := 28) (v := 111) Z (by decide)
  simp only [xs_119_267, xs_119_267i, xs_119_268, xs_119_270, xs_119_272, ob, nn, rf_some, xc_int, xc_ref, xc_ret, xc_long, xw_nil, xw_int, xw_ref, xw_long, tl_some, tl_none, true_and, and_true, Nat.zero_le, Nat.reduceAdd, Nat.reduceMul, Nat.reduceLeDiff, Nat.reduceLT, Nat.reduceEqDiff, Nat.reducePow, Int32.reduceAdd, Int32.reduceMul, Int32.reduceSub, Int32.reduceLT, Int32.reduceLE, Int32.reduceToNatClampNeg, litE, ixU, not_false_eq_true, not_true_eq_false, ↓reduceIte, eq_self, true_or, or_true, false_and, and_false, or_false, false_or, i10, i01, in10, i1n, xbT, xbF, r_lt]
  generalize xe_sI q27 55 28 111 = q28 at W Z ⊢
  clear ob nn
  have ob := stq_ob W.1 w0
  have nn := (W.1.2.2.2.1 55).trans N0
  replace W := wr_sI (k := 29) (v := 110) W rfl
  replace Z : ∀ j, j < 30 → xe_I (xe_sI q28 55 29 110) 55 j = (fun j => nI (letL.getD j 0)) j := ls_s (k := 29) (v := 110) Z (by decide)
  simp only [xs_119_273, xs_119_273i, xs_119_274, xs_119_276, xs_119_278, ob, nn, rf_some, xc_int, xc_ref, xc_ret, xc_long, xw_nil, xw_int, xw_ref, xw_long, tl_some, tl_none, true_and, and_true, Nat.zero_le, Nat.reduceAdd, Nat.reduceMul, Nat.reduceLeDiff, Nat.reduceLT, Nat.reduceEqDiff, Nat.reducePow, Int32.reduceAdd, Int32.reduceMul, Int32.reduceSub, Int32.reduceLT, Int32.reduceLE, Int32.reduceToNatClampNeg, litE, ixU, not_false_eq_true, not_true_eq_false, ↓reduceIte, eq_self, true_or, or_true, false_and, and_false, or_false, false_or, i10, i01, in10, i1n, xbT, xbF, r_lt]
  generalize xe_sI q28 55 29 110 = q29 at W Z ⊢
  clear ob nn
  have ob := stq_ob W.1 w0
  have nn := (W.1.2.2.2.1 55).trans N0
  replace W := wr_sI (k := 30) (v := 101) W rfl
  replace Z : ∀ j, j < 31 → xe_I (xe_sI q29 55 30 101) 55 j = (fun j => nI (letL.getD j 0)) j := ls_s (k := 30) (v := 101) Z (by decide)
  simp only [xs_119_279, xs_119_279i, xs_119_280, xs_119_282, xs_119_284, ob, nn, rf_some, xc_int, xc_ref, xc_ret, xc_long, xw_nil, xw_int, xw_ref, xw_long, tl_some, tl_none, true_and, and_true, Nat.zero_le, Nat.reduceAdd, Nat.reduceMul, Nat.reduceLeDiff, Nat.reduceLT, Nat.reduceEqDiff, Nat.reducePow, Int32.reduceAdd, Int32.reduceMul, Int32.reduceSub, Int32.reduceLT, Int32.reduceLE, Int32.reduceToNatClampNeg, litE, ixU, not_false_eq_true, not_true_eq_false, ↓reduceIte, eq_self, true_or, or_true, false_and, and_false, or_false, false_or, i10, i01, in10, i1n, xbT, xbF, r_lt]
  generalize xe_sI q29 55 30 101 = q30 at W Z ⊢
  clear ob nn
  have D : BK L xs 56 53 q30 := BK_wr (c := 55) C W (by decide) (by decide)
  have o1 := BK_ob (a := 48) (t := 7) D (by decide) (by decide)
  have D1 : BK L xs 56 54 (xe_sR q30 48 21 (some 55)) := BK_sR D (by decide) (by decide)
  have D2 : KP 55 h (xe_sR q30 48 21 (some 55)) := fun a j ha => by
    rw [hI_sR, W.2 a j (show ¬ a = 55 by omega)]
    exact x1 a j ha
  have D3 : ∀ j, j < 31 → xe_I (xe_sR q30 48 21 (some 55)) 55 j = (fun j => nI (letL.getD j 0)) j := fun j hj => by
    rw [hI_sR]
    exact Z j hj
  have k := K _ D1 D2 D3
  rw [xs_119_285]
  exact ⟨⟨o1, of_eq_true (lS72 (by decide))⟩, k⟩
theorem ma_288 (B : BK L xs 56 54 h) (K : ∀ h', BK L xs 57 55 h' → KP 56 h h' → xe_P d 119 296 [.ref 48] [] h' Q) : xe_P d 119 288 [.ref 48] [] h Q := by
  have n1 := B.1.1
  have C := BK_new (t := 8) (k := 6) B (by decide) (by decide) (by decide)
  have o1 := BK_ob (a := 48) (t := 7) C (by decide) (by decide)
  have k := K (xe_sR (xe_new h 8 6) 48 22 (some 56)) (BK_sR C (by decide) (by decide)) (KP_sR (KP_new (KP_rf _ _) (by rw [n1]; decide)))
  simp only [xs_119_288, xs_119_289, xs_119_291, xs_119_293, n1, o1, lS72, lE72, rf_some, xc_int, xc_ref, xc_ret, xc_long, xw_nil, xw_int, xw_ref, xw_long, tl_some, tl_none, true_and, and_true, Nat.zero_le, Nat.reduceAdd, Nat.reduceMul, Nat.reduceLeDiff, Nat.reduceLT, Nat.reduceEqDiff, Nat.reducePow, Int32.reduceAdd, Int32.reduceMul, Int32.reduceSub, Int32.reduceLT, Int32.reduceLE, Int32.reduceToNatClampNeg, litE, ixU, not_false_eq_true, not_true_eq_false, ↓reduceIte, eq_self, true_or, or_true, false_and, and_false, or_false, false_or, i10, i01, in10, i1n, xbT, xbF, r_lt]
  exact k
theorem ma_296 (B : BK L xs 57 55 h) (K : ∀ h', BK L xs 58 56 h' → KP 57 h h' → xe_P d 119 304 [.ref 48] [] h' Q) : xe_P d 119 296 [.ref 48] [] h Q := by
  have n1 := B.1.1
  have C := BK_new (t := 8) (k := 102400) B (by decide) (by decide) (by decide)
  have o1 := BK_ob (a := 48) (t := 7) C (by decide) (by decide)
  have k := K (xe_sR (xe_new h 8 102400) 48 23 (some 57)) (BK_sR C (by decide) (by decide)) (KP_sR (KP_new (KP_rf _ _) (by rw [n1]; decide)))
  simp only [xs_119_296, xs_119_297, xs_119_299, xs_119_301, n1, o1, lS72, lE72, rf_some, xc_int, xc_ref, xc_ret, xc_long, xw_nil, xw_int, xw_ref, xw_long, tl_some, tl_none, true_and, and_true, Nat.zero_le, Nat.reduceAdd, Nat.reduceMul, Nat.reduceLeDiff, Nat.reduceLT, Nat.reduceEqDiff, Nat.reducePow, Int32.reduceAdd, Int32.reduceMul, Int32.reduceSub, Int32.reduceLT, Int32.reduceLE, Int32.reduceToNatClampNeg, litE, ixU, not_false_eq_true, not_true_eq_false, ↓reduceIte, eq_self, true_or, or_true, false_and, and_false, or_false, false_or, i10, i01, in10, i1n, xbT, xbF, r_lt]
  exact k
theorem ma_304 (B : BK L xs 58 56 h) (K : ∀ h', BK L xs 59 57 h' → KP 58 h h' → xe_P d 119 312 [.ref 48] [] h' Q) : xe_P d 119 304 [.ref 48] [] h Q := by
  have n1 := B.1.1
  have C := BK_new (t := 8) (k := 102400) B (by decide) (by decide) (by decide)
  have o1 := BK_ob (a := 48) (t := 7) C (by decide) (by decide)
  have k := K (xe_sR (xe_new h 8 102400) 48 24 (some 58)) (BK_sR C (by decide) (by decide)) (KP_sR (KP_new (KP_rf _ _) (by rw [n1]; decide)))
  simp only [xs_119_304, xs_119_305, xs_119_307, xs_119_309, n1, o1, lS72, lE72, rf_some, xc_int, xc_ref, xc_ret, xc_long, xw_nil, xw_int, xw_ref, xw_long, tl_some, tl_none, true_and, and_true, Nat.zero_le, Nat.reduceAdd, Nat.reduceMul, Nat.reduceLeDiff, Nat.reduceLT, Nat.reduceEqDiff, Nat.reducePow, Int32.reduceAdd, Int32.reduceMul, Int32.reduceSub, Int32.reduceLT, Int32.reduceLE, Int32.reduceToNatClampNeg, litE, ixU, not_false_eq_true, not_true_eq_false, ↓reduceIte, eq_self, true_or, or_true, false_and, and_false, or_false, false_or, i10, i01, in10, i1n, xbT, xbF, r_lt]
  exact k
theorem ma_312 (B : BK L xs 59 57 h) (K : ∀ h', BK L xs 60 58 h' → KP 59 h h' → xe_P d 119 321 [.ref 48] [] h' Q) : xe_P d 119 312 [.ref 48] [] h Q := by
  have n1 := B.1.1
  have C := BK_new (t := 8) (k := 1000) B (by decide) (by decide) (by decide)
  have o1 := BK_ob (a := 48) (t := 7) C (by decide) (by decide)
  have k := K (xe_sR (xe_new h 8 1000) 48 26 (some 59)) (BK_sR C (by decide) (by decide)) (KP_sR (KP_new (KP_rf _ _) (by rw [n1]; decide)))
  simp only [xs_119_312, xs_119_313, xs_119_316, xs_119_318, n1, o1, lS72, lE72, rf_some, xc_int, xc_ref, xc_ret, xc_long, xw_nil, xw_int, xw_ref, xw_long, tl_some, tl_none, true_and, and_true, Nat.zero_le, Nat.reduceAdd, Nat.reduceMul, Nat.reduceLeDiff, Nat.reduceLT, Nat.reduceEqDiff, Nat.reducePow, Int32.reduceAdd, Int32.reduceMul, Int32.reduceSub, Int32.reduceLT, Int32.reduceLE, Int32.reduceToNatClampNeg, litE, ixU, not_false_eq_true, not_true_eq_false, ↓reduceIte, eq_self, true_or, or_true, false_and, and_false, or_false, false_or, i10, i01, in10, i1n, xbT, xbF, r_lt]
  exact k
theorem ma_321 (B : BK L xs 60 58 h) (K : ∀ h', BK L xs 61 59 h' → KP 60 h h' → xe_P d 119 329 [.ref 48] [] h' Q) : xe_P d 119 321 [.ref 48] [] h Q := by
  have n1 := B.1.1
  have C := BK_new (t := 8) (k := 10) B (by decide) (by decide) (by decide)
  have o1 := BK_ob (a := 48) (t := 7) C (by decide) (by decide)
  have k := K (xe_sR (xe_new h 8 10) 48 27 (some 60)) (BK_sR C (by decide) (by decide)) (KP_sR (KP_new (KP_rf _ _) (by rw [n1]; decide)))
  simp only [xs_119_321, xs_119_322, xs_119_324, xs_119_326, n1, o1, lS72, lE72, rf_some, xc_int, xc_ref, xc_ret, xc_long, xw_nil, xw_int, xw_ref, xw_long, tl_some, tl_none, true_and, and_true, Nat.zero_le, Nat.reduceAdd, Nat.reduceMul, Nat.reduceLeDiff, Nat.reduceLT, Nat.reduceEqDiff, Nat.reducePow, Int32.reduceAdd, Int32.reduceMul, Int32.reduceSub, Int32.reduceLT, Int32.reduceLE, Int32.reduceToNatClampNeg, litE, ixU, not_false_eq_true, not_true_eq_false, ↓reduceIte, eq_self, true_or, or_true, false_and, and_false, or_false, false_or, i10, i01, in10, i1n, xbT, xbF, r_lt]
  exact k
theorem ma_329 (B : BK L xs 61 59 h) (K : ∀ h', BK L xs 62 60 h' → KP 61 h h' → xe_P d 119 337 [.ref 48] [] h' Q) : xe_P d 119 329 [.ref 48] [] h Q := by
  have n1 := B.1.1
  have C := BK_new (t := 8) (k := 10) B (by decide) (by decide) (by decide)
  have o1 := BK_ob (a := 48) (t := 7) C (by decide) (by decide)
  have k := K (xe_sR (xe_new h 8 10) 48 28 (some 61)) (BK_sR C (by decide) (by decide)) (KP_sR (KP_new (KP_rf _ _) (by rw [n1]; decide)))
  simp only [xs_119_329, xs_119_330, xs_119_332, xs_119_334, n1, o1, lS72, lE72, rf_some, xc_int, xc_ref, xc_ret, xc_long, xw_nil, xw_int, xw_ref, xw_long, tl_some, tl_none, true_and, and_true, Nat.zero_le, Nat.reduceAdd, Nat.reduceMul, Nat.reduceLeDiff, Nat.reduceLT, Nat.reduceEqDiff, Nat.reducePow, Int32.reduceAdd, Int32.reduceMul, Int32.reduceSub, Int32.reduceLT, Int32.reduceLE, Int32.reduceToNatClampNeg, litE, ixU, not_false_eq_true, not_true_eq_false, ↓reduceIte, eq_self, true_or, or_true, false_and, and_false, or_false, false_or, i10, i01, in10, i1n, xbT, xbF, r_lt]
  exact k
theorem ma_337 (B : BK L xs 62 60 h) (K : ∀ h', BK L xs 63 61 h' → KP 62 h h' → xe_P d 119 345 [.ref 48] [] h' Q) : xe_P d 119 337 [.ref 48] [] h Q := by
  have n1 := B.1.1
  have C := BK_new (t := 8) (k := 10) B (by decide) (by decide) (by decide)
  have o1 := BK_ob (a := 48) (t := 7) C (by decide) (by decide)
  have k := K (xe_sR (xe_new h 8 10) 48 29 (some 62)) (BK_sR C (by decide) (by decide)) (KP_sR (KP_new (KP_rf _ _) (by rw [n1]; decide)))
  simp only [xs_119_337, xs_119_338, xs_119_340, xs_119_342, n1, o1, lS72, lE72, rf_some, xc_int, xc_ref, xc_ret, xc_long, xw_nil, xw_int, xw_ref, xw_long, tl_some, tl_none, true_and, and_true, Nat.zero_le, Nat.reduceAdd, Nat.reduceMul, Nat.reduceLeDiff, Nat.reduceLT, Nat.reduceEqDiff, Nat.reducePow, Int32.reduceAdd, Int32.reduceMul, Int32.reduceSub, Int32.reduceLT, Int32.reduceLE, Int32.reduceToNatClampNeg, litE, ixU, not_false_eq_true, not_true_eq_false, ↓reduceIte, eq_self, true_or, or_true, false_and, and_false, or_false, false_or, i10, i01, in10, i1n, xbT, xbF, r_lt]
  exact k
theorem ma_345 (B : BK L xs 63 61 h) (K : ∀ h', BK L xs 64 62 h' → KP 63 h h' → xe_P d 119 353 [.ref 48] [] h' Q) : xe_P d 119 345 [.ref 48] [] h Q := by
  have n1 := B.1.1
  have C := BK_new (t := 8) (k := 10) B (by decide) (by decide) (by decide)
  have o1 := BK_ob (a := 48) (t := 7) C (by decide) (by decide)
  have k := K (xe_sR (xe_new h 8 10) 48 30 (some 63)) (BK_sR C (by decide) (by decide)) (KP_sR (KP_new (KP_rf _ _) (by rw [n1]; decide)))
  simp only [xs_119_345, xs_119_346, xs_119_348, xs_119_350, n1, o1, lS72, lE72, rf_some, xc_int, xc_ref, xc_ret, xc_long, xw_nil, xw_int, xw_ref, xw_long, tl_some, tl_none, true_and, and_true, Nat.zero_le, Nat.reduceAdd, Nat.reduceMul, Nat.reduceLeDiff, Nat.reduceLT, Nat.reduceEqDiff, Nat.reducePow, Int32.reduceAdd, Int32.reduceMul, Int32.reduceSub, Int32.reduceLT, Int32.reduceLE, Int32.reduceToNatClampNeg, litE, ixU, not_false_eq_true, not_true_eq_false, ↓reduceIte, eq_self, true_or, or_true, false_and, and_false, or_false, false_or, i10, i01, in10, i1n, xbT, xbF, r_lt]
  exact k
theorem ma_353 (B : BK L xs 64 62 h) (K : ∀ h', BK L xs 65 63 h' → KP 64 h h' → xe_P d 119 361 [.ref 48] [] h' Q) : xe_P d 119 353 [.ref 48] [] h Q := by
  have n1 := B.1.1
  have C := BK_new (t := 8) (k := 18) B (by decide) (by decide) (by decide)
  have o1 := BK_ob (a := 48) (t := 7) C (by decide) (by decide)
  have k := K (xe_sR (xe_new h 8 18) 48 31 (some 64)) (BK_sR C (by decide) (by decide)) (KP_sR (KP_new (KP_rf _ _) (by rw [n1]; decide)))
  simp only [xs_119_353, xs_119_354, xs_119_356, xs_119_358, n1, o1, lS72, lE72, rf_some, xc_int, xc_ref, xc_ret, xc_long, xw_nil, xw_int, xw_ref, xw_long, tl_some, tl_none, true_and, and_true, Nat.zero_le, Nat.reduceAdd, Nat.reduceMul, Nat.reduceLeDiff, Nat.reduceLT, Nat.reduceEqDiff, Nat.reducePow, Int32.reduceAdd, Int32.reduceMul, Int32.reduceSub, Int32.reduceLT, Int32.reduceLE, Int32.reduceToNatClampNeg, litE, ixU, not_false_eq_true, not_true_eq_false, ↓reduceIte, eq_self, true_or, or_true, false_and, and_false, or_false, false_or, i10, i01, in10, i1n, xbT, xbF, r_lt]
  exact k
theorem ma_361 (B : BK L xs 65 63 h) (K : ∀ h', BK L xs 66 64 h' → KP 65 h h' → xe_P d 119 369 [.ref 48] [] h' Q) : xe_P d 119 361 [.ref 48] [] h Q := by
  have n1 := B.1.1
  have C := BK_new (t := 8) (k := 6) B (by decide) (by decide) (by decide)
  have o1 := BK_ob (a := 48) (t := 7) C (by decide) (by decide)
  have k := K (xe_sR (xe_new h 8 6) 48 33 (some 65)) (BK_sR C (by decide) (by decide)) (KP_sR (KP_new (KP_rf _ _) (by rw [n1]; decide)))
  simp only [xs_119_361, xs_119_362, xs_119_364, xs_119_366, n1, o1, lS72, lE72, rf_some, xc_int, xc_ref, xc_ret, xc_long, xw_nil, xw_int, xw_ref, xw_long, tl_some, tl_none, true_and, and_true, Nat.zero_le, Nat.reduceAdd, Nat.reduceMul, Nat.reduceLeDiff, Nat.reduceLT, Nat.reduceEqDiff, Nat.reducePow, Int32.reduceAdd, Int32.reduceMul, Int32.reduceSub, Int32.reduceLT, Int32.reduceLE, Int32.reduceToNatClampNeg, litE, ixU, not_false_eq_true, not_true_eq_false, ↓reduceIte, eq_self, true_or, or_true, false_and, and_false, or_false, false_or, i10, i01, in10, i1n, xbT, xbF, r_lt]
  exact k
theorem ma_369 (B : BK L xs 66 64 h) (K : ∀ h', BK L xs 67 65 h' → KP 66 h h' → xe_P d 119 377 [.ref 48] [] h' Q) : xe_P d 119 369 [.ref 48] [] h Q := by
  have n1 := B.1.1
  have C := BK_new (t := 8) (k := 70) B (by decide) (by decide) (by decide)
  have o1 := BK_ob (a := 48) (t := 7) C (by decide) (by decide)
  have k := K (xe_sR (xe_new h 8 70) 48 34 (some 66)) (BK_sR C (by decide) (by decide)) (KP_sR (KP_new (KP_rf _ _) (by rw [n1]; decide)))
  simp only [xs_119_369, xs_119_370, xs_119_372, xs_119_374, n1, o1, lS72, lE72, rf_some, xc_int, xc_ref, xc_ret, xc_long, xw_nil, xw_int, xw_ref, xw_long, tl_some, tl_none, true_and, and_true, Nat.zero_le, Nat.reduceAdd, Nat.reduceMul, Nat.reduceLeDiff, Nat.reduceLT, Nat.reduceEqDiff, Nat.reducePow, Int32.reduceAdd, Int32.reduceMul, Int32.reduceSub, Int32.reduceLT, Int32.reduceLE, Int32.reduceToNatClampNeg, litE, ixU, not_false_eq_true, not_true_eq_false, ↓reduceIte, eq_self, true_or, or_true, false_and, and_false, or_false, false_or, i10, i01, in10, i1n, xbT, xbF, r_lt]
  exact k
theorem ma_377 (B : BK L xs 67 65 h) (K : ∀ h', BK L xs 68 66 h' → KP 67 h h' → xe_P d 119 385 [.ref 48] [] h' Q) : xe_P d 119 377 [.ref 48] [] h Q := by
  have n1 := B.1.1
  have C := BK_new (t := 8) (k := 70) B (by decide) (by decide) (by decide)
  have o1 := BK_ob (a := 48) (t := 7) C (by decide) (by decide)
  have k := K (xe_sR (xe_new h 8 70) 48 35 (some 67)) (BK_sR C (by decide) (by decide)) (KP_sR (KP_new (KP_rf _ _) (by rw [n1]; decide)))
  simp only [xs_119_377, xs_119_378, xs_119_380, xs_119_382, n1, o1, lS72, lE72, rf_some, xc_int, xc_ref, xc_ret, xc_long, xw_nil, xw_int, xw_ref, xw_long, tl_some, tl_none, true_and, and_true, Nat.zero_le, Nat.reduceAdd, Nat.reduceMul, Nat.reduceLeDiff, Nat.reduceLT, Nat.reduceEqDiff, Nat.reducePow, Int32.reduceAdd, Int32.reduceMul, Int32.reduceSub, Int32.reduceLT, Int32.reduceLE, Int32.reduceToNatClampNeg, litE, ixU, not_false_eq_true, not_true_eq_false, ↓reduceIte, eq_self, true_or, or_true, false_and, and_false, or_false, false_or, i10, i01, in10, i1n, xbT, xbF, r_lt]
  exact k
theorem ma_385 (B : BK L xs 68 66 h) (K : ∀ h', BK L xs 69 67 h' → KP 68 h h' → xe_P d 119 392 [.ref 48] [] h' Q) : xe_P d 119 385 [.ref 48] [] h Q := by
  have n1 := B.1.1
  have C := BK_new (t := 11) (k := 2) B (by decide) (by decide) (by decide)
  have o1 := BK_ob (a := 48) (t := 7) C (by decide) (by decide)
  have k := K (xe_sR (xe_new h 11 2) 48 36 (some 68)) (BK_sR C (by decide) (by decide)) (KP_sR (KP_new (KP_rf _ _) (by rw [n1]; decide)))
  simp only [xs_119_385, xs_119_386, xs_119_387, xs_119_389, n1, o1, lS72, lE72, rf_some, xc_int, xc_ref, xc_ret, xc_long, xw_nil, xw_int, xw_ref, xw_long, tl_some, tl_none, true_and, and_true, Nat.zero_le, Nat.reduceAdd, Nat.reduceMul, Nat.reduceLeDiff, Nat.reduceLT, Nat.reduceEqDiff, Nat.reducePow, Int32.reduceAdd, Int32.reduceMul, Int32.reduceSub, Int32.reduceLT, Int32.reduceLE, Int32.reduceToNatClampNeg, litE, ixU, not_false_eq_true, not_true_eq_false, ↓reduceIte, eq_self, true_or, or_true, false_and, and_false, or_false, false_or, i10, i01, in10, i1n, xbT, xbF, r_lt]
  exact k
theorem ma_392 (B : BK L xs 69 67 h) (K : ∀ h', BK L xs 70 68 h' → KP 69 h h' → (∀ j, j < 4 → xe_I h' 69 j = (fun _ => -4) j) → xe_P d 119 419 [.ref 48] [] h' Q) : xe_P d 119 392 [.ref 48] [] h Q := by
  have n1 := B.1.1
  have C := BK_new (t := 8) (k := 4) B (by decide) (by decide) (by decide)
  have w0 := BK_ob (a := 69) (t := 8) C (by decide) (by decide)
  have N0 := BK_N (a := 69) (k := 4) C (by decide) (by decide)
  have x1 : KP 69 h (xe_new h 8 4) := KP_new (KP_rf _ _) (by rw [n1]; decide)
  simp only [xs_119_392, xs_119_393, xs_119_394, n1, lS72, lE72, rf_some, xc_int, xc_ref, xc_ret, xc_long, xw_nil, xw_int, xw_ref, xw_long, tl_some, tl_none, true_and, and_true, Nat.zero_le, Nat.reduceAdd, Nat.reduceMul, Nat.reduceLeDiff, Nat.reduceLT, Nat.reduceEqDiff, Nat.reducePow, Int32.reduceAdd, Int32.reduceMul, Int32.reduceSub, Int32.reduceLT, Int32.reduceLE, Int32.reduceToNatClampNeg, litE, ixU, not_false_eq_true, not_true_eq_false, ↓reduceIte, eq_self, true_or, or_true, false_and, and_false, or_false, false_or, i10, i01, in10, i1n, xbT, xbF, r_lt]
  generalize xe_new h 8 4 = q at C w0 N0 x1 ⊢
  have W : wr (fun a _ => a = 69) q q := wr_rf _ _
  have Z : ∀ j, j < 0 → xe_I q 69 j = (fun _ => -4) j := fun j hj => absurd hj (Nat.not_lt_zero j)
  have ob := stq_ob W.1 w0
  have nn := (W.1.2.2.2.1 69).trans N0
  replace W := wr_sI (k := 0) (v := (-4)) W rfl
  replace Z : ∀ j, j < 1 → xe_I (xe_sI q 69 0 (-4)) 69 j = (fun _ => -4) j := ls_s (k := 0) (v := (-4)) Z (by decide)
  simp only [xs_119_396, xs_119_396i, xs_119_397, xs_119_398, xs_119_400, ob, nn, rf_some, xc_int, xc_ref, xc_ret, xc_long, xw_nil, xw_int, xw_ref, xw_long, tl_some, tl_none, true_and, and_true, Nat.zero_le, Nat.reduceAdd, Nat.reduceMul, Nat.reduceLeDiff, Nat.reduceLT, Nat.reduceEqDiff, Nat.reducePow, Int32.reduceAdd, Int32.reduceMul, Int32.reduceSub, Int32.reduceLT, Int32.reduceLE, Int32.reduceToNatClampNeg, litE, ixU, not_false_eq_true, not_true_eq_false, ↓reduceIte, eq_self, true_or, or_true, false_and, and_false, or_false, false_or, i10, i01, in10, i1n, xbT, xbF, r_lt]
  generalize xe_sI q 69 0 (-4) = q0 at W Z ⊢
  clear ob nn
  have ob := stq_ob W.1 w0
  have nn := (W.1.2.2.2.1 69).trans N0
  replace W := wr_sI (k := 1) (v := (-4)) W rfl
  replace Z : ∀ j, j < 2 → xe_I (xe_sI q0 69 1 (-4)) 69 j = (fun _ => -4) j := ls_s (k := 1) (v := (-4)) Z (by decide)
  simp only [xs_119_401, xs_119_401i, xs_119_402, xs_119_403, xs_119_405, ob, nn, rf_some, xc_int, xc_ref, xc_ret, xc_long, xw_nil, xw_int, xw_ref, xw_long, tl_some, tl_none, true_and, and_true, Nat.zero_le, Nat.reduceAdd, Nat.reduceMul, Nat.reduceLeDiff, Nat.reduceLT, Nat.reduceEqDiff, Nat.reducePow, Int32.reduceAdd, Int32.reduceMul, Int32.reduceSub, Int32.reduceLT, Int32.reduceLE, Int32.reduceToNatClampNeg, litE, ixU, not_false_eq_true, not_true_eq_false, ↓reduceIte, eq_self, true_or, or_true, false_and, and_false, or_false, false_or, i10, i01, in10, i1n, xbT, xbF, r_lt]
  generalize xe_sI q0 69 1 (-4) = q1 at W Z ⊢
  clear ob nn
  have ob := stq_ob W.1 w0
  have nn := (W.1.2.2.2.1 69).trans N0
  replace W := wr_sI (k := 2) (v := (-4)) W rfl
  replace Z : ∀ j, j < 3 → xe_I (xe_sI q1 69 2 (-4)) 69 j = (fun _ => -4) j := ls_s (k := 2) (v := (-4)) Z (by decide)
  simp only [xs_119_406, xs_119_406i, xs_119_407, xs_119_408, xs_119_410, ob, nn, rf_some, xc_int, xc_ref, xc_ret, xc_long, xw_nil, xw_int, xw_ref, xw_long, tl_some, tl_none, true_and, and_true, Nat.zero_le, Nat.reduceAdd, Nat.reduceMul, Nat.reduceLeDiff, Nat.reduceLT, Nat.reduceEqDiff, Nat.reducePow, Int32.reduceAdd, Int32.reduceMul, Int32.reduceSub, Int32.reduceLT, Int32.reduceLE, Int32.reduceToNatClampNeg, litE, ixU, not_false_eq_true, not_true_eq_false, ↓reduceIte, eq_self, true_or, or_true, false_and, and_false, or_false, false_or, i10, i01, in10, i1n, xbT, xbF, r_lt]
  generalize xe_sI q1 69 2 (-4) = q2 at W Z ⊢
  clear ob nn
  have ob := stq_ob W.1 w0
  have nn := (W.1.2.2.2.1 69).trans N0
  replace W := wr_sI (k := 3) (v := (-4)) W rfl
  replace Z : ∀ j, j < 4 → xe_I (xe_sI q2 69 3 (-4)) 69 j = (fun _ => -4) j := ls_s (k := 3) (v := (-4)) Z (by decide)
  simp only [xs_119_411, xs_119_411i, xs_119_412, xs_119_413, xs_119_415, ob, nn, rf_some, xc_int, xc_ref, xc_ret, xc_long, xw_nil, xw_int, xw_ref, xw_long, tl_some, tl_none, true_and, and_true, Nat.zero_le, Nat.reduceAdd, Nat.reduceMul, Nat.reduceLeDiff, Nat.reduceLT, Nat.reduceEqDiff, Nat.reducePow, Int32.reduceAdd, Int32.reduceMul, Int32.reduceSub, Int32.reduceLT, Int32.reduceLE, Int32.reduceToNatClampNeg, litE, ixU, not_false_eq_true, not_true_eq_false, ↓reduceIte, eq_self, true_or, or_true, false_and, and_false, or_false, false_or, i10, i01, in10, i1n, xbT, xbF, r_lt]
  generalize xe_sI q2 69 3 (-4) = q3 at W Z ⊢
  clear ob nn
  have D : BK L xs 70 67 q3 := BK_wr (c := 69) C W (by decide) (by decide)
  have o1 := BK_ob (a := 48) (t := 7) D (by decide) (by decide)
  have D1 : BK L xs 70 68 (xe_sR q3 48 37 (some 69)) := BK_sR D (by decide) (by decide)
  have D2 : KP 69 h (xe_sR q3 48 37 (some 69)) := fun a j ha => by
    rw [hI_sR, W.2 a j (show ¬ a = 69 by omega)]
    exact x1 a j ha
  have D3 : ∀ j, j < 4 → xe_I (xe_sR q3 48 37 (some 69)) 69 j = (fun _ => -4) j := fun j hj => by
    rw [hI_sR]
    exact Z j hj
  have k := K _ D1 D2 D3
  rw [xs_119_416]
  exact ⟨⟨o1, of_eq_true (lS72 (by decide))⟩, k⟩
theorem ma_419 (B : BK L xs 70 68 h) (K : ∀ h', BK L xs 71 69 h' → KP 70 h h' → xe_P d 119 426 [.ref 48] [] h' Q) : xe_P d 119 419 [.ref 48] [] h Q := by
  have n1 := B.1.1
  have C := BK_new (t := 8) (k := 4) B (by decide) (by decide) (by decide)
  have o1 := BK_ob (a := 48) (t := 7) C (by decide) (by decide)
  have k := K (xe_sR (xe_new h 8 4) 48 38 (some 70)) (BK_sR C (by decide) (by decide)) (KP_sR (KP_new (KP_rf _ _) (by rw [n1]; decide)))
  simp only [xs_119_419, xs_119_420, xs_119_421, xs_119_423, n1, o1, lS72, lE72, rf_some, xc_int, xc_ref, xc_ret, xc_long, xw_nil, xw_int, xw_ref, xw_long, tl_some, tl_none, true_and, and_true, Nat.zero_le, Nat.reduceAdd, Nat.reduceMul, Nat.reduceLeDiff, Nat.reduceLT, Nat.reduceEqDiff, Nat.reducePow, Int32.reduceAdd, Int32.reduceMul, Int32.reduceSub, Int32.reduceLT, Int32.reduceLE, Int32.reduceToNatClampNeg, litE, ixU, not_false_eq_true, not_true_eq_false, ↓reduceIte, eq_self, true_or, or_true, false_and, and_false, or_false, false_or, i10, i01, in10, i1n, xbT, xbF, r_lt]
  exact k
theorem ma_426 (B : BK L xs 71 69 h) (K : ∀ h', BK L xs 72 70 h' → KP 71 h h' → xe_P d 119 435 [.ref 48] [] h' Q) : xe_P d 119 426 [.ref 48] [] h Q := by
  have n1 := B.1.1
  have C := BK_new (t := 8) (k := 160) B (by decide) (by decide) (by decide)
  have o1 := BK_ob (a := 48) (t := 7) C (by decide) (by decide)
  have k := K (xe_sR (xe_new h 8 160) 48 39 (some 71)) (BK_sR C (by decide) (by decide)) (KP_sR (KP_new (KP_rf _ _) (by rw [n1]; decide)))
  simp only [xs_119_426, xs_119_427, xs_119_430, xs_119_432, n1, o1, lS72, lE72, rf_some, xc_int, xc_ref, xc_ret, xc_long, xw_nil, xw_int, xw_ref, xw_long, tl_some, tl_none, true_and, and_true, Nat.zero_le, Nat.reduceAdd, Nat.reduceMul, Nat.reduceLeDiff, Nat.reduceLT, Nat.reduceEqDiff, Nat.reducePow, Int32.reduceAdd, Int32.reduceMul, Int32.reduceSub, Int32.reduceLT, Int32.reduceLE, Int32.reduceToNatClampNeg, litE, ixU, not_false_eq_true, not_true_eq_false, ↓reduceIte, eq_self, true_or, or_true, false_and, and_false, or_false, false_or, i10, i01, in10, i1n, xbT, xbF, r_lt]
  exact k
end MK3
