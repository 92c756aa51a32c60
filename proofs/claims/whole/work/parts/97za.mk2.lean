theorem ls_s {F : Nat → Int32} {c k : Nat} {g : xe_H} {v : Int32} (A : ∀ j, j < k → xe_I g c j = F j) (hv : v = F k) : ∀ j, j < k + 1 → xe_I (xe_sI g c k v) c j = F j := fun j hj => by
  rw [hI_sI]
  by_cases z : j = k
  · rw [if_pos ⟨rfl, z⟩, z, hv]
  · rw [if_neg (fun y => z y.2)]; exact A j (by omega)
theorem BK_wr {L : Nat} {xs : Nat → Int32} {n m c : Nat} {h h' : xe_H} (B : BK L xs n m h) (W : wr (fun a _ => a = c) h h') (h1 : c ∈ clS) (h2 : c < 72) : BK L xs n m h' := by
  obtain ⟨b1, b3, b4, b5, b6⟩ := B
  refine ⟨⟨by rw [W.1.1]; exact b1.1, by rw [W.1.2.1]; exact b1.2.1, b1.2.2⟩, fun a ha => by rw [W.1.2.2.1, W.1.2.2.2.1]; exact b3 a ha, fun a ha => ⟨fun j => ?_, by rw [W.1.2.2.1]; exact (b4 a ha).2.1, by rw [W.1.2.2.2.1]; exact (b4 a ha).2.2⟩, fun e he => by rw [W.1.2.2.2.2.1]; exact b5 e he, fun a j ha hs => ?_⟩
  · rw [W.2 a j (by unfold xe_S at ha; omega)]; exact (b4 a ha).1 j
  · rw [W.2 a j (fun z => hs (by rw [z]; exact h1))]; exact b6 a j ha hs
/-! odds and ends for the constructors -/
theorem ho_new0 {h : xe_H} {a t t' k : Nat} (o : xe_ob h a t) : xe_ob (xe_new h t' k) a t = True := eq_true ⟨Nat.lt_succ_of_lt o.1, by rw [hT_new, if_neg (fun z => by have := o.1; omega)]; exact o.2⟩
theorem hR_new0 {h : xe_H} {a i b t k n : Nat} (r : xe_R h a i = some b) (hn : xe_n h = n) : (a = n) = False → xe_R (xe_new h t k) a i = some b := fun z => by rw [hR_new, hn, if_neg (fun y => by rw [eq_true y] at z; exact true_ne_false z)]; exact r
/-! the constructors of the class and of the reference -/
section MK2
variable {d : Nat} {L : Nat} {xs : Nat → Int32} {h : xe_H} {Q : Option Value → xe_H → Prop}
theorem mk_82 (B : BK L xs 1 0 h) (K : ∀ h', BK L xs 48 47 h' → tn_v h' 1 pg0 → (∀ j, j < 4 → xe_I h' 46 j = -1) → Q none h') : xe_C (d + 4) 82 [.ref 0] h Q := by
  have n0 := B.1.1
  simp only [xs_82, xs_82_0, xs_82_1, n0, lS72, lE72, rf_some, xc_int, xc_ref, xc_ret, xc_long, xw_nil, xw_int, xw_ref, xw_long, tl_some, tl_none, true_and, and_true, Nat.zero_le, Nat.reduceAdd, Nat.reduceMul, Nat.reduceLeDiff, Nat.reduceLT, Nat.reduceEqDiff, Nat.reducePow, Int32.reduceAdd, Int32.reduceMul, Int32.reduceSub, Int32.reduceLT, Int32.reduceLE, Int32.reduceToNatClampNeg, litE, ixU, not_false_eq_true, not_true_eq_false, ↓reduceIte, eq_self, true_or, or_true, false_and, and_false, or_false, false_or, i10, i01, in10, i1n, xbT, xbF, r_lt]
  have n1 := B.1.1
  have C := BK_new (t := 3) (k := 12) B (by decide) (by decide) (by decide)
  clear B
  simp only [xs_82_4, xs_82_5, xs_82_8, xs_82_8i, xs_82_9, n1, lS72, lE72, hn_new, rf_some, xc_int, xc_ref, xc_ret, xc_long, xw_nil, xw_int, xw_ref, xw_long, tl_some, tl_none, true_and, and_true, Nat.zero_le, Nat.reduceAdd, Nat.reduceMul, Nat.reduceLeDiff, Nat.reduceLT, Nat.reduceEqDiff, Nat.reducePow, Int32.reduceAdd, Int32.reduceMul, Int32.reduceSub, Int32.reduceLT, Int32.reduceLE, Int32.reduceToNatClampNeg, litE, ixU, not_false_eq_true, not_true_eq_false, ↓reduceIte, eq_self, true_or, or_true, false_and, and_false, or_false, false_or, i10, i01, in10, i1n, xbT, xbF, r_lt]
  refine mk_37_1 (d := d + 0) C (fun g1 B A tvn => ?_)
  have tv := tvn
  have o2 := BK_ob (a := 0) (t := 6) B (by decide) (by decide)
  replace B := BK_sR (a := 0) (k := 0) (b := 1) B (by decide) (by decide)
  replace tv : tn_v (xe_sR g1 0 0 (some 1)) 1 pg0 := tv
  simp only [xs_82_12, o2, lS72, lE72, rf_some, xc_int, xc_ref, xc_ret, xc_long, xw_nil, xw_int, xw_ref, xw_long, tl_some, tl_none, true_and, and_true, Nat.zero_le, Nat.reduceAdd, Nat.reduceMul, Nat.reduceLeDiff, Nat.reduceLT, Nat.reduceEqDiff, Nat.reducePow, Int32.reduceAdd, Int32.reduceMul, Int32.reduceSub, Int32.reduceLT, Int32.reduceLE, Int32.reduceToNatClampNeg, litE, ixU, not_false_eq_true, not_true_eq_false, ↓reduceIte, eq_self, true_or, or_true, false_and, and_false, or_false, false_or, i10, i01, in10, i1n, xbT, xbF, r_lt]
  generalize xe_sR g1 0 0 (some 1) = g2 at *
  have n3 := B.1.1
  have C := BK_new (t := 3) (k := 12) B (by decide) (by decide) (by decide)
  have tc : tn_v (xe_new g2 3 12) 1 pg0 := tn_v_c tv (fun a j x1 x2 => by rw [hI_new, if_neg (by rw [n3]; omega)])
  clear B
  simp only [xs_82_15, xs_82_16, xs_82_19, xs_82_19i, xs_82_20, n3, lS72, lE72, hn_new, rf_some, xc_int, xc_ref, xc_ret, xc_long, xw_nil, xw_int, xw_ref, xw_long, tl_some, tl_none, true_and, and_true, Nat.zero_le, Nat.reduceAdd, Nat.reduceMul, Nat.reduceLeDiff, Nat.reduceLT, Nat.reduceEqDiff, Nat.reducePow, Int32.reduceAdd, Int32.reduceMul, Int32.reduceSub, Int32.reduceLT, Int32.reduceLE, Int32.reduceToNatClampNeg, litE, ixU, not_false_eq_true, not_true_eq_false, ↓reduceIte, eq_self, true_or, or_true, false_and, and_false, or_false, false_or, i10, i01, in10, i1n, xbT, xbF, r_lt]
  refine mk_37_7 (d := d + 0) C (fun g3 B A tvn => ?_)
  replace tv : tn_v g3 1 pg0 := tn_v_c tc (fun a j x1 x2 => A a j (by omega))
  clear tc
  have o4 := BK_ob (a := 0) (t := 6) B (by decide) (by decide)
  replace B := BK_sR (a := 0) (k := 1) (b := 7) B (by decide) (by decide)
  replace tv : tn_v (xe_sR g3 0 1 (some 7)) 1 pg0 := tv
  simp only [xs_82_23, o4, lS72, lE72, rf_some, xc_int, xc_ref, xc_ret, xc_long, xw_nil, xw_int, xw_ref, xw_long, tl_some, tl_none, true_and, and_true, Nat.zero_le, Nat.reduceAdd, Nat.reduceMul, Nat.reduceLeDiff, Nat.reduceLT, Nat.reduceEqDiff, Nat.reducePow, Int32.reduceAdd, Int32.reduceMul, Int32.reduceSub, Int32.reduceLT, Int32.reduceLE, Int32.reduceToNatClampNeg, litE, ixU, not_false_eq_true, not_true_eq_false, ↓reduceIte, eq_self, true_or, or_true, false_and, and_false, or_false, false_or, i10, i01, in10, i1n, xbT, xbF, r_lt]
  generalize xe_sR g3 0 1 (some 7) = g4 at *
  have n5 := B.1.1
  have C := BK_new (t := 12) (k := 2) B (by decide) (by decide) (by decide)
  have o5 := BK_ob (a := 0) (t := 6) C (by decide) (by decide)
  replace tv : tn_v (xe_sR (xe_new g4 12 2) 0 2 (some 13)) 1 pg0 := tn_v_c (h := g4) tv (fun a j x1 x2 => by rw [hI_sR, hI_new, if_neg (by rw [n5]; omega)])
  replace B := BK_sR (a := 0) (k := 2) (b := 13) C (by decide) (by decide)
  clear C
  simp only [xs_82_26, xs_82_27, xs_82_28, xs_82_31, n5, o5, lS72, lE72, rf_some, xc_int, xc_ref, xc_ret, xc_long, xw_nil, xw_int, xw_ref, xw_long, tl_some, tl_none, true_and, and_true, Nat.zero_le, Nat.reduceAdd, Nat.reduceMul, Nat.reduceLeDiff, Nat.reduceLT, Nat.reduceEqDiff, Nat.reducePow, Int32.reduceAdd, Int32.reduceMul, Int32.reduceSub, Int32.reduceLT, Int32.reduceLE, Int32.reduceToNatClampNeg, litE, ixU, not_false_eq_true, not_true_eq_false, ↓reduceIte, eq_self, true_or, or_true, false_and, and_false, or_false, false_or, i10, i01, in10, i1n, xbT, xbF, r_lt]
  generalize xe_sR (xe_new g4 12 2) 0 2 (some 13) = g5 at *
  simp only [xs_82_34, xs_82_35, rf_some, xc_int, xc_ref, xc_ret, xc_long, xw_nil, xw_int, xw_ref, xw_long, tl_some, tl_none, true_and, and_true, Nat.zero_le, Nat.reduceAdd, Nat.reduceMul, Nat.reduceLeDiff, Nat.reduceLT, Nat.reduceEqDiff, Nat.reducePow, Int32.reduceAdd, Int32.reduceMul, Int32.reduceSub, Int32.reduceLT, Int32.reduceLE, Int32.reduceToNatClampNeg, litE, ixU, not_false_eq_true, not_true_eq_false, ↓reduceIte, eq_self, true_or, or_true, false_and, and_false, or_false, false_or, i10, i01, in10, i1n, xbT, xbF, r_lt]
  have p6 := BK_ob (a := 0) (t := 6) B (by decide) (by decide)
  have r6 := BK_R (a := 0) (k := 2) (b := 13) B (by decide)
  rw [xs_82_36]
  have n7 := B.1.1
  have C := BK_new (t := 3) (k := 12) B (by decide) (by decide) (by decide)
  have tc : tn_v (xe_new g5 3 12) 1 pg0 := tn_v_c tv (fun a j x1 x2 => by rw [hI_new, if_neg (by rw [n7]; omega)])
  clear B
  simp only [xs_82_37, xs_82_38, xs_82_41, xs_82_42, xs_82_45, xs_82_46, xs_82_49, xs_82_49i, xs_82_50, n7, lS72, lE72, hn_new, rf_some, xc_int, xc_ref, xc_ret, xc_long, xw_nil, xw_int, xw_ref, xw_long, tl_some, tl_none, true_and, and_true, Nat.zero_le, Nat.reduceAdd, Nat.reduceMul, Nat.reduceLeDiff, Nat.reduceLT, Nat.reduceEqDiff, Nat.reducePow, Int32.reduceAdd, Int32.reduceMul, Int32.reduceSub, Int32.reduceLT, Int32.reduceLE, Int32.reduceToNatClampNeg, litE, ixU, not_false_eq_true, not_true_eq_false, ↓reduceIte, eq_self, true_or, or_true, false_and, and_false, or_false, false_or, i10, i01, in10, i1n, xbT, xbF, r_lt, ho_new0 p6, hR_new0 r6 n7, p6, r6, show ((2 : Int32) ≤ 0) = False from eq_false (by decide)]
  refine mk_37_14 (d := d + 0) C (fun g7 B A tvn => ?_)
  replace tv : tn_v g7 1 pg0 := tn_v_c tc (fun a j x1 x2 => A a j (by omega))
  clear tc
  have o8 := BK_ob (a := 13) (t := 12) B (by decide) (by decide)
  have q8 := BK_ob (a := 14) (t := 3) B (by decide) (by decide)
  have n8 := B.1.1
  have x8 : xe_ix g7 13 0 := by unfold xe_ix; rw [BK_N (k := 2) B (by decide) (by decide)]; decide
  replace B := BK_sR (a := 13) (k := 0) (b := 14) B (by decide) (by decide)
  replace tv : tn_v (xe_sR g7 13 0 (some 14)) 1 pg0 := tv
  simp only [xs_82_53, xs_82_54, xs_82_57, o8, q8, n8, x8, lS72, lE72, rf_some, xc_int, xc_ref, xc_ret, xc_long, xw_nil, xw_int, xw_ref, xw_long, tl_some, tl_none, true_and, and_true, Nat.zero_le, Nat.reduceAdd, Nat.reduceMul, Nat.reduceLeDiff, Nat.reduceLT, Nat.reduceEqDiff, Nat.reducePow, Int32.reduceAdd, Int32.reduceMul, Int32.reduceSub, Int32.reduceLT, Int32.reduceLE, Int32.reduceToNatClampNeg, litE, ixU, not_false_eq_true, not_true_eq_false, ↓reduceIte, eq_self, true_or, or_true, false_and, and_false, or_false, false_or, i10, i01, in10, i1n, xbT, xbF, r_lt]
  generalize xe_sR g7 13 0 (some 14) = g8 at *
  have p9 := BK_ob (a := 0) (t := 6) B (by decide) (by decide)
  have r9 := BK_R (a := 0) (k := 2) (b := 13) B (by decide)
  rw [xs_82_36]
  have n10 := B.1.1
  have C := BK_new (t := 3) (k := 12) B (by decide) (by decide) (by decide)
  have tc : tn_v (xe_new g8 3 12) 1 pg0 := tn_v_c tv (fun a j x1 x2 => by rw [hI_new, if_neg (by rw [n10]; omega)])
  clear B
  simp only [xs_82_37, xs_82_38, xs_82_41, xs_82_42, xs_82_45, xs_82_46, xs_82_49, xs_82_49i, xs_82_50, n10, lS72, lE72, hn_new, rf_some, xc_int, xc_ref, xc_ret, xc_long, xw_nil, xw_int, xw_ref, xw_long, tl_some, tl_none, true_and, and_true, Nat.zero_le, Nat.reduceAdd, Nat.reduceMul, Nat.reduceLeDiff, Nat.reduceLT, Nat.reduceEqDiff, Nat.reducePow, Int32.reduceAdd, Int32.reduceMul, Int32.reduceSub, Int32.reduceLT, Int32.reduceLE, Int32.reduceToNatClampNeg, litE, ixU, not_false_eq_true, not_true_eq_false, ↓reduceIte, eq_self, true_or, or_true, false_and, and_false, or_false, false_or, i10, i01, in10, i1n, xbT, xbF, r_lt, ho_new0 p9, hR_new0 r9 n10, p9, r9, show ((2 : Int32) ≤ 1) = False from eq_false (by decide)]
  refine mk_37_20 (d := d + 0) C (fun g10 B A tvn => ?_)
  replace tv : tn_v g10 1 pg0 := tn_v_c tc (fun a j x1 x2 => A a j (by omega))
  clear tc
  have o11 := BK_ob (a := 13) (t := 12) B (by decide) (by decide)
  have q11 := BK_ob (a := 20) (t := 3) B (by decide) (by decide)
  have n11 := B.1.1
  have x11 : xe_ix g10 13 1 := by unfold xe_ix; rw [BK_N (k := 2) B (by decide) (by decide)]; decide
  replace B := BK_sR (a := 13) (k := 1) (b := 20) B (by decide) (by decide)
  replace tv : tn_v (xe_sR g10 13 1 (some 20)) 1 pg0 := tv
  simp only [xs_82_53, xs_82_54, xs_82_57, o11, q11, n11, x11, lS72, lE72, rf_some, xc_int, xc_ref, xc_ret, xc_long, xw_nil, xw_int, xw_ref, xw_long, tl_some, tl_none, true_and, and_true, Nat.zero_le, Nat.reduceAdd, Nat.reduceMul, Nat.reduceLeDiff, Nat.reduceLT, Nat.reduceEqDiff, Nat.reducePow, Int32.reduceAdd, Int32.reduceMul, Int32.reduceSub, Int32.reduceLT, Int32.reduceLE, Int32.reduceToNatClampNeg, litE, ixU, not_false_eq_true, not_true_eq_false, ↓reduceIte, eq_self, true_or, or_true, false_and, and_false, or_false, false_or, i10, i01, in10, i1n, xbT, xbF, r_lt]
  generalize xe_sR g10 13 1 (some 20) = g11 at *
  rw [xs_82_36]
  simp only [xs_82_37, xs_82_38, show ((2 : Int32) ≤ 2) = True from eq_true (by decide), rf_some, xc_int, xc_ref, xc_ret, xc_long, xw_nil, xw_int, xw_ref, xw_long, tl_some, tl_none, true_and, and_true, Nat.zero_le, Nat.reduceAdd, Nat.reduceMul, Nat.reduceLeDiff, Nat.reduceLT, Nat.reduceEqDiff, Nat.reducePow, Int32.reduceAdd, Int32.reduceMul, Int32.reduceSub, Int32.reduceLT, Int32.reduceLE, Int32.reduceToNatClampNeg, litE, ixU, not_false_eq_true, not_true_eq_false, ↓reduceIte, eq_self, true_or, or_true, false_and, and_false, or_false, false_or, i10, i01, in10, i1n, xbT, xbF, r_lt]
  have n12 := B.1.1
  have C := BK_new (t := 11) (k := 2) B (by decide) (by decide) (by decide)
  have o12 := BK_ob (a := 0) (t := 6) C (by decide) (by decide)
  replace tv : tn_v (xe_sR (xe_new g11 11 2) 0 3 (some 26)) 1 pg0 := tn_v_c (h := g11) tv (fun a j x1 x2 => by rw [hI_sR, hI_new, if_neg (by rw [n12]; omega)])
  replace B := BK_sR (a := 0) (k := 3) (b := 26) C (by decide) (by decide)
  clear C
  simp only [xs_82_60, xs_82_61, xs_82_62, xs_82_64, n12, o12, lS72, lE72, rf_some, xc_int, xc_ref, xc_ret, xc_long, xw_nil, xw_int, xw_ref, xw_long, tl_some, tl_none, true_and, and_true, Nat.zero_le, Nat.reduceAdd, Nat.reduceMul, Nat.reduceLeDiff, Nat.reduceLT, Nat.reduceEqDiff, Nat.reducePow, Int32.reduceAdd, Int32.reduceMul, Int32.reduceSub, Int32.reduceLT, Int32.reduceLE, Int32.reduceToNatClampNeg, litE, ixU, not_false_eq_true, not_true_eq_false, ↓reduceIte, eq_self, true_or, or_true, false_and, and_false, or_false, false_or, i10, i01, in10, i1n, xbT, xbF, r_lt]
  generalize xe_sR (xe_new g11 11 2) 0 3 (some 26) = g12 at *
  have n13 := B.1.1
  have C := BK_new (t := 2) (k := 12) B (by decide) (by decide) (by decide)
  have tc : tn_v (xe_new g12 2 12) 1 pg0 := tn_v_c tv (fun a j x1 x2 => by rw [hI_new, if_neg (by rw [n13]; omega)])
  clear B
  simp only [xs_82_67, xs_82_68, xs_82_71, xs_82_71i, xs_82_72, n13, lS72, lE72, hn_new, rf_some, xc_int, xc_ref, xc_ret, xc_long, xw_nil, xw_int, xw_ref, xw_long, tl_some, tl_none, true_and, and_true, Nat.zero_le, Nat.reduceAdd, Nat.reduceMul, Nat.reduceLeDiff, Nat.reduceLT, Nat.reduceEqDiff, Nat.reducePow, Int32.reduceAdd, Int32.reduceMul, Int32.reduceSub, Int32.reduceLT, Int32.reduceLE, Int32.reduceToNatClampNeg, litE, ixU, not_false_eq_true, not_true_eq_false, ↓reduceIte, eq_self, true_or, or_true, false_and, and_false, or_false, false_or, i10, i01, in10, i1n, xbT, xbF, r_lt]
  refine mk_20_27 (d := d + 2) C (fun g13 B A => ?_)
  replace tv : tn_v g13 1 pg0 := tn_v_c tc (fun a j x1 x2 => A a j (by omega))
  clear tc
  have o14 := BK_ob (a := 0) (t := 6) B (by decide) (by decide)
  replace B := BK_sR (a := 0) (k := 4) (b := 27) B (by decide) (by decide)
  replace tv : tn_v (xe_sR g13 0 4 (some 27)) 1 pg0 := tv
  simp only [xs_82_75, o14, lS72, lE72, rf_some, xc_int, xc_ref, xc_ret, xc_long, xw_nil, xw_int, xw_ref, xw_long, tl_some, tl_none, true_and, and_true, Nat.zero_le, Nat.reduceAdd, Nat.reduceMul, Nat.reduceLeDiff, Nat.reduceLT, Nat.reduceEqDiff, Nat.reducePow, Int32.reduceAdd, Int32.reduceMul, Int32.reduceSub, Int32.reduceLT, Int32.reduceLE, Int32.reduceToNatClampNeg, litE, ixU, not_false_eq_true, not_true_eq_false, ↓reduceIte, eq_self, true_or, or_true, false_and, and_false, or_false, false_or, i10, i01, in10, i1n, xbT, xbF, r_lt]
  generalize xe_sR g13 0 4 (some 27) = g14 at *
  have n15 := B.1.1
  have C := BK_new (t := 5) (k := 10) B (by decide) (by decide) (by decide)
  have tc : tn_v (xe_new g14 5 10) 1 pg0 := tn_v_c tv (fun a j x1 x2 => by rw [hI_new, if_neg (by rw [n15]; omega)])
  clear B
  simp only [xs_82_78, xs_82_79, xs_82_82, xs_82_82i, xs_82_83, n15, lS72, lE72, hn_new, rf_some, xc_int, xc_ref, xc_ret, xc_long, xw_nil, xw_int, xw_ref, xw_long, tl_some, tl_none, true_and, and_true, Nat.zero_le, Nat.reduceAdd, Nat.reduceMul, Nat.reduceLeDiff, Nat.reduceLT, Nat.reduceEqDiff, Nat.reducePow, Int32.reduceAdd, Int32.reduceMul, Int32.reduceSub, Int32.reduceLT, Int32.reduceLE, Int32.reduceToNatClampNeg, litE, ixU, not_false_eq_true, not_true_eq_false, ↓reduceIte, eq_self, true_or, or_true, false_and, and_false, or_false, false_or, i10, i01, in10, i1n, xbT, xbF, r_lt]
  refine mk_70_29 (d := d + 2) C (fun g15 B A => ?_)
  replace tv : tn_v g15 1 pg0 := tn_v_c tc (fun a j x1 x2 => A a j (by omega))
  clear tc
  have o16 := BK_ob (a := 0) (t := 6) B (by decide) (by decide)
  replace B := BK_sR (a := 0) (k := 5) (b := 29) B (by decide) (by decide)
  replace tv : tn_v (xe_sR g15 0 5 (some 29)) 1 pg0 := tv
  simp only [xs_82_86, o16, lS72, lE72, rf_some, xc_int, xc_ref, xc_ret, xc_long, xw_nil, xw_int, xw_ref, xw_long, tl_some, tl_none, true_and, and_true, Nat.zero_le, Nat.reduceAdd, Nat.reduceMul, Nat.reduceLeDiff, Nat.reduceLT, Nat.reduceEqDiff, Nat.reducePow, Int32.reduceAdd, Int32.reduceMul, Int32.reduceSub, Int32.reduceLT, Int32.reduceLE, Int32.reduceToNatClampNeg, litE, ixU, not_false_eq_true, not_true_eq_false, ↓reduceIte, eq_self, true_or, or_true, false_and, and_false, or_false, false_or, i10, i01, in10, i1n, xbT, xbF, r_lt]
  generalize xe_sR g15 0 5 (some 29) = g16 at *
  have n17 := B.1.1
  have C := BK_new (t := 0) (k := 7) B (by decide) (by decide) (by decide)
  have tc : tn_v (xe_new g16 0 7) 1 pg0 := tn_v_c tv (fun a j x1 x2 => by rw [hI_new, if_neg (by rw [n17]; omega)])
  clear B
  simp only [xs_82_89, xs_82_90, xs_82_93, xs_82_93i, xs_82_94, n17, lS72, lE72, hn_new, rf_some, xc_int, xc_ref, xc_ret, xc_long, xw_nil, xw_int, xw_ref, xw_long, tl_some, tl_none, true_and, and_true, Nat.zero_le, Nat.reduceAdd, Nat.reduceMul, Nat.reduceLeDiff, Nat.reduceLT, Nat.reduceEqDiff, Nat.reducePow, Int32.reduceAdd, Int32.reduceMul, Int32.reduceSub, Int32.reduceLT, Int32.reduceLE, Int32.reduceToNatClampNeg, litE, ixU, not_false_eq_true, not_true_eq_false, ↓reduceIte, eq_self, true_or, or_true, false_and, and_false, or_false, false_or, i10, i01, in10, i1n, xbT, xbF, r_lt]
  refine mk_0_33 (d := d + 2) C (fun g17 B A => ?_)
  replace tv : tn_v g17 1 pg0 := tn_v_c tc (fun a j x1 x2 => A a j (by omega))
  clear tc
  have o18 := BK_ob (a := 0) (t := 6) B (by decide) (by decide)
  replace B := BK_sR (a := 0) (k := 6) (b := 33) B (by decide) (by decide)
  replace tv : tn_v (xe_sR g17 0 6 (some 33)) 1 pg0 := tv
  simp only [xs_82_97, o18, lS72, lE72, rf_some, xc_int, xc_ref, xc_ret, xc_long, xw_nil, xw_int, xw_ref, xw_long, tl_some, tl_none, true_and, and_true, Nat.zero_le, Nat.reduceAdd, Nat.reduceMul, Nat.reduceLeDiff, Nat.reduceLT, Nat.reduceEqDiff, Nat.reducePow, Int32.reduceAdd, Int32.reduceMul, Int32.reduceSub, Int32.reduceLT, Int32.reduceLE, Int32.reduceToNatClampNeg, litE, ixU, not_false_eq_true, not_true_eq_false, ↓reduceIte, eq_self, true_or, or_true, false_and, and_false, or_false, false_or, i10, i01, in10, i1n, xbT, xbF, r_lt]
  generalize xe_sR g17 0 6 (some 33) = g18 at *
  have n19 := B.1.1
  have C := BK_new (t := 4) (k := 13) B (by decide) (by decide) (by decide)
  have tc : tn_v (xe_new g18 4 13) 1 pg0 := tn_v_c tv (fun a j x1 x2 => by rw [hI_new, if_neg (by rw [n19]; omega)])
  clear B
  simp only [xs_82_100, xs_82_101, xs_82_104, xs_82_104i, xs_82_105, n19, lS72, lE72, hn_new, rf_some, xc_int, xc_ref, xc_ret, xc_long, xw_nil, xw_int, xw_ref, xw_long, tl_some, tl_none, true_and, and_true, Nat.zero_le, Nat.reduceAdd, Nat.reduceMul, Nat.reduceLeDiff, Nat.reduceLT, Nat.reduceEqDiff, Nat.reducePow, Int32.reduceAdd, Int32.reduceMul, Int32.reduceSub, Int32.reduceLT, Int32.reduceLE, Int32.reduceToNatClampNeg, litE, ixU, not_false_eq_true, not_true_eq_false, ↓reduceIte, eq_self, true_or, or_true, false_and, and_false, or_false, false_or, i10, i01, in10, i1n, xbT, xbF, r_lt]
  refine mk_58_36 (d := d + 2) C (fun g19 B A => ?_)
  replace tv : tn_v g19 1 pg0 := tn_v_c tc (fun a j x1 x2 => A a j (by omega))
  clear tc
  have o20 := BK_ob (a := 0) (t := 6) B (by decide) (by decide)
  replace B := BK_sR (a := 0) (k := 7) (b := 36) B (by decide) (by decide)
  replace tv : tn_v (xe_sR g19 0 7 (some 36)) 1 pg0 := tv
  simp only [xs_82_108, o20, lS72, lE72, rf_some, xc_int, xc_ref, xc_ret, xc_long, xw_nil, xw_int, xw_ref, xw_long, tl_some, tl_none, true_and, and_true, Nat.zero_le, Nat.reduceAdd, Nat.reduceMul, Nat.reduceLeDiff, Nat.reduceLT, Nat.reduceEqDiff, Nat.reducePow, Int32.reduceAdd, Int32.reduceMul, Int32.reduceSub, Int32.reduceLT, Int32.reduceLE, Int32.reduceToNatClampNeg, litE, ixU, not_false_eq_true, not_true_eq_false, ↓reduceIte, eq_self, true_or, or_true, false_and, and_false, or_false, false_or, i10, i01, in10, i1n, xbT, xbF, r_lt]
  generalize xe_sR g19 0 7 (some 36) = g20 at *
  have n21 := B.1.1
  have C := BK_new (t := 1) (k := 3) B (by decide) (by decide) (by decide)
  have tc : tn_v (xe_new g20 1 3) 1 pg0 := tn_v_c tv (fun a j x1 x2 => by rw [hI_new, if_neg (by rw [n21]; omega)])
  clear B
  simp only [xs_82_111, xs_82_112, xs_82_115, xs_82_115i, xs_82_116, n21, lS72, lE72, hn_new, rf_some, xc_int, xc_ref, xc_ret, xc_long, xw_nil, xw_int, xw_ref, xw_long, tl_some, tl_none, true_and, and_true, Nat.zero_le, Nat.reduceAdd, Nat.reduceMul, Nat.reduceLeDiff, Nat.reduceLT, Nat.reduceEqDiff, Nat.reducePow, Int32.reduceAdd, Int32.reduceMul, Int32.reduceSub, Int32.reduceLT, Int32.reduceLE, Int32.reduceToNatClampNeg, litE, ixU, not_false_eq_true, not_true_eq_false, ↓reduceIte, eq_self, true_or, or_true, false_and, and_false, or_false, false_or, i10, i01, in10, i1n, xbT, xbF, r_lt]
  refine mk_11_44 (d := d + 1) C (fun g21 B A ln => ?_)
  replace tv : tn_v g21 1 pg0 := tn_v_c tc (fun a j x1 x2 => A a j (by omega))
  clear tc
  have o22 := BK_ob (a := 0) (t := 6) B (by decide) (by decide)
  have k := K (xe_sI (xe_sR g21 0 8 (some 44)) 0 9 0) (BK_sI (BK_sR B (by decide) (by decide)) (Or.inr rfl) (by decide)) (tn_v_c (h := g21) tv (fun a j x1 x2 => by rw [hI_sI, if_neg (by omega)]; rfl)) (fun j hj => by rw [hI_sI, if_neg (by omega)]; exact ln j hj)
  simp only [xs_82_119, xs_82_122, xs_82_123, xs_82_124, xs_82_127, o22, lS72, lE72, rf_some, xc_int, xc_ref, xc_ret, xc_long, xw_nil, xw_int, xw_ref, xw_long, tl_some, tl_none, true_and, and_true, Nat.zero_le, Nat.reduceAdd, Nat.reduceMul, Nat.reduceLeDiff, Nat.reduceLT, Nat.reduceEqDiff, Nat.reducePow, Int32.reduceAdd, Int32.reduceMul, Int32.reduceSub, Int32.reduceLT, Int32.reduceLE, Int32.reduceToNatClampNeg, litE, ixU, not_false_eq_true, not_true_eq_false, ↓reduceIte, eq_self, true_or, or_true, false_and, and_false, or_false, false_or, i10, i01, in10, i1n, xbT, xbF, r_lt, hI_sI, hL_sI, hR_sI, hT_sI, hN_sI, hn_sI, ho_sI, hia_sI, hba_sI, hal_sI, hix_sI, hI_aI, hL_aI, hR_aI, hT_aI, hN_aI, hn_aI, ho_aI, hia_aI, hal_aI, hix_aI, sh_sI, sh_aI, sh_sL, sh_aL, ho_sR]
  exact k
end MK2
