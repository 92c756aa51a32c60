/-! both: the class -/
section WZ
variable {d : Nat} {h : xe_H} {g : Nat → Nat}
theorem cl_seek2 {a b li : Nat} (hg : pg_ok g) (ha : a < g 31) (hb : b < g 31) (hli : li < 2 ^ 31) (H : sh h) (R : rm h) (tv : tn_v h 1 g) : xe_C (d + 7) 71 [.ref 29, .ref 1, .int (nI a), .int (nI b), .int (nI li)] h (fun r h' => r = none ∧ ∃ h1, wq sY h h1 ∧ srR true g (4096 * (5 * g (25 + 2 * a) + g (25 + 2 * b)) + rc (gr g)) (5 * g (26 + 2 * a) + g (26 + 2 * b)) li h1 h') := by
  have h31 : g 31 ≤ 3 := hg.2.1
  have h35 : g 35 ≤ 5 := hg.2.2.2.2.2.2.2.1
  obtain ⟨hpa, hga⟩ := hg.2.2.2.2.2.2.2.2.2.2.2 a ha
  obtain ⟨hpb, hgb⟩ := hg.2.2.2.2.2.2.2.2.2.2.2 b hb
  obtain ⟨v5, v6⟩ := tv.2.2.2 a ha
  obtain ⟨u5, u6⟩ := tv.2.2.2 b hb
  have v5 : xe_I h 5 a = nI (g (25 + 2 * a)) := v5
  have v6 : xe_I h 6 a = nI (g (26 + 2 * a)) := v6
  have u5 : xe_I h 5 b = nI (g (25 + 2 * b)) := u5
  have u6 : xe_I h 6 b = nI (g (26 + 2 * b)) := u6
  have H' := sh_w4 H
  have em : (nI b = -1) = False := eq_false (fun z => by
    have z2 := congrArg Int32.toInt z
    rw [nI_toInt (by omega), show Int32.toInt (-1) = -1 by decide] at z2
    omega)
  simp only [xs_71, xs_71_0, xs_71_1, xs_71_2, xs_71_5, xs_71_6, xs_71_7, xs_71_8, xs_71_11, xs_71_12, xs_71_15, xs_71_16, xs_71_19, xs_71_20, xs_71_21, xs_71_24, xs_71_27, xs_71_28, xs_71_29, xs_71_32, xs_71_33, xs_71_34, xs_71_37, xs_71_40, xs_71_41, xs_71_44, xs_71_47, xs_71_48, xs_71_49, xs_71_52, xs_71_53, xs_71_56, xs_71_57, xs_71_58, xs_71_61, xs_71_64, xs_71_65, xs_71_66, xs_71_67, xs_71_70, xs_71_73, xs_71_74, xs_71_77, xs_71_80, xs_71_81, xs_71_82, xs_71_85, xs_71_86, xs_71_88, H, H', sT_0, sT_1, sT_2, sN_2, sA_2, sT_3, sN_3, sA_3, sT_4, sN_4, sA_4, sT_5, sN_5, sA_5, sT_6, sN_6, sA_6, sT_7, sT_8, sN_8, sA_8, sT_9, sN_9, sA_9, sT_10, sN_10, sA_10, sT_11, sN_11, sA_11, sT_12, sN_12, sA_12, sT_13, sN_13, sT_14, sT_15, sN_15, sA_15, sT_16, sN_16, sA_16, sT_17, sN_17, sA_17, sT_18, sN_18, sA_18, sT_19, sN_19, sA_19, sT_20, sT_21, sN_21, sA_21, sT_22, sN_22, sA_22, sT_23, sN_23, sA_23, sT_24, sN_24, sA_24, sT_25, sN_25, sA_25, sT_26, sN_26, sB_26, sT_27, sT_28, sN_28, sB_28, sT_29, sT_30, sN_30, sT_32, sN_32, sA_32, sT_33, sT_34, sN_34, sA_34, sT_35, sN_35, sA_35, sT_36, sT_37, sN_37, sA_37, sT_38, sN_38, sA_38, sT_39, sN_39, sA_39, sT_40, sN_40, sB_40, sT_41, sN_41, sA_41, sT_42, sN_42, sA_42, sT_43, sN_43, sA_43, sT_44, sT_45, sN_45, sA_45, sT_46, sN_46, sA_46, sT_47, sN_47, sA_47, sR_1_7, sR_1_8, sR_1_9, sR_1_10, sR_1_11, sR_0_0, sR_7_7, sR_7_8, sR_7_9, sR_7_10, sR_7_11, sR_0_1, sR_0_2, sR_14_7, sR_14_8, sR_14_9, sR_14_10, sR_14_11, sR_13_0, sR_20_7, sR_20_8, sR_20_9, sR_20_10, sR_20_11, sR_13_1, sR_0_3, sR_0_4, sR_27_0, sR_0_5, sR_29_0, sR_29_3, sR_0_6, sR_33_1, sR_33_2, sR_0_7, sR_36_2, sR_36_3, sR_36_4, sR_36_5, sR_36_6, sR_36_7, sR_36_8, sR_0_8, sR_44_0, sR_44_1, sR_44_2, em, nIlt0 (show a < 2 ^ 31 by omega), nI_clamp (show a < 2 ^ 31 by omega), show a < 3 by omega, nIlt0 (show b < 2 ^ 31 by omega), nI_clamp (show b < 2 ^ 31 by omega), show b < 3 by omega, v5, v6, u5, u6, show 1 < xe_S by decide, rf_some, xc_int, xc_ref, xc_ret, xc_long, xw_nil, xw_int, xw_ref, xw_long, tl_some, tl_none, true_and, and_true, Nat.zero_le, Nat.reduceAdd, Nat.reduceMul, Nat.reduceLeDiff, Nat.reduceLT, Nat.reduceEqDiff, Nat.reducePow, Int32.reduceAdd, Int32.reduceMul, Int32.reduceSub, Int32.reduceLT, Int32.reduceLE, Int32.reduceToNatClampNeg, litE, ixU, not_false_eq_true, not_true_eq_false, ↓reduceIte, eq_self, true_or, or_true, false_and, and_false, or_false, false_or, i10, i01, in10, i1n, xbT, xbF, r_lt, hI_sI, hL_sI, hR_sI, hT_sI, hN_sI, hn_sI, ho_sI, hia_sI, hba_sI, hal_sI, hix_sI, hI_aI, hL_aI, hR_aI, hT_aI, hN_aI, hn_aI, ho_aI, hia_aI, hal_aI, hix_aI, sh_sI, sh_aI, sh_sL, sh_aL, hI_sR, hR_sR]
  generalize hh1 : xe_sI (xe_sI (xe_sI (xe_sR h 29 4 (some 1)) 29 5 1) 29 6 (nI (g (26 + 2 * a)))) 29 7 (nI (g (26 + 2 * b))) = h1
  have H1 : sh h1 := by rw [← hh1, sh_sI, sh_sI, sh_sI]; exact H'
  have R1 : rm h1 := by rw [← hh1, rm_sI, rm_sI, rm_sI]; exact rm_w4 R
  have W1 : wq sY h h1 := by
    rw [← hh1]
    exact wq_sI (wq_sI (wq_sI ⟨fun _ => H', fun _ _ => ⟨rfl, rfl⟩, fun _ _ _ _ => rfl⟩ (Or.inl rfl)) (Or.inl rfl)) (Or.inl rfl)
  have tv1 := tv_wq tv W1 (fun a j z => by unfold sY at z; omega)
  have i6 : xe_I h1 29 6 = nI (g (26 + 2 * a)) := by rw [← hh1, hI_sI, if_neg (by omega), hI_sI, if_pos ⟨rfl, rfl⟩]
  have i7 : xe_I h1 29 7 = nI (g (26 + 2 * b)) := by rw [← hh1, hI_sI, if_pos ⟨rfl, rfl⟩]
  have gc : gC true (5 * g (26 + 2 * a) + g (26 + 2 * b)) h1 := fun w hw => by
    have hw : w < 25 := hw
    rw [i6, i7, show we true w = w / 5 from rfl, show wl true w = w % 5 from rfl, nIe (show w / 5 < 2 ^ 31 by omega) (show g (26 + 2 * a) < 2 ^ 31 by omega), nIe (show w % 5 < 2 ^ 31 by omega) (show g (26 + 2 * b) < 2 ^ 31 by omega)]
    constructor
    · rintro ⟨z1, z2 | z2⟩
      · cases z2
      · omega
    · intro z; exact ⟨by omega, Or.inr (by omega)⟩
  have cs := cl_search (d := d) (t := true) (w0 := 5 * g (25 + 2 * a) + g (25 + 2 * b)) (G := 5 * g (26 + 2 * a) + g (26 + 2 * b)) hg (show 5 * g (25 + 2 * a) + g (25 + 2 * b) < 25 by omega) hli H1 R1 tv1 (by rw [← hh1, hR_sI, hR_sI, hR_sI, hR_sR, if_pos ⟨rfl, rfl⟩]) (by rw [← hh1, hI_sI, if_neg (by omega), hI_sI, if_neg (by omega), hI_sI, if_pos ⟨rfl, rfl⟩]; rfl) gc
  rw [show we true (5 * g (25 + 2 * a) + g (25 + 2 * b)) = g (25 + 2 * a) by show (5 * g (25 + 2 * a) + g (25 + 2 * b)) / 5 = _; omega, show wl true (5 * g (25 + 2 * a) + g (25 + 2 * b)) = g (25 + 2 * b) by show (5 * g (25 + 2 * a) + g (25 + 2 * b)) % 5 = _; omega] at cs
  refine xe_C_mono cs ?_
  rintro r h2 ⟨rfl, S⟩
  simp only [xs_71_91, rf_some, xc_int, xc_ref, xc_ret, xc_long, xw_nil, xw_int, xw_ref, xw_long, tl_some, tl_none, true_and, and_true, Nat.zero_le, Nat.reduceAdd, Nat.reduceMul, Nat.reduceLeDiff, Nat.reduceLT, Nat.reduceEqDiff, Nat.reducePow, Int32.reduceAdd, Int32.reduceMul, Int32.reduceSub, Int32.reduceLT, Int32.reduceLE, Int32.reduceToNatClampNeg, litE, ixU, not_false_eq_true, not_true_eq_false, ↓reduceIte, eq_self, true_or, or_true, false_and, and_false, or_false, false_or, i10, i01, in10, i1n, xbT, xbF, r_lt]
  exact ⟨h1, W1, S⟩
theorem cl_both {x y : Nat} {z : Int32} (hg : pg_ok g) (ha : x < g 31) (hb : y < g 31) (hxy : ¬ x = y) (hx : rowQ z) (H : sh h) (R : rm h) (tv : tn_v h 1 g) : xe_C (d + 9) 98 [.ref 0, .int (nI x), .int (nI y), .int z] h (fun r h' => r = some (.int (wyA (nx2 g) 64 (4096 * (5 * g (25 + 2 * min x y) + g (25 + 2 * max x y)) + rc (gr g)) (5 * g (26 + 2 * min x y) + g (26 + 2 * max x y)) z)) ∧ wq sY h h' ∧ rm h') := by
  have h31 : g 31 ≤ 3 := hg.2.1
  have h35 : g 35 ≤ 5 := hg.2.2.2.2.2.2.2.1
  have hma : min x y < g 31 := by omega
  have hmb : max x y < g 31 := by omega
  obtain ⟨hpa, hga⟩ := hg.2.2.2.2.2.2.2.2.2.2.2 _ hma
  obtain ⟨hpb, hgb⟩ := hg.2.2.2.2.2.2.2.2.2.2.2 _ hmb
  have hrc := rc_lt (f := gr g) hg.2.2.2.2.2.2.2.2.2.1
  have v2 : xe_I h 1 2 = nI (g 31) := tv.1.2.2.1
  have q1 : (0 ≤ nI x ∧ nI x < nI (g 31)) := ⟨nI_pos' (by omega), in_lt (by omega) ha⟩
  have q2 : (0 ≤ nI y ∧ nI y < nI (g 31)) := ⟨nI_pos' (by omega), in_lt (by omega) hb⟩
  have q3 : (nI x = nI y) = False := by rw [nIe (by omega) (by omega)]; exact eq_false hxy
  have sk := cl_seek2 (d := d + 1) hg hma hmb (show 1000000 < 2 ^ 31 by decide) H R tv
  rw [show nI 1000000 = (1000000 : Int32) from rfl] at sk
  have emn : (if nI y < nI x then nI y else nI x) = nI (min x y) := by
    by_cases lt : y < x
    · rw [if_pos (nI_lt lt (by omega)), show min x y = y by omega]
    · rw [if_neg (by rw [nI_ltI (by omega) (by omega)]; exact lt), show min x y = x by omega]
  have emx : (if nI x < nI y then nI y else nI x) = nI (max x y) := by
    by_cases lt : x < y
    · rw [if_pos (nI_lt lt (by omega)), show max x y = y by omega]
    · rw [if_neg (by rw [nI_ltI (by omega) (by omega)]; exact lt), show max x y = x by omega]
  have h0 : 4096 * (5 * g (25 + 2 * min x y) + g (25 + 2 * max x y)) + rc (gr g) < bnd true := by show _ < 102400; omega
  simp only [xs_98, xs_98_0, xs_98_1, xs_98_4, xs_98_5, xs_98_8, xs_98_11, xs_98_12, xs_98_15, xs_98_16, xs_98_19, xs_98_22, xs_98_23, xs_98_24, xs_98_27, xs_98_28, xs_98_31, xs_98_34, xs_98_35, xs_98_36, xs_98_37, xs_98_40, xs_98_41, xs_98_44, xs_98_45, xs_98_46, xs_98_49, xs_98_50, xs_98_51, xs_98_54, xs_98_56, H, sT_0, sT_1, sT_2, sN_2, sA_2, sT_3, sN_3, sA_3, sT_4, sN_4, sA_4, sT_5, sN_5, sA_5, sT_6, sN_6, sA_6, sT_7, sT_8, sN_8, sA_8, sT_9, sN_9, sA_9, sT_10, sN_10, sA_10, sT_11, sN_11, sA_11, sT_12, sN_12, sA_12, sT_13, sN_13, sT_14, sT_15, sN_15, sA_15, sT_16, sN_16, sA_16, sT_17, sN_17, sA_17, sT_18, sN_18, sA_18, sT_19, sN_19, sA_19, sT_20, sT_21, sN_21, sA_21, sT_22, sN_22, sA_22, sT_23, sN_23, sA_23, sT_24, sN_24, sA_24, sT_25, sN_25, sA_25, sT_26, sN_26, sB_26, sT_27, sT_28, sN_28, sB_28, sT_29, sT_30, sN_30, sT_32, sN_32, sA_32, sT_33, sT_34, sN_34, sA_34, sT_35, sN_35, sA_35, sT_36, sT_37, sN_37, sA_37, sT_38, sN_38, sA_38, sT_39, sN_39, sA_39, sT_40, sN_40, sB_40, sT_41, sN_41, sA_41, sT_42, sN_42, sA_42, sT_43, sN_43, sA_43, sT_44, sT_45, sN_45, sA_45, sT_46, sN_46, sA_46, sT_47, sN_47, sA_47, sR_1_7, sR_1_8, sR_1_9, sR_1_10, sR_1_11, sR_0_0, sR_7_7, sR_7_8, sR_7_9, sR_7_10, sR_7_11, sR_0_1, sR_0_2, sR_14_7, sR_14_8, sR_14_9, sR_14_10, sR_14_11, sR_13_0, sR_20_7, sR_20_8, sR_20_9, sR_20_10, sR_20_11, sR_13_1, sR_0_3, sR_0_4, sR_27_0, sR_0_5, sR_29_0, sR_29_3, sR_0_6, sR_33_1, sR_33_2, sR_0_7, sR_36_2, sR_36_3, sR_36_4, sR_36_5, sR_36_6, sR_36_7, sR_36_8, sR_0_8, sR_44_0, sR_44_1, sR_44_2, tw_isOne (sT_1 H) v2, xb_t q1, xb_t q2, q3, c_asksRow z hx, emn, emx, rf_some, xc_int, xc_ref, xc_ret, xc_long, xw_nil, xw_int, xw_ref, xw_long, tl_some, tl_none, true_and, and_true, Nat.zero_le, Nat.reduceAdd, Nat.reduceMul, Nat.reduceLeDiff, Nat.reduceLT, Nat.reduceEqDiff, Nat.reducePow, Int32.reduceAdd, Int32.reduceMul, Int32.reduceSub, Int32.reduceLT, Int32.reduceLE, Int32.reduceToNatClampNeg, litE, ixU, not_false_eq_true, not_true_eq_false, ↓reduceIte, eq_self, true_or, or_true, false_and, and_false, or_false, false_or, i10, i01, in10, i1n, xbT, xbF, r_lt]
  refine xe_C_mono sk ?_
  rintro r h2 ⟨rfl, h1, W1, S⟩
  have W2 : wq sY h h2 := wq_tr W1 (wq_sub S.1 (fun a j z => by unfold sW at z; unfold sY; omega))
  have H2 := W2.1 H
  simp only [xs_98_59, xs_98_60, xs_98_63, xs_98_64, H2, sT_0, sT_1, sT_2, sN_2, sA_2, sT_3, sN_3, sA_3, sT_4, sN_4, sA_4, sT_5, sN_5, sA_5, sT_6, sN_6, sA_6, sT_7, sT_8, sN_8, sA_8, sT_9, sN_9, sA_9, sT_10, sN_10, sA_10, sT_11, sN_11, sA_11, sT_12, sN_12, sA_12, sT_13, sN_13, sT_14, sT_15, sN_15, sA_15, sT_16, sN_16, sA_16, sT_17, sN_17, sA_17, sT_18, sN_18, sA_18, sT_19, sN_19, sA_19, sT_20, sT_21, sN_21, sA_21, sT_22, sN_22, sA_22, sT_23, sN_23, sA_23, sT_24, sN_24, sA_24, sT_25, sN_25, sA_25, sT_26, sN_26, sB_26, sT_27, sT_28, sN_28, sB_28, sT_29, sT_30, sN_30, sT_32, sN_32, sA_32, sT_33, sT_34, sN_34, sA_34, sT_35, sN_35, sA_35, sT_36, sT_37, sN_37, sA_37, sT_38, sN_38, sA_38, sT_39, sN_39, sA_39, sT_40, sN_40, sB_40, sT_41, sN_41, sA_41, sT_42, sN_42, sA_42, sT_43, sN_43, sA_43, sT_44, sT_45, sN_45, sA_45, sT_46, sN_46, sA_46, sT_47, sN_47, sA_47, sR_1_7, sR_1_8, sR_1_9, sR_1_10, sR_1_11, sR_0_0, sR_7_7, sR_7_8, sR_7_9, sR_7_10, sR_7_11, sR_0_1, sR_0_2, sR_14_7, sR_14_8, sR_14_9, sR_14_10, sR_14_11, sR_13_0, sR_20_7, sR_20_8, sR_20_9, sR_20_10, sR_20_11, sR_13_1, sR_0_3, sR_0_4, sR_27_0, sR_0_5, sR_29_0, sR_29_3, sR_0_6, sR_33_1, sR_33_2, sR_0_7, sR_36_2, sR_36_3, sR_36_4, sR_36_5, sR_36_6, sR_36_7, sR_36_8, sR_0_8, sR_44_0, sR_44_1, sR_44_2, rf_some, xc_int, xc_ref, xc_ret, xc_long, xw_nil, xw_int, xw_ref, xw_long, tl_some, tl_none, true_and, and_true, Nat.zero_le, Nat.reduceAdd, Nat.reduceMul, Nat.reduceLeDiff, Nat.reduceLT, Nat.reduceEqDiff, Nat.reducePow, Int32.reduceAdd, Int32.reduceMul, Int32.reduceSub, Int32.reduceLT, Int32.reduceLE, Int32.reduceToNatClampNeg, litE, ixU, not_false_eq_true, not_true_eq_false, ↓reduceIte, eq_self, true_or, or_true, false_and, and_false, or_false, false_or, i10, i01, in10, i1n, xbT, xbF, r_lt]
  refine xe_C_mono (cl_tells (d := d + 6) hg h0 hx (fun z => bK_100 (show 4096 * (5 * g (25 + 2 * min x y) + g (25 + 2 * max x y)) + rc (gr g) < 4096 * 25 by omega) (nx2_b hg) (show 0 < 64 by omega) (fun x _ => stay3 (fun w f hf => stay_2 hf) x) (weak_2 hg) z) H2 S) ?_
  rintro r h3 ⟨rfl, rfl⟩
  simp only [xs_98_67, rf_some, xc_int, xc_ref, xc_ret, xc_long, xw_nil, xw_int, xw_ref, xw_long, tl_some, tl_none, true_and, and_true, Nat.zero_le, Nat.reduceAdd, Nat.reduceMul, Nat.reduceLeDiff, Nat.reduceLT, Nat.reduceEqDiff, Nat.reducePow, Int32.reduceAdd, Int32.reduceMul, Int32.reduceSub, Int32.reduceLT, Int32.reduceLE, Int32.reduceToNatClampNeg, litE, ixU, not_false_eq_true, not_true_eq_false, ↓reduceIte, eq_self, true_or, or_true, false_and, and_false, or_false, false_or, i10, i01, in10, i1n, xbT, xbF, r_lt]
  exact ⟨rfl, W2, srR_rm S⟩
end WZ
