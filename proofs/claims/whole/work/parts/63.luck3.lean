/-! ways by chance: the reference -/
theorem i40 : ((4 : Int32) = 0) = False := eq_false (by decide)
theorem i60 : ((6 : Int32) = 0) = False := eq_false (by decide)
section LV
variable {d : Nat} {h : xe_H} {Q : Option Value → xe_H → Prop}
theorem md_bridgeAt {g : Nat → Nat} {w j : Nat} (hg : pg_ok g) (hw : w < g 35) (hj : j < 2 ^ 31) (H : sh h) (hm : mp h 0 g) : xe_C (d + 2) 181 [.ref 48, .int (nI w), .int (nI j)] h Q = Q (some (.int (if j < nb g w then nI (nth (tb g w) (g 24) j) else -4))) h := by
  have h24 : g 24 ≤ 6 := hg.1
  have h35 : g 35 ≤ 5 := hg.2.2.2.2.2.2.2.1
  have lp : ∀ k b, b + k = g 24 → fb_ct (tb g w) b ≤ j → xe_P (d + 1) 181 5 [.ref 48, .int (nI w), .int (nI j), .int (nI (j - fb_ct (tb g w) b)), .int (nI b)] [] h Q = Q (some (.int (if j < nb g w then nI (nth (tb g w) (g 24) j) else -4))) h := by
    intro k
    induction k with
    | zero =>
      intro b hb hc
      have : b = g 24 := by omega
      subst this
      rw [if_neg (by unfold nb; omega)]
      simp only [xs_181_5, xs_181_7, xs_181_8, xs_181_11, xs_181_58, xs_181_60, H, sT_48, sT_49, sN_49, sA_49, sT_50, sN_50, sA_50, sT_51, sN_51, sA_51, sT_52, sN_52, sA_52, sT_53, sN_53, sA_53, sT_54, sN_54, sA_54, sT_55, sN_55, sA_55, sT_56, sN_56, sA_56, sT_57, sN_57, sA_57, sT_58, sN_58, sA_58, sT_59, sN_59, sA_59, sT_60, sN_60, sA_60, sT_61, sN_61, sA_61, sT_62, sN_62, sA_62, sT_63, sN_63, sA_63, sT_64, sN_64, sA_64, sT_65, sN_65, sA_65, sT_66, sN_66, sA_66, sT_67, sN_67, sA_67, sT_68, sN_68, sB_68, sT_69, sN_69, sA_69, sT_70, sN_70, sA_70, sT_71, sN_71, sA_71, sR_48_0, sR_48_2, sR_48_9, sR_48_10, sR_48_11, sR_48_20, sR_48_21, sR_48_22, sR_48_23, sR_48_24, sR_48_26, sR_48_27, sR_48_28, sR_48_29, sR_48_30, sR_48_31, sR_48_33, sR_48_34, sR_48_35, sR_48_36, sR_48_37, sR_48_38, sR_48_39, md_bridgesG H hm, le_t, rf_some, xc_int, xc_ref, xc_ret, xc_long, xw_nil, xw_int, xw_ref, xw_long, tl_some, tl_none, true_and, and_true, Nat.zero_le, Nat.reduceAdd, Nat.reduceMul, Nat.reduceLeDiff, Nat.reduceLT, Nat.reduceEqDiff, Nat.reducePow, Int32.reduceAdd, Int32.reduceMul, Int32.reduceSub, Int32.reduceLT, Int32.reduceLE, Int32.reduceToNatClampNeg, litE, ixU, not_false_eq_true, not_true_eq_false, ↓reduceIte, eq_self, true_or, or_true, false_and, and_false, or_false, false_or, i10, i01, in10, i1n, xbT, xbF, r_lt]
    | succ k ih =>
      intro b hb hc
      have hb' : b < g 24 := by omega
      obtain ⟨p1, p2⟩ := hm.2.1 b hb'
      rw [Nat.zero_add] at p1 p2
      obtain ⟨b1, b2, -⟩ := hg.2.2.2.2.2.2.2.2.1 b hb'
      have ec := fb_ct_succ (tb g w) b
      rw [xs_181_5]
      simp only [xs_181_7, xs_181_8, xs_181_11, H, sT_48, sT_49, sN_49, sA_49, sT_50, sN_50, sA_50, sT_51, sN_51, sA_51, sT_52, sN_52, sA_52, sT_53, sN_53, sA_53, sT_54, sN_54, sA_54, sT_55, sN_55, sA_55, sT_56, sN_56, sA_56, sT_57, sN_57, sA_57, sT_58, sN_58, sA_58, sT_59, sN_59, sA_59, sT_60, sN_60, sA_60, sT_61, sN_61, sA_61, sT_62, sN_62, sA_62, sT_63, sN_63, sA_63, sT_64, sN_64, sA_64, sT_65, sN_65, sA_65, sT_66, sN_66, sA_66, sT_67, sN_67, sA_67, sT_68, sN_68, sB_68, sT_69, sN_69, sA_69, sT_70, sN_70, sA_70, sT_71, sN_71, sA_71, sR_48_0, sR_48_2, sR_48_9, sR_48_10, sR_48_11, sR_48_20, sR_48_21, sR_48_22, sR_48_23, sR_48_24, sR_48_26, sR_48_27, sR_48_28, sR_48_29, sR_48_30, sR_48_31, sR_48_33, sR_48_34, sR_48_35, sR_48_36, sR_48_37, sR_48_38, sR_48_39, md_bridgesG H hm, lt_f hb' (show g 24 < 2 ^ 31 by omega), rf_some, xc_int, xc_ref, xc_ret, xc_long, xw_nil, xw_int, xw_ref, xw_long, tl_some, tl_none, true_and, and_true, Nat.zero_le, Nat.reduceAdd, Nat.reduceMul, Nat.reduceLeDiff, Nat.reduceLT, Nat.reduceEqDiff, Nat.reducePow, Int32.reduceAdd, Int32.reduceMul, Int32.reduceSub, Int32.reduceLT, Int32.reduceLE, Int32.reduceToNatClampNeg, litE, ixU, not_false_eq_true, not_true_eq_false, ↓reduceIte, eq_self, true_or, or_true, false_and, and_false, or_false, false_or, i10, i01, in10, i1n, xbT, xbF, r_lt]
      have mid : xe_P (d + 1) 181 14 [.ref 48, .int (nI w), .int (nI j), .int (nI (j - fb_ct (tb g w) b)), .int (nI b)] [] h Q = if tb g w b then xe_P (d + 1) 181 42 [.ref 48, .int (nI w), .int (nI j), .int (nI (j - fb_ct (tb g w) b)), .int (nI b)] [] h Q else xe_P (d + 1) 181 52 [.ref 48, .int (nI w), .int (nI j), .int (nI (j - fb_ct (tb g w) b)), .int (nI b)] [] h Q := by
        simp only [xs_181_14, xs_181_15, xs_181_18, xs_181_19, xs_181_21, xs_181_22, xs_181_23, xs_181_24, xs_181_27, xs_181_28, xs_181_31, xs_181_32, xs_181_34, xs_181_35, xs_181_36, xs_181_37, xs_181_38, xs_181_39, H, sT_48, sT_49, sN_49, sA_49, sT_50, sN_50, sA_50, sT_51, sN_51, sA_51, sT_52, sN_52, sA_52, sT_53, sN_53, sA_53, sT_54, sN_54, sA_54, sT_55, sN_55, sA_55, sT_56, sN_56, sA_56, sT_57, sN_57, sA_57, sT_58, sN_58, sA_58, sT_59, sN_59, sA_59, sT_60, sN_60, sA_60, sT_61, sN_61, sA_61, sT_62, sN_62, sA_62, sT_63, sN_63, sA_63, sT_64, sN_64, sA_64, sT_65, sN_65, sA_65, sT_66, sN_66, sA_66, sT_67, sN_67, sA_67, sT_68, sN_68, sB_68, sT_69, sN_69, sA_69, sT_70, sN_70, sA_70, sT_71, sN_71, sA_71, sR_48_0, sR_48_2, sR_48_9, sR_48_10, sR_48_11, sR_48_20, sR_48_21, sR_48_22, sR_48_23, sR_48_24, sR_48_26, sR_48_27, sR_48_28, sR_48_29, sR_48_30, sR_48_31, sR_48_33, sR_48_34, sR_48_35, sR_48_36, sR_48_37, sR_48_38, sR_48_39, idx40, nI_1, nIlt0 (show 4 * b < 2 ^ 31 by omega), nI_clamp (show 4 * b < 2 ^ 31 by omega), show 4 * b < 140 by omega, nIlt0 (show 4 * b + 1 < 2 ^ 31 by omega), nI_clamp (show 4 * b + 1 < 2 ^ 31 by omega), show 4 * b + 1 < 140 by omega, p1, p2, nIe (show g (4 * b) < 2 ^ 31 by omega) (show w < 2 ^ 31 by omega), nIe (show g (4 * b + 1) < 2 ^ 31 by omega) (show w < 2 ^ 31 by omega), rf_some, xc_int, xc_ref, xc_ret, xc_long, xw_nil, xw_int, xw_ref, xw_long, tl_some, tl_none, true_and, and_true, Nat.zero_le, Nat.reduceAdd, Nat.reduceMul, Nat.reduceLeDiff, Nat.reduceLT, Nat.reduceEqDiff, Nat.reducePow, Int32.reduceAdd, Int32.reduceMul, Int32.reduceSub, Int32.reduceLT, Int32.reduceLE, Int32.reduceToNatClampNeg, litE, ixU, not_false_eq_true, not_true_eq_false, ↓reduceIte, eq_self, true_or, or_true, false_and, and_false, or_false, false_or, i10, i01, in10, i1n, xbT, xbF, r_lt]
        by_cases c1 : g (4 * b) = w
        · rw [if_pos c1, if_pos (show tb g w b = true from decide_eq_true (Or.inl c1))]
        · rw [if_neg c1]
          by_cases c2 : g (4 * b + 1) = w
          · rw [if_pos c2, if_pos (show tb g w b = true from decide_eq_true (Or.inr c2))]
          · rw [if_neg c2, if_neg (show ¬ tb g w b = true by rw [show tb g w b = false from decide_eq_false (by omega)]; decide)]
      rw [mid]
      by_cases t : tb g w b = true
      · rw [if_pos t]
        rw [t] at ec
        simp only [↓reduceIte] at ec
        by_cases z : j - fb_ct (tb g w) b = 0
        · have ej : j = fb_ct (tb g w) b := by omega
          have h1 := fb_ct_mono (tb g w) (show b + 1 ≤ g 24 by omega)
          rw [if_pos (show j < nb g w by unfold nb; omega), ej, nth_at hb' t, Nat.sub_self, show nI 0 = (0 : Int32) from rfl]
          simp only [xs_181_42, xs_181_43, xs_181_46, xs_181_48, rf_some, xc_int, xc_ref, xc_ret, xc_long, xw_nil, xw_int, xw_ref, xw_long, tl_some, tl_none, true_and, and_true, Nat.zero_le, Nat.reduceAdd, Nat.reduceMul, Nat.reduceLeDiff, Nat.reduceLT, Nat.reduceEqDiff, Nat.reducePow, Int32.reduceAdd, Int32.reduceMul, Int32.reduceSub, Int32.reduceLT, Int32.reduceLE, Int32.reduceToNatClampNeg, litE, ixU, not_false_eq_true, not_true_eq_false, ↓reduceIte, eq_self, true_or, or_true, false_and, and_false, or_false, false_or, i10, i01, in10, i1n, xbT, xbF, r_lt]
        · have e1 : (nI (j - fb_ct (tb g w) b) = 0) = False := by rw [nIe0 (by omega)]; exact eq_false z
          have e2 : nI (j - fb_ct (tb g w) b) + (-1) = nI (j - fb_ct (tb g w) (b + 1)) := by
            rw [ec, show j - fb_ct (tb g w) b = (j - (fb_ct (tb g w) b + 1)) + 1 by omega, pk_m1]
          simp only [xs_181_42, xs_181_43, xs_181_46, xs_181_48, xs_181_49, xs_181_52, xs_181_55, e1, e2, nI_1, rf_some, xc_int, xc_ref, xc_ret, xc_long, xw_nil, xw_int, xw_ref, xw_long, tl_some, tl_none, true_and, and_true, Nat.zero_le, Nat.reduceAdd, Nat.reduceMul, Nat.reduceLeDiff, Nat.reduceLT, Nat.reduceEqDiff, Nat.reducePow, Int32.reduceAdd, Int32.reduceMul, Int32.reduceSub, Int32.reduceLT, Int32.reduceLE, Int32.reduceToNatClampNeg, litE, ixU, not_false_eq_true, not_true_eq_false, ↓reduceIte, eq_self, true_or, or_true, false_and, and_false, or_false, false_or, i10, i01, in10, i1n, xbT, xbF, r_lt]
          exact ih (b + 1) (by omega) (by omega)
      · rw [if_neg t]
        have t' : tb g w b = false := by cases e : tb g w b with
          | true => exact absurd e t
          | false => rfl
        rw [t'] at ec
        simp only [Bool.false_eq_true, ↓reduceIte, Nat.add_zero] at ec
        simp only [xs_181_52, xs_181_55, nI_1, rf_some, xc_int, xc_ref, xc_ret, xc_long, xw_nil, xw_int, xw_ref, xw_long, tl_some, tl_none, true_and, and_true, Nat.zero_le, Nat.reduceAdd, Nat.reduceMul, Nat.reduceLeDiff, Nat.reduceLT, Nat.reduceEqDiff, Nat.reducePow, Int32.reduceAdd, Int32.reduceMul, Int32.reduceSub, Int32.reduceLT, Int32.reduceLE, Int32.reduceToNatClampNeg, litE, ixU, not_false_eq_true, not_true_eq_false, ↓reduceIte, eq_self, true_or, or_true, false_and, and_false, or_false, false_or, i10, i01, in10, i1n, xbT, xbF, r_lt]
        rw [← ec]
        exact ih (b + 1) (by omega) (by omega)
  have l0 := lp (g 24) 0 (by omega) (Nat.zero_le _)
  rw [show j - fb_ct (tb g w) 0 = j from rfl, show nI 0 = (0 : Int32) from rfl] at l0
  simp only [xs_181, xs_181_0, xs_181_1, xs_181_2, xs_181_3, rf_some, xc_int, xc_ref, xc_ret, xc_long, xw_nil, xw_int, xw_ref, xw_long, tl_some, tl_none, true_and, and_true, Nat.zero_le, Nat.reduceAdd, Nat.reduceMul, Nat.reduceLeDiff, Nat.reduceLT, Nat.reduceEqDiff, Nat.reducePow, Int32.reduceAdd, Int32.reduceMul, Int32.reduceSub, Int32.reduceLT, Int32.reduceLE, Int32.reduceToNatClampNeg, litE, ixU, not_false_eq_true, not_true_eq_false, ↓reduceIte, eq_self, true_or, or_true, false_and, and_false, or_false, false_or, i10, i01, in10, i1n, xbT, xbF, r_lt]
  exact l0
theorem md_manyAt {g : Nat → Nat} {w : Nat} (hg : pg_ok g) (hw : w < g 35) (H : sh h) (hm : mp h 0 g) : xe_C (d + 3) 182 [.ref 48, .int (nI w)] h Q = Q (some (.int (nI (nb g w)))) h := by
  have h24 : g 24 ≤ 6 := hg.1
  have hnb := nb_le hg w
  have lp := it_eq (F := fun i => xe_P (d + 2) 182 2 [.ref 48, .int (nI w), .int (nI i)] [] h Q) (nb g w) (by
    intro i hi R hR
    have hn := (nth_ok (p := tb g w) (n := g 24) hi).1
    have e1 := fun Q => md_bridgeAt (d := d) (Q := Q) hg hw (show i < 2 ^ 31 by omega) H hm
    rw [if_pos hi] at e1
    rw [xs_182_2]
    simp only [xs_182_3, xs_182_4, xs_182_5, xs_182_8, xs_182_10, xs_182_13, xs_182_16, H, sT_48, sT_49, sN_49, sA_49, sT_50, sN_50, sA_50, sT_51, sN_51, sA_51, sT_52, sN_52, sA_52, sT_53, sN_53, sA_53, sT_54, sN_54, sA_54, sT_55, sN_55, sA_55, sT_56, sN_56, sA_56, sT_57, sN_57, sA_57, sT_58, sN_58, sA_58, sT_59, sN_59, sA_59, sT_60, sN_60, sA_60, sT_61, sN_61, sA_61, sT_62, sN_62, sA_62, sT_63, sN_63, sA_63, sT_64, sN_64, sA_64, sT_65, sN_65, sA_65, sT_66, sN_66, sA_66, sT_67, sN_67, sA_67, sT_68, sN_68, sB_68, sT_69, sN_69, sA_69, sT_70, sN_70, sA_70, sT_71, sN_71, sA_71, sR_48_0, sR_48_2, sR_48_9, sR_48_10, sR_48_11, sR_48_20, sR_48_21, sR_48_22, sR_48_23, sR_48_24, sR_48_26, sR_48_27, sR_48_28, sR_48_29, sR_48_30, sR_48_31, sR_48_33, sR_48_34, sR_48_35, sR_48_36, sR_48_37, sR_48_38, sR_48_39, e1, nI_ne4 (show nth (tb g w) (g 24) i < 2 ^ 31 by omega), nI_1, rf_some, xc_int, xc_ref, xc_ret, xc_long, xw_nil, xw_int, xw_ref, xw_long, tl_some, tl_none, true_and, and_true, Nat.zero_le, Nat.reduceAdd, Nat.reduceMul, Nat.reduceLeDiff, Nat.reduceLT, Nat.reduceEqDiff, Nat.reducePow, Int32.reduceAdd, Int32.reduceMul, Int32.reduceSub, Int32.reduceLT, Int32.reduceLE, Int32.reduceToNatClampNeg, litE, ixU, not_false_eq_true, not_true_eq_false, ↓reduceIte, eq_self, true_or, or_true, false_and, and_false, or_false, false_or, i10, i01, in10, i1n, xbT, xbF, r_lt]
    exact hR)
  rw [show nI 0 = (0 : Int32) from rfl] at lp
  have e1 := fun Q => md_bridgeAt (d := d) (Q := Q) hg hw (show nb g w < 2 ^ 31 by omega) H hm
  rw [if_neg (by omega)] at e1
  have e44 : ((-4 : Int32) = -4) = True := eq_true rfl
  simp only [xs_182, xs_182_0, xs_182_1, rf_some, xc_int, xc_ref, xc_ret, xc_long, xw_nil, xw_int, xw_ref, xw_long, tl_some, tl_none, true_and, and_true, Nat.zero_le, Nat.reduceAdd, Nat.reduceMul, Nat.reduceLeDiff, Nat.reduceLT, Nat.reduceEqDiff, Nat.reducePow, Int32.reduceAdd, Int32.reduceMul, Int32.reduceSub, Int32.reduceLT, Int32.reduceLE, Int32.reduceToNatClampNeg, litE, ixU, not_false_eq_true, not_true_eq_false, ↓reduceIte, eq_self, true_or, or_true, false_and, and_false, or_false, false_or, i10, i01, in10, i1n, xbT, xbF, r_lt, lp]
  simp only [xs_182_2, xs_182_3, xs_182_4, xs_182_5, xs_182_8, xs_182_10, xs_182_19, xs_182_20, H, sT_48, sT_49, sN_49, sA_49, sT_50, sN_50, sA_50, sT_51, sN_51, sA_51, sT_52, sN_52, sA_52, sT_53, sN_53, sA_53, sT_54, sN_54, sA_54, sT_55, sN_55, sA_55, sT_56, sN_56, sA_56, sT_57, sN_57, sA_57, sT_58, sN_58, sA_58, sT_59, sN_59, sA_59, sT_60, sN_60, sA_60, sT_61, sN_61, sA_61, sT_62, sN_62, sA_62, sT_63, sN_63, sA_63, sT_64, sN_64, sA_64, sT_65, sN_65, sA_65, sT_66, sN_66, sA_66, sT_67, sN_67, sA_67, sT_68, sN_68, sB_68, sT_69, sN_69, sA_69, sT_70, sN_70, sA_70, sT_71, sN_71, sA_71, sR_48_0, sR_48_2, sR_48_9, sR_48_10, sR_48_11, sR_48_20, sR_48_21, sR_48_22, sR_48_23, sR_48_24, sR_48_26, sR_48_27, sR_48_28, sR_48_29, sR_48_30, sR_48_31, sR_48_33, sR_48_34, sR_48_35, sR_48_36, sR_48_37, sR_48_38, sR_48_39, e1, e44, rf_some, xc_int, xc_ref, xc_ret, xc_long, xw_nil, xw_int, xw_ref, xw_long, tl_some, tl_none, true_and, and_true, Nat.zero_le, Nat.reduceAdd, Nat.reduceMul, Nat.reduceLeDiff, Nat.reduceLT, Nat.reduceEqDiff, Nat.reducePow, Int32.reduceAdd, Int32.reduceMul, Int32.reduceSub, Int32.reduceLT, Int32.reduceLE, Int32.reduceToNatClampNeg, litE, ixU, not_false_eq_true, not_true_eq_false, ↓reduceIte, eq_self, true_or, or_true, false_and, and_false, or_false, false_or, i10, i01, in10, i1n, xbT, xbF, r_lt]
theorem b_xb (t : Bool) : (t = true) ∨ (t = false) := by cases t <;> simp
theorem md_weighs {g : Nat → Nat} {N p v : Nat} (hg : pg_ok g) (hN : N ≤ 5) (hp : p < g 31) (hv : v < 2 ^ 31) (H : sh h) (hm : mp h 0 g) : xe_C (d + 6) 183 [.ref 48, .int (nI p), .int (nI v), .int (nI N)] h (fun r h' => r = some (.long (lN (wv g (g (26 + 2 * p)) N (g (25 + 2 * p)) (gr g) (decide (g (25 + 2 * p) = g (26 + 2 * p))) v))) ∧ wr (fun a _ => a = 56) h h') := by
  have h24 : g 24 ≤ 6 := hg.1
  have h31 : g 31 ≤ 3 := hg.2.1
  have h35 : g 35 ≤ 5 := hg.2.2.2.2.2.2.2.1
  obtain ⟨hpl, hgo⟩ := hg.2.2.2.2.2.2.2.2.2.2.2 p hp
  have HW : ∀ f, sh (mW h f) := fun f => by rw [mW_sh]; exact H
  have p6 : ∀ n, n ≤ 5 → 0 < 6 ^ n ∧ 6 ^ n ≤ 7776 := fun n hn => ⟨Nat.pow_pos (by omega), Nat.pow_le_pow_right (n := 6) (by omega) hn⟩
  have lp : ∀ r i w f th wt part l10 l11, i + r = N → (1 ≤ r → part = nI (6 ^ (r - 1))) → ro g f → w < g 35 → (th = false → ¬ w = g (26 + 2 * p)) → ∀ R, lN (wt * wv g (g (26 + 2 * p)) r w f th v) = R → xe_P (d + 5) 183 59 [.ref 48, .int (nI p), .int (nI v), .int (nI N), .int part, .int (nI w), .int (xb (th = true)), .long (lN wt), .retAddr 0, .int (nI i), l10, l11] [] (mW h f) (fun r h' => r = some (.long R) ∧ wr (fun a _ => a = 56) h h') := by
    intro r
    induction r with
    | zero =>
      intro i w f th wt part l10 l11 hi hpt hf hw hth R hR
      have : i = N := by omega
      subst this
      rw [wv] at hR
      cases th with
      | true =>
        simp only [↓reduceIte, Nat.mul_one] at hR
        simp only [xs_183_59, xs_183_61, xs_183_62, xs_183_208, xs_183_210, xs_183_213, xs_183_215, xs_183_218, xs_183_219, le_t, rf_some, xc_int, xc_ref, xc_ret, xc_long, xw_nil, xw_int, xw_ref, xw_long, tl_some, tl_none, true_and, and_true, Nat.zero_le, Nat.reduceAdd, Nat.reduceMul, Nat.reduceLeDiff, Nat.reduceLT, Nat.reduceEqDiff, Nat.reducePow, Int32.reduceAdd, Int32.reduceMul, Int32.reduceSub, Int32.reduceLT, Int32.reduceLE, Int32.reduceToNatClampNeg, litE, ixU, not_false_eq_true, not_true_eq_false, ↓reduceIte, eq_self, true_or, or_true, false_and, and_false, or_false, false_or, i10, i01, in10, i1n, xbT, xbF, r_lt]
        exact ⟨by rw [hR], mW_wr h f⟩
      | false =>
        simp only [Bool.false_eq_true, ↓reduceIte, Nat.mul_zero] at hR
        rw [show lN 0 = (0 : Int64) from rfl] at hR
        simp only [xs_183_59, xs_183_61, xs_183_62, xs_183_208, xs_183_210, xs_183_213, xs_183_215, xs_183_218, xs_183_219, le_t, rf_some, xc_int, xc_ref, xc_ret, xc_long, xw_nil, xw_int, xw_ref, xw_long, tl_some, tl_none, true_and, and_true, Nat.zero_le, Nat.reduceAdd, Nat.reduceMul, Nat.reduceLeDiff, Nat.reduceLT, Nat.reduceEqDiff, Nat.reducePow, Int32.reduceAdd, Int32.reduceMul, Int32.reduceSub, Int32.reduceLT, Int32.reduceLE, Int32.reduceToNatClampNeg, litE, ixU, not_false_eq_true, not_true_eq_false, ↓reduceIte, eq_self, true_or, or_true, false_and, and_false, or_false, false_or, i10, i01, in10, i1n, xbT, xbF, r_lt, xb_f (show ¬ (false = true) by decide)]
        exact ⟨by rw [hR], mW_wr h f⟩
    | succ r ih =>
      intro i w f th wt part l10 l11 hi hpt hf hw hth R hR
      have hpt' := hpt (by omega)
      rw [Nat.add_sub_cancel] at hpt'
      subst hpt'
      obtain ⟨s1, s2⟩ := p6 r (by omega)
      have e1 : (nI (6 ^ r) = 0) = False := eq_false (nI_ne0 (by omega) (by omega))
      have e2 : nI v / nI (6 ^ r) = nI (v / 6 ^ r) := pk_div hv s1 (by omega)
      have hq : v / 6 ^ r < 2 ^ 31 := Nat.lt_of_le_of_lt (Nat.div_le_self _ _) hv
      have e3 : nI (v / 6 ^ r) - nI (v / 6 ^ r) / 6 * 6 = nI (v / 6 ^ r % 6) := pk_rem (d := 6) hq (by omega) (by omega)
      have e6 : nI (6 ^ r) / 6 = nI (6 ^ r / 6) := pk_div (d := 6) (by omega) (by omega) (by omega)
      have hpt2 : 1 ≤ r → nI (6 ^ r / 6) = nI (6 ^ (r - 1)) := fun hr => by
        rw [show r = (r - 1) + 1 by omega, Nat.pow_succ, Nat.mul_div_cancel _ (by omega), Nat.add_sub_cancel]
      have hj6 : v / 6 ^ r % 6 < 6 := Nat.mod_lt _ (by omega)
      rw [wv] at hR
      generalize v / 6 ^ r % 6 = j at hR e3 hj6
      have hnb := nb_le hg w
      have mn := fun Q => md_manyAt (d := d + 2) (h := mW h f) (Q := Q) hg hw (HW f) (mp_W hm)
      have me := fun d Q => md_ends (d := d) (h := h) (Q := Q) H (ro_rp hf)
      rw [show (fun b => f b - 1) = gnf g f 0 from rfl] at me
      by_cases z : (th || decide (nb g w = 0)) = true
      · rw [if_pos z] at hR
        have rk := ro_gn hg hf (m := 0) (by omega)
        have ihn := ih (i + 1) w (gnf g f 0) th (wt * 60) (nI (6 ^ r / 6)) (.int (nI j)) (.int 0) (by omega) hpt2 rk hw hth R
        by_cases j0 : j = 0
        · rw [if_pos j0, ← Nat.mul_assoc] at hR
          subst j0
          have ihn := ihn hR
          have ew : lN wt * 60 = lN (wt * 60) := by rw [c60, lN_mul]
          cases th with
          | true =>
            rw [xs_183_59]
            simp only [xs_183_61, xs_183_62, xs_183_65, xs_183_66, xs_183_68, xs_183_69, xs_183_71, xs_183_72, xs_183_74, xs_183_76, xs_183_79, xs_183_80, xs_183_83, xs_183_84, xs_183_86, xs_183_89, xs_183_91, xs_183_93, xs_183_95, xs_183_98, xs_183_99, xs_183_102, xs_183_104, xs_183_107, xs_183_108, xs_183_109, xs_183_111, xs_183_113, xs_183_116, xs_183_119, xs_183_122, xs_183_124, xs_183_126, xs_183_127, xs_183_128, xs_183_129, xs_183_131, xs_183_133, xs_183_136, xs_183_137, xs_183_138, xs_183_140, xs_183_142, xs_183_145, xs_183_147, xs_183_150, xs_183_153, xs_183_154, xs_183_155, xs_183_157, xs_183_159, xs_183_162, xs_183_164, xs_183_167, xs_183_169, xs_183_170, xs_183_173, xs_183_175, xs_183_178, xs_183_180, xs_183_181, xs_183_182, xs_183_185, xs_183_188, xs_183_189, xs_183_192, xs_183_193, xs_183_195, xs_183_197, xs_183_199, xs_183_200, xs_183_202, xs_183_205, lt_f (show i < N by omega) (show N < 2 ^ 31 by omega), e1, e2, e3, e6, i60, show nI 0 = (0 : Int32) from rfl, HW, sT_48, sT_49, sN_49, sA_49, sT_50, sN_50, sA_50, sT_51, sN_51, sA_51, sT_52, sN_52, sA_52, sT_53, sN_53, sA_53, sT_54, sN_54, sA_54, sT_55, sN_55, sA_55, sT_56, sN_56, sA_56, sT_57, sN_57, sA_57, sT_58, sN_58, sA_58, sT_59, sN_59, sA_59, sT_60, sN_60, sA_60, sT_61, sN_61, sA_61, sT_62, sN_62, sA_62, sT_63, sN_63, sA_63, sT_64, sN_64, sA_64, sT_65, sN_65, sA_65, sT_66, sN_66, sA_66, sT_67, sN_67, sA_67, sT_68, sN_68, sB_68, sT_69, sN_69, sA_69, sT_70, sN_70, sA_70, sT_71, sN_71, sA_71, sR_48_0, sR_48_2, sR_48_9, sR_48_10, sR_48_11, sR_48_20, sR_48_21, sR_48_22, sR_48_23, sR_48_24, sR_48_26, sR_48_27, sR_48_28, sR_48_29, sR_48_30, sR_48_31, sR_48_33, sR_48_34, sR_48_35, sR_48_36, sR_48_37, sR_48_38, sR_48_39, me, ew, nI_1, rf_some, xc_int, xc_ref, xc_ret, xc_long, xw_nil, xw_int, xw_ref, xw_long, tl_some, tl_none, true_and, and_true, Nat.zero_le, Nat.reduceAdd, Nat.reduceMul, Nat.reduceLeDiff, Nat.reduceLT, Nat.reduceEqDiff, Nat.reducePow, Int32.reduceAdd, Int32.reduceMul, Int32.reduceSub, Int32.reduceLT, Int32.reduceLE, Int32.reduceToNatClampNeg, litE, ixU, not_false_eq_true, not_true_eq_false, ↓reduceIte, eq_self, true_or, or_true, false_and, and_false, or_false, false_or, i10, i01, in10, i1n, xbT, xbF, r_lt]
            rw [xb_t (show true = true from rfl)] at ihn
            exact ihn
          | false =>
            have hn : nb g w = 0 := by simpa using z
            have eg : (nI w = nI (g (26 + 2 * p))) = False := eq_false (by rw [nI_eq (by omega) (by omega)]; exact hth rfl)
            rw [hn, show nI 0 = (0 : Int32) from rfl] at mn
            rw [xb_f (show ¬ (false = true) by decide)] at ihn ⊢
            rw [xs_183_59]
            simp only [xs_183_61, xs_183_62, xs_183_65, xs_183_66, xs_183_68, xs_183_69, xs_183_71, xs_183_72, xs_183_74, xs_183_76, xs_183_79, xs_183_80, xs_183_83, xs_183_84, xs_183_86, xs_183_89, xs_183_91, xs_183_93, xs_183_95, xs_183_98, xs_183_99, xs_183_102, xs_183_104, xs_183_107, xs_183_108, xs_183_109, xs_183_111, xs_183_113, xs_183_116, xs_183_119, xs_183_122, xs_183_124, xs_183_126, xs_183_127, xs_183_128, xs_183_129, xs_183_131, xs_183_133, xs_183_136, xs_183_137, xs_183_138, xs_183_140, xs_183_142, xs_183_145, xs_183_147, xs_183_150, xs_183_153, xs_183_154, xs_183_155, xs_183_157, xs_183_159, xs_183_162, xs_183_164, xs_183_167, xs_183_169, xs_183_170, xs_183_173, xs_183_175, xs_183_178, xs_183_180, xs_183_181, xs_183_182, xs_183_185, xs_183_188, xs_183_189, xs_183_192, xs_183_193, xs_183_195, xs_183_197, xs_183_199, xs_183_200, xs_183_202, xs_183_205, lt_f (show i < N by omega) (show N < 2 ^ 31 by omega), e1, e2, e3, e6, i60, show nI 0 = (0 : Int32) from rfl, HW, sT_48, sT_49, sN_49, sA_49, sT_50, sN_50, sA_50, sT_51, sN_51, sA_51, sT_52, sN_52, sA_52, sT_53, sN_53, sA_53, sT_54, sN_54, sA_54, sT_55, sN_55, sA_55, sT_56, sN_56, sA_56, sT_57, sN_57, sA_57, sT_58, sN_58, sA_58, sT_59, sN_59, sA_59, sT_60, sN_60, sA_60, sT_61, sN_61, sA_61, sT_62, sN_62, sA_62, sT_63, sN_63, sA_63, sT_64, sN_64, sA_64, sT_65, sN_65, sA_65, sT_66, sN_66, sA_66, sT_67, sN_67, sA_67, sT_68, sN_68, sB_68, sT_69, sN_69, sA_69, sT_70, sN_70, sA_70, sT_71, sN_71, sA_71, sR_48_0, sR_48_2, sR_48_9, sR_48_10, sR_48_11, sR_48_20, sR_48_21, sR_48_22, sR_48_23, sR_48_24, sR_48_26, sR_48_27, sR_48_28, sR_48_29, sR_48_30, sR_48_31, sR_48_33, sR_48_34, sR_48_35, sR_48_36, sR_48_37, sR_48_38, sR_48_39, mn, me, ew, nI_1, md_goalW H hm hp (show p < 3 by omega), eg, rf_some, xc_int, xc_ref, xc_ret, xc_long, xw_nil, xw_int, xw_ref, xw_long, tl_some, tl_none, true_and, and_true, Nat.zero_le, Nat.reduceAdd, Nat.reduceMul, Nat.reduceLeDiff, Nat.reduceLT, Nat.reduceEqDiff, Nat.reducePow, Int32.reduceAdd, Int32.reduceMul, Int32.reduceSub, Int32.reduceLT, Int32.reduceLE, Int32.reduceToNatClampNeg, litE, ixU, not_false_eq_true, not_true_eq_false, ↓reduceIte, eq_self, true_or, or_true, false_and, and_false, or_false, false_or, i10, i01, in10, i1n, xbT, xbF, r_lt]
            exact ihn
        · rw [if_neg j0, Nat.mul_zero, show lN 0 = (0 : Int64) from rfl] at hR
          have ej : (nI j < 1) = False := eq_false (by rw [nI1, nI_ltI (by omega) (by decide)]; omega)
          cases th with
          | true =>
            rw [xs_183_59]
            simp only [xs_183_61, xs_183_62, xs_183_65, xs_183_66, xs_183_68, xs_183_69, xs_183_71, xs_183_72, xs_183_74, xs_183_76, xs_183_79, xs_183_80, xs_183_83, xs_183_84, xs_183_86, xs_183_89, xs_183_91, xs_183_93, xs_183_95, xs_183_98, xs_183_99, xs_183_102, xs_183_104, xs_183_107, xs_183_108, lt_f (show i < N by omega) (show N < 2 ^ 31 by omega), e1, e2, e3, i60, ej, rf_some, xc_int, xc_ref, xc_ret, xc_long, xw_nil, xw_int, xw_ref, xw_long, tl_some, tl_none, true_and, and_true, Nat.zero_le, Nat.reduceAdd, Nat.reduceMul, Nat.reduceLeDiff, Nat.reduceLT, Nat.reduceEqDiff, Nat.reducePow, Int32.reduceAdd, Int32.reduceMul, Int32.reduceSub, Int32.reduceLT, Int32.reduceLE, Int32.reduceToNatClampNeg, litE, ixU, not_false_eq_true, not_true_eq_false, ↓reduceIte, eq_self, true_or, or_true, false_and, and_false, or_false, false_or, i10, i01, in10, i1n, xbT, xbF, r_lt]
            exact ⟨by rw [hR], mW_wr h f⟩
          | false =>
            have hn : nb g w = 0 := by simpa using z
            rw [hn, show nI 0 = (0 : Int32) from rfl] at mn
            rw [xb_f (show ¬ (false = true) by decide), xs_183_59]
            simp only [xs_183_61, xs_183_62, xs_183_65, xs_183_66, xs_183_68, xs_183_69, xs_183_71, xs_183_72, xs_183_74, xs_183_76, xs_183_79, xs_183_80, xs_183_83, xs_183_84, xs_183_86, xs_183_89, xs_183_91, xs_183_93, xs_183_95, xs_183_98, xs_183_99, xs_183_102, xs_183_104, xs_183_107, xs_183_108, lt_f (show i < N by omega) (show N < 2 ^ 31 by omega), e1, e2, e3, i60, ej, HW, sT_48, sT_49, sN_49, sA_49, sT_50, sN_50, sA_50, sT_51, sN_51, sA_51, sT_52, sN_52, sA_52, sT_53, sN_53, sA_53, sT_54, sN_54, sA_54, sT_55, sN_55, sA_55, sT_56, sN_56, sA_56, sT_57, sN_57, sA_57, sT_58, sN_58, sA_58, sT_59, sN_59, sA_59, sT_60, sN_60, sA_60, sT_61, sN_61, sA_61, sT_62, sN_62, sA_62, sT_63, sN_63, sA_63, sT_64, sN_64, sA_64, sT_65, sN_65, sA_65, sT_66, sN_66, sA_66, sT_67, sN_67, sA_67, sT_68, sN_68, sB_68, sT_69, sN_69, sA_69, sT_70, sN_70, sA_70, sT_71, sN_71, sA_71, sR_48_0, sR_48_2, sR_48_9, sR_48_10, sR_48_11, sR_48_20, sR_48_21, sR_48_22, sR_48_23, sR_48_24, sR_48_26, sR_48_27, sR_48_28, sR_48_29, sR_48_30, sR_48_31, sR_48_33, sR_48_34, sR_48_35, sR_48_36, sR_48_37, sR_48_38, sR_48_39, mn, rf_some, xc_int, xc_ref, xc_ret, xc_long, xw_nil, xw_int, xw_ref, xw_long, tl_some, tl_none, true_and, and_true, Nat.zero_le, Nat.reduceAdd, Nat.reduceMul, Nat.reduceLeDiff, Nat.reduceLT, Nat.reduceEqDiff, Nat.reducePow, Int32.reduceAdd, Int32.reduceMul, Int32.reduceSub, Int32.reduceLT, Int32.reduceLE, Int32.reduceToNatClampNeg, litE, ixU, not_false_eq_true, not_true_eq_false, ↓reduceIte, eq_self, true_or, or_true, false_and, and_false, or_false, false_or, i10, i01, in10, i1n, xbT, xbF, r_lt]
            exact ⟨by rw [hR], mW_wr h f⟩
      · have hth' : th = false := by cases th with
          | true => simp at z
          | false => rfl
        subst hth'
        have hn : ¬ nb g w = 0 := by simpa using z
        rw [if_neg z] at hR
        have en0 : (nI (nb g w) = 0) = False := by rw [nIe0 (by omega)]; exact eq_false hn
        have en1 : (nI (nb g w) ≤ 0) = False := by rw [nIle0 (by omega)]; exact eq_false (by omega)
        rw [xb_f (show ¬ (false = true) by decide)]
        by_cases jm : j < nb g w
        · rw [if_pos jm, ← Nat.mul_assoc] at hR
          have ej : (nI j < nI (nb g w)) = True := eq_true (in_lt (by omega) jm)
          obtain ⟨t1, t2, t3⟩ := nth_ok (p := tb g w) (n := g 24) jm
          have ba := fun Q => md_bridgeAt (d := d + 3) (h := mW h f) (Q := Q) hg hw (show j < 2 ^ 31 by omega) (HW f) (mp_W hm)
          rw [if_pos jm] at ba
          generalize nth (tb g w) (g 24) j = b at t1 t2 t3 hR ba
          have tt : g (4 * b) = w ∨ g (4 * b + 1) = w := of_decide_eq_true t2
          have hlm : lm f b ≤ g 24 := by unfold lm; split <;> omega
          have ecm : cm g f w (lm f b) := by
            unfold lm
            split
            · rename_i q
              exact (cm_cross t1).mpr ⟨q, tt⟩
            · exact Or.inl rfl
          have hpa := pa_lt hg hw ecm
          have e60 : (60 : Int32) / nI (nb g w) = nI (60 / nb g w) := pk_div (a := 60) (by decide) (by omega) (by omega)
          have e61 : (nI (60 / nb g w)).toInt64 = lN (60 / nb g w) := nI_l (Nat.lt_of_le_of_lt (Nat.div_le_self _ _) (by omega))
          have ihn := ih (i + 1) (pa g w (lm f b)) (gnf g f (lm f b)) (decide (pa g w (lm f b) = g (26 + 2 * p))) (wt * (60 / nb g w)) (nI (6 ^ r / 6)) (.int (nI j)) (.int (nI (nb g w))) (by omega) hpt2 (ro_gn hg hf hlm) hpa (fun q => of_decide_eq_false q) R hR
          have me2 := fun d Q => md_ends (d := d) (h := h) (Q := Q) H (ra_ok hg (ro_rp hf) (lm f b))
          rw [show (fun c => ra g f (lm f b) c - 1) = gnf g f (lm f b) from rfl] at me2
          have tail : xe_P (d + 5) 183 169 [.ref 48, .int (nI p), .int (nI v), .int (nI N), .int (nI (6 ^ r)), .int (nI (pa g w (lm f b))), .int 0, .long (lN (wt * (60 / nb g w))), .retAddr 0, .int (nI i), .int (nI j), .int (nI (nb g w))] [] (mW h (ra g f (lm f b))) (fun r h' => r = some (.long R) ∧ wr (fun a _ => a = 56) h h') := by
            by_cases q : pa g w (lm f b) = g (26 + 2 * p)
            · have eg : (nI (pa g w (lm f b)) = nI (g (26 + 2 * p))) = True := eq_true (by rw [q])
              rw [decide_eq_true q, xb_t (show true = true from rfl)] at ihn
              simp only [xs_183_169, xs_183_170, xs_183_173, xs_183_175, xs_183_178, xs_183_180, xs_183_181, xs_183_182, xs_183_185, xs_183_188, xs_183_189, xs_183_192, xs_183_193, xs_183_195, xs_183_197, xs_183_199, xs_183_200, xs_183_202, xs_183_205, HW, sT_48, sT_49, sN_49, sA_49, sT_50, sN_50, sA_50, sT_51, sN_51, sA_51, sT_52, sN_52, sA_52, sT_53, sN_53, sA_53, sT_54, sN_54, sA_54, sT_55, sN_55, sA_55, sT_56, sN_56, sA_56, sT_57, sN_57, sA_57, sT_58, sN_58, sA_58, sT_59, sN_59, sA_59, sT_60, sN_60, sA_60, sT_61, sN_61, sA_61, sT_62, sN_62, sA_62, sT_63, sN_63, sA_63, sT_64, sN_64, sA_64, sT_65, sN_65, sA_65, sT_66, sN_66, sA_66, sT_67, sN_67, sA_67, sT_68, sN_68, sB_68, sT_69, sN_69, sA_69, sT_70, sN_70, sA_70, sT_71, sN_71, sA_71, sR_48_0, sR_48_2, sR_48_9, sR_48_10, sR_48_11, sR_48_20, sR_48_21, sR_48_22, sR_48_23, sR_48_24, sR_48_26, sR_48_27, sR_48_28, sR_48_29, sR_48_30, sR_48_31, sR_48_33, sR_48_34, sR_48_35, sR_48_36, sR_48_37, sR_48_38, sR_48_39, me2, md_goalW H hm hp (show p < 3 by omega), eg, e6, i60, nI_1, rf_some, xc_int, xc_ref, xc_ret, xc_long, xw_nil, xw_int, xw_ref, xw_long, tl_some, tl_none, true_and, and_true, Nat.zero_le, Nat.reduceAdd, Nat.reduceMul, Nat.reduceLeDiff, Nat.reduceLT, Nat.reduceEqDiff, Nat.reducePow, Int32.reduceAdd, Int32.reduceMul, Int32.reduceSub, Int32.reduceLT, Int32.reduceLE, Int32.reduceToNatClampNeg, litE, ixU, not_false_eq_true, not_true_eq_false, ↓reduceIte, eq_self, true_or, or_true, false_and, and_false, or_false, false_or, i10, i01, in10, i1n, xbT, xbF, r_lt]
              exact ihn
            · have eg : (nI (pa g w (lm f b)) = nI (g (26 + 2 * p))) = False := eq_false (by rw [nI_eq (by omega) (by omega)]; exact q)
              rw [decide_eq_false q, xb_f (show ¬ (false = true) by decide)] at ihn
              simp only [xs_183_169, xs_183_170, xs_183_173, xs_183_175, xs_183_178, xs_183_180, xs_183_181, xs_183_182, xs_183_185, xs_183_188, xs_183_189, xs_183_192, xs_183_193, xs_183_195, xs_183_197, xs_183_199, xs_183_200, xs_183_202, xs_183_205, HW, sT_48, sT_49, sN_49, sA_49, sT_50, sN_50, sA_50, sT_51, sN_51, sA_51, sT_52, sN_52, sA_52, sT_53, sN_53, sA_53, sT_54, sN_54, sA_54, sT_55, sN_55, sA_55, sT_56, sN_56, sA_56, sT_57, sN_57, sA_57, sT_58, sN_58, sA_58, sT_59, sN_59, sA_59, sT_60, sN_60, sA_60, sT_61, sN_61, sA_61, sT_62, sN_62, sA_62, sT_63, sN_63, sA_63, sT_64, sN_64, sA_64, sT_65, sN_65, sA_65, sT_66, sN_66, sA_66, sT_67, sN_67, sA_67, sT_68, sN_68, sB_68, sT_69, sN_69, sA_69, sT_70, sN_70, sA_70, sT_71, sN_71, sA_71, sR_48_0, sR_48_2, sR_48_9, sR_48_10, sR_48_11, sR_48_20, sR_48_21, sR_48_22, sR_48_23, sR_48_24, sR_48_26, sR_48_27, sR_48_28, sR_48_29, sR_48_30, sR_48_31, sR_48_33, sR_48_34, sR_48_35, sR_48_36, sR_48_37, sR_48_38, sR_48_39, me2, md_goalW H hm hp (show p < 3 by omega), eg, e6, i60, nI_1, rf_some, xc_int, xc_ref, xc_ret, xc_long, xw_nil, xw_int, xw_ref, xw_long, tl_some, tl_none, true_and, and_true, Nat.zero_le, Nat.reduceAdd, Nat.reduceMul, Nat.reduceLeDiff, Nat.reduceLT, Nat.reduceEqDiff, Nat.reducePow, Int32.reduceAdd, Int32.reduceMul, Int32.reduceSub, Int32.reduceLT, Int32.reduceLE, Int32.reduceToNatClampNeg, litE, ixU, not_false_eq_true, not_true_eq_false, ↓reduceIte, eq_self, true_or, or_true, false_and, and_false, or_false, false_or, i10, i01, in10, i1n, xbT, xbF, r_lt]
              exact ihn
          rw [xs_183_59]
          simp only [xs_183_61, xs_183_62, xs_183_65, xs_183_66, xs_183_68, xs_183_69, xs_183_71, xs_183_72, xs_183_74, xs_183_76, xs_183_79, xs_183_80, xs_183_83, xs_183_84, xs_183_86, xs_183_89, xs_183_91, xs_183_93, xs_183_95, xs_183_98, xs_183_99, xs_183_102, xs_183_104, xs_183_107, xs_183_108, xs_183_109, xs_183_111, xs_183_113, xs_183_116, xs_183_119, xs_183_122, xs_183_124, xs_183_126, xs_183_127, xs_183_128, xs_183_129, xs_183_131, xs_183_133, xs_183_136, xs_183_137, xs_183_138, xs_183_140, xs_183_142, xs_183_145, xs_183_147, lt_f (show i < N by omega) (show N < 2 ^ 31 by omega), e1, e2, e3, i60, en0, en1, ej, e60, e61, lN_mul, HW, sT_48, sT_49, sN_49, sA_49, sT_50, sN_50, sA_50, sT_51, sN_51, sA_51, sT_52, sN_52, sA_52, sT_53, sN_53, sA_53, sT_54, sN_54, sA_54, sT_55, sN_55, sA_55, sT_56, sN_56, sA_56, sT_57, sN_57, sA_57, sT_58, sN_58, sA_58, sT_59, sN_59, sA_59, sT_60, sN_60, sA_60, sT_61, sN_61, sA_61, sT_62, sN_62, sA_62, sT_63, sN_63, sA_63, sT_64, sN_64, sA_64, sT_65, sN_65, sA_65, sT_66, sN_66, sA_66, sT_67, sN_67, sA_67, sT_68, sN_68, sB_68, sT_69, sN_69, sA_69, sT_70, sN_70, sA_70, sT_71, sN_71, sA_71, sR_48_0, sR_48_2, sR_48_9, sR_48_10, sR_48_11, sR_48_20, sR_48_21, sR_48_22, sR_48_23, sR_48_24, sR_48_26, sR_48_27, sR_48_28, sR_48_29, sR_48_30, sR_48_31, sR_48_33, sR_48_34, sR_48_35, sR_48_36, sR_48_37, sR_48_38, sR_48_39, mn, ba, rf_some, xc_int, xc_ref, xc_ret, xc_long, xw_nil, xw_int, xw_ref, xw_long, tl_some, tl_none, true_and, and_true, Nat.zero_le, Nat.reduceAdd, Nat.reduceMul, Nat.reduceLeDiff, Nat.reduceLT, Nat.reduceEqDiff, Nat.reducePow, Int32.reduceAdd, Int32.reduceMul, Int32.reduceSub, Int32.reduceLT, Int32.reduceLE, Int32.reduceToNatClampNeg, litE, ixU, not_false_eq_true, not_true_eq_false, ↓reduceIte, eq_self, true_or, or_true, false_and, and_false, or_false, false_or, i10, i01, in10, i1n, xbT, xbF, r_lt]
          rw [md_canCross (d := d + 4) H hm hg (ro_rp hf) t1 (show w < 2 ^ 31 by omega)]
          by_cases q : f b = 0
          · have el : lm f b = b + 1 := if_pos q
            rw [xb_t (show f b = 0 ∧ (g (4 * b) = w ∨ g (4 * b + 1) = w) from ⟨q, tt⟩)]
            simp only [xs_183_150, xs_183_153, xs_183_154, xs_183_155, xs_183_157, xs_183_159, xs_183_162, xs_183_164, HW, sT_48, sT_49, sN_49, sA_49, sT_50, sN_50, sA_50, sT_51, sN_51, sA_51, sT_52, sN_52, sA_52, sT_53, sN_53, sA_53, sT_54, sN_54, sA_54, sT_55, sN_55, sA_55, sT_56, sN_56, sA_56, sT_57, sN_57, sA_57, sT_58, sN_58, sA_58, sT_59, sN_59, sA_59, sT_60, sN_60, sA_60, sT_61, sN_61, sA_61, sT_62, sN_62, sA_62, sT_63, sN_63, sA_63, sT_64, sN_64, sA_64, sT_65, sN_65, sA_65, sT_66, sN_66, sA_66, sT_67, sN_67, sA_67, sT_68, sN_68, sB_68, sT_69, sN_69, sA_69, sT_70, sN_70, sA_70, sT_71, sN_71, sA_71, sR_48_0, sR_48_2, sR_48_9, sR_48_10, sR_48_11, sR_48_20, sR_48_21, sR_48_22, sR_48_23, sR_48_24, sR_48_26, sR_48_27, sR_48_28, sR_48_29, sR_48_30, sR_48_31, sR_48_33, sR_48_34, sR_48_35, sR_48_36, sR_48_37, sR_48_38, sR_48_39, ba, rf_some, xc_int, xc_ref, xc_ret, xc_long, xw_nil, xw_int, xw_ref, xw_long, tl_some, tl_none, true_and, and_true, Nat.zero_le, Nat.reduceAdd, Nat.reduceMul, Nat.reduceLeDiff, Nat.reduceLT, Nat.reduceEqDiff, Nat.reducePow, Int32.reduceAdd, Int32.reduceMul, Int32.reduceSub, Int32.reduceLT, Int32.reduceLE, Int32.reduceToNatClampNeg, litE, ixU, not_false_eq_true, not_true_eq_false, ↓reduceIte, eq_self, true_or, or_true, false_and, and_false, or_false, false_or, i10, i01, in10, i1n, xbT, xbF, r_lt]
            rw [md_crosses (d := d + 1) H hm hg t1 (show w < 2 ^ 31 by omega)]
            simp only [xs_183_167, rf_some, xc_int, xc_ref, xc_ret, xc_long, xw_nil, xw_int, xw_ref, xw_long, tl_some, tl_none, true_and, and_true, Nat.zero_le, Nat.reduceAdd, Nat.reduceMul, Nat.reduceLeDiff, Nat.reduceLT, Nat.reduceEqDiff, Nat.reducePow, Int32.reduceAdd, Int32.reduceMul, Int32.reduceSub, Int32.reduceLT, Int32.reduceLE, Int32.reduceToNatClampNeg, litE, ixU, not_false_eq_true, not_true_eq_false, ↓reduceIte, eq_self, true_or, or_true, false_and, and_false, or_false, false_or, i10, i01, in10, i1n, xbT, xbF, r_lt]
            rw [el] at tail
            exact tail
          · have el : lm f b = 0 := if_neg q
            rw [xb_f (show ¬ (f b = 0 ∧ (g (4 * b) = w ∨ g (4 * b + 1) = w)) from fun y => q y.1)]
            simp only [xs_183_150, rf_some, xc_int, xc_ref, xc_ret, xc_long, xw_nil, xw_int, xw_ref, xw_long, tl_some, tl_none, true_and, and_true, Nat.zero_le, Nat.reduceAdd, Nat.reduceMul, Nat.reduceLeDiff, Nat.reduceLT, Nat.reduceEqDiff, Nat.reducePow, Int32.reduceAdd, Int32.reduceMul, Int32.reduceSub, Int32.reduceLT, Int32.reduceLE, Int32.reduceToNatClampNeg, litE, ixU, not_false_eq_true, not_true_eq_false, ↓reduceIte, eq_self, true_or, or_true, false_and, and_false, or_false, false_or, i10, i01, in10, i1n, xbT, xbF, r_lt]
            rw [el, show pa g w 0 = w from if_pos rfl, show ra g f 0 = f from if_pos rfl] at tail
            exact tail
        · rw [if_neg jm, Nat.mul_zero, show lN 0 = (0 : Int64) from rfl] at hR
          have ej : (nI j < nI (nb g w)) = False := eq_false (by rw [nI_ltI (by omega) (by omega)]; exact jm)
          rw [xs_183_59]
          simp only [xs_183_61, xs_183_62, xs_183_65, xs_183_66, xs_183_68, xs_183_69, xs_183_71, xs_183_72, xs_183_74, xs_183_76, xs_183_79, xs_183_80, xs_183_83, xs_183_84, xs_183_86, xs_183_89, xs_183_91, xs_183_93, xs_183_95, xs_183_98, xs_183_99, xs_183_102, xs_183_104, xs_183_107, xs_183_108, lt_f (show i < N by omega) (show N < 2 ^ 31 by omega), e1, e2, e3, i60, en0, ej, HW, sT_48, sT_49, sN_49, sA_49, sT_50, sN_50, sA_50, sT_51, sN_51, sA_51, sT_52, sN_52, sA_52, sT_53, sN_53, sA_53, sT_54, sN_54, sA_54, sT_55, sN_55, sA_55, sT_56, sN_56, sA_56, sT_57, sN_57, sA_57, sT_58, sN_58, sA_58, sT_59, sN_59, sA_59, sT_60, sN_60, sA_60, sT_61, sN_61, sA_61, sT_62, sN_62, sA_62, sT_63, sN_63, sA_63, sT_64, sN_64, sA_64, sT_65, sN_65, sA_65, sT_66, sN_66, sA_66, sT_67, sN_67, sA_67, sT_68, sN_68, sB_68, sT_69, sN_69, sA_69, sT_70, sN_70, sA_70, sT_71, sN_71, sA_71, sR_48_0, sR_48_2, sR_48_9, sR_48_10, sR_48_11, sR_48_20, sR_48_21, sR_48_22, sR_48_23, sR_48_24, sR_48_26, sR_48_27, sR_48_28, sR_48_29, sR_48_30, sR_48_31, sR_48_33, sR_48_34, sR_48_35, sR_48_36, sR_48_37, sR_48_38, sR_48_39, mn, rf_some, xc_int, xc_ref, xc_ret, xc_long, xw_nil, xw_int, xw_ref, xw_long, tl_some, tl_none, true_and, and_true, Nat.zero_le, Nat.reduceAdd, Nat.reduceMul, Nat.reduceLeDiff, Nat.reduceLT, Nat.reduceEqDiff, Nat.reducePow, Int32.reduceAdd, Int32.reduceMul, Int32.reduceSub, Int32.reduceLT, Int32.reduceLE, Int32.reduceToNatClampNeg, litE, ixU, not_false_eq_true, not_true_eq_false, ↓reduceIte, eq_self, true_or, or_true, false_and, and_false, or_false, false_or, i10, i01, in10, i1n, xbT, xbF, r_lt]
          exact ⟨by rw [hR], mW_wr h f⟩
  have la := it_eq (F := fun i => xe_P (d + 5) 183 6 [.ref 48, .int (nI p), .int (nI v), .int (nI N), .int (nI (6 ^ i)), .int (nI (i + 1)), .retAddr 0, .retAddr 0, .retAddr 0, .retAddr 0, .retAddr 0, .retAddr 0] [] h (fun r h' => r = some (.long (lN (wv g (g (26 + 2 * p)) N (g (25 + 2 * p)) (gr g) (decide (g (25 + 2 * p) = g (26 + 2 * p))) v))) ∧ wr (fun a _ => a = 56) h h')) (N - 1) (by
    intro i hi R hR
    have e5 : nI (6 ^ i) * 6 = nI (6 ^ (i + 1)) := by rw [nI6, pk_mul, Nat.pow_succ]
    rw [xs_183_6]
    simp only [xs_183_8, xs_183_9, xs_183_12, xs_183_14, xs_183_16, xs_183_17, xs_183_19, xs_183_22, lt_f (show i + 1 < N by omega) (show N < 2 ^ 31 by omega), e5, nI_1, rf_some, xc_int, xc_ref, xc_ret, xc_long, xw_nil, xw_int, xw_ref, xw_long, tl_some, tl_none, true_and, and_true, Nat.zero_le, Nat.reduceAdd, Nat.reduceMul, Nat.reduceLeDiff, Nat.reduceLT, Nat.reduceEqDiff, Nat.reducePow, Int32.reduceAdd, Int32.reduceMul, Int32.reduceSub, Int32.reduceLT, Int32.reduceLE, Int32.reduceToNatClampNeg, litE, ixU, not_false_eq_true, not_true_eq_false, ↓reduceIte, eq_self, true_or, or_true, false_and, and_false, or_false, false_or, i10, i01, in10, i1n, xbT, xbF, r_lt]
    exact hR)
  rw [Nat.pow_zero, show nI 1 = (1 : Int32) from rfl] at la
  have en : (nI N ≤ nI (N - 1 + 1)) = True := eq_true (by rw [nI_leI (by omega) (by omega)]; omega)
  have l0 := lp N 0 (g (25 + 2 * p)) (gr g) (decide (g (25 + 2 * p) = g (26 + 2 * p))) 1 (nI (6 ^ (N - 1))) (.retAddr 0) (.retAddr 0) (by omega) (fun _ => rfl) (ro_g hg) hpl (fun q => of_decide_eq_false q) _ (by rw [Nat.one_mul])
  rw [show lN 1 = (1 : Int64) from rfl, show nI 0 = (0 : Int32) from rfl] at l0
  simp only [xs_183, xs_183_0, xs_183_1, xs_183_3, xs_183_4, rf_some, xc_int, xc_ref, xc_ret, xc_long, xw_nil, xw_int, xw_ref, xw_long, tl_some, tl_none, true_and, and_true, Nat.zero_le, Nat.reduceAdd, Nat.reduceMul, Nat.reduceLeDiff, Nat.reduceLT, Nat.reduceEqDiff, Nat.reducePow, Int32.reduceAdd, Int32.reduceMul, Int32.reduceSub, Int32.reduceLT, Int32.reduceLE, Int32.reduceToNatClampNeg, litE, ixU, not_false_eq_true, not_true_eq_false, ↓reduceIte, eq_self, true_or, or_true, false_and, and_false, or_false, false_or, i10, i01, in10, i1n, xbT, xbF, r_lt, la]
  by_cases q : g (25 + 2 * p) = g (26 + 2 * p)
  · have eg : (nI (g (25 + 2 * p)) = nI (g (26 + 2 * p))) = True := eq_true (by rw [q])
    rw [xb_t (show decide (g (25 + 2 * p) = g (26 + 2 * p)) = true from decide_eq_true q)] at l0
    simp only [xs_183_6, xs_183_8, xs_183_9, xs_183_25, xs_183_26, xs_183_27, xs_183_30, xs_183_32, xs_183_34, xs_183_35, xs_183_36, xs_183_39, xs_183_42, xs_183_43, xs_183_46, xs_183_47, xs_183_49, xs_183_50, xs_183_52, xs_183_53, xs_183_56, xs_183_57, en, H, sT_48, sT_49, sN_49, sA_49, sT_50, sN_50, sA_50, sT_51, sN_51, sA_51, sT_52, sN_52, sA_52, sT_53, sN_53, sA_53, sT_54, sN_54, sA_54, sT_55, sN_55, sA_55, sT_56, sN_56, sA_56, sT_57, sN_57, sA_57, sT_58, sN_58, sA_58, sT_59, sN_59, sA_59, sT_60, sN_60, sA_60, sT_61, sN_61, sA_61, sT_62, sN_62, sA_62, sT_63, sN_63, sA_63, sT_64, sN_64, sA_64, sT_65, sN_65, sA_65, sT_66, sN_66, sA_66, sT_67, sN_67, sA_67, sT_68, sN_68, sB_68, sT_69, sN_69, sA_69, sT_70, sN_70, sA_70, sT_71, sN_71, sA_71, sR_48_0, sR_48_2, sR_48_9, sR_48_10, sR_48_11, sR_48_20, sR_48_21, sR_48_22, sR_48_23, sR_48_24, sR_48_26, sR_48_27, sR_48_28, sR_48_29, sR_48_30, sR_48_31, sR_48_33, sR_48_34, sR_48_35, sR_48_36, sR_48_37, sR_48_38, sR_48_39, md_placeG H hm hp (show p < 3 by omega), md_goalG H hm hp (show p < 3 by omega), eg, md_now H hm, rf_some, xc_int, xc_ref, xc_ret, xc_long, xw_nil, xw_int, xw_ref, xw_long, tl_some, tl_none, true_and, and_true, Nat.zero_le, Nat.reduceAdd, Nat.reduceMul, Nat.reduceLeDiff, Nat.reduceLT, Nat.reduceEqDiff, Nat.reducePow, Int32.reduceAdd, Int32.reduceMul, Int32.reduceSub, Int32.reduceLT, Int32.reduceLE, Int32.reduceToNatClampNeg, litE, ixU, not_false_eq_true, not_true_eq_false, ↓reduceIte, eq_self, true_or, or_true, false_and, and_false, or_false, false_or, i10, i01, in10, i1n, xbT, xbF, r_lt]
    exact l0
  · have eg : (nI (g (25 + 2 * p)) = nI (g (26 + 2 * p))) = False := eq_false (by rw [nI_eq (by omega) (by omega)]; exact q)
    rw [xb_f (show ¬ decide (g (25 + 2 * p) = g (26 + 2 * p)) = true by rw [decide_eq_false q]; decide)] at l0
    simp only [xs_183_6, xs_183_8, xs_183_9, xs_183_25, xs_183_26, xs_183_27, xs_183_30, xs_183_32, xs_183_34, xs_183_35, xs_183_36, xs_183_39, xs_183_42, xs_183_43, xs_183_46, xs_183_47, xs_183_49, xs_183_50, xs_183_52, xs_183_53, xs_183_56, xs_183_57, en, H, sT_48, sT_49, sN_49, sA_49, sT_50, sN_50, sA_50, sT_51, sN_51, sA_51, sT_52, sN_52, sA_52, sT_53, sN_53, sA_53, sT_54, sN_54, sA_54, sT_55, sN_55, sA_55, sT_56, sN_56, sA_56, sT_57, sN_57, sA_57, sT_58, sN_58, sA_58, sT_59, sN_59, sA_59, sT_60, sN_60, sA_60, sT_61, sN_61, sA_61, sT_62, sN_62, sA_62, sT_63, sN_63, sA_63, sT_64, sN_64, sA_64, sT_65, sN_65, sA_65, sT_66, sN_66, sA_66, sT_67, sN_67, sA_67, sT_68, sN_68, sB_68, sT_69, sN_69, sA_69, sT_70, sN_70, sA_70, sT_71, sN_71, sA_71, sR_48_0, sR_48_2, sR_48_9, sR_48_10, sR_48_11, sR_48_20, sR_48_21, sR_48_22, sR_48_23, sR_48_24, sR_48_26, sR_48_27, sR_48_28, sR_48_29, sR_48_30, sR_48_31, sR_48_33, sR_48_34, sR_48_35, sR_48_36, sR_48_37, sR_48_38, sR_48_39, md_placeG H hm hp (show p < 3 by omega), md_goalG H hm hp (show p < 3 by omega), eg, md_now H hm, rf_some, xc_int, xc_ref, xc_ret, xc_long, xw_nil, xw_int, xw_ref, xw_long, tl_some, tl_none, true_and, and_true, Nat.zero_le, Nat.reduceAdd, Nat.reduceMul, Nat.reduceLeDiff, Nat.reduceLT, Nat.reduceEqDiff, Nat.reducePow, Int32.reduceAdd, Int32.reduceMul, Int32.reduceSub, Int32.reduceLT, Int32.reduceLE, Int32.reduceToNatClampNeg, litE, ixU, not_false_eq_true, not_true_eq_false, ↓reduceIte, eq_self, true_or, or_true, false_and, and_false, or_false, false_or, i10, i01, in10, i1n, xbT, xbF, r_lt]
    exact l0
end LV
