/-! rigs: the walk of what the next look tells -/
def stp (hd : Nat) (f : Nat → Nat) (x c : Nat) : Nat → Nat := fun q => (if x = 6 then f else sf f c hd) q - 1
def tS (a : Nat) (_ : Nat) : Prop := a = 42 ∨ a = 43
def tlA (x y : Nat) (F : Nat → Nat) (K : Nat) (h h' : xe_H) : Prop := ∀ x' y', x' ≤ 6 → y' < 6 → (xe_I h' 42 (6 * x' + y') = if x' = x ∧ y' < y ∧ F y' - 1 = 0 then xe_I h 42 (6 * x' + y') + nI K else xe_I h 42 (6 * x' + y')) ∧ (xe_I h' 43 (6 * x' + y') = if x' = x ∧ y' < y ∧ ¬ F y' - 1 = 0 then xe_I h 43 (6 * x' + y') + nI K else xe_I h 43 (6 * x' + y'))
section TY
variable {d : Nat} {h : xe_H}
theorem cl_tally {n x K : Nat} {F : Nat → Nat} (hn : n ≤ 6) (hx : x ≤ 6) (hF : rp_ok F) (H : sh h) (h9 : xe_I h 36 9 = nI n) : xe_C (d + 2) 68 [.ref 36, .int (nI x), .int (nI (rp F)), .int (nI K)] h (fun v h' => v = none ∧ wr tS h h' ∧ tlA x n F K h h') := by
  have lp : ∀ k y h1 l6, y + k = n → wr tS h h1 → tlA x y F K h h1 → xe_P (d + 1) 68 9 [.ref 36, .int (nI x), .int (nI (rp F)), .int (nI K), .int (nI (rp (fun b => F b - 1))), .int (nI y), l6] [] h1 (fun v h' => v = none ∧ wr tS h h' ∧ tlA x n F K h h') := by
    intro k
    induction k with
    | zero =>
      intro y h1 l6 hy W A
      have : y = n := by omega
      subst this
      have H1 := wr_sh W H
      have i9 : xe_I h1 36 9 = nI y := by rw [W.2 36 9 (by unfold tS; omega)]; exact h9
      simp only [xs_68_9, xs_68_11, xs_68_12, xs_68_15, xs_68_68, H1, sT_0, sT_1, sT_2, sN_2, sA_2, sT_3, sN_3, sA_3, sT_4, sN_4, sA_4, sT_5, sN_5, sA_5, sT_6, sN_6, sA_6, sT_7, sT_8, sN_8, sA_8, sT_9, sN_9, sA_9, sT_10, sN_10, sA_10, sT_11, sN_11, sA_11, sT_12, sN_12, sA_12, sT_13, sN_13, sT_14, sT_15, sN_15, sA_15, sT_16, sN_16, sA_16, sT_17, sN_17, sA_17, sT_18, sN_18, sA_18, sT_19, sN_19, sA_19, sT_20, sT_21, sN_21, sA_21, sT_22, sN_22, sA_22, sT_23, sN_23, sA_23, sT_24, sN_24, sA_24, sT_25, sN_25, sA_25, sT_26, sN_26, sB_26, sT_27, sT_28, sN_28, sB_28, sT_29, sT_30, sN_30, sT_32, sN_32, sA_32, sT_33, sT_34, sN_34, sA_34, sT_35, sN_35, sA_35, sT_36, sT_37, sN_37, sA_37, sT_38, sN_38, sA_38, sT_39, sN_39, sA_39, sT_40, sN_40, sB_40, sT_41, sN_41, sA_41, sT_42, sN_42, sA_42, sT_43, sN_43, sA_43, sT_44, sT_45, sN_45, sA_45, sT_46, sN_46, sA_46, sT_47, sN_47, sA_47, sR_1_7, sR_1_8, sR_1_9, sR_1_10, sR_1_11, sR_0_0, sR_7_7, sR_7_8, sR_7_9, sR_7_10, sR_7_11, sR_0_1, sR_0_2, sR_14_7, sR_14_8, sR_14_9, sR_14_10, sR_14_11, sR_13_0, sR_20_7, sR_20_8, sR_20_9, sR_20_10, sR_20_11, sR_13_1, sR_0_3, sR_0_4, sR_27_0, sR_0_5, sR_29_0, sR_29_3, sR_0_6, sR_33_1, sR_33_2, sR_0_7, sR_36_2, sR_36_3, sR_36_4, sR_36_5, sR_36_6, sR_36_7, sR_36_8, sR_0_8, sR_44_0, sR_44_1, sR_44_2, i9, le_t, rf_some, xc_int, xc_ref, xc_ret, xc_long, xw_nil, xw_int, xw_ref, xw_long, tl_some, tl_none, true_and, and_true, Nat.zero_le, Nat.reduceAdd, Nat.reduceMul, Nat.reduceLeDiff, Nat.reduceLT, Nat.reduceEqDiff, Nat.reducePow, Int32.reduceAdd, Int32.reduceMul, Int32.reduceSub, Int32.reduceLT, Int32.reduceLE, Int32.reduceToNatClampNeg, litE, ixU, not_false_eq_true, not_true_eq_false, ↓reduceIte, eq_self, true_or, or_true, false_and, and_false, or_false, false_or, i10, i01, in10, i1n, xbT, xbF, r_lt]
      exact ⟨W, A⟩
    | succ k ih =>
      intro y h1 l6 hy W A
      have H1 := wr_sh W H
      have i9 : xe_I h1 36 9 = nI n := by rw [W.2 36 9 (by unfold tS; omega)]; exact h9
      have ei : (6 : Int32) * nI x + nI y = nI (6 * x + y) := by rw [nI6, pk_mul, nI_add]
      obtain ⟨a1, a2⟩ := A x y hx (by omega)
      rw [if_neg (by omega)] at a1 a2
      have hT : rp_ok (fun b => F b - 1) := fun b hb => Nat.lt_of_le_of_lt (Nat.sub_le _ _) (hF b hb)
      rw [xs_68_9]
      simp only [xs_68_11, xs_68_12, xs_68_15, xs_68_18, xs_68_20, xs_68_21, xs_68_22, xs_68_24, xs_68_25, xs_68_27, xs_68_29, xs_68_31, lt_f (show y < n by omega) (show n < 2 ^ 31 by omega), H1, sT_0, sT_1, sT_2, sN_2, sA_2, sT_3, sN_3, sA_3, sT_4, sN_4, sA_4, sT_5, sN_5, sA_5, sT_6, sN_6, sA_6, sT_7, sT_8, sN_8, sA_8, sT_9, sN_9, sA_9, sT_10, sN_10, sA_10, sT_11, sN_11, sA_11, sT_12, sN_12, sA_12, sT_13, sN_13, sT_14, sT_15, sN_15, sA_15, sT_16, sN_16, sA_16, sT_17, sN_17, sA_17, sT_18, sN_18, sA_18, sT_19, sN_19, sA_19, sT_20, sT_21, sN_21, sA_21, sT_22, sN_22, sA_22, sT_23, sN_23, sA_23, sT_24, sN_24, sA_24, sT_25, sN_25, sA_25, sT_26, sN_26, sB_26, sT_27, sT_28, sN_28, sB_28, sT_29, sT_30, sN_30, sT_32, sN_32, sA_32, sT_33, sT_34, sN_34, sA_34, sT_35, sN_35, sA_35, sT_36, sT_37, sN_37, sA_37, sT_38, sN_38, sA_38, sT_39, sN_39, sA_39, sT_40, sN_40, sB_40, sT_41, sN_41, sA_41, sT_42, sN_42, sA_42, sT_43, sN_43, sA_43, sT_44, sT_45, sN_45, sA_45, sT_46, sN_46, sA_46, sT_47, sN_47, sA_47, sR_1_7, sR_1_8, sR_1_9, sR_1_10, sR_1_11, sR_0_0, sR_7_7, sR_7_8, sR_7_9, sR_7_10, sR_7_11, sR_0_1, sR_0_2, sR_14_7, sR_14_8, sR_14_9, sR_14_10, sR_14_11, sR_13_0, sR_20_7, sR_20_8, sR_20_9, sR_20_10, sR_20_11, sR_13_1, sR_0_3, sR_0_4, sR_27_0, sR_0_5, sR_29_0, sR_29_3, sR_0_6, sR_33_1, sR_33_2, sR_0_7, sR_36_2, sR_36_3, sR_36_4, sR_36_5, sR_36_6, sR_36_7, sR_36_8, sR_0_8, sR_44_0, sR_44_1, sR_44_2, i9, ei, rf_some, xc_int, xc_ref, xc_ret, xc_long, xw_nil, xw_int, xw_ref, xw_long, tl_some, tl_none, true_and, and_true, Nat.zero_le, Nat.reduceAdd, Nat.reduceMul, Nat.reduceLeDiff, Nat.reduceLT, Nat.reduceEqDiff, Nat.reducePow, Int32.reduceAdd, Int32.reduceMul, Int32.reduceSub, Int32.reduceLT, Int32.reduceLE, Int32.reduceToNatClampNeg, litE, ixU, not_false_eq_true, not_true_eq_false, ↓reduceIte, eq_self, true_or, or_true, false_and, and_false, or_false, false_or, i10, i01, in10, i1n, xbT, xbF, r_lt]
      rw [tw_isOpen (d := d) hT (show y < 6 by omega)]
      by_cases z : F y - 1 = 0
      · rw [xb_t (show (fun b => F b - 1) y = 0 from z)]
        simp only [xs_68_34, xs_68_37, xs_68_38, xs_68_41, xs_68_43, xs_68_44, xs_68_45, xs_68_46, xs_68_47, xs_68_48, xs_68_62, xs_68_65, H1, sT_0, sT_1, sT_2, sN_2, sA_2, sT_3, sN_3, sA_3, sT_4, sN_4, sA_4, sT_5, sN_5, sA_5, sT_6, sN_6, sA_6, sT_7, sT_8, sN_8, sA_8, sT_9, sN_9, sA_9, sT_10, sN_10, sA_10, sT_11, sN_11, sA_11, sT_12, sN_12, sA_12, sT_13, sN_13, sT_14, sT_15, sN_15, sA_15, sT_16, sN_16, sA_16, sT_17, sN_17, sA_17, sT_18, sN_18, sA_18, sT_19, sN_19, sA_19, sT_20, sT_21, sN_21, sA_21, sT_22, sN_22, sA_22, sT_23, sN_23, sA_23, sT_24, sN_24, sA_24, sT_25, sN_25, sA_25, sT_26, sN_26, sB_26, sT_27, sT_28, sN_28, sB_28, sT_29, sT_30, sN_30, sT_32, sN_32, sA_32, sT_33, sT_34, sN_34, sA_34, sT_35, sN_35, sA_35, sT_36, sT_37, sN_37, sA_37, sT_38, sN_38, sA_38, sT_39, sN_39, sA_39, sT_40, sN_40, sB_40, sT_41, sN_41, sA_41, sT_42, sN_42, sA_42, sT_43, sN_43, sA_43, sT_44, sT_45, sN_45, sA_45, sT_46, sN_46, sA_46, sT_47, sN_47, sA_47, sR_1_7, sR_1_8, sR_1_9, sR_1_10, sR_1_11, sR_0_0, sR_7_7, sR_7_8, sR_7_9, sR_7_10, sR_7_11, sR_0_1, sR_0_2, sR_14_7, sR_14_8, sR_14_9, sR_14_10, sR_14_11, sR_13_0, sR_20_7, sR_20_8, sR_20_9, sR_20_10, sR_20_11, sR_13_1, sR_0_3, sR_0_4, sR_27_0, sR_0_5, sR_29_0, sR_29_3, sR_0_6, sR_33_1, sR_33_2, sR_0_7, sR_36_2, sR_36_3, sR_36_4, sR_36_5, sR_36_6, sR_36_7, sR_36_8, sR_0_8, sR_44_0, sR_44_1, sR_44_2, nIlt0 (show 6 * x + y < 2 ^ 31 by omega), nI_clamp (show 6 * x + y < 2 ^ 31 by omega), show 6 * x + y < 42 by omega, a1, nI_1, rf_some, xc_int, xc_ref, xc_ret, xc_long, xw_nil, xw_int, xw_ref, xw_long, tl_some, tl_none, true_and, and_true, Nat.zero_le, Nat.reduceAdd, Nat.reduceMul, Nat.reduceLeDiff, Nat.reduceLT, Nat.reduceEqDiff, Nat.reducePow, Int32.reduceAdd, Int32.reduceMul, Int32.reduceSub, Int32.reduceLT, Int32.reduceLE, Int32.reduceToNatClampNeg, litE, ixU, not_false_eq_true, not_true_eq_false, ↓reduceIte, eq_self, true_or, or_true, false_and, and_false, or_false, false_or, i10, i01, in10, i1n, xbT, xbF, r_lt, hI_sI, hL_sI, hR_sI, hT_sI, hN_sI, hn_sI, ho_sI, hia_sI, hba_sI, hal_sI, hix_sI, hI_aI, hL_aI, hR_aI, hT_aI, hN_aI, hn_aI, ho_aI, hia_aI, hal_aI, hix_aI, sh_sI, sh_aI, sh_sL, sh_aL]
        refine ih (y + 1) _ _ (by omega) (wr_sI W (Or.inl rfl)) (fun x' y' hx' hy' => ?_)
        obtain ⟨b1, b2⟩ := A x' y' hx' hy'
        rw [hI_sI, hI_sI, if_neg (show ¬ (43 = 42 ∧ _) by omega), b2]
        refine ⟨?_, ?_⟩
        · by_cases q : x' = x ∧ y' = y
          · obtain ⟨rfl, rfl⟩ := q
            rw [if_pos ⟨rfl, rfl⟩, if_pos (by omega)]
          · rw [if_neg (by omega), b1]
            by_cases q2 : x' = x ∧ y' < y ∧ F y' - 1 = 0
            · rw [if_pos q2, if_pos (by omega)]
            · rw [if_neg q2, if_neg (by omega)]
        · by_cases q2 : x' = x ∧ y' < y ∧ ¬ F y' - 1 = 0
          · rw [if_pos q2, if_pos (by omega)]
          · rw [if_neg q2, if_neg (fun q => q2 ⟨q.1, by
              have := q.2.1
              by_cases e : y' = y
              · rw [e] at q; exact absurd z q.2.2
              · omega, q.2.2⟩)]
      · rw [xb_f (show ¬ (fun b => F b - 1) y = 0 from z)]
        simp only [xs_68_34, xs_68_51, xs_68_52, xs_68_55, xs_68_57, xs_68_58, xs_68_59, xs_68_60, xs_68_61, xs_68_62, xs_68_65, H1, sT_0, sT_1, sT_2, sN_2, sA_2, sT_3, sN_3, sA_3, sT_4, sN_4, sA_4, sT_5, sN_5, sA_5, sT_6, sN_6, sA_6, sT_7, sT_8, sN_8, sA_8, sT_9, sN_9, sA_9, sT_10, sN_10, sA_10, sT_11, sN_11, sA_11, sT_12, sN_12, sA_12, sT_13, sN_13, sT_14, sT_15, sN_15, sA_15, sT_16, sN_16, sA_16, sT_17, sN_17, sA_17, sT_18, sN_18, sA_18, sT_19, sN_19, sA_19, sT_20, sT_21, sN_21, sA_21, sT_22, sN_22, sA_22, sT_23, sN_23, sA_23, sT_24, sN_24, sA_24, sT_25, sN_25, sA_25, sT_26, sN_26, sB_26, sT_27, sT_28, sN_28, sB_28, sT_29, sT_30, sN_30, sT_32, sN_32, sA_32, sT_33, sT_34, sN_34, sA_34, sT_35, sN_35, sA_35, sT_36, sT_37, sN_37, sA_37, sT_38, sN_38, sA_38, sT_39, sN_39, sA_39, sT_40, sN_40, sB_40, sT_41, sN_41, sA_41, sT_42, sN_42, sA_42, sT_43, sN_43, sA_43, sT_44, sT_45, sN_45, sA_45, sT_46, sN_46, sA_46, sT_47, sN_47, sA_47, sR_1_7, sR_1_8, sR_1_9, sR_1_10, sR_1_11, sR_0_0, sR_7_7, sR_7_8, sR_7_9, sR_7_10, sR_7_11, sR_0_1, sR_0_2, sR_14_7, sR_14_8, sR_14_9, sR_14_10, sR_14_11, sR_13_0, sR_20_7, sR_20_8, sR_20_9, sR_20_10, sR_20_11, sR_13_1, sR_0_3, sR_0_4, sR_27_0, sR_0_5, sR_29_0, sR_29_3, sR_0_6, sR_33_1, sR_33_2, sR_0_7, sR_36_2, sR_36_3, sR_36_4, sR_36_5, sR_36_6, sR_36_7, sR_36_8, sR_0_8, sR_44_0, sR_44_1, sR_44_2, nIlt0 (show 6 * x + y < 2 ^ 31 by omega), nI_clamp (show 6 * x + y < 2 ^ 31 by omega), show 6 * x + y < 42 by omega, a2, nI_1, rf_some, xc_int, xc_ref, xc_ret, xc_long, xw_nil, xw_int, xw_ref, xw_long, tl_some, tl_none, true_and, and_true, Nat.zero_le, Nat.reduceAdd, Nat.reduceMul, Nat.reduceLeDiff, Nat.reduceLT, Nat.reduceEqDiff, Nat.reducePow, Int32.reduceAdd, Int32.reduceMul, Int32.reduceSub, Int32.reduceLT, Int32.reduceLE, Int32.reduceToNatClampNeg, litE, ixU, not_false_eq_true, not_true_eq_false, ↓reduceIte, eq_self, true_or, or_true, false_and, and_false, or_false, false_or, i10, i01, in10, i1n, xbT, xbF, r_lt, hI_sI, hL_sI, hR_sI, hT_sI, hN_sI, hn_sI, ho_sI, hia_sI, hba_sI, hal_sI, hix_sI, hI_aI, hL_aI, hR_aI, hT_aI, hN_aI, hn_aI, ho_aI, hia_aI, hal_aI, hix_aI, sh_sI, sh_aI, sh_sL, sh_aL]
        refine ih (y + 1) _ _ (by omega) (wr_sI W (Or.inr rfl)) (fun x' y' hx' hy' => ?_)
        obtain ⟨b1, b2⟩ := A x' y' hx' hy'
        rw [hI_sI, hI_sI, if_neg (show ¬ (42 = 43 ∧ _) by omega), b1]
        refine ⟨?_, ?_⟩
        · by_cases q2 : x' = x ∧ y' < y ∧ F y' - 1 = 0
          · rw [if_pos q2, if_pos (by omega)]
          · rw [if_neg q2, if_neg (fun q => q2 ⟨q.1, by
              have := q.2.1
              by_cases e : y' = y
              · rw [e] at q; exact absurd q.2.2 z
              · omega, q.2.2⟩)]
        · by_cases q : x' = x ∧ y' = y
          · obtain ⟨rfl, rfl⟩ := q
            rw [if_pos ⟨rfl, rfl⟩, if_pos (by omega)]
          · rw [if_neg (by omega), b2]
            by_cases q2 : x' = x ∧ y' < y ∧ ¬ F y' - 1 = 0
            · rw [if_pos q2, if_pos (by omega)]
            · rw [if_neg q2, if_neg (by omega)]
  have l0 := lp n 0 h (.retAddr 0) (by omega) (wr_rf _ h) (fun x' y' _ _ => ⟨by rw [if_neg (by omega)], by rw [if_neg (by omega)]⟩)
  simp only [xs_68, xs_68_0, xs_68_1, rf_some, xc_int, xc_ref, xc_ret, xc_long, xw_nil, xw_int, xw_ref, xw_long, tl_some, tl_none, true_and, and_true, Nat.zero_le, Nat.reduceAdd, Nat.reduceMul, Nat.reduceLeDiff, Nat.reduceLT, Nat.reduceEqDiff, Nat.reducePow, Int32.reduceAdd, Int32.reduceMul, Int32.reduceSub, Int32.reduceLT, Int32.reduceLE, Int32.reduceToNatClampNeg, litE, ixU, not_false_eq_true, not_true_eq_false, ↓reduceIte, eq_self, true_or, or_true, false_and, and_false, or_false, false_or, i10, i01, in10, i1n, xbT, xbF, r_lt]
  rw [tw_behind (d := d) hF]
  simp only [xs_68_4, xs_68_6, xs_68_7, rf_some, xc_int, xc_ref, xc_ret, xc_long, xw_nil, xw_int, xw_ref, xw_long, tl_some, tl_none, true_and, and_true, Nat.zero_le, Nat.reduceAdd, Nat.reduceMul, Nat.reduceLeDiff, Nat.reduceLT, Nat.reduceEqDiff, Nat.reducePow, Int32.reduceAdd, Int32.reduceMul, Int32.reduceSub, Int32.reduceLT, Int32.reduceLE, Int32.reduceToNatClampNeg, litE, ixU, not_false_eq_true, not_true_eq_false, ↓reduceIte, eq_self, true_or, or_true, false_and, and_false, or_false, false_or, i10, i01, in10, i1n, xbT, xbF, r_lt]
  exact l0
theorem cl_mayHang {n b c : Nat} {Q : Option Value → xe_H → Prop} (hn : n ≤ 6) (hb : b < 7) (hc : c < 7) (H : sh h) (h9 : xe_I h 36 9 = nI n) : xe_C (d + 1) 63 [.ref 36, .int (nI b), .int (nI c)] h Q = Q (some (.int (@xb (mh n b c) (mhD n b c)))) h := by
  by_cases c6 : c = 6
  · rw [@xb_t _ (mhD n b c) (Or.inl c6)]
    simp only [xs_63, xs_63_0, xs_63_1, xs_63_3, xs_63_6, xs_63_7, xs_63_8, xs_63_11, xs_63_12, xs_63_13, xs_63_16, xs_63_19, xs_63_20, xs_63_23, xs_63_24, nIe6 (show c < 2 ^ 31 by omega), eq_true c6, rf_some, xc_int, xc_ref, xc_ret, xc_long, xw_nil, xw_int, xw_ref, xw_long, tl_some, tl_none, true_and, and_true, Nat.zero_le, Nat.reduceAdd, Nat.reduceMul, Nat.reduceLeDiff, Nat.reduceLT, Nat.reduceEqDiff, Nat.reducePow, Int32.reduceAdd, Int32.reduceMul, Int32.reduceSub, Int32.reduceLT, Int32.reduceLE, Int32.reduceToNatClampNeg, litE, ixU, not_false_eq_true, not_true_eq_false, ↓reduceIte, eq_self, true_or, or_true, false_and, and_false, or_false, false_or, i10, i01, in10, i1n, xbT, xbF, r_lt]
  · by_cases cb : c = b
    · rw [@xb_f _ (mhD n b c) (by unfold mh; omega)]
      simp only [xs_63, xs_63_0, xs_63_1, xs_63_3, xs_63_6, xs_63_7, xs_63_8, xs_63_11, xs_63_12, xs_63_13, xs_63_16, xs_63_19, xs_63_20, xs_63_23, xs_63_24, nIe6 (show c < 2 ^ 31 by omega), eq_false c6, nIe (show c < 2 ^ 31 by omega) (show b < 2 ^ 31 by omega), eq_true cb, rf_some, xc_int, xc_ref, xc_ret, xc_long, xw_nil, xw_int, xw_ref, xw_long, tl_some, tl_none, true_and, and_true, Nat.zero_le, Nat.reduceAdd, Nat.reduceMul, Nat.reduceLeDiff, Nat.reduceLT, Nat.reduceEqDiff, Nat.reducePow, Int32.reduceAdd, Int32.reduceMul, Int32.reduceSub, Int32.reduceLT, Int32.reduceLE, Int32.reduceToNatClampNeg, litE, ixU, not_false_eq_true, not_true_eq_false, ↓reduceIte, eq_self, true_or, or_true, false_and, and_false, or_false, false_or, i10, i01, in10, i1n, xbT, xbF, r_lt]
    · by_cases cn : c < n
      · rw [@xb_t _ (mhD n b c) (Or.inr ⟨cb, cn⟩)]
        simp only [xs_63, xs_63_0, xs_63_1, xs_63_3, xs_63_6, xs_63_7, xs_63_8, xs_63_11, xs_63_12, xs_63_13, xs_63_16, xs_63_19, xs_63_20, xs_63_23, xs_63_24, nIe6 (show c < 2 ^ 31 by omega), eq_false c6, nIe (show c < 2 ^ 31 by omega) (show b < 2 ^ 31 by omega), eq_false cb, H, sT_0, sT_1, sT_2, sN_2, sA_2, sT_3, sN_3, sA_3, sT_4, sN_4, sA_4, sT_5, sN_5, sA_5, sT_6, sN_6, sA_6, sT_7, sT_8, sN_8, sA_8, sT_9, sN_9, sA_9, sT_10, sN_10, sA_10, sT_11, sN_11, sA_11, sT_12, sN_12, sA_12, sT_13, sN_13, sT_14, sT_15, sN_15, sA_15, sT_16, sN_16, sA_16, sT_17, sN_17, sA_17, sT_18, sN_18, sA_18, sT_19, sN_19, sA_19, sT_20, sT_21, sN_21, sA_21, sT_22, sN_22, sA_22, sT_23, sN_23, sA_23, sT_24, sN_24, sA_24, sT_25, sN_25, sA_25, sT_26, sN_26, sB_26, sT_27, sT_28, sN_28, sB_28, sT_29, sT_30, sN_30, sT_32, sN_32, sA_32, sT_33, sT_34, sN_34, sA_34, sT_35, sN_35, sA_35, sT_36, sT_37, sN_37, sA_37, sT_38, sN_38, sA_38, sT_39, sN_39, sA_39, sT_40, sN_40, sB_40, sT_41, sN_41, sA_41, sT_42, sN_42, sA_42, sT_43, sN_43, sA_43, sT_44, sT_45, sN_45, sA_45, sT_46, sN_46, sA_46, sT_47, sN_47, sA_47, sR_1_7, sR_1_8, sR_1_9, sR_1_10, sR_1_11, sR_0_0, sR_7_7, sR_7_8, sR_7_9, sR_7_10, sR_7_11, sR_0_1, sR_0_2, sR_14_7, sR_14_8, sR_14_9, sR_14_10, sR_14_11, sR_13_0, sR_20_7, sR_20_8, sR_20_9, sR_20_10, sR_20_11, sR_13_1, sR_0_3, sR_0_4, sR_27_0, sR_0_5, sR_29_0, sR_29_3, sR_0_6, sR_33_1, sR_33_2, sR_0_7, sR_36_2, sR_36_3, sR_36_4, sR_36_5, sR_36_6, sR_36_7, sR_36_8, sR_0_8, sR_44_0, sR_44_1, sR_44_2, h9, lt_f cn (show n < 2 ^ 31 by omega), rf_some, xc_int, xc_ref, xc_ret, xc_long, xw_nil, xw_int, xw_ref, xw_long, tl_some, tl_none, true_and, and_true, Nat.zero_le, Nat.reduceAdd, Nat.reduceMul, Nat.reduceLeDiff, Nat.reduceLT, Nat.reduceEqDiff, Nat.reducePow, Int32.reduceAdd, Int32.reduceMul, Int32.reduceSub, Int32.reduceLT, Int32.reduceLE, Int32.reduceToNatClampNeg, litE, ixU, not_false_eq_true, not_true_eq_false, ↓reduceIte, eq_self, true_or, or_true, false_and, and_false, or_false, false_or, i10, i01, in10, i1n, xbT, xbF, r_lt]
      · have e1 : (nI n ≤ nI c) = True := eq_true (by rw [nI_leI (by omega) (by omega)]; omega)
        rw [@xb_f _ (mhD n b c) (by unfold mh; omega)]
        simp only [xs_63, xs_63_0, xs_63_1, xs_63_3, xs_63_6, xs_63_7, xs_63_8, xs_63_11, xs_63_12, xs_63_13, xs_63_16, xs_63_19, xs_63_20, xs_63_23, xs_63_24, nIe6 (show c < 2 ^ 31 by omega), eq_false c6, nIe (show c < 2 ^ 31 by omega) (show b < 2 ^ 31 by omega), eq_false cb, H, sT_0, sT_1, sT_2, sN_2, sA_2, sT_3, sN_3, sA_3, sT_4, sN_4, sA_4, sT_5, sN_5, sA_5, sT_6, sN_6, sA_6, sT_7, sT_8, sN_8, sA_8, sT_9, sN_9, sA_9, sT_10, sN_10, sA_10, sT_11, sN_11, sA_11, sT_12, sN_12, sA_12, sT_13, sN_13, sT_14, sT_15, sN_15, sA_15, sT_16, sN_16, sA_16, sT_17, sN_17, sA_17, sT_18, sN_18, sA_18, sT_19, sN_19, sA_19, sT_20, sT_21, sN_21, sA_21, sT_22, sN_22, sA_22, sT_23, sN_23, sA_23, sT_24, sN_24, sA_24, sT_25, sN_25, sA_25, sT_26, sN_26, sB_26, sT_27, sT_28, sN_28, sB_28, sT_29, sT_30, sN_30, sT_32, sN_32, sA_32, sT_33, sT_34, sN_34, sA_34, sT_35, sN_35, sA_35, sT_36, sT_37, sN_37, sA_37, sT_38, sN_38, sA_38, sT_39, sN_39, sA_39, sT_40, sN_40, sB_40, sT_41, sN_41, sA_41, sT_42, sN_42, sA_42, sT_43, sN_43, sA_43, sT_44, sT_45, sN_45, sA_45, sT_46, sN_46, sA_46, sT_47, sN_47, sA_47, sR_1_7, sR_1_8, sR_1_9, sR_1_10, sR_1_11, sR_0_0, sR_7_7, sR_7_8, sR_7_9, sR_7_10, sR_7_11, sR_0_1, sR_0_2, sR_14_7, sR_14_8, sR_14_9, sR_14_10, sR_14_11, sR_13_0, sR_20_7, sR_20_8, sR_20_9, sR_20_10, sR_20_11, sR_13_1, sR_0_3, sR_0_4, sR_27_0, sR_0_5, sR_29_0, sR_29_3, sR_0_6, sR_33_1, sR_33_2, sR_0_7, sR_36_2, sR_36_3, sR_36_4, sR_36_5, sR_36_6, sR_36_7, sR_36_8, sR_0_8, sR_44_0, sR_44_1, sR_44_2, h9, e1, rf_some, xc_int, xc_ref, xc_ret, xc_long, xw_nil, xw_int, xw_ref, xw_long, tl_some, tl_none, true_and, and_true, Nat.zero_le, Nat.reduceAdd, Nat.reduceMul, Nat.reduceLeDiff, Nat.reduceLT, Nat.reduceEqDiff, Nat.reducePow, Int32.reduceAdd, Int32.reduceMul, Int32.reduceSub, Int32.reduceLT, Int32.reduceLE, Int32.reduceToNatClampNeg, litE, ixU, not_false_eq_true, not_true_eq_false, ↓reduceIte, eq_self, true_or, or_true, false_and, and_false, or_false, false_or, i10, i01, in10, i1n, xbT, xbF, r_lt]
end TY
/-- how much is told of a look: o the bridge is found so -/
def tq (o : Bool) (hd : Nat) (f : Nat → Nat) (x c y : Nat) : Bool := decide (stp hd f x c y = 0) == o
def tni (o : Bool) (hd : Nat) (f : Nat → Nat) (n K x y : Nat) : Nat → Nat := fb_sm (fun c => if @decide (mh n x c) (mhD n x c) && tq o hd f x c y then K / n else 0)
def tn (o : Bool) (hd : Nat) (f hg : Nat → Nat) (n K x y : Nat) : Nat := if x = 6 then (if tq o hd f 6 0 y then K else 0) else if f x = 0 then (if hg x = 7 then tni o hd f n K x y 7 else (if tq o hd f x (hg x) y then K else 0)) else 0
theorem tq_t {hd : Nat} {f : Nat → Nat} {x c y : Nat} : (tq true hd f x c y = true) ↔ stp hd f x c y = 0 := by unfold tq; simp
theorem tq_f {hd : Nat} {f : Nat → Nat} {x c y : Nat} : (tq false hd f x c y = true) ↔ ¬ stp hd f x c y = 0 := by unfold tq; simp
/-- what one call of tally does, in these words -/
theorem tl_a {n x c K hd : Nat} {f F : Nat → Nat} {h h' : xe_H} (hn : n ≤ 6) (A : tlA x n F K h h') (hF : ∀ y, y < 6 → F y - 1 = stp hd f x c y) : ∀ x' y', x' ≤ 6 → y' < n → xe_I h' 42 (6 * x' + y') = xe_I h 42 (6 * x' + y') + nI (if x' = x then (if tq true hd f x c y' then K else 0) else 0) ∧ xe_I h' 43 (6 * x' + y') = xe_I h 43 (6 * x' + y') + nI (if x' = x then (if tq false hd f x c y' then K else 0) else 0) := by
  intro x' y' hx' hy'
  obtain ⟨a1, a2⟩ := A x' y' hx' (by omega)
  rw [hF y' (by omega)] at a1 a2
  rw [a1, a2]
  by_cases e : x' = x
  · rw [if_pos e, if_pos e]
    by_cases q : stp hd f x c y' = 0
    · refine ⟨?_, ?_⟩
      · rw [if_pos ⟨e, hy', q⟩, if_pos (tq_t.mpr q)]
      · rw [if_neg (show ¬ (x' = x ∧ y' < n ∧ ¬ stp hd f x c y' = 0) from fun z => z.2.2 q), if_neg (show ¬ tq false hd f x c y' = true from fun z => tq_f.mp z q)]
        exact (ad_0 _).symm
    · refine ⟨?_, ?_⟩
      · rw [if_neg (show ¬ (x' = x ∧ y' < n ∧ stp hd f x c y' = 0) from fun z => q z.2.2), if_neg (show ¬ tq true hd f x c y' = true from fun z => q (tq_t.mp z))]
        exact (ad_0 _).symm
      · rw [if_pos ⟨e, hy', q⟩, if_pos (tq_f.mpr q)]
  · refine ⟨?_, ?_⟩
    · rw [if_neg (show ¬ (x' = x ∧ y' < n ∧ stp hd f x c y' = 0) from fun z => e z.1), if_neg e]
      exact (ad_0 _).symm
    · rw [if_neg (show ¬ (x' = x ∧ y' < n ∧ ¬ stp hd f x c y' = 0) from fun z => e z.1), if_neg e]
      exact (ad_0 _).symm
def tnP (hd : Nat) (f hg : Nat → Nat) (n K b : Nat) (h h' : xe_H) : Prop := ∀ x y, (x = 6 ∨ x < b) → y < n → xe_I h' 42 (6 * x + y) = xe_I h 42 (6 * x + y) + nI (tn true hd f hg n K x y) ∧ xe_I h' 43 (6 * x + y) = xe_I h 43 (6 * x + y) + nI (tn false hd f hg n K x y)
def tnR (b n : Nat) (h h' : xe_H) : Prop := ∀ x y, b ≤ x → x < n → y < n → xe_I h' 42 (6 * x + y) = xe_I h 42 (6 * x + y) ∧ xe_I h' 43 (6 * x + y) = xe_I h 43 (6 * x + y)
section TZ
variable {d : Nat} {h : xe_H}
theorem cl_tellNext {n K hd : Nat} {f hg : Nat → Nat} (hn : n ≤ 6) (hf : ∀ b, b < 6 → f b ≤ 3) (hh : hd ≤ 3) (hk : hgk n hg) (H : sh h) (h9 : xe_I h 36 9 = nI n) (h10 : xe_I h 36 10 = nI hd) (h41 : ∀ b, b < 6 → xe_I h 41 b = nI (hg b)) (hK : K < 2 ^ 31) : xe_C (d + 4) 67 [.ref 36, .int (nI (rp f)), .int (nI K)] h (fun v h' => v = none ∧ wr tS h h' ∧ tnP hd f hg n K n h h') := by
  have rf : rp_ok f := fun b hb => Nat.lt_of_le_of_lt (hf b hb) (by decide)
  have rs : ∀ c, rp_ok (sf f c hd) := fun c => by
    unfold sf
    split
    · exact rf
    · exact up_ok rf (by omega)
  have hgl : ∀ b, b < n → hg b ≤ 7 := fun b hb => by
    have := hk b hb
    unfold mh at this
    omega
  have tn6 : ∀ o y, tn o hd f hg n K 6 y = if tq o hd f 6 0 y then K else 0 := fun o y => if_pos rfl
  have lp : ∀ k b h1 l4, b + k = n → wr tS h h1 → tnP hd f hg n K b h h1 → tnR b n h h1 → xe_P (d + 3) 67 10 [.ref 36, .int (nI (rp f)), .int (nI K), .int (nI b), l4] [] h1 (fun v h' => v = none ∧ wr tS h h' ∧ tnP hd f hg n K n h h') := by
    intro k
    induction k with
    | zero =>
      intro b h1 l4 hb W P R
      have : b = n := by omega
      subst this
      have H1 := wr_sh W H
      have i9 : xe_I h1 36 9 = nI b := by rw [W.2 36 9 (by unfold tS; omega)]; exact h9
      simp only [xs_67_10, xs_67_11, xs_67_12, xs_67_15, xs_67_116, H1, sT_0, sT_1, sT_2, sN_2, sA_2, sT_3, sN_3, sA_3, sT_4, sN_4, sA_4, sT_5, sN_5, sA_5, sT_6, sN_6, sA_6, sT_7, sT_8, sN_8, sA_8, sT_9, sN_9, sA_9, sT_10, sN_10, sA_10, sT_11, sN_11, sA_11, sT_12, sN_12, sA_12, sT_13, sN_13, sT_14, sT_15, sN_15, sA_15, sT_16, sN_16, sA_16, sT_17, sN_17, sA_17, sT_18, sN_18, sA_18, sT_19, sN_19, sA_19, sT_20, sT_21, sN_21, sA_21, sT_22, sN_22, sA_22, sT_23, sN_23, sA_23, sT_24, sN_24, sA_24, sT_25, sN_25, sA_25, sT_26, sN_26, sB_26, sT_27, sT_28, sN_28, sB_28, sT_29, sT_30, sN_30, sT_32, sN_32, sA_32, sT_33, sT_34, sN_34, sA_34, sT_35, sN_35, sA_35, sT_36, sT_37, sN_37, sA_37, sT_38, sN_38, sA_38, sT_39, sN_39, sA_39, sT_40, sN_40, sB_40, sT_41, sN_41, sA_41, sT_42, sN_42, sA_42, sT_43, sN_43, sA_43, sT_44, sT_45, sN_45, sA_45, sT_46, sN_46, sA_46, sT_47, sN_47, sA_47, sR_1_7, sR_1_8, sR_1_9, sR_1_10, sR_1_11, sR_0_0, sR_7_7, sR_7_8, sR_7_9, sR_7_10, sR_7_11, sR_0_1, sR_0_2, sR_14_7, sR_14_8, sR_14_9, sR_14_10, sR_14_11, sR_13_0, sR_20_7, sR_20_8, sR_20_9, sR_20_10, sR_20_11, sR_13_1, sR_0_3, sR_0_4, sR_27_0, sR_0_5, sR_29_0, sR_29_3, sR_0_6, sR_33_1, sR_33_2, sR_0_7, sR_36_2, sR_36_3, sR_36_4, sR_36_5, sR_36_6, sR_36_7, sR_36_8, sR_0_8, sR_44_0, sR_44_1, sR_44_2, i9, le_t, rf_some, xc_int, xc_ref, xc_ret, xc_long, xw_nil, xw_int, xw_ref, xw_long, tl_some, tl_none, true_and, and_true, Nat.zero_le, Nat.reduceAdd, Nat.reduceMul, Nat.reduceLeDiff, Nat.reduceLT, Nat.reduceEqDiff, Nat.reducePow, Int32.reduceAdd, Int32.reduceMul, Int32.reduceSub, Int32.reduceLT, Int32.reduceLE, Int32.reduceToNatClampNeg, litE, ixU, not_false_eq_true, not_true_eq_false, ↓reduceIte, eq_self, true_or, or_true, false_and, and_false, or_false, false_or, i10, i01, in10, i1n, xbT, xbF, r_lt]
      exact ⟨W, P⟩
    | succ k ih =>
      intro b h1 l4 hb W P R
      have hb' : b < n := by omega
      have H1 := wr_sh W H
      have i9 : xe_I h1 36 9 = nI n := by rw [W.2 36 9 (by unfold tS; omega)]; exact h9
      have ih10 : xe_I h1 36 10 = nI hd := by rw [W.2 36 10 (by unfold tS; omega)]; exact h10
      have i41 : xe_I h1 41 b = nI (hg b) := by rw [W.2 41 b (by unfold tS; omega)]; exact h41 b (by omega)
      have hgb := hgl b hb'
      rw [xs_67_10]
      simp only [xs_67_11, xs_67_12, xs_67_15, xs_67_18, xs_67_19, xs_67_20, lt_f hb' (show n < 2 ^ 31 by omega), H1, sT_0, sT_1, sT_2, sN_2, sA_2, sT_3, sN_3, sA_3, sT_4, sN_4, sA_4, sT_5, sN_5, sA_5, sT_6, sN_6, sA_6, sT_7, sT_8, sN_8, sA_8, sT_9, sN_9, sA_9, sT_10, sN_10, sA_10, sT_11, sN_11, sA_11, sT_12, sN_12, sA_12, sT_13, sN_13, sT_14, sT_15, sN_15, sA_15, sT_16, sN_16, sA_16, sT_17, sN_17, sA_17, sT_18, sN_18, sA_18, sT_19, sN_19, sA_19, sT_20, sT_21, sN_21, sA_21, sT_22, sN_22, sA_22, sT_23, sN_23, sA_23, sT_24, sN_24, sA_24, sT_25, sN_25, sA_25, sT_26, sN_26, sB_26, sT_27, sT_28, sN_28, sB_28, sT_29, sT_30, sN_30, sT_32, sN_32, sA_32, sT_33, sT_34, sN_34, sA_34, sT_35, sN_35, sA_35, sT_36, sT_37, sN_37, sA_37, sT_38, sN_38, sA_38, sT_39, sN_39, sA_39, sT_40, sN_40, sB_40, sT_41, sN_41, sA_41, sT_42, sN_42, sA_42, sT_43, sN_43, sA_43, sT_44, sT_45, sN_45, sA_45, sT_46, sN_46, sA_46, sT_47, sN_47, sA_47, sR_1_7, sR_1_8, sR_1_9, sR_1_10, sR_1_11, sR_0_0, sR_7_7, sR_7_8, sR_7_9, sR_7_10, sR_7_11, sR_0_1, sR_0_2, sR_14_7, sR_14_8, sR_14_9, sR_14_10, sR_14_11, sR_13_0, sR_20_7, sR_20_8, sR_20_9, sR_20_10, sR_20_11, sR_13_1, sR_0_3, sR_0_4, sR_27_0, sR_0_5, sR_29_0, sR_29_3, sR_0_6, sR_33_1, sR_33_2, sR_0_7, sR_36_2, sR_36_3, sR_36_4, sR_36_5, sR_36_6, sR_36_7, sR_36_8, sR_0_8, sR_44_0, sR_44_1, sR_44_2, i9, rf_some, xc_int, xc_ref, xc_ret, xc_long, xw_nil, xw_int, xw_ref, xw_long, tl_some, tl_none, true_and, and_true, Nat.zero_le, Nat.reduceAdd, Nat.reduceMul, Nat.reduceLeDiff, Nat.reduceLT, Nat.reduceEqDiff, Nat.reducePow, Int32.reduceAdd, Int32.reduceMul, Int32.reduceSub, Int32.reduceLT, Int32.reduceLE, Int32.reduceToNatClampNeg, litE, ixU, not_false_eq_true, not_true_eq_false, ↓reduceIte, eq_self, true_or, or_true, false_and, and_false, or_false, false_or, i10, i01, in10, i1n, xbT, xbF, r_lt]
      rw [tw_isOpen (d := d + 2) rf (show b < 6 by omega)]
      /- what comes behind the bridge b -/
      have nxt : ∀ h2 l4, wr tS h h2 → (∀ x y, (x = 6 ∨ x < n) → y < n → x ≠ b → xe_I h2 42 (6 * x + y) = xe_I h1 42 (6 * x + y) ∧ xe_I h2 43 (6 * x + y) = xe_I h1 43 (6 * x + y)) → (∀ y, y < n → xe_I h2 42 (6 * b + y) = xe_I h1 42 (6 * b + y) + nI (tn true hd f hg n K b y) ∧ xe_I h2 43 (6 * b + y) = xe_I h1 43 (6 * b + y) + nI (tn false hd f hg n K b y)) → xe_P (d + 3) 67 110 [.ref 36, .int (nI (rp f)), .int (nI K), .int (nI b), l4] [] h2 (fun v h' => v = none ∧ wr tS h h' ∧ tnP hd f hg n K n h h') := by
        intro h2 l4 W2 E1 E2
        have fin := ih (b + 1) h2 l4 (by omega) W2 (fun x y hx hy => ?_) (fun x y h1' h2' hy => ?_)
        · simp only [xs_67_110, xs_67_113, nI_1, rf_some, xc_int, xc_ref, xc_ret, xc_long, xw_nil, xw_int, xw_ref, xw_long, tl_some, tl_none, true_and, and_true, Nat.zero_le, Nat.reduceAdd, Nat.reduceMul, Nat.reduceLeDiff, Nat.reduceLT, Nat.reduceEqDiff, Nat.reducePow, Int32.reduceAdd, Int32.reduceMul, Int32.reduceSub, Int32.reduceLT, Int32.reduceLE, Int32.reduceToNatClampNeg, litE, ixU, not_false_eq_true, not_true_eq_false, ↓reduceIte, eq_self, true_or, or_true, false_and, and_false, or_false, false_or, i10, i01, in10, i1n, xbT, xbF, r_lt]
          exact fin
        · by_cases e : x = b
          · subst e
            obtain ⟨e1, e2⟩ := E2 y hy
            obtain ⟨r1, r2⟩ := R x y (Nat.le_refl _) hb' hy
            rw [e1, e2, r1, r2]
            exact ⟨rfl, rfl⟩
          · obtain ⟨e1, e2⟩ := E1 x y (by omega) hy e
            rw [e1, e2]
            exact P x y (by omega) hy
        · obtain ⟨r1, r2⟩ := R x y (by omega) h2' hy
          obtain ⟨e1, e2⟩ := E1 x y (Or.inr h2') hy (by omega)
          rw [e1, e2]
          exact ⟨r1, r2⟩
      have bn6 : ¬ b = 6 := by omega
      by_cases fb : f b = 0
      · rw [xb_t fb]
        by_cases h7 : hg b = 7
        · have e7 : (nI (hg b) = 7) = True := eq_true (by rw [h7]; rfl)
          have tnb : ∀ o y, tn o hd f hg n K b y = tni o hd f n K b y 7 := fun o y => by unfold tn; rw [if_neg bn6, if_pos fb, if_pos h7]
          have lq : ∀ k c h2, c + k = 7 → wr tS h h2 → (∀ x y, (x = 6 ∨ x < n) → y < n → x ≠ b → xe_I h2 42 (6 * x + y) = xe_I h1 42 (6 * x + y) ∧ xe_I h2 43 (6 * x + y) = xe_I h1 43 (6 * x + y)) → (∀ y, y < n → xe_I h2 42 (6 * b + y) = xe_I h1 42 (6 * b + y) + nI (tni true hd f n K b y c) ∧ xe_I h2 43 (6 * b + y) = xe_I h1 43 (6 * b + y) + nI (tni false hd f n K b y c)) → xe_P (d + 3) 67 66 [.ref 36, .int (nI (rp f)), .int (nI K), .int (nI b), .int (nI c)] [] h2 (fun v h' => v = none ∧ wr tS h h' ∧ tnP hd f hg n K n h h') := by
            intro k
            induction k with
            | zero =>
              intro c h2 hc W2 E1 E2
              have : c = 7 := by omega
              subst this
              have e6 : (6 < nI 7) = True := eq_true (by decide)
              simp only [xs_67_66, xs_67_68, xs_67_70, e6, rf_some, xc_int, xc_ref, xc_ret, xc_long, xw_nil, xw_int, xw_ref, xw_long, tl_some, tl_none, true_and, and_true, Nat.zero_le, Nat.reduceAdd, Nat.reduceMul, Nat.reduceLeDiff, Nat.reduceLT, Nat.reduceEqDiff, Nat.reducePow, Int32.reduceAdd, Int32.reduceMul, Int32.reduceSub, Int32.reduceLT, Int32.reduceLE, Int32.reduceToNatClampNeg, litE, ixU, not_false_eq_true, not_true_eq_false, ↓reduceIte, eq_self, true_or, or_true, false_and, and_false, or_false, false_or, i10, i01, in10, i1n, xbT, xbF, r_lt]
              refine nxt h2 _ W2 E1 (fun y hy => ?_)
              rw [tnb, tnb]
              exact E2 y hy
            | succ k ihk =>
              intro c h2 hc W2 E1 E2
              have H2 := wr_sh W2 H
              have j9 : xe_I h2 36 9 = nI n := by rw [W2.2 36 9 (by unfold tS; omega)]; exact h9
              have j10 : xe_I h2 36 10 = nI hd := by rw [W2.2 36 10 (by unfold tS; omega)]; exact h10
              have e6 : (6 < nI c) = False := eq_false (by rw [nI6, nI_ltI (by decide) (by omega)]; omega)
              have es : ∀ o y, tni o hd f n K b y (c + 1) = tni o hd f n K b y c + (if @decide (mh n b c) (mhD n b c) && tq o hd f b c y then K / n else 0) := fun o y => fb_sm_succ _ c
              rw [xs_67_66]
              simp only [xs_67_68, xs_67_70, xs_67_73, xs_67_74, xs_67_75, xs_67_77, e6, H2, sT_0, sT_1, sT_2, sN_2, sA_2, sT_3, sN_3, sA_3, sT_4, sN_4, sA_4, sT_5, sN_5, sA_5, sT_6, sN_6, sA_6, sT_7, sT_8, sN_8, sA_8, sT_9, sN_9, sA_9, sT_10, sN_10, sA_10, sT_11, sN_11, sA_11, sT_12, sN_12, sA_12, sT_13, sN_13, sT_14, sT_15, sN_15, sA_15, sT_16, sN_16, sA_16, sT_17, sN_17, sA_17, sT_18, sN_18, sA_18, sT_19, sN_19, sA_19, sT_20, sT_21, sN_21, sA_21, sT_22, sN_22, sA_22, sT_23, sN_23, sA_23, sT_24, sN_24, sA_24, sT_25, sN_25, sA_25, sT_26, sN_26, sB_26, sT_27, sT_28, sN_28, sB_28, sT_29, sT_30, sN_30, sT_32, sN_32, sA_32, sT_33, sT_34, sN_34, sA_34, sT_35, sN_35, sA_35, sT_36, sT_37, sN_37, sA_37, sT_38, sN_38, sA_38, sT_39, sN_39, sA_39, sT_40, sN_40, sB_40, sT_41, sN_41, sA_41, sT_42, sN_42, sA_42, sT_43, sN_43, sA_43, sT_44, sT_45, sN_45, sA_45, sT_46, sN_46, sA_46, sT_47, sN_47, sA_47, sR_1_7, sR_1_8, sR_1_9, sR_1_10, sR_1_11, sR_0_0, sR_7_7, sR_7_8, sR_7_9, sR_7_10, sR_7_11, sR_0_1, sR_0_2, sR_14_7, sR_14_8, sR_14_9, sR_14_10, sR_14_11, sR_13_0, sR_20_7, sR_20_8, sR_20_9, sR_20_10, sR_20_11, sR_13_1, sR_0_3, sR_0_4, sR_27_0, sR_0_5, sR_29_0, sR_29_3, sR_0_6, sR_33_1, sR_33_2, sR_0_7, sR_36_2, sR_36_3, sR_36_4, sR_36_5, sR_36_6, sR_36_7, sR_36_8, sR_0_8, sR_44_0, sR_44_1, sR_44_2, rf_some, xc_int, xc_ref, xc_ret, xc_long, xw_nil, xw_int, xw_ref, xw_long, tl_some, tl_none, true_and, and_true, Nat.zero_le, Nat.reduceAdd, Nat.reduceMul, Nat.reduceLeDiff, Nat.reduceLT, Nat.reduceEqDiff, Nat.reducePow, Int32.reduceAdd, Int32.reduceMul, Int32.reduceSub, Int32.reduceLT, Int32.reduceLE, Int32.reduceToNatClampNeg, litE, ixU, not_false_eq_true, not_true_eq_false, ↓reduceIte, eq_self, true_or, or_true, false_and, and_false, or_false, false_or, i10, i01, in10, i1n, xbT, xbF, r_lt]
              rw [cl_mayHang (d := d + 2) hn (show b < 7 by omega) (show c < 7 by omega) H2 j9]
              by_cases m : mh n b c
              · rw [@xb_t _ (mhD n b c) m]
                have c6 : c ≤ 6 := by omega
                simp only [xs_67_80, xs_67_83, xs_67_84, xs_67_85, xs_67_86, xs_67_88, xs_67_89, xs_67_92, H2, sT_0, sT_1, sT_2, sN_2, sA_2, sT_3, sN_3, sA_3, sT_4, sN_4, sA_4, sT_5, sN_5, sA_5, sT_6, sN_6, sA_6, sT_7, sT_8, sN_8, sA_8, sT_9, sN_9, sA_9, sT_10, sN_10, sA_10, sT_11, sN_11, sA_11, sT_12, sN_12, sA_12, sT_13, sN_13, sT_14, sT_15, sN_15, sA_15, sT_16, sN_16, sA_16, sT_17, sN_17, sA_17, sT_18, sN_18, sA_18, sT_19, sN_19, sA_19, sT_20, sT_21, sN_21, sA_21, sT_22, sN_22, sA_22, sT_23, sN_23, sA_23, sT_24, sN_24, sA_24, sT_25, sN_25, sA_25, sT_26, sN_26, sB_26, sT_27, sT_28, sN_28, sB_28, sT_29, sT_30, sN_30, sT_32, sN_32, sA_32, sT_33, sT_34, sN_34, sA_34, sT_35, sN_35, sA_35, sT_36, sT_37, sN_37, sA_37, sT_38, sN_38, sA_38, sT_39, sN_39, sA_39, sT_40, sN_40, sB_40, sT_41, sN_41, sA_41, sT_42, sN_42, sA_42, sT_43, sN_43, sA_43, sT_44, sT_45, sN_45, sA_45, sT_46, sN_46, sA_46, sT_47, sN_47, sA_47, sR_1_7, sR_1_8, sR_1_9, sR_1_10, sR_1_11, sR_0_0, sR_7_7, sR_7_8, sR_7_9, sR_7_10, sR_7_11, sR_0_1, sR_0_2, sR_14_7, sR_14_8, sR_14_9, sR_14_10, sR_14_11, sR_13_0, sR_20_7, sR_20_8, sR_20_9, sR_20_10, sR_20_11, sR_13_1, sR_0_3, sR_0_4, sR_27_0, sR_0_5, sR_29_0, sR_29_3, sR_0_6, sR_33_1, sR_33_2, sR_0_7, sR_36_2, sR_36_3, sR_36_4, sR_36_5, sR_36_6, sR_36_7, sR_36_8, sR_0_8, sR_44_0, sR_44_1, sR_44_2, j10, rf_some, xc_int, xc_ref, xc_ret, xc_long, xw_nil, xw_int, xw_ref, xw_long, tl_some, tl_none, true_and, and_true, Nat.zero_le, Nat.reduceAdd, Nat.reduceMul, Nat.reduceLeDiff, Nat.reduceLT, Nat.reduceEqDiff, Nat.reducePow, Int32.reduceAdd, Int32.reduceMul, Int32.reduceSub, Int32.reduceLT, Int32.reduceLE, Int32.reduceToNatClampNeg, litE, ixU, not_false_eq_true, not_true_eq_false, ↓reduceIte, eq_self, true_or, or_true, false_and, and_false, or_false, false_or, i10, i01, in10, i1n, xbT, xbF, r_lt]
                rw [tw_shutFor (d := d + 2) rf c6 hh]
                have e0 : (nI n = 0) = False := eq_false (nI_ne0 (by omega) (by omega))
                have ed : nI K / nI n = nI (K / n) := pk_div hK (by omega) (by omega)
                simp only [xs_67_95, xs_67_96, xs_67_97, xs_67_100, xs_67_101, H2, sT_0, sT_1, sT_2, sN_2, sA_2, sT_3, sN_3, sA_3, sT_4, sN_4, sA_4, sT_5, sN_5, sA_5, sT_6, sN_6, sA_6, sT_7, sT_8, sN_8, sA_8, sT_9, sN_9, sA_9, sT_10, sN_10, sA_10, sT_11, sN_11, sA_11, sT_12, sN_12, sA_12, sT_13, sN_13, sT_14, sT_15, sN_15, sA_15, sT_16, sN_16, sA_16, sT_17, sN_17, sA_17, sT_18, sN_18, sA_18, sT_19, sN_19, sA_19, sT_20, sT_21, sN_21, sA_21, sT_22, sN_22, sA_22, sT_23, sN_23, sA_23, sT_24, sN_24, sA_24, sT_25, sN_25, sA_25, sT_26, sN_26, sB_26, sT_27, sT_28, sN_28, sB_28, sT_29, sT_30, sN_30, sT_32, sN_32, sA_32, sT_33, sT_34, sN_34, sA_34, sT_35, sN_35, sA_35, sT_36, sT_37, sN_37, sA_37, sT_38, sN_38, sA_38, sT_39, sN_39, sA_39, sT_40, sN_40, sB_40, sT_41, sN_41, sA_41, sT_42, sN_42, sA_42, sT_43, sN_43, sA_43, sT_44, sT_45, sN_45, sA_45, sT_46, sN_46, sA_46, sT_47, sN_47, sA_47, sR_1_7, sR_1_8, sR_1_9, sR_1_10, sR_1_11, sR_0_0, sR_7_7, sR_7_8, sR_7_9, sR_7_10, sR_7_11, sR_0_1, sR_0_2, sR_14_7, sR_14_8, sR_14_9, sR_14_10, sR_14_11, sR_13_0, sR_20_7, sR_20_8, sR_20_9, sR_20_10, sR_20_11, sR_13_1, sR_0_3, sR_0_4, sR_27_0, sR_0_5, sR_29_0, sR_29_3, sR_0_6, sR_33_1, sR_33_2, sR_0_7, sR_36_2, sR_36_3, sR_36_4, sR_36_5, sR_36_6, sR_36_7, sR_36_8, sR_0_8, sR_44_0, sR_44_1, sR_44_2, j9, e0, ed, rf_some, xc_int, xc_ref, xc_ret, xc_long, xw_nil, xw_int, xw_ref, xw_long, tl_some, tl_none, true_and, and_true, Nat.zero_le, Nat.reduceAdd, Nat.reduceMul, Nat.reduceLeDiff, Nat.reduceLT, Nat.reduceEqDiff, Nat.reducePow, Int32.reduceAdd, Int32.reduceMul, Int32.reduceSub, Int32.reduceLT, Int32.reduceLE, Int32.reduceToNatClampNeg, litE, ixU, not_false_eq_true, not_true_eq_false, ↓reduceIte, eq_self, true_or, or_true, false_and, and_false, or_false, false_or, i10, i01, in10, i1n, xbT, xbF, r_lt]
                refine xe_C_mono (cl_tally (d := d + 1) hn (show b ≤ 6 by omega) (rs c) H2 j9) ?_
                rintro v h3 ⟨rfl, W3, A⟩
                have T := tl_a (hd := hd) (f := f) (c := c) hn A (fun y _ => by unfold stp; rw [if_neg bn6])
                simp only [xs_67_104, xs_67_107, nI_1, rf_some, xc_int, xc_ref, xc_ret, xc_long, xw_nil, xw_int, xw_ref, xw_long, tl_some, tl_none, true_and, and_true, Nat.zero_le, Nat.reduceAdd, Nat.reduceMul, Nat.reduceLeDiff, Nat.reduceLT, Nat.reduceEqDiff, Nat.reducePow, Int32.reduceAdd, Int32.reduceMul, Int32.reduceSub, Int32.reduceLT, Int32.reduceLE, Int32.reduceToNatClampNeg, litE, ixU, not_false_eq_true, not_true_eq_false, ↓reduceIte, eq_self, true_or, or_true, false_and, and_false, or_false, false_or, i10, i01, in10, i1n, xbT, xbF, r_lt]
                refine ihk (c + 1) h3 (by omega) (wr_tr W2 W3) (fun x y hx hy hxb => ?_) (fun y hy => ?_)
                · obtain ⟨t1, t2⟩ := T x y (by omega) hy
                  rw [if_neg hxb] at t1 t2
                  obtain ⟨e1, e2⟩ := E1 x y hx hy hxb
                  rw [t1, t2, e1, e2]
                  exact ⟨ad_0 _, ad_0 _⟩
                · obtain ⟨t1, t2⟩ := T b y (by omega) hy
                  rw [if_pos rfl] at t1 t2
                  obtain ⟨e1, e2⟩ := E2 y hy
                  rw [t1, t2, e1, e2, es, es, @decide_eq_true _ (mhD n b c) m, Bool.true_and, Bool.true_and, Int32.add_assoc, Int32.add_assoc, nI_add, nI_add]
                  exact ⟨rfl, rfl⟩
              · rw [@xb_f _ (mhD n b c) m]
                simp only [xs_67_80, xs_67_104, xs_67_107, nI_1, rf_some, xc_int, xc_ref, xc_ret, xc_long, xw_nil, xw_int, xw_ref, xw_long, tl_some, tl_none, true_and, and_true, Nat.zero_le, Nat.reduceAdd, Nat.reduceMul, Nat.reduceLeDiff, Nat.reduceLT, Nat.reduceEqDiff, Nat.reducePow, Int32.reduceAdd, Int32.reduceMul, Int32.reduceSub, Int32.reduceLT, Int32.reduceLE, Int32.reduceToNatClampNeg, litE, ixU, not_false_eq_true, not_true_eq_false, ↓reduceIte, eq_self, true_or, or_true, false_and, and_false, or_false, false_or, i10, i01, in10, i1n, xbT, xbF, r_lt]
                refine ihk (c + 1) h2 (by omega) W2 E1 (fun y hy => ?_)
                rw [es, es, @decide_eq_false _ (mhD n b c) m, Bool.false_and, Bool.false_and]
                exact E2 y hy
          have l0 := lq 7 0 h1 (by omega) W (fun x y _ _ _ => ⟨rfl, rfl⟩) (fun y _ => ⟨(ad_0 _).symm, (ad_0 _).symm⟩)
          simp only [xs_67_23, xs_67_26, xs_67_29, xs_67_30, xs_67_33, xs_67_34, xs_67_35, xs_67_37, xs_67_63, xs_67_64, H1, sT_0, sT_1, sT_2, sN_2, sA_2, sT_3, sN_3, sA_3, sT_4, sN_4, sA_4, sT_5, sN_5, sA_5, sT_6, sN_6, sA_6, sT_7, sT_8, sN_8, sA_8, sT_9, sN_9, sA_9, sT_10, sN_10, sA_10, sT_11, sN_11, sA_11, sT_12, sN_12, sA_12, sT_13, sN_13, sT_14, sT_15, sN_15, sA_15, sT_16, sN_16, sA_16, sT_17, sN_17, sA_17, sT_18, sN_18, sA_18, sT_19, sN_19, sA_19, sT_20, sT_21, sN_21, sA_21, sT_22, sN_22, sA_22, sT_23, sN_23, sA_23, sT_24, sN_24, sA_24, sT_25, sN_25, sA_25, sT_26, sN_26, sB_26, sT_27, sT_28, sN_28, sB_28, sT_29, sT_30, sN_30, sT_32, sN_32, sA_32, sT_33, sT_34, sN_34, sA_34, sT_35, sN_35, sA_35, sT_36, sT_37, sN_37, sA_37, sT_38, sN_38, sA_38, sT_39, sN_39, sA_39, sT_40, sN_40, sB_40, sT_41, sN_41, sA_41, sT_42, sN_42, sA_42, sT_43, sN_43, sA_43, sT_44, sT_45, sN_45, sA_45, sT_46, sN_46, sA_46, sT_47, sN_47, sA_47, sR_1_7, sR_1_8, sR_1_9, sR_1_10, sR_1_11, sR_0_0, sR_7_7, sR_7_8, sR_7_9, sR_7_10, sR_7_11, sR_0_1, sR_0_2, sR_14_7, sR_14_8, sR_14_9, sR_14_10, sR_14_11, sR_13_0, sR_20_7, sR_20_8, sR_20_9, sR_20_10, sR_20_11, sR_13_1, sR_0_3, sR_0_4, sR_27_0, sR_0_5, sR_29_0, sR_29_3, sR_0_6, sR_33_1, sR_33_2, sR_0_7, sR_36_2, sR_36_3, sR_36_4, sR_36_5, sR_36_6, sR_36_7, sR_36_8, sR_0_8, sR_44_0, sR_44_1, sR_44_2, i41, nIlt0 (show b < 2 ^ 31 by omega), nI_clamp (show b < 2 ^ 31 by omega), show b < 6 by omega, e7, rf_some, xc_int, xc_ref, xc_ret, xc_long, xw_nil, xw_int, xw_ref, xw_long, tl_some, tl_none, true_and, and_true, Nat.zero_le, Nat.reduceAdd, Nat.reduceMul, Nat.reduceLeDiff, Nat.reduceLT, Nat.reduceEqDiff, Nat.reducePow, Int32.reduceAdd, Int32.reduceMul, Int32.reduceSub, Int32.reduceLT, Int32.reduceLE, Int32.reduceToNatClampNeg, litE, ixU, not_false_eq_true, not_true_eq_false, ↓reduceIte, eq_self, true_or, or_true, false_and, and_false, or_false, false_or, i10, i01, in10, i1n, xbT, xbF, r_lt]
          exact l0
        · have e7 : (nI (hg b) = 7) = False := eq_false (by rw [show (7 : Int32) = nI 7 from rfl, nI_eq (by omega) (by decide)]; exact h7)
          simp only [xs_67_23, xs_67_26, xs_67_29, xs_67_30, xs_67_33, xs_67_34, xs_67_35, xs_67_37, xs_67_40, xs_67_41, xs_67_42, xs_67_43, xs_67_44, xs_67_47, xs_67_48, xs_67_49, xs_67_50, xs_67_53, H1, sT_0, sT_1, sT_2, sN_2, sA_2, sT_3, sN_3, sA_3, sT_4, sN_4, sA_4, sT_5, sN_5, sA_5, sT_6, sN_6, sA_6, sT_7, sT_8, sN_8, sA_8, sT_9, sN_9, sA_9, sT_10, sN_10, sA_10, sT_11, sN_11, sA_11, sT_12, sN_12, sA_12, sT_13, sN_13, sT_14, sT_15, sN_15, sA_15, sT_16, sN_16, sA_16, sT_17, sN_17, sA_17, sT_18, sN_18, sA_18, sT_19, sN_19, sA_19, sT_20, sT_21, sN_21, sA_21, sT_22, sN_22, sA_22, sT_23, sN_23, sA_23, sT_24, sN_24, sA_24, sT_25, sN_25, sA_25, sT_26, sN_26, sB_26, sT_27, sT_28, sN_28, sB_28, sT_29, sT_30, sN_30, sT_32, sN_32, sA_32, sT_33, sT_34, sN_34, sA_34, sT_35, sN_35, sA_35, sT_36, sT_37, sN_37, sA_37, sT_38, sN_38, sA_38, sT_39, sN_39, sA_39, sT_40, sN_40, sB_40, sT_41, sN_41, sA_41, sT_42, sN_42, sA_42, sT_43, sN_43, sA_43, sT_44, sT_45, sN_45, sA_45, sT_46, sN_46, sA_46, sT_47, sN_47, sA_47, sR_1_7, sR_1_8, sR_1_9, sR_1_10, sR_1_11, sR_0_0, sR_7_7, sR_7_8, sR_7_9, sR_7_10, sR_7_11, sR_0_1, sR_0_2, sR_14_7, sR_14_8, sR_14_9, sR_14_10, sR_14_11, sR_13_0, sR_20_7, sR_20_8, sR_20_9, sR_20_10, sR_20_11, sR_13_1, sR_0_3, sR_0_4, sR_27_0, sR_0_5, sR_29_0, sR_29_3, sR_0_6, sR_33_1, sR_33_2, sR_0_7, sR_36_2, sR_36_3, sR_36_4, sR_36_5, sR_36_6, sR_36_7, sR_36_8, sR_0_8, sR_44_0, sR_44_1, sR_44_2, i41, ih10, nIlt0 (show b < 2 ^ 31 by omega), nI_clamp (show b < 2 ^ 31 by omega), show b < 6 by omega, e7, rf_some, xc_int, xc_ref, xc_ret, xc_long, xw_nil, xw_int, xw_ref, xw_long, tl_some, tl_none, true_and, and_true, Nat.zero_le, Nat.reduceAdd, Nat.reduceMul, Nat.reduceLeDiff, Nat.reduceLT, Nat.reduceEqDiff, Nat.reducePow, Int32.reduceAdd, Int32.reduceMul, Int32.reduceSub, Int32.reduceLT, Int32.reduceLE, Int32.reduceToNatClampNeg, litE, ixU, not_false_eq_true, not_true_eq_false, ↓reduceIte, eq_self, true_or, or_true, false_and, and_false, or_false, false_or, i10, i01, in10, i1n, xbT, xbF, r_lt]
          rw [tw_shutFor (d := d + 2) rf (show hg b ≤ 6 by omega) hh]
          simp only [xs_67_56, xs_67_57, H1, sT_0, sT_1, sT_2, sN_2, sA_2, sT_3, sN_3, sA_3, sT_4, sN_4, sA_4, sT_5, sN_5, sA_5, sT_6, sN_6, sA_6, sT_7, sT_8, sN_8, sA_8, sT_9, sN_9, sA_9, sT_10, sN_10, sA_10, sT_11, sN_11, sA_11, sT_12, sN_12, sA_12, sT_13, sN_13, sT_14, sT_15, sN_15, sA_15, sT_16, sN_16, sA_16, sT_17, sN_17, sA_17, sT_18, sN_18, sA_18, sT_19, sN_19, sA_19, sT_20, sT_21, sN_21, sA_21, sT_22, sN_22, sA_22, sT_23, sN_23, sA_23, sT_24, sN_24, sA_24, sT_25, sN_25, sA_25, sT_26, sN_26, sB_26, sT_27, sT_28, sN_28, sB_28, sT_29, sT_30, sN_30, sT_32, sN_32, sA_32, sT_33, sT_34, sN_34, sA_34, sT_35, sN_35, sA_35, sT_36, sT_37, sN_37, sA_37, sT_38, sN_38, sA_38, sT_39, sN_39, sA_39, sT_40, sN_40, sB_40, sT_41, sN_41, sA_41, sT_42, sN_42, sA_42, sT_43, sN_43, sA_43, sT_44, sT_45, sN_45, sA_45, sT_46, sN_46, sA_46, sT_47, sN_47, sA_47, sR_1_7, sR_1_8, sR_1_9, sR_1_10, sR_1_11, sR_0_0, sR_7_7, sR_7_8, sR_7_9, sR_7_10, sR_7_11, sR_0_1, sR_0_2, sR_14_7, sR_14_8, sR_14_9, sR_14_10, sR_14_11, sR_13_0, sR_20_7, sR_20_8, sR_20_9, sR_20_10, sR_20_11, sR_13_1, sR_0_3, sR_0_4, sR_27_0, sR_0_5, sR_29_0, sR_29_3, sR_0_6, sR_33_1, sR_33_2, sR_0_7, sR_36_2, sR_36_3, sR_36_4, sR_36_5, sR_36_6, sR_36_7, sR_36_8, sR_0_8, sR_44_0, sR_44_1, sR_44_2, rf_some, xc_int, xc_ref, xc_ret, xc_long, xw_nil, xw_int, xw_ref, xw_long, tl_some, tl_none, true_and, and_true, Nat.zero_le, Nat.reduceAdd, Nat.reduceMul, Nat.reduceLeDiff, Nat.reduceLT, Nat.reduceEqDiff, Nat.reducePow, Int32.reduceAdd, Int32.reduceMul, Int32.reduceSub, Int32.reduceLT, Int32.reduceLE, Int32.reduceToNatClampNeg, litE, ixU, not_false_eq_true, not_true_eq_false, ↓reduceIte, eq_self, true_or, or_true, false_and, and_false, or_false, false_or, i10, i01, in10, i1n, xbT, xbF, r_lt]
          refine xe_C_mono (cl_tally (d := d + 1) hn (show b ≤ 6 by omega) (rs (hg b)) H1 i9) ?_
          rintro v h3 ⟨rfl, W3, A⟩
          have T := tl_a (hd := hd) (f := f) (c := hg b) hn A (fun y _ => by unfold stp; rw [if_neg bn6])
          simp only [xs_67_60, rf_some, xc_int, xc_ref, xc_ret, xc_long, xw_nil, xw_int, xw_ref, xw_long, tl_some, tl_none, true_and, and_true, Nat.zero_le, Nat.reduceAdd, Nat.reduceMul, Nat.reduceLeDiff, Nat.reduceLT, Nat.reduceEqDiff, Nat.reducePow, Int32.reduceAdd, Int32.reduceMul, Int32.reduceSub, Int32.reduceLT, Int32.reduceLE, Int32.reduceToNatClampNeg, litE, ixU, not_false_eq_true, not_true_eq_false, ↓reduceIte, eq_self, true_or, or_true, false_and, and_false, or_false, false_or, i10, i01, in10, i1n, xbT, xbF, r_lt]
          refine nxt h3 _ (wr_tr W W3) (fun x y hx hy hxb => ?_) (fun y hy => ?_)
          · obtain ⟨t1, t2⟩ := T x y (by omega) hy
            rw [if_neg hxb] at t1 t2
            rw [t1, t2]
            exact ⟨ad_0 _, ad_0 _⟩
          · obtain ⟨t1, t2⟩ := T b y (by omega) hy
            rw [if_pos rfl] at t1 t2
            unfold tn
            rw [if_neg bn6, if_pos fb, if_neg h7, if_neg bn6, if_pos fb, if_neg h7]
            exact ⟨t1, t2⟩
      · rw [xb_f fb]
        simp only [xs_67_23, xs_67_26, rf_some, xc_int, xc_ref, xc_ret, xc_long, xw_nil, xw_int, xw_ref, xw_long, tl_some, tl_none, true_and, and_true, Nat.zero_le, Nat.reduceAdd, Nat.reduceMul, Nat.reduceLeDiff, Nat.reduceLT, Nat.reduceEqDiff, Nat.reducePow, Int32.reduceAdd, Int32.reduceMul, Int32.reduceSub, Int32.reduceLT, Int32.reduceLE, Int32.reduceToNatClampNeg, litE, ixU, not_false_eq_true, not_true_eq_false, ↓reduceIte, eq_self, true_or, or_true, false_and, and_false, or_false, false_or, i10, i01, in10, i1n, xbT, xbF, r_lt]
        refine nxt h1 _ W (fun x y _ _ _ => ⟨rfl, rfl⟩) (fun y hy => ?_)
        unfold tn
        rw [if_neg bn6, if_neg fb, if_neg bn6, if_neg fb]
        exact ⟨(ad_0 _).symm, (ad_0 _).symm⟩
  simp only [xs_67, xs_67_0, xs_67_1, xs_67_3, xs_67_4, xs_67_5, H, sT_0, sT_1, sT_2, sN_2, sA_2, sT_3, sN_3, sA_3, sT_4, sN_4, sA_4, sT_5, sN_5, sA_5, sT_6, sN_6, sA_6, sT_7, sT_8, sN_8, sA_8, sT_9, sN_9, sA_9, sT_10, sN_10, sA_10, sT_11, sN_11, sA_11, sT_12, sN_12, sA_12, sT_13, sN_13, sT_14, sT_15, sN_15, sA_15, sT_16, sN_16, sA_16, sT_17, sN_17, sA_17, sT_18, sN_18, sA_18, sT_19, sN_19, sA_19, sT_20, sT_21, sN_21, sA_21, sT_22, sN_22, sA_22, sT_23, sN_23, sA_23, sT_24, sN_24, sA_24, sT_25, sN_25, sA_25, sT_26, sN_26, sB_26, sT_27, sT_28, sN_28, sB_28, sT_29, sT_30, sN_30, sT_32, sN_32, sA_32, sT_33, sT_34, sN_34, sA_34, sT_35, sN_35, sA_35, sT_36, sT_37, sN_37, sA_37, sT_38, sN_38, sA_38, sT_39, sN_39, sA_39, sT_40, sN_40, sB_40, sT_41, sN_41, sA_41, sT_42, sN_42, sA_42, sT_43, sN_43, sA_43, sT_44, sT_45, sN_45, sA_45, sT_46, sN_46, sA_46, sT_47, sN_47, sA_47, sR_1_7, sR_1_8, sR_1_9, sR_1_10, sR_1_11, sR_0_0, sR_7_7, sR_7_8, sR_7_9, sR_7_10, sR_7_11, sR_0_1, sR_0_2, sR_14_7, sR_14_8, sR_14_9, sR_14_10, sR_14_11, sR_13_0, sR_20_7, sR_20_8, sR_20_9, sR_20_10, sR_20_11, sR_13_1, sR_0_3, sR_0_4, sR_27_0, sR_0_5, sR_29_0, sR_29_3, sR_0_6, sR_33_1, sR_33_2, sR_0_7, sR_36_2, sR_36_3, sR_36_4, sR_36_5, sR_36_6, sR_36_7, sR_36_8, sR_0_8, sR_44_0, sR_44_1, sR_44_2, rf_some, xc_int, xc_ref, xc_ret, xc_long, xw_nil, xw_int, xw_ref, xw_long, tl_some, tl_none, true_and, and_true, Nat.zero_le, Nat.reduceAdd, Nat.reduceMul, Nat.reduceLeDiff, Nat.reduceLT, Nat.reduceEqDiff, Nat.reducePow, Int32.reduceAdd, Int32.reduceMul, Int32.reduceSub, Int32.reduceLT, Int32.reduceLE, Int32.reduceToNatClampNeg, litE, ixU, not_false_eq_true, not_true_eq_false, ↓reduceIte, eq_self, true_or, or_true, false_and, and_false, or_false, false_or, i10, i01, in10, i1n, xbT, xbF, r_lt]
  have c0 := cl_tally (d := d + 1) (x := 6) (K := K) (F := f) hn (Nat.le_refl 6) rf H h9
  rw [show nI 6 = (6 : Int32) from rfl] at c0
  refine xe_C_mono c0 ?_
  rintro v h1 ⟨rfl, W, A⟩
  have T := tl_a (hd := hd) (f := f) (c := 0) hn A (fun y _ => by unfold stp; rw [if_pos rfl])
  simp only [xs_67_8, xs_67_9, rf_some, xc_int, xc_ref, xc_ret, xc_long, xw_nil, xw_int, xw_ref, xw_long, tl_some, tl_none, true_and, and_true, Nat.zero_le, Nat.reduceAdd, Nat.reduceMul, Nat.reduceLeDiff, Nat.reduceLT, Nat.reduceEqDiff, Nat.reducePow, Int32.reduceAdd, Int32.reduceMul, Int32.reduceSub, Int32.reduceLT, Int32.reduceLE, Int32.reduceToNatClampNeg, litE, ixU, not_false_eq_true, not_true_eq_false, ↓reduceIte, eq_self, true_or, or_true, false_and, and_false, or_false, false_or, i10, i01, in10, i1n, xbT, xbF, r_lt]
  have l0 := lp n 0 h1 (.retAddr 0) (by omega) W (fun x y hx hy => ?_) (fun x y _ hx hy => ?_)
  · rw [show nI 0 = (0 : Int32) from rfl] at l0
    exact l0
  · have : x = 6 := by omega
    subst this
    obtain ⟨t1, t2⟩ := T 6 y (by omega) hy
    rw [if_pos rfl] at t1 t2
    rw [tn6, tn6]
    exact ⟨t1, t2⟩
  · obtain ⟨t1, t2⟩ := T x y (by omega) hy
    rw [if_neg (by omega)] at t1 t2
    rw [t1, t2]
    exact ⟨ad_0 _, ad_0 _⟩
end TZ
