/-! text: the reference reads a line -/
def mlQ (T : Nat → Nat) (n : Nat) (o : Nat × Nat × (Nat → Nat)) (h h' : xe_H) : Prop := wr msS h h' ∧ ((o.1 = 0 ∧ msQ o.2.2 h' ∧ ldT T n (tkS T n o.2.1) h') ∨ (¬ o.1 = 0 ∧ BR o.1 o.2.1 h'))
section TQ
variable {d : Nat} {h h1 : xe_H} {g : Nat → Nat} {Q : Option Value → xe_H → Prop} {T : Nat → Nat} {n : Nat}
theorem md_finB {c p : Nat} {x1 : Int32} {l2 : Value} (hc : ¬ c = 0) (hc2 : c ≤ 6) (H : sh h1) (B : BR c p h1) (K : Q none h1) : xe_P (d + 5) 133 145 [.ref 48, .int x1, l2] [] h1 Q := by
  have st := fun d Q => md_stepB (d := d) (Q := Q) (c := c) H (by omega) (by omega) B.1
  simp only [xs_133_145, xs_133_146, xs_133_149, xs_133_152, xs_133_153, xs_133_156, xs_133_157, xs_133_160, xs_133_161, xs_133_162, xs_133_165, xs_133_166, xs_133_169, H, sT_48, sT_49, sN_49, sA_49, sT_50, sN_50, sA_50, sT_51, sN_51, sA_51, sT_52, sN_52, sA_52, sT_53, sN_53, sA_53, sT_54, sN_54, sA_54, sT_55, sN_55, sA_55, sT_56, sN_56, sA_56, sT_57, sN_57, sA_57, sT_58, sN_58, sA_58, sT_59, sN_59, sA_59, sT_60, sN_60, sA_60, sT_61, sN_61, sA_61, sT_62, sN_62, sA_62, sT_63, sN_63, sA_63, sT_64, sN_64, sA_64, sT_65, sN_65, sA_65, sT_66, sN_66, sA_66, sT_67, sN_67, sA_67, sT_68, sN_68, sB_68, sT_69, sN_69, sA_69, sT_70, sN_70, sA_70, sT_71, sN_71, sA_71, sR_48_0, sR_48_2, sR_48_9, sR_48_10, sR_48_11, sR_48_20, sR_48_21, sR_48_22, sR_48_23, sR_48_24, sR_48_26, sR_48_27, sR_48_28, sR_48_29, sR_48_30, sR_48_31, sR_48_33, sR_48_34, sR_48_35, sR_48_36, sR_48_37, sR_48_38, sR_48_39, B.1, eq_false (nz (show 0 < c by omega) (show c < 2 ^ 31 by omega)), st, rf_some, xc_int, xc_ref, xc_ret, xc_long, xw_nil, xw_int, xw_ref, xw_long, tl_some, tl_none, true_and, and_true, Nat.zero_le, Nat.reduceAdd, Nat.reduceMul, Nat.reduceLeDiff, Nat.reduceLT, Nat.reduceEqDiff, Nat.reducePow, Int32.reduceAdd, Int32.reduceMul, Int32.reduceSub, Int32.reduceLT, Int32.reduceLE, Int32.reduceToNatClampNeg, litE, ixU, not_false_eq_true, not_true_eq_false, ↓reduceIte, eq_self, true_or, or_true, false_and, and_false, or_false, false_or, i10, i01, in10, i1n, xbT, xbF, r_lt]
  exact K
theorem md_fin {w a b i : Nat} {x1 : Int32} {l2 : Value} (hn : n ≤ 320) (hT : ∀ k, T k < 256) (hi : i ≤ n) (H : sh h1) (C : mTp' T n h1) (W : wr msS h h1) (M : msQ (tlg w a b g) h1) (L : ldT T n (tkS T n i) h1) (K : ∀ h', mlQ T n (linF T n w a b i g) h h' → Q none h') : xe_P (d + 5) 133 145 [.ref 48, .int x1, l2] [] h1 Q := by
  have hS := tkS_b (T := T) hi
  have hE := eE_b (T := T) hS.2
  have k4 := eK_4 T n (tkS T n i)
  unfold linF at K
  generalize tkS T n i = j at *
  rcases id L with ⟨z4, e14, e17, e18, e16, e19⟩ | ⟨z4, e14, e15⟩
  · rw [if_neg z4] at K
    by_cases z3 : eK T n j = 3
    · rw [if_neg (fun y => y z3)] at K
      have st := md_step (d := d + 3) hn hT hE.2.1 H C e14 e16
      have k3 : (nI (eK T n j) = 3) = True := eq_true (by rw [z3]; rfl)
      simp only [xs_133_145, xs_133_146, xs_133_149, xs_133_152, xs_133_153, xs_133_156, xs_133_157, xs_133_160, xs_133_161, xs_133_162, xs_133_165, xs_133_166, H, sT_48, sT_49, sN_49, sA_49, sT_50, sN_50, sA_50, sT_51, sN_51, sA_51, sT_52, sN_52, sA_52, sT_53, sN_53, sA_53, sT_54, sN_54, sA_54, sT_55, sN_55, sA_55, sT_56, sN_56, sA_56, sT_57, sN_57, sA_57, sT_58, sN_58, sA_58, sT_59, sN_59, sA_59, sT_60, sN_60, sA_60, sT_61, sN_61, sA_61, sT_62, sN_62, sA_62, sT_63, sN_63, sA_63, sT_64, sN_64, sA_64, sT_65, sN_65, sA_65, sT_66, sN_66, sA_66, sT_67, sN_67, sA_67, sT_68, sN_68, sB_68, sT_69, sN_69, sA_69, sT_70, sN_70, sA_70, sT_71, sN_71, sA_71, sR_48_0, sR_48_2, sR_48_9, sR_48_10, sR_48_11, sR_48_20, sR_48_21, sR_48_22, sR_48_23, sR_48_24, sR_48_26, sR_48_27, sR_48_28, sR_48_29, sR_48_30, sR_48_31, sR_48_33, sR_48_34, sR_48_35, sR_48_36, sR_48_37, sR_48_38, sR_48_39, e14, e18, k3, rf_some, xc_int, xc_ref, xc_ret, xc_long, xw_nil, xw_int, xw_ref, xw_long, tl_some, tl_none, true_and, and_true, Nat.zero_le, Nat.reduceAdd, Nat.reduceMul, Nat.reduceLeDiff, Nat.reduceLT, Nat.reduceEqDiff, Nat.reducePow, Int32.reduceAdd, Int32.reduceMul, Int32.reduceSub, Int32.reduceLT, Int32.reduceLE, Int32.reduceToNatClampNeg, litE, ixU, not_false_eq_true, not_true_eq_false, ↓reduceIte, eq_self, true_or, or_true, false_and, and_false, or_false, false_or, i10, i01, in10, i1n, xbT, xbF, r_lt]
      refine xe_C_mono st ?_
      rintro r h2 ⟨rfl, W2, L2⟩
      have k := K h2 ⟨wr_tr W (tm_ms W2), Or.inl ⟨rfl, msQ_c M (fun c j q => W2.2 c j (by unfold tmS; omega)), L2⟩⟩
      simp only [xs_133_169, rf_some, xc_int, xc_ref, xc_ret, xc_long, xw_nil, xw_int, xw_ref, xw_long, tl_some, tl_none, true_and, and_true, Nat.zero_le, Nat.reduceAdd, Nat.reduceMul, Nat.reduceLeDiff, Nat.reduceLT, Nat.reduceEqDiff, Nat.reducePow, Int32.reduceAdd, Int32.reduceMul, Int32.reduceSub, Int32.reduceLT, Int32.reduceLE, Int32.reduceToNatClampNeg, litE, ixU, not_false_eq_true, not_true_eq_false, ↓reduceIte, eq_self, true_or, or_true, false_and, and_false, or_false, false_or, i10, i01, in10, i1n, xbT, xbF, r_lt]
      exact k
    · rw [if_pos z3] at K
      have k3 : (nI (eK T n j) = 3) = False := eq_false (by rw [show (3 : Int32) = nI 3 from rfl, nIe (by omega) (by decide)]; exact z3)
      have fl := fun d Q => md_fails (d := d) (c := 2) (Q := Q) H e14 e17
      have W4 : wr msS h1 (xe_sI (xe_sI h1 48 14 2) 48 15 (nI j)) := wr_sI (wr_sI (wr_rf _ _) (by unfold msS; omega)) (by unfold msS; omega)
      have f14 : xe_I (xe_sI (xe_sI h1 48 14 2) 48 15 (nI j)) 48 14 = nI 2 := by rw [hI_sI, if_neg (by omega), hI_sI, if_pos ⟨rfl, rfl⟩]; rfl
      have st := fun d Q => md_stepB (d := d) (Q := Q) (wr_sh W4 H) (c := 2) (by decide) (by decide) f14
      have k := K _ ⟨wr_tr W W4, Or.inr ⟨show ¬ (2 : Nat) = 0 by decide, f14, by rw [hI_sI, if_pos ⟨rfl, rfl⟩]⟩⟩
      simp only [xs_133_145, xs_133_146, xs_133_149, xs_133_152, xs_133_153, xs_133_156, xs_133_157, xs_133_160, xs_133_161, xs_133_162, xs_133_165, xs_133_166, xs_133_169, H, sT_48, sT_49, sN_49, sA_49, sT_50, sN_50, sA_50, sT_51, sN_51, sA_51, sT_52, sN_52, sA_52, sT_53, sN_53, sA_53, sT_54, sN_54, sA_54, sT_55, sN_55, sA_55, sT_56, sN_56, sA_56, sT_57, sN_57, sA_57, sT_58, sN_58, sA_58, sT_59, sN_59, sA_59, sT_60, sN_60, sA_60, sT_61, sN_61, sA_61, sT_62, sN_62, sA_62, sT_63, sN_63, sA_63, sT_64, sN_64, sA_64, sT_65, sN_65, sA_65, sT_66, sN_66, sA_66, sT_67, sN_67, sA_67, sT_68, sN_68, sB_68, sT_69, sN_69, sA_69, sT_70, sN_70, sA_70, sT_71, sN_71, sA_71, sR_48_0, sR_48_2, sR_48_9, sR_48_10, sR_48_11, sR_48_20, sR_48_21, sR_48_22, sR_48_23, sR_48_24, sR_48_26, sR_48_27, sR_48_28, sR_48_29, sR_48_30, sR_48_31, sR_48_33, sR_48_34, sR_48_35, sR_48_36, sR_48_37, sR_48_38, sR_48_39, e14, e18, k3, fl, st, rf_some, xc_int, xc_ref, xc_ret, xc_long, xw_nil, xw_int, xw_ref, xw_long, tl_some, tl_none, true_and, and_true, Nat.zero_le, Nat.reduceAdd, Nat.reduceMul, Nat.reduceLeDiff, Nat.reduceLT, Nat.reduceEqDiff, Nat.reducePow, Int32.reduceAdd, Int32.reduceMul, Int32.reduceSub, Int32.reduceLT, Int32.reduceLE, Int32.reduceToNatClampNeg, litE, ixU, not_false_eq_true, not_true_eq_false, ↓reduceIte, eq_self, true_or, or_true, false_and, and_false, or_false, false_or, i10, i01, in10, i1n, xbT, xbF, r_lt, hI_sI, hL_sI, hR_sI, hT_sI, hN_sI, hn_sI, ho_sI, hia_sI, hba_sI, hal_sI, hix_sI, hI_aI, hL_aI, hR_aI, hT_aI, hN_aI, hn_aI, ho_aI, hia_aI, hal_aI, hix_aI, sh_sI, sh_aI, sh_sL, sh_aL]
      exact k
  · rw [if_pos z4] at K
    exact md_finB (c := 1) (by decide) (by decide) H ⟨e14, e15⟩ (K h1 ⟨W, Or.inr ⟨show ¬ (1 : Nat) = 0 by decide, e14, e15⟩⟩)
theorem mlQ_br {c p : Nat} {g' : Nat → Nat} (W : wr msS h h1) (hc : ¬ c = 0) (B : BR c p h1) : mlQ T n (c, p, g') h h1 := ⟨W, Or.inr ⟨hc, B⟩⟩
theorem md_readLine {j : Nat} (hn : n ≤ 320) (hT : ∀ k, T k < 256) (hj : j ≤ n) (G : gq g) (H : sh h) (C : mTp' T n h) (Wd : mWd h) (M : msQ g h) (L : ldT T n j h) (z4 : ¬ eK T n j = 4) (K : ∀ h', mlQ T n (lin0 T n j g) h h' → Q none h') : xe_C (d + 6) 133 [.ref 48] h Q := by
  have hE := eE_b (T := T) hj
  have hS1 := tkS_b (T := T) hE.2.1
  have hE1 := eE_b (T := T) hS1.2
  have hS2 := tkS_b (T := T) hE1.2.1
  have hE2 := eE_b (T := T) hS2.2
  have k4 := eK_4 T n j
  have q24 := G.1.1
  have q31 := G.1.2.1
  unfold lin0 at K
  rw [if_neg z4] at K
  rcases id L with ⟨-, e14, e17, e18, e16, e19⟩ | ⟨y, -⟩
  · have fl := fun d Q => md_fails (d := d) (c := 2) (Q := Q) H e14 e17
    have W4 : wr msS h (xe_sI (xe_sI h 48 14 2) 48 15 (nI j)) := wr_sI (wr_sI (wr_rf _ _) (by unfold msS; omega)) (by unfold msS; omega)
    have B4 : BR 2 j (xe_sI (xe_sI h 48 14 2) 48 15 (nI j)) := ⟨by rw [hI_sI, if_neg (by omega), hI_sI, if_pos ⟨rfl, rfl⟩]; rfl, by rw [hI_sI, if_pos ⟨rfl, rfl⟩]⟩
    have xn : ¬ ((0 : Int32) ≤ -4 ∧ (-4 : Int32) ≤ 6) := by decide
    by_cases z1 : eK T n j = 1
    · rw [if_neg (fun y => y z1)] at K
      rw [z1] at e18
      have nh := fun d Q => md_nameHere (d := d) (Q := Q) hn hT hE.1 hE.2.1 H Wd C e16 e17 e18
      have h7 := wdO_7 T j (eE T n j)
      generalize wdO T j (eE T n j) = w at *
      unfold linW at K
      by_cases z7 : w = 7
      · rw [if_pos z7] at K nh
        have k := K _ (mlQ_br W4 (by decide) B4)
        simp only [xs_133, xs_133_0, xs_133_1, xs_133_4, xs_133_5, xs_133_6, xs_133_7, xs_133_8, xs_133_11, xs_133_14, xs_133_17, xs_133_18, xs_133_19, xs_133_22, H, sT_48, sT_49, sN_49, sA_49, sT_50, sN_50, sA_50, sT_51, sN_51, sA_51, sT_52, sN_52, sA_52, sT_53, sN_53, sA_53, sT_54, sN_54, sA_54, sT_55, sN_55, sA_55, sT_56, sN_56, sA_56, sT_57, sN_57, sA_57, sT_58, sN_58, sA_58, sT_59, sN_59, sA_59, sT_60, sN_60, sA_60, sT_61, sN_61, sA_61, sT_62, sN_62, sA_62, sT_63, sN_63, sA_63, sT_64, sN_64, sA_64, sT_65, sN_65, sA_65, sT_66, sN_66, sA_66, sT_67, sN_67, sA_67, sT_68, sN_68, sB_68, sT_69, sN_69, sA_69, sT_70, sN_70, sA_70, sT_71, sN_71, sA_71, sR_48_0, sR_48_2, sR_48_9, sR_48_10, sR_48_11, sR_48_20, sR_48_21, sR_48_22, sR_48_23, sR_48_24, sR_48_26, sR_48_27, sR_48_28, sR_48_29, sR_48_30, sR_48_31, sR_48_33, sR_48_34, sR_48_35, sR_48_36, sR_48_37, sR_48_38, sR_48_39, nh, show ∀ (d : Nat) (h : xe_H) (Q : Option Value → xe_H → Prop) (x : Int32), xe_C (d + 1) 120 [.long x.toInt64, .long 0, .long 6] h Q = Q (some (.int (xb (0 ≤ x ∧ x ≤ 6)))) h from fun d h Q x => md_inI x 0 6, xb_f xn, fl, rf_some, xc_int, xc_ref, xc_ret, xc_long, xw_nil, xw_int, xw_ref, xw_long, tl_some, tl_none, true_and, and_true, Nat.zero_le, Nat.reduceAdd, Nat.reduceMul, Nat.reduceLeDiff, Nat.reduceLT, Nat.reduceEqDiff, Nat.reducePow, Int32.reduceAdd, Int32.reduceMul, Int32.reduceSub, Int32.reduceLT, Int32.reduceLE, Int32.reduceToNatClampNeg, litE, ixU, not_false_eq_true, not_true_eq_false, ↓reduceIte, eq_self, true_or, or_true, false_and, and_false, or_false, false_or, i10, i01, in10, i1n, xbT, xbF, r_lt]
        exact k
      · rw [if_neg z7] at K nh
        have xw : (0 : Int32) ≤ nI w ∧ nI w ≤ 6 := ⟨nI_pos' (by omega), by rw [show (6 : Int32) = nI 6 from rfl, nIle (by omega) (by decide)]; omega⟩
        have lN : ldN T n j h := ⟨e14, e17, e16⟩
        have in6 : ∀ (d : Nat) (h : xe_H) (Q : Option Value → xe_H → Prop) (x : Int32), xe_C (d + 1) 120 [.long x.toInt64, .long 0, .long 6] h Q = Q (some (.int (xb (0 ≤ x ∧ x ≤ 6)))) h := fun d h Q x => md_inI x 0 6
        have p23 : ∀ Q, xe_C (d + 6) 133 [.ref 48] h Q = xe_P (d + 5) 133 23 [.ref 48, .int (nI w), .retAddr 0] [] h Q := fun Q => by
          simp only [xs_133, xs_133_0, xs_133_1, xs_133_4, xs_133_5, xs_133_6, xs_133_7, xs_133_8, xs_133_11, xs_133_14, H, sT_48, sT_49, sN_49, sA_49, sT_50, sN_50, sA_50, sT_51, sN_51, sA_51, sT_52, sN_52, sA_52, sT_53, sN_53, sA_53, sT_54, sN_54, sA_54, sT_55, sN_55, sA_55, sT_56, sN_56, sA_56, sT_57, sN_57, sA_57, sT_58, sN_58, sA_58, sT_59, sN_59, sA_59, sT_60, sN_60, sA_60, sT_61, sN_61, sA_61, sT_62, sN_62, sA_62, sT_63, sN_63, sA_63, sT_64, sN_64, sA_64, sT_65, sN_65, sA_65, sT_66, sN_66, sA_66, sT_67, sN_67, sA_67, sT_68, sN_68, sB_68, sT_69, sN_69, sA_69, sT_70, sN_70, sA_70, sT_71, sN_71, sA_71, sR_48_0, sR_48_2, sR_48_9, sR_48_10, sR_48_11, sR_48_20, sR_48_21, sR_48_22, sR_48_23, sR_48_24, sR_48_26, sR_48_27, sR_48_28, sR_48_29, sR_48_30, sR_48_31, sR_48_33, sR_48_34, sR_48_35, sR_48_36, sR_48_37, sR_48_38, sR_48_39, nh, in6, xb_t xw, rf_some, xc_int, xc_ref, xc_ret, xc_long, xw_nil, xw_int, xw_ref, xw_long, tl_some, tl_none, true_and, and_true, Nat.zero_le, Nat.reduceAdd, Nat.reduceMul, Nat.reduceLeDiff, Nat.reduceLT, Nat.reduceEqDiff, Nat.reducePow, Int32.reduceAdd, Int32.reduceMul, Int32.reduceSub, Int32.reduceLT, Int32.reduceLE, Int32.reduceToNatClampNeg, litE, ixU, not_false_eq_true, not_true_eq_false, ↓reduceIte, eq_self, true_or, or_true, false_and, and_false, or_false, false_or, i10, i01, in10, i1n, xbT, xbF, r_lt]
        rw [p23]
        have w3 : (nI w = 3) = (w = 3) := nIe (by omega) (by decide)
        have w6 : (nI w = 6) = (w = 6) := nIe (by omega) (by decide)
        have w4 : (nI w = 4) = (w = 4) := nIe (by omega) (by decide)
        have w5 : (nI w = 5) = (w = 5) := nIe (by omega) (by decide)
        by_cases y3 : w = 3
        · subst y3
          rw [if_neg (by omega)] at K
          simp only [xs_133_23, xs_133_24, xs_133_25, xs_133_28, xs_133_29, w3, H, sT_48, sT_49, sN_49, sA_49, sT_50, sN_50, sA_50, sT_51, sN_51, sA_51, sT_52, sN_52, sA_52, sT_53, sN_53, sA_53, sT_54, sN_54, sA_54, sT_55, sN_55, sA_55, sT_56, sN_56, sA_56, sT_57, sN_57, sA_57, sT_58, sN_58, sA_58, sT_59, sN_59, sA_59, sT_60, sN_60, sA_60, sT_61, sN_61, sA_61, sT_62, sN_62, sA_62, sT_63, sN_63, sA_63, sT_64, sN_64, sA_64, sT_65, sN_65, sA_65, sT_66, sN_66, sA_66, sT_67, sN_67, sA_67, sT_68, sN_68, sB_68, sT_69, sN_69, sA_69, sT_70, sN_70, sA_70, sT_71, sN_71, sA_71, sR_48_0, sR_48_2, sR_48_9, sR_48_10, sR_48_11, sR_48_20, sR_48_21, sR_48_22, sR_48_23, sR_48_24, sR_48_26, sR_48_27, sR_48_28, sR_48_29, sR_48_30, sR_48_31, sR_48_33, sR_48_34, sR_48_35, sR_48_36, sR_48_37, sR_48_38, sR_48_39, rf_some, xc_int, xc_ref, xc_ret, xc_long, xw_nil, xw_int, xw_ref, xw_long, tl_some, tl_none, true_and, and_true, Nat.zero_le, Nat.reduceAdd, Nat.reduceMul, Nat.reduceLeDiff, Nat.reduceLT, Nat.reduceEqDiff, Nat.reducePow, Int32.reduceAdd, Int32.reduceMul, Int32.reduceSub, Int32.reduceLT, Int32.reduceLE, Int32.reduceToNatClampNeg, litE, ixU, not_false_eq_true, not_true_eq_false, ↓reduceIte, eq_self, true_or, or_true, false_and, and_false, or_false, false_or, i10, i01, in10, i1n, xbT, xbF, r_lt]
          refine md_readBridge (d := d) hn hT hj G H C M lN (fun h2 a0 W B => ?_) (fun h2 a0 a1 W B => ?_) (fun h2 c a0 a1 a2 a3 W B => ?_) (fun h2 a0 a1 a2 W M2 L2 => ?_)
          · rw [if_pos (Or.inl ⟨rfl, a0⟩)] at K
            simp only [xs_133_32, rf_some, xc_int, xc_ref, xc_ret, xc_long, xw_nil, xw_int, xw_ref, xw_long, tl_some, tl_none, true_and, and_true, Nat.zero_le, Nat.reduceAdd, Nat.reduceMul, Nat.reduceLeDiff, Nat.reduceLT, Nat.reduceEqDiff, Nat.reducePow, Int32.reduceAdd, Int32.reduceMul, Int32.reduceSub, Int32.reduceLT, Int32.reduceLE, Int32.reduceToNatClampNeg, litE, ixU, not_false_eq_true, not_true_eq_false, ↓reduceIte, eq_self, true_or, or_true, false_and, and_false, or_false, false_or, i10, i01, in10, i1n, xbT, xbF, r_lt]
            exact md_finB (d := d) (by decide) (by decide) (wr_sh W H) B (K _ (mlQ_br W (by decide) B))
          · rw [if_neg (by omega)] at K
            unfold lin1 at K
            rw [show lo1 3 = 0 from rfl, show hi1 3 = 4 from rfl, if_pos a1] at K
            have nb := nC_b T n (tkS T n (eE T n j)) 0 4
            simp only [xs_133_32, rf_some, xc_int, xc_ref, xc_ret, xc_long, xw_nil, xw_int, xw_ref, xw_long, tl_some, tl_none, true_and, and_true, Nat.zero_le, Nat.reduceAdd, Nat.reduceMul, Nat.reduceLeDiff, Nat.reduceLT, Nat.reduceEqDiff, Nat.reducePow, Int32.reduceAdd, Int32.reduceMul, Int32.reduceSub, Int32.reduceLT, Int32.reduceLE, Int32.reduceToNatClampNeg, litE, ixU, not_false_eq_true, not_true_eq_false, ↓reduceIte, eq_self, true_or, or_true, false_and, and_false, or_false, false_or, i10, i01, in10, i1n, xbT, xbF, r_lt]
            exact md_finB (d := d) a1 (by omega) (wr_sh W H) B (K _ (mlQ_br W a1 B))
          · rw [if_neg (by omega)] at K
            unfold lin1 at K
            rw [show lo1 3 = 0 from rfl, show hi1 3 = 4 from rfl, if_neg (fun y => y a1), if_neg (by unfold tkn; intro y; have := of_decide_eq_true y; omega), if_neg (by decide)] at K
            unfold lin2 at K
            rw [show lo2 3 = 0 from rfl, show hi2 3 = 4 from rfl] at K
            have nb := oC_b (T := T) (n := n) (j := tkS T n (eE T n (tkS T n (eE T n j)))) (lo := 0) (hi := 4) (bit := fun v => if v = eV T n (tkS T n (eE T n j)) then 1 else 0)
            rw [← a2] at nb
            unfold oC at a2
            simp only [xs_133_32, rf_some, xc_int, xc_ref, xc_ret, xc_long, xw_nil, xw_int, xw_ref, xw_long, tl_some, tl_none, true_and, and_true, Nat.zero_le, Nat.reduceAdd, Nat.reduceMul, Nat.reduceLeDiff, Nat.reduceLT, Nat.reduceEqDiff, Nat.reducePow, Int32.reduceAdd, Int32.reduceMul, Int32.reduceSub, Int32.reduceLT, Int32.reduceLE, Int32.reduceToNatClampNeg, litE, ixU, not_false_eq_true, not_true_eq_false, ↓reduceIte, eq_self, true_or, or_true, false_and, and_false, or_false, false_or, i10, i01, in10, i1n, xbT, xbF, r_lt]
            by_cases u : nC T n (tkS T n (eE T n (tkS T n (eE T n j)))) 0 4 = 0
            · rw [if_pos u] at a2
              by_cases v : eV T n (tkS T n (eE T n (tkS T n (eE T n j)))) = eV T n (tkS T n (eE T n j))
              · have c4 : c = 4 := by rw [a2, if_pos (if_pos v)]
                rw [if_neg (fun y => y u), if_pos ⟨Or.inl rfl, v.symm⟩, ← c4] at K
                exact md_finB (d := d) a3 (by omega) (wr_sh W H) B (K _ (mlQ_br W a3 B))
              · exact absurd (by rw [a2, if_neg (fun y => by dsimp only at y; rw [if_neg v] at y; omega)]) a3
            · rw [if_neg u] at a2
              rw [if_pos u, ← a2] at K
              exact md_finB (d := d) a3 (by omega) (wr_sh W H) B (K _ (mlQ_br W a3 B))
          · rw [if_neg (by omega)] at K
            unfold lin1 at K
            rw [show lo1 3 = 0 from rfl, show hi1 3 = 4 from rfl, if_neg (fun y => y a1), if_neg (by unfold tkn; intro y; have := of_decide_eq_true y; omega), if_neg (by decide)] at K
            unfold lin2 at K
            have b2 := oC_nC a2
            rw [show lo2 3 = 0 from rfl, show hi2 3 = 4 from rfl, if_neg (fun y => y b2.1), if_neg (fun y => b2.2 (if_pos y.2.symm))] at K
            simp only [xs_133_32, rf_some, xc_int, xc_ref, xc_ret, xc_long, xw_nil, xw_int, xw_ref, xw_long, tl_some, tl_none, true_and, and_true, Nat.zero_le, Nat.reduceAdd, Nat.reduceMul, Nat.reduceLeDiff, Nat.reduceLT, Nat.reduceEqDiff, Nat.reducePow, Int32.reduceAdd, Int32.reduceMul, Int32.reduceSub, Int32.reduceLT, Int32.reduceLE, Int32.reduceToNatClampNeg, litE, ixU, not_false_eq_true, not_true_eq_false, ↓reduceIte, eq_self, true_or, or_true, false_and, and_false, or_false, false_or, i10, i01, in10, i1n, xbT, xbF, r_lt]
            exact md_fin (d := d) hn hT hE2.2.1 (wr_sh W H) (mTp'_m C W) W M2 L2 K
        · by_cases y6 : w = 6
          · subst y6
            rw [if_neg (by omega)] at K
            simp only [xs_133_23, xs_133_24, xs_133_25, xs_133_35, xs_133_36, xs_133_38, xs_133_41, xs_133_42, w3, w6, eq_false y3, H, sT_48, sT_49, sN_49, sA_49, sT_50, sN_50, sA_50, sT_51, sN_51, sA_51, sT_52, sN_52, sA_52, sT_53, sN_53, sA_53, sT_54, sN_54, sA_54, sT_55, sN_55, sA_55, sT_56, sN_56, sA_56, sT_57, sN_57, sA_57, sT_58, sN_58, sA_58, sT_59, sN_59, sA_59, sT_60, sN_60, sA_60, sT_61, sN_61, sA_61, sT_62, sN_62, sA_62, sT_63, sN_63, sA_63, sT_64, sN_64, sA_64, sT_65, sN_65, sA_65, sT_66, sN_66, sA_66, sT_67, sN_67, sA_67, sT_68, sN_68, sB_68, sT_69, sN_69, sA_69, sT_70, sN_70, sA_70, sT_71, sN_71, sA_71, sR_48_0, sR_48_2, sR_48_9, sR_48_10, sR_48_11, sR_48_20, sR_48_21, sR_48_22, sR_48_23, sR_48_24, sR_48_26, sR_48_27, sR_48_28, sR_48_29, sR_48_30, sR_48_31, sR_48_33, sR_48_34, sR_48_35, sR_48_36, sR_48_37, sR_48_38, sR_48_39, rf_some, xc_int, xc_ref, xc_ret, xc_long, xw_nil, xw_int, xw_ref, xw_long, tl_some, tl_none, true_and, and_true, Nat.zero_le, Nat.reduceAdd, Nat.reduceMul, Nat.reduceLeDiff, Nat.reduceLT, Nat.reduceEqDiff, Nat.reducePow, Int32.reduceAdd, Int32.reduceMul, Int32.reduceSub, Int32.reduceLT, Int32.reduceLE, Int32.reduceToNatClampNeg, litE, ixU, not_false_eq_true, not_true_eq_false, ↓reduceIte, eq_self, true_or, or_true, false_and, and_false, or_false, false_or, i10, i01, in10, i1n, xbT, xbF, r_lt]
            refine md_readOne (d := d) hn hT hj G H C M lN (fun h2 a0 W B => ?_) (fun h2 a0 a1 W B => ?_) (fun h2 c a0 a1 a2 a3 W B => ?_) (fun h2 a0 a1 a2 W M2 L2 => ?_)
            · rw [if_pos (Or.inr ⟨rfl, a0⟩)] at K
              simp only [xs_133_45, rf_some, xc_int, xc_ref, xc_ret, xc_long, xw_nil, xw_int, xw_ref, xw_long, tl_some, tl_none, true_and, and_true, Nat.zero_le, Nat.reduceAdd, Nat.reduceMul, Nat.reduceLeDiff, Nat.reduceLT, Nat.reduceEqDiff, Nat.reducePow, Int32.reduceAdd, Int32.reduceMul, Int32.reduceSub, Int32.reduceLT, Int32.reduceLE, Int32.reduceToNatClampNeg, litE, ixU, not_false_eq_true, not_true_eq_false, ↓reduceIte, eq_self, true_or, or_true, false_and, and_false, or_false, false_or, i10, i01, in10, i1n, xbT, xbF, r_lt]
              exact md_finB (d := d) (by decide) (by decide) (wr_sh W H) B (K _ (mlQ_br W (by decide) B))
            · rw [if_neg (by omega)] at K
              unfold lin1 at K
              rw [show lo1 6 = 0 from rfl, show hi1 6 = 4 from rfl, if_pos a1] at K
              have nb := nC_b T n (tkS T n (eE T n j)) 0 4
              simp only [xs_133_45, rf_some, xc_int, xc_ref, xc_ret, xc_long, xw_nil, xw_int, xw_ref, xw_long, tl_some, tl_none, true_and, and_true, Nat.zero_le, Nat.reduceAdd, Nat.reduceMul, Nat.reduceLeDiff, Nat.reduceLT, Nat.reduceEqDiff, Nat.reducePow, Int32.reduceAdd, Int32.reduceMul, Int32.reduceSub, Int32.reduceLT, Int32.reduceLE, Int32.reduceToNatClampNeg, litE, ixU, not_false_eq_true, not_true_eq_false, ↓reduceIte, eq_self, true_or, or_true, false_and, and_false, or_false, false_or, i10, i01, in10, i1n, xbT, xbF, r_lt]
              exact md_finB (d := d) a1 (by omega) (wr_sh W H) B (K _ (mlQ_br W a1 B))
            · rw [if_neg (by omega)] at K
              unfold lin1 at K
              rw [show lo1 6 = 0 from rfl, show hi1 6 = 4 from rfl, if_neg (fun y => y a1), if_neg (by unfold tkn; intro y; have := of_decide_eq_true y; omega), if_neg (by decide)] at K
              unfold lin2 at K
              have nb := nC_b T n (tkS T n (eE T n (tkS T n (eE T n j)))) 0 4
              rw [← a2] at nb
              rw [show lo2 6 = 0 from rfl, show hi2 6 = 4 from rfl, ← a2, if_pos a3] at K
              simp only [xs_133_45, rf_some, xc_int, xc_ref, xc_ret, xc_long, xw_nil, xw_int, xw_ref, xw_long, tl_some, tl_none, true_and, and_true, Nat.zero_le, Nat.reduceAdd, Nat.reduceMul, Nat.reduceLeDiff, Nat.reduceLT, Nat.reduceEqDiff, Nat.reducePow, Int32.reduceAdd, Int32.reduceMul, Int32.reduceSub, Int32.reduceLT, Int32.reduceLE, Int32.reduceToNatClampNeg, litE, ixU, not_false_eq_true, not_true_eq_false, ↓reduceIte, eq_self, true_or, or_true, false_and, and_false, or_false, false_or, i10, i01, in10, i1n, xbT, xbF, r_lt]
              exact md_finB (d := d) a3 (by omega) (wr_sh W H) B (K _ (mlQ_br W a3 B))
            · rw [if_neg (by omega)] at K
              unfold lin1 at K
              rw [show lo1 6 = 0 from rfl, show hi1 6 = 4 from rfl, if_neg (fun y => y a1), if_neg (by unfold tkn; intro y; have := of_decide_eq_true y; omega), if_neg (by decide)] at K
              unfold lin2 at K
              rw [show lo2 6 = 0 from rfl, show hi2 6 = 4 from rfl, if_neg (fun y => y a2), if_neg (by omega)] at K
              simp only [xs_133_45, rf_some, xc_int, xc_ref, xc_ret, xc_long, xw_nil, xw_int, xw_ref, xw_long, tl_some, tl_none, true_and, and_true, Nat.zero_le, Nat.reduceAdd, Nat.reduceMul, Nat.reduceLeDiff, Nat.reduceLT, Nat.reduceEqDiff, Nat.reducePow, Int32.reduceAdd, Int32.reduceMul, Int32.reduceSub, Int32.reduceLT, Int32.reduceLE, Int32.reduceToNatClampNeg, litE, ixU, not_false_eq_true, not_true_eq_false, ↓reduceIte, eq_self, true_or, or_true, false_and, and_false, or_false, false_or, i10, i01, in10, i1n, xbT, xbF, r_lt]
              exact md_fin (d := d) hn hT hE2.2.1 (wr_sh W H) (mTp'_m C W) W M2 L2 K
          · by_cases y4 : w = 4
            · subst y4
              rw [if_neg (by omega), if_neg (by omega)] at K
              unfold lin1 at K
              rw [show lo1 4 = 0 from rfl, show hi1 4 = 5 from rfl] at K
              have tk : ∀ v, (tkn 4 g v = true) ↔ ¬ g (4 * v + 2) = 6 := fun v => by unfold tkn; rw [decide_eq_true_iff]; omega
              simp only [xs_133_23, xs_133_24, xs_133_25, xs_133_35, xs_133_36, xs_133_38, xs_133_48, xs_133_49, xs_133_50, w3, w6, w4, eq_false y3, eq_false y6, rf_some, xc_int, xc_ref, xc_ret, xc_long, xw_nil, xw_int, xw_ref, xw_long, tl_some, tl_none, true_and, and_true, Nat.zero_le, Nat.reduceAdd, Nat.reduceMul, Nat.reduceLeDiff, Nat.reduceLT, Nat.reduceEqDiff, Nat.reducePow, Int32.reduceAdd, Int32.reduceMul, Int32.reduceSub, Int32.reduceLT, Int32.reduceLE, Int32.reduceToNatClampNeg, litE, ixU, not_false_eq_true, not_true_eq_false, ↓reduceIte, eq_self, true_or, or_true, false_and, and_false, or_false, false_or, i10, i01, in10, i1n, xbT, xbF, r_lt]
              refine md_chain (d := d) hn hT hj G H C M lN (fun h2 c l2 a2 a3 W B => ?_) (fun h2 c l2 a1 a2 a3 W B => ?_) (fun h2 l2 a1 a2 W M2 L2 => ?_)
              · have nb := oC_b (T := T) (n := n) (j := tkS T n (eE T n j)) (lo := 0) (hi := 5) (bit := fun v => if g (4 * v + 2) = 6 then 0 else 1)
                rw [← a2] at nb
                unfold oC at a2
                by_cases u : nC T n (tkS T n (eE T n j)) 0 5 = 0
                · rw [if_pos u] at a2
                  by_cases v : g (4 * eV T n (tkS T n (eE T n j)) + 2) = 6
                  · exact absurd (by rw [a2, if_neg (fun y => by dsimp only at y; rw [if_pos v] at y; omega)]) a3
                  · have c4 : c = 4 := by rw [a2, if_pos (if_neg v)]
                    rw [if_neg (fun y => y u), if_pos ((tk _).mpr v), ← c4] at K
                    exact md_finB (d := d) a3 (by omega) (wr_sh W H) B (K _ (mlQ_br W a3 B))
                · rw [if_neg u] at a2
                  rw [if_pos u, ← a2] at K
                  exact md_finB (d := d) a3 (by omega) (wr_sh W H) B (K _ (mlQ_br W a3 B))
              · have b1 := oC_nC a1
                have b2 : ¬ tkn 4 g (eV T n (tkS T n (eE T n j))) = true := by
                  rw [tk]; intro y; exact b1.2 (if_neg y)
                rw [if_neg (fun y => y b1.1), if_neg b2, if_neg (by decide)] at K
                unfold lin2 at K
                rw [show lo2 4 = 0 from rfl, show hi2 4 = 5 from rfl] at K
                have nb := oC_b (T := T) (n := n) (j := tkS T n (eE T n (tkS T n (eE T n j)))) (lo := 0) (hi := 5) (bit := fun v => if v = eV T n (tkS T n (eE T n j)) then 1 else 0)
                rw [← a2] at nb
                unfold oC at a2
                by_cases u : nC T n (tkS T n (eE T n (tkS T n (eE T n j)))) 0 5 = 0
                · rw [if_pos u] at a2
                  by_cases v : eV T n (tkS T n (eE T n (tkS T n (eE T n j)))) = eV T n (tkS T n (eE T n j))
                  · have c4 : c = 4 := by rw [a2, if_pos (if_pos v)]
                    rw [if_neg (fun y => y u), if_pos ⟨Or.inr rfl, v.symm⟩, ← c4] at K
                    exact md_finB (d := d) a3 (by omega) (wr_sh W H) B (K _ (mlQ_br W a3 B))
                  · exact absurd (by rw [a2, if_neg (fun y => by dsimp only at y; rw [if_neg v] at y; omega)]) a3
                · rw [if_neg u] at a2
                  rw [if_pos u, ← a2] at K
                  exact md_finB (d := d) a3 (by omega) (wr_sh W H) B (K _ (mlQ_br W a3 B))
              · have b1 := oC_nC a1
                have b2 : ¬ tkn 4 g (eV T n (tkS T n (eE T n j))) = true := by
                  rw [tk]; intro y; exact b1.2 (if_neg y)
                have b3 := oC_nC a2
                rw [if_neg (fun y => y b1.1), if_neg b2, if_neg (by decide)] at K
                unfold lin2 at K
                rw [show lo2 4 = 0 from rfl, show hi2 4 = 5 from rfl, if_neg (fun y => y b3.1), if_neg (fun y => b3.2 (if_pos y.2.symm))] at K
                exact md_fin (d := d) hn hT hE2.2.1 (wr_sh W H) (mTp'_m C W) W M2 L2 K
            · by_cases y5 : w = 5
              · subst y5
                rw [if_neg (by omega), if_neg (by omega)] at K
                unfold lin1 at K
                rw [show lo1 5 = 0 from rfl, show hi1 5 = 5 from rfl] at K
                have tk : ∀ v, (tkn 5 g v = true) ↔ ¬ g (4 * v + 3) = 0 := fun v => by unfold tkn; rw [decide_eq_true_iff]; omega
                simp only [xs_133_23, xs_133_24, xs_133_25, xs_133_35, xs_133_36, xs_133_38, xs_133_48, xs_133_49, xs_133_50, xs_133_94, xs_133_95, xs_133_96, w3, w6, w4, w5, eq_false y3, eq_false y6, eq_false y4, rf_some, xc_int, xc_ref, xc_ret, xc_long, xw_nil, xw_int, xw_ref, xw_long, tl_some, tl_none, true_and, and_true, Nat.zero_le, Nat.reduceAdd, Nat.reduceMul, Nat.reduceLeDiff, Nat.reduceLT, Nat.reduceEqDiff, Nat.reducePow, Int32.reduceAdd, Int32.reduceMul, Int32.reduceSub, Int32.reduceLT, Int32.reduceLE, Int32.reduceToNatClampNeg, litE, ixU, not_false_eq_true, not_true_eq_false, ↓reduceIte, eq_self, true_or, or_true, false_and, and_false, or_false, false_or, i10, i01, in10, i1n, xbT, xbF, r_lt]
                refine md_shut (d := d) hn hT hj G H C M lN (fun h2 c l2 a2 a3 W B => ?_) (fun h2 c l2 a1 a2 a3 W B => ?_) (fun h2 l2 a1 a2 W M2 L2 => ?_)
                · have nb := oC_b (T := T) (n := n) (j := tkS T n (eE T n j)) (lo := 0) (hi := 5) (bit := fun v => if g (4 * v + 3) = 0 then 0 else 1)
                  rw [← a2] at nb
                  unfold oC at a2
                  by_cases u : nC T n (tkS T n (eE T n j)) 0 5 = 0
                  · rw [if_pos u] at a2
                    by_cases v : g (4 * eV T n (tkS T n (eE T n j)) + 3) = 0
                    · exact absurd (by rw [a2, if_neg (fun y => by dsimp only at y; rw [if_pos v] at y; omega)]) a3
                    · have c4 : c = 4 := by rw [a2, if_pos (if_neg v)]
                      rw [if_neg (fun y => y u), if_pos ((tk _).mpr v), ← c4] at K
                      exact md_finB (d := d) a3 (by omega) (wr_sh W H) B (K _ (mlQ_br W a3 B))
                  · rw [if_neg u] at a2
                    rw [if_pos u, ← a2] at K
                    exact md_finB (d := d) a3 (by omega) (wr_sh W H) B (K _ (mlQ_br W a3 B))
                · have b1 := oC_nC a1
                  have b2 : ¬ tkn 5 g (eV T n (tkS T n (eE T n j))) = true := by
                    rw [tk]; intro y; exact b1.2 (if_neg y)
                  rw [if_neg (fun y => y b1.1), if_neg b2, if_neg (by decide)] at K
                  unfold lin2 at K
                  have nb := nC_b T n (tkS T n (eE T n (tkS T n (eE T n j)))) 1 3
                  rw [← a2] at nb
                  rw [show lo2 5 = 1 from rfl, show hi2 5 = 3 from rfl, ← a2, if_pos a3] at K
                  exact md_finB (d := d) a3 (by omega) (wr_sh W H) B (K _ (mlQ_br W a3 B))
                · have b1 := oC_nC a1
                  have b2 : ¬ tkn 5 g (eV T n (tkS T n (eE T n j))) = true := by
                    rw [tk]; intro y; exact b1.2 (if_neg y)
                  rw [if_neg (fun y => y b1.1), if_neg b2, if_neg (by decide)] at K
                  unfold lin2 at K
                  rw [show lo2 5 = 1 from rfl, show hi2 5 = 3 from rfl, if_neg (fun y => y a2), if_neg (by omega)] at K
                  exact md_fin (d := d) hn hT hE2.2.1 (wr_sh W H) (mTp'_m C W) W M2 L2 K
              · have hw3 : w < 3 := by omega
                simp only [xs_133_23, xs_133_24, xs_133_25, xs_133_35, xs_133_36, xs_133_38, xs_133_48, xs_133_49, xs_133_50, xs_133_94, xs_133_95, xs_133_96, xs_133_140, xs_133_141, xs_133_142, w3, w6, w4, w5, eq_false y3, eq_false y6, eq_false y4, eq_false y5, H, sT_48, sT_49, sN_49, sA_49, sT_50, sN_50, sA_50, sT_51, sN_51, sA_51, sT_52, sN_52, sA_52, sT_53, sN_53, sA_53, sT_54, sN_54, sA_54, sT_55, sN_55, sA_55, sT_56, sN_56, sA_56, sT_57, sN_57, sA_57, sT_58, sN_58, sA_58, sT_59, sN_59, sA_59, sT_60, sN_60, sA_60, sT_61, sN_61, sA_61, sT_62, sN_62, sA_62, sT_63, sN_63, sA_63, sT_64, sN_64, sA_64, sT_65, sN_65, sA_65, sT_66, sN_66, sA_66, sT_67, sN_67, sA_67, sT_68, sN_68, sB_68, sT_69, sN_69, sA_69, sT_70, sN_70, sA_70, sT_71, sN_71, sA_71, sR_48_0, sR_48_2, sR_48_9, sR_48_10, sR_48_11, sR_48_20, sR_48_21, sR_48_22, sR_48_23, sR_48_24, sR_48_26, sR_48_27, sR_48_28, sR_48_29, sR_48_30, sR_48_31, sR_48_33, sR_48_34, sR_48_35, sR_48_36, sR_48_37, sR_48_38, sR_48_39, rf_some, xc_int, xc_ref, xc_ret, xc_long, xw_nil, xw_int, xw_ref, xw_long, tl_some, tl_none, true_and, and_true, Nat.zero_le, Nat.reduceAdd, Nat.reduceMul, Nat.reduceLeDiff, Nat.reduceLT, Nat.reduceEqDiff, Nat.reducePow, Int32.reduceAdd, Int32.reduceMul, Int32.reduceSub, Int32.reduceLT, Int32.reduceLE, Int32.reduceToNatClampNeg, litE, ixU, not_false_eq_true, not_true_eq_false, ↓reduceIte, eq_self, true_or, or_true, false_and, and_false, or_false, false_or, i10, i01, in10, i1n, xbT, xbF, r_lt]
                refine md_readOnce (d := d) hw3 hn hT hj G H C M lN (fun h2 a0 W B => ?_) (fun h2 a0 a1 W B => ?_) (fun h2 a0 a1 W M2 L2 => ?_)
                · rw [if_pos ⟨hw3, a0⟩] at K
                  exact md_finB (d := d) (by decide) (by decide) (wr_sh W H) B (K _ (mlQ_br W (by decide) B))
                · rw [if_neg (fun y => a0 y.2), if_neg (by omega)] at K
                  unfold lin1 at K
                  rw [if_pos a1] at K
                  have nb := nC_b T n (tkS T n (eE T n j)) (lo1 w) (hi1 w)
                  exact md_finB (d := d) a1 (by omega) (wr_sh W H) B (K _ (mlQ_br W a1 B))
                · rw [if_neg (fun y => a0 y.2), if_neg (by omega)] at K
                  unfold lin1 at K
                  rw [if_neg (fun y => y a1), if_neg (by unfold tkn; intro y; have := of_decide_eq_true y; omega), if_pos hw3] at K
                  exact md_fin (d := d) hn hT hE1.2.1 (wr_sh W H) (mTp'_m C W) W M2 L2 K
    · rw [if_pos z1] at K
      have k := K _ (mlQ_br W4 (by decide) B4)
      have k1 : (nI (eK T n j) = 1) = False := eq_false (by rw [show (1 : Int32) = nI 1 from rfl, nIe (by omega) (by decide)]; exact z1)
      have nh : ∀ d Q, xe_C (d + 1) 125 [.ref 48] h Q = Q (some (.int (-4))) h := fun d Q => by
        simp only [xs_125, xs_125_0, xs_125_1, xs_125_2, xs_125_3, xs_125_5, xs_125_8, xs_125_9, xs_125_12, xs_125_13, xs_125_118, xs_125_120, show ((7 : Int32) ≤ 0) = False from eq_false (by decide), H, sT_48, sT_49, sN_49, sA_49, sT_50, sN_50, sA_50, sT_51, sN_51, sA_51, sT_52, sN_52, sA_52, sT_53, sN_53, sA_53, sT_54, sN_54, sA_54, sT_55, sN_55, sA_55, sT_56, sN_56, sA_56, sT_57, sN_57, sA_57, sT_58, sN_58, sA_58, sT_59, sN_59, sA_59, sT_60, sN_60, sA_60, sT_61, sN_61, sA_61, sT_62, sN_62, sA_62, sT_63, sN_63, sA_63, sT_64, sN_64, sA_64, sT_65, sN_65, sA_65, sT_66, sN_66, sA_66, sT_67, sN_67, sA_67, sT_68, sN_68, sB_68, sT_69, sN_69, sA_69, sT_70, sN_70, sA_70, sT_71, sN_71, sA_71, sR_48_0, sR_48_2, sR_48_9, sR_48_10, sR_48_11, sR_48_20, sR_48_21, sR_48_22, sR_48_23, sR_48_24, sR_48_26, sR_48_27, sR_48_28, sR_48_29, sR_48_30, sR_48_31, sR_48_33, sR_48_34, sR_48_35, sR_48_36, sR_48_37, sR_48_38, sR_48_39, e18, k1, rf_some, xc_int, xc_ref, xc_ret, xc_long, xw_nil, xw_int, xw_ref, xw_long, tl_some, tl_none, true_and, and_true, Nat.zero_le, Nat.reduceAdd, Nat.reduceMul, Nat.reduceLeDiff, Nat.reduceLT, Nat.reduceEqDiff, Nat.reducePow, Int32.reduceAdd, Int32.reduceMul, Int32.reduceSub, Int32.reduceLT, Int32.reduceLE, Int32.reduceToNatClampNeg, litE, ixU, not_false_eq_true, not_true_eq_false, ↓reduceIte, eq_self, true_or, or_true, false_and, and_false, or_false, false_or, i10, i01, in10, i1n, xbT, xbF, r_lt]
      have in6 : ∀ (d : Nat) (h : xe_H) (Q : Option Value → xe_H → Prop) (x : Int32), xe_C (d + 1) 120 [.long x.toInt64, .long 0, .long 6] h Q = Q (some (.int (xb (0 ≤ x ∧ x ≤ 6)))) h := fun d h Q x => md_inI x 0 6
      simp only [xs_133, xs_133_0, xs_133_1, xs_133_4, xs_133_5, xs_133_6, xs_133_7, xs_133_8, xs_133_11, xs_133_14, xs_133_17, xs_133_18, xs_133_19, xs_133_22, H, sT_48, sT_49, sN_49, sA_49, sT_50, sN_50, sA_50, sT_51, sN_51, sA_51, sT_52, sN_52, sA_52, sT_53, sN_53, sA_53, sT_54, sN_54, sA_54, sT_55, sN_55, sA_55, sT_56, sN_56, sA_56, sT_57, sN_57, sA_57, sT_58, sN_58, sA_58, sT_59, sN_59, sA_59, sT_60, sN_60, sA_60, sT_61, sN_61, sA_61, sT_62, sN_62, sA_62, sT_63, sN_63, sA_63, sT_64, sN_64, sA_64, sT_65, sN_65, sA_65, sT_66, sN_66, sA_66, sT_67, sN_67, sA_67, sT_68, sN_68, sB_68, sT_69, sN_69, sA_69, sT_70, sN_70, sA_70, sT_71, sN_71, sA_71, sR_48_0, sR_48_2, sR_48_9, sR_48_10, sR_48_11, sR_48_20, sR_48_21, sR_48_22, sR_48_23, sR_48_24, sR_48_26, sR_48_27, sR_48_28, sR_48_29, sR_48_30, sR_48_31, sR_48_33, sR_48_34, sR_48_35, sR_48_36, sR_48_37, sR_48_38, sR_48_39, nh, in6, xb_f xn, fl, rf_some, xc_int, xc_ref, xc_ret, xc_long, xw_nil, xw_int, xw_ref, xw_long, tl_some, tl_none, true_and, and_true, Nat.zero_le, Nat.reduceAdd, Nat.reduceMul, Nat.reduceLeDiff, Nat.reduceLT, Nat.reduceEqDiff, Nat.reducePow, Int32.reduceAdd, Int32.reduceMul, Int32.reduceSub, Int32.reduceLT, Int32.reduceLE, Int32.reduceToNatClampNeg, litE, ixU, not_false_eq_true, not_true_eq_false, ↓reduceIte, eq_self, true_or, or_true, false_and, and_false, or_false, false_or, i10, i01, in10, i1n, xbT, xbF, r_lt]
      exact k
  · exact absurd y z4
end TQ
