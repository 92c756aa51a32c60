/-! ways: the reference's answers -/
section WO
variable {d : Nat} {h : xe_H} {g : Nat → Nat}
/-- two moves tried -/
theorem md_tryTwo {b : bL} {k m : Nat} {X : Nat} (hg : pg_ok g) (hm : m < 64) (hX : X < 4096 * 25) (hk : k < b.1) (hG : bG 102400 b) (hN : bN b) (hG2 : ∀ s, nx2 g X m = some s → bG 102400 (bA b s k m)) (H : sh h) (hp : mp h 0 g) (J : MI b h) {p q x pa' pb : Int32} {l10 l11 : Value} {Q : Option Value → xe_H → Prop}
    (k1 : ∀ h' l10 l11, wr vS h h' → MI (match nx2 g X m with | some s => bA b s k m | none => b) h' → xe_P (d + 5) 168 260 [.ref 48, .int p, .int q, .int x, .int pa', .int pb, .int (nI k), .int (nI X), .int (nI (X / 4096)), .int (nI m), .int l10, .int l11] [] h' Q) : xe_P (d + 5) 168 144 [.ref 48, .int p, .int q, .int x, .int pa', .int pb, .int (nI k), .int (nI X), .int (nI (X / 4096)), .int (nI m), l10, l11] [] h Q := by
  have h24 : g 24 ≤ 6 := hg.1
  have h35 : g 35 ≤ 5 := hg.2.2.2.2.2.2.2.1
  have hb := bG_le hG
  have e4 : ((4096 : Int32) = 0) = False := eq_false (by decide)
  have e8 : ((8 : Int32) = 0) = False := eq_false (by decide)
  have e5' : ((5 : Int32) = 0) = False := eq_false (by decide)
  have e1 : nI X / 4096 = nI (X / 4096) := pk_div (d := 4096) (by omega) (by omega) (by omega)
  have e2 : nI X - nI (X / 4096) * 4096 = nI (X % 4096) := by
    have := pk_rem (a := X) (d := 4096) (by omega) (by omega) (by omega)
    rw [show nI 4096 = (4096 : Int32) from rfl, e1] at this
    exact this
  have f1 : nI m / 8 = nI (m / 8) := pk_div (d := 8) (by omega) (by omega) (by omega)
  have f2 : nI m - nI (m / 8) * 8 = nI (m % 8) := by
    have := pk_rem (a := m) (d := 8) (by omega) (by omega) (by omega)
    rw [show nI 8 = (8 : Int32) from rfl, f1] at this
    exact this
  have f3 : nI (X / 4096) / 5 = nI (X / 4096 / 5) := pk_div (d := 5) (by omega) (by omega) (by omega)
  have f4 : nI (X / 4096) - nI (X / 4096 / 5) * 5 = nI (X / 4096 % 5) := by
    have := pk_rem (a := X / 4096) (d := 5) (by omega) (by omega) (by omega)
    rw [show nI 5 = (5 : Int32) from rfl, f3] at this
    exact this
  have w0 := fun d Q => md_works (d := d) (Q := Q) H (X % 4096) (by omega)
  rw [show (fun b => X % 4096 / 4 ^ b % 4) = fd X from rfl] at w0
  have HW : ∀ f, sh (mW h f) := fun f => by rw [mW_sh]; exact H
  have WW : ∀ f, wr vS h (mW h f) := fun f => wr_sub (mW_wr h f) (fun a j q => Or.inl q)
  have no : nx2 g X m = none → ∀ f l10 v, v = (-4 : Int32) → xe_P (d + 5) 168 223 [.ref 48, .int p, .int q, .int x, .int pa', .int pb, .int (nI k), .int (nI X), .int (nI (X / 4096)), .int (nI m), .int l10, l11] [.int v] (mW h f) Q := by
    rintro e f l10 v rfl
    rw [e] at k1
    simp only [xs_168_223, xs_168_225, xs_168_227, xs_168_229, e44t, rf_some, xc_int, xc_ref, xc_ret, xc_long, xw_nil, xw_int, xw_ref, xw_long, tl_some, tl_none, true_and, and_true, Nat.zero_le, Nat.reduceAdd, Nat.reduceMul, Nat.reduceLeDiff, Nat.reduceLT, Nat.reduceEqDiff, Nat.reducePow, Int32.reduceAdd, Int32.reduceMul, Int32.reduceSub, Int32.reduceLT, Int32.reduceLE, Int32.reduceToNatClampNeg, litE, ixU, not_false_eq_true, not_true_eq_false, ↓reduceIte, eq_self, true_or, or_true, false_and, and_false, or_false, false_or, i10, i01, in10, i1n, xbT, xbF, r_lt]
    exact k1 _ _ _ (WW f) (MI_W J)
  by_cases y1 : cm g (fd X) (X / 4096 / 5) (m % 8)
  · have hm8 := cm_le y1
    have q1 : (nI (m % 8) ≤ nI (g 24)) = True := eq_true (by rw [nI_leI (by omega) (by omega)]; exact hm8)
    simp only [xs_168_144, xs_168_145, xs_168_147, xs_168_150, xs_168_151, xs_168_154, xs_168_156, xs_168_158, xs_168_159, xs_168_160, xs_168_163, xs_168_166, xs_168_168, xs_168_171, xs_168_172, xs_168_174, xs_168_176, xs_168_177, xs_168_179, xs_168_180, xs_168_181, H, HW, sT_48, sT_49, sN_49, sA_49, sT_50, sN_50, sA_50, sT_51, sN_51, sA_51, sT_52, sN_52, sA_52, sT_53, sN_53, sA_53, sT_54, sN_54, sA_54, sT_55, sN_55, sA_55, sT_56, sN_56, sA_56, sT_57, sN_57, sA_57, sT_58, sN_58, sA_58, sT_59, sN_59, sA_59, sT_60, sN_60, sA_60, sT_61, sN_61, sA_61, sT_62, sN_62, sA_62, sT_63, sN_63, sA_63, sT_64, sN_64, sA_64, sT_65, sN_65, sA_65, sT_66, sN_66, sA_66, sT_67, sN_67, sA_67, sT_68, sN_68, sB_68, sT_69, sN_69, sA_69, sT_70, sN_70, sA_70, sT_71, sN_71, sA_71, sR_48_0, sR_48_2, sR_48_9, sR_48_10, sR_48_11, sR_48_20, sR_48_21, sR_48_22, sR_48_23, sR_48_24, sR_48_26, sR_48_27, sR_48_28, sR_48_29, sR_48_30, sR_48_31, sR_48_33, sR_48_34, sR_48_35, sR_48_36, sR_48_37, sR_48_38, sR_48_39, e1, e2, e4, e8, e5', f1, f2, f3, w0, md_bridgesW H hp, q1, rf_some, xc_int, xc_ref, xc_ret, xc_long, xw_nil, xw_int, xw_ref, xw_long, tl_some, tl_none, true_and, and_true, Nat.zero_le, Nat.reduceAdd, Nat.reduceMul, Nat.reduceLeDiff, Nat.reduceLT, Nat.reduceEqDiff, Nat.reducePow, Int32.reduceAdd, Int32.reduceMul, Int32.reduceSub, Int32.reduceLT, Int32.reduceLE, Int32.reduceToNatClampNeg, litE, ixU, not_false_eq_true, not_true_eq_false, ↓reduceIte, eq_self, true_or, or_true, false_and, and_false, or_false, false_or, i10, i01, in10, i1n, xbT, xbF, r_lt]
    rw [md_moves (d := d) H hp hg (fd_rp X) (show m % 8 < 2 ^ 31 by omega) (show X / 4096 / 5 < 2 ^ 31 by omega) y1]
    have pa1 : pa g (X / 4096 / 5) (m % 8) < 5 := by
      rcases pa_5 hg (cb_t y1) with ⟨-, z⟩ | z
      · rw [z]; omega
      · exact z
    by_cases y2 : cm g (ra g (fd X) (m % 8)) (X / 4096 % 5) (m / 8)
    · have hm9 := cm_le y2
      have q2 : (nI (m / 8) ≤ nI (g 24)) = True := eq_true (by rw [nI_leI (by omega) (by omega)]; exact hm9)
      simp only [xs_168_184, xs_168_186, xs_168_188, xs_168_190, xs_168_193, xs_168_195, xs_168_197, xs_168_198, xs_168_199, xs_168_202, xs_168_205, xs_168_207, xs_168_210, xs_168_211, xs_168_213, xs_168_215, xs_168_216, xs_168_218, xs_168_219, xs_168_220, nI_ne4 (show pa g (X / 4096 / 5) (m % 8) < 2 ^ 31 by omega), HW, sT_48, sT_49, sN_49, sA_49, sT_50, sN_50, sA_50, sT_51, sN_51, sA_51, sT_52, sN_52, sA_52, sT_53, sN_53, sA_53, sT_54, sN_54, sA_54, sT_55, sN_55, sA_55, sT_56, sN_56, sA_56, sT_57, sN_57, sA_57, sT_58, sN_58, sA_58, sT_59, sN_59, sA_59, sT_60, sN_60, sA_60, sT_61, sN_61, sA_61, sT_62, sN_62, sA_62, sT_63, sN_63, sA_63, sT_64, sN_64, sA_64, sT_65, sN_65, sA_65, sT_66, sN_66, sA_66, sT_67, sN_67, sA_67, sT_68, sN_68, sB_68, sT_69, sN_69, sA_69, sT_70, sN_70, sA_70, sT_71, sN_71, sA_71, sR_48_0, sR_48_2, sR_48_9, sR_48_10, sR_48_11, sR_48_20, sR_48_21, sR_48_22, sR_48_23, sR_48_24, sR_48_26, sR_48_27, sR_48_28, sR_48_29, sR_48_30, sR_48_31, sR_48_33, sR_48_34, sR_48_35, sR_48_36, sR_48_37, sR_48_38, sR_48_39, e8, e5', f1, f3, f4, md_bridgesW H hp, q2, rf_some, xc_int, xc_ref, xc_ret, xc_long, xw_nil, xw_int, xw_ref, xw_long, tl_some, tl_none, true_and, and_true, Nat.zero_le, Nat.reduceAdd, Nat.reduceMul, Nat.reduceLeDiff, Nat.reduceLT, Nat.reduceEqDiff, Nat.reducePow, Int32.reduceAdd, Int32.reduceMul, Int32.reduceSub, Int32.reduceLT, Int32.reduceLE, Int32.reduceToNatClampNeg, litE, ixU, not_false_eq_true, not_true_eq_false, ↓reduceIte, eq_self, true_or, or_true, false_and, and_false, or_false, false_or, i10, i01, in10, i1n, xbT, xbF, r_lt]
      rw [md_moves (d := d) H hp hg (ra_ok hg (fd_rp X) (m % 8)) (show m / 8 < 2 ^ 31 by omega) (show X / 4096 % 5 < 2 ^ 31 by omega) y2]
      have pa2 : pa g (X / 4096 % 5) (m / 8) < 5 := by
        rcases pa_5 hg (cb_t y2) with ⟨-, z⟩ | z
        · rw [z]; omega
        · exact z
      have e5 : nx2 g X m = some (4096 * (5 * pa g (X / 4096 / 5) (m % 8) + pa g (X / 4096 % 5) (m / 8)) + rc (gnf g (ra g (fd X) (m % 8)) (m / 8))) := by unfold nx2; rw [cb_t y1, cb_t y2, Bool.true_and, if_pos rfl]
      have hs := nx2_b hg X m _ hX e5
      have g3 := gnf_3 hg (ra_4 hg (fd_4 X) (m % 8)) (m / 8)
      have me := fun d Q => md_ends (d := d) (Q := Q) H (ra_ok hg (ra_ok hg (fd_rp X) (m % 8)) (m / 8))
      rw [show (fun b => ra g (ra g (fd X) (m % 8)) (m / 8) b - 1) = gnf g (ra g (fd X) (m % 8)) (m / 8) from rfl] at me
      have ei : (4096 : Int32) * (5 * nI (pa g (X / 4096 / 5) (m % 8)) + nI (pa g (X / 4096 % 5) (m / 8))) + nI (rc (gnf g (ra g (fd X) (m % 8)) (m / 8))) = nI (4096 * (5 * pa g (X / 4096 / 5) (m % 8) + pa g (X / 4096 % 5) (m / 8)) + rc (gnf g (ra g (fd X) (m % 8)) (m / 8))) := by rw [show (4096 : Int32) = nI 4096 from rfl, show (5 : Int32) = nI 5 from rfl, pk_mul, nI_add, pk_mul, nI_add]
      simp only [xs_168_223, xs_168_225, xs_168_227, xs_168_229, xs_168_232, xs_168_233, xs_168_236, xs_168_237, xs_168_240, xs_168_241, xs_168_243, xs_168_244, xs_168_246, xs_168_247, xs_168_248, xs_168_249, xs_168_252, xs_168_253, xs_168_255, xs_168_257, nI_ne4 (show pa g (X / 4096 % 5) (m / 8) < 2 ^ 31 by omega), HW, sT_48, sT_49, sN_49, sA_49, sT_50, sN_50, sA_50, sT_51, sN_51, sA_51, sT_52, sN_52, sA_52, sT_53, sN_53, sA_53, sT_54, sN_54, sA_54, sT_55, sN_55, sA_55, sT_56, sN_56, sA_56, sT_57, sN_57, sA_57, sT_58, sN_58, sA_58, sT_59, sN_59, sA_59, sT_60, sN_60, sA_60, sT_61, sN_61, sA_61, sT_62, sN_62, sA_62, sT_63, sN_63, sA_63, sT_64, sN_64, sA_64, sT_65, sN_65, sA_65, sT_66, sN_66, sA_66, sT_67, sN_67, sA_67, sT_68, sN_68, sB_68, sT_69, sN_69, sA_69, sT_70, sN_70, sA_70, sT_71, sN_71, sA_71, sR_48_0, sR_48_2, sR_48_9, sR_48_10, sR_48_11, sR_48_20, sR_48_21, sR_48_22, sR_48_23, sR_48_24, sR_48_26, sR_48_27, sR_48_28, sR_48_29, sR_48_30, sR_48_31, sR_48_33, sR_48_34, sR_48_35, sR_48_36, sR_48_37, sR_48_38, sR_48_39, me, md_codeNow H g3, ei, rf_some, xc_int, xc_ref, xc_ret, xc_long, xw_nil, xw_int, xw_ref, xw_long, tl_some, tl_none, true_and, and_true, Nat.zero_le, Nat.reduceAdd, Nat.reduceMul, Nat.reduceLeDiff, Nat.reduceLT, Nat.reduceEqDiff, Nat.reducePow, Int32.reduceAdd, Int32.reduceMul, Int32.reduceSub, Int32.reduceLT, Int32.reduceLE, Int32.reduceToNatClampNeg, litE, ixU, not_false_eq_true, not_true_eq_false, ↓reduceIte, eq_self, true_or, or_true, false_and, and_false, or_false, false_or, i10, i01, in10, i1n, xbT, xbF, r_lt]
      rw [e5] at k1
      refine xe_C_mono (md_finds (d := d + 4) hG hN (hG2 _ e5) hs hk hm (HW _) (MI_W J)) ?_
      rintro r h' ⟨rfl, W, J'⟩
      exact k1 h' _ _ (wr_tr (WW _) W) J'
    · have en : nx2 g X m = none := by unfold nx2; rw [cb_t y1, Bool.true_and, if_neg (fun z => y2 (cb_T z))]
      by_cases q2 : m / 8 ≤ g 24
      · have q2' : (nI (m / 8) ≤ nI (g 24)) = True := eq_true (by rw [nI_leI (by omega) (by omega)]; exact q2)
        simp only [xs_168_184, xs_168_186, xs_168_188, xs_168_190, xs_168_193, xs_168_195, xs_168_197, xs_168_198, xs_168_199, xs_168_202, xs_168_205, xs_168_207, xs_168_210, xs_168_211, xs_168_213, xs_168_215, xs_168_216, xs_168_218, xs_168_219, xs_168_220, nI_ne4 (show pa g (X / 4096 / 5) (m % 8) < 2 ^ 31 by omega), HW, sT_48, sT_49, sN_49, sA_49, sT_50, sN_50, sA_50, sT_51, sN_51, sA_51, sT_52, sN_52, sA_52, sT_53, sN_53, sA_53, sT_54, sN_54, sA_54, sT_55, sN_55, sA_55, sT_56, sN_56, sA_56, sT_57, sN_57, sA_57, sT_58, sN_58, sA_58, sT_59, sN_59, sA_59, sT_60, sN_60, sA_60, sT_61, sN_61, sA_61, sT_62, sN_62, sA_62, sT_63, sN_63, sA_63, sT_64, sN_64, sA_64, sT_65, sN_65, sA_65, sT_66, sN_66, sA_66, sT_67, sN_67, sA_67, sT_68, sN_68, sB_68, sT_69, sN_69, sA_69, sT_70, sN_70, sA_70, sT_71, sN_71, sA_71, sR_48_0, sR_48_2, sR_48_9, sR_48_10, sR_48_11, sR_48_20, sR_48_21, sR_48_22, sR_48_23, sR_48_24, sR_48_26, sR_48_27, sR_48_28, sR_48_29, sR_48_30, sR_48_31, sR_48_33, sR_48_34, sR_48_35, sR_48_36, sR_48_37, sR_48_38, sR_48_39, e8, e5', f1, f3, f4, md_bridgesW H hp, q2', rf_some, xc_int, xc_ref, xc_ret, xc_long, xw_nil, xw_int, xw_ref, xw_long, tl_some, tl_none, true_and, and_true, Nat.zero_le, Nat.reduceAdd, Nat.reduceMul, Nat.reduceLeDiff, Nat.reduceLT, Nat.reduceEqDiff, Nat.reducePow, Int32.reduceAdd, Int32.reduceMul, Int32.reduceSub, Int32.reduceLT, Int32.reduceLE, Int32.reduceToNatClampNeg, litE, ixU, not_false_eq_true, not_true_eq_false, ↓reduceIte, eq_self, true_or, or_true, false_and, and_false, or_false, false_or, i10, i01, in10, i1n, xbT, xbF, r_lt]
        rw [md_movesN (d := d) H hp hg (ra_ok hg (fd_rp X) (m % 8)) (show m / 8 < 2 ^ 31 by omega) (show X / 4096 % 5 < 2 ^ 31 by omega) y2]
        exact no en _ _ _ rfl
      · have q2' : (nI (m / 8) ≤ nI (g 24)) = False := eq_false (by rw [nI_leI (by omega) (by omega)]; exact q2)
        simp only [xs_168_184, xs_168_186, xs_168_188, xs_168_190, xs_168_193, xs_168_195, xs_168_197, xs_168_198, xs_168_199, xs_168_202, xs_168_205, xs_168_207, nI_ne4 (show pa g (X / 4096 / 5) (m % 8) < 2 ^ 31 by omega), HW, sT_48, sT_49, sN_49, sA_49, sT_50, sN_50, sA_50, sT_51, sN_51, sA_51, sT_52, sN_52, sA_52, sT_53, sN_53, sA_53, sT_54, sN_54, sA_54, sT_55, sN_55, sA_55, sT_56, sN_56, sA_56, sT_57, sN_57, sA_57, sT_58, sN_58, sA_58, sT_59, sN_59, sA_59, sT_60, sN_60, sA_60, sT_61, sN_61, sA_61, sT_62, sN_62, sA_62, sT_63, sN_63, sA_63, sT_64, sN_64, sA_64, sT_65, sN_65, sA_65, sT_66, sN_66, sA_66, sT_67, sN_67, sA_67, sT_68, sN_68, sB_68, sT_69, sN_69, sA_69, sT_70, sN_70, sA_70, sT_71, sN_71, sA_71, sR_48_0, sR_48_2, sR_48_9, sR_48_10, sR_48_11, sR_48_20, sR_48_21, sR_48_22, sR_48_23, sR_48_24, sR_48_26, sR_48_27, sR_48_28, sR_48_29, sR_48_30, sR_48_31, sR_48_33, sR_48_34, sR_48_35, sR_48_36, sR_48_37, sR_48_38, sR_48_39, e8, f1, md_bridgesW H hp, q2', rf_some, xc_int, xc_ref, xc_ret, xc_long, xw_nil, xw_int, xw_ref, xw_long, tl_some, tl_none, true_and, and_true, Nat.zero_le, Nat.reduceAdd, Nat.reduceMul, Nat.reduceLeDiff, Nat.reduceLT, Nat.reduceEqDiff, Nat.reducePow, Int32.reduceAdd, Int32.reduceMul, Int32.reduceSub, Int32.reduceLT, Int32.reduceLE, Int32.reduceToNatClampNeg, litE, ixU, not_false_eq_true, not_true_eq_false, ↓reduceIte, eq_self, true_or, or_true, false_and, and_false, or_false, false_or, i10, i01, in10, i1n, xbT, xbF, r_lt]
        exact no en _ _ _ rfl
  · have en : nx2 g X m = none := by unfold nx2; rw [if_neg (fun z => by rw [Bool.and_eq_true] at z; exact y1 (cb_T z.1))]
    by_cases q1 : m % 8 ≤ g 24
    · have q1' : (nI (m % 8) ≤ nI (g 24)) = True := eq_true (by rw [nI_leI (by omega) (by omega)]; exact q1)
      simp only [xs_168_144, xs_168_145, xs_168_147, xs_168_150, xs_168_151, xs_168_154, xs_168_156, xs_168_158, xs_168_159, xs_168_160, xs_168_163, xs_168_166, xs_168_168, xs_168_171, xs_168_172, xs_168_174, xs_168_176, xs_168_177, xs_168_179, xs_168_180, xs_168_181, H, HW, sT_48, sT_49, sN_49, sA_49, sT_50, sN_50, sA_50, sT_51, sN_51, sA_51, sT_52, sN_52, sA_52, sT_53, sN_53, sA_53, sT_54, sN_54, sA_54, sT_55, sN_55, sA_55, sT_56, sN_56, sA_56, sT_57, sN_57, sA_57, sT_58, sN_58, sA_58, sT_59, sN_59, sA_59, sT_60, sN_60, sA_60, sT_61, sN_61, sA_61, sT_62, sN_62, sA_62, sT_63, sN_63, sA_63, sT_64, sN_64, sA_64, sT_65, sN_65, sA_65, sT_66, sN_66, sA_66, sT_67, sN_67, sA_67, sT_68, sN_68, sB_68, sT_69, sN_69, sA_69, sT_70, sN_70, sA_70, sT_71, sN_71, sA_71, sR_48_0, sR_48_2, sR_48_9, sR_48_10, sR_48_11, sR_48_20, sR_48_21, sR_48_22, sR_48_23, sR_48_24, sR_48_26, sR_48_27, sR_48_28, sR_48_29, sR_48_30, sR_48_31, sR_48_33, sR_48_34, sR_48_35, sR_48_36, sR_48_37, sR_48_38, sR_48_39, e1, e2, e4, e8, e5', f1, f2, f3, w0, md_bridgesW H hp, q1', rf_some, xc_int, xc_ref, xc_ret, xc_long, xw_nil, xw_int, xw_ref, xw_long, tl_some, tl_none, true_and, and_true, Nat.zero_le, Nat.reduceAdd, Nat.reduceMul, Nat.reduceLeDiff, Nat.reduceLT, Nat.reduceEqDiff, Nat.reducePow, Int32.reduceAdd, Int32.reduceMul, Int32.reduceSub, Int32.reduceLT, Int32.reduceLE, Int32.reduceToNatClampNeg, litE, ixU, not_false_eq_true, not_true_eq_false, ↓reduceIte, eq_self, true_or, or_true, false_and, and_false, or_false, false_or, i10, i01, in10, i1n, xbT, xbF, r_lt]
      rw [md_movesN (d := d) H hp hg (fd_rp X) (show m % 8 < 2 ^ 31 by omega) (show X / 4096 / 5 < 2 ^ 31 by omega) y1]
      simp only [xs_168_184, xs_168_186, xs_168_188, xs_168_190, xs_168_205, xs_168_207, e44t, rf_some, xc_int, xc_ref, xc_ret, xc_long, xw_nil, xw_int, xw_ref, xw_long, tl_some, tl_none, true_and, and_true, Nat.zero_le, Nat.reduceAdd, Nat.reduceMul, Nat.reduceLeDiff, Nat.reduceLT, Nat.reduceEqDiff, Nat.reducePow, Int32.reduceAdd, Int32.reduceMul, Int32.reduceSub, Int32.reduceLT, Int32.reduceLE, Int32.reduceToNatClampNeg, litE, ixU, not_false_eq_true, not_true_eq_false, ↓reduceIte, eq_self, true_or, or_true, false_and, and_false, or_false, false_or, i10, i01, in10, i1n, xbT, xbF, r_lt]
      exact no en _ _ _ rfl
    · have q1' : (nI (m % 8) ≤ nI (g 24)) = False := eq_false (by rw [nI_leI (by omega) (by omega)]; exact q1)
      simp only [xs_168_144, xs_168_145, xs_168_147, xs_168_150, xs_168_151, xs_168_154, xs_168_156, xs_168_158, xs_168_159, xs_168_160, xs_168_163, xs_168_166, xs_168_168, xs_168_171, xs_168_172, xs_168_174, xs_168_176, xs_168_177, xs_168_179, xs_168_180, xs_168_181, xs_168_184, xs_168_186, xs_168_188, xs_168_190, xs_168_205, xs_168_207, H, HW, sT_48, sT_49, sN_49, sA_49, sT_50, sN_50, sA_50, sT_51, sN_51, sA_51, sT_52, sN_52, sA_52, sT_53, sN_53, sA_53, sT_54, sN_54, sA_54, sT_55, sN_55, sA_55, sT_56, sN_56, sA_56, sT_57, sN_57, sA_57, sT_58, sN_58, sA_58, sT_59, sN_59, sA_59, sT_60, sN_60, sA_60, sT_61, sN_61, sA_61, sT_62, sN_62, sA_62, sT_63, sN_63, sA_63, sT_64, sN_64, sA_64, sT_65, sN_65, sA_65, sT_66, sN_66, sA_66, sT_67, sN_67, sA_67, sT_68, sN_68, sB_68, sT_69, sN_69, sA_69, sT_70, sN_70, sA_70, sT_71, sN_71, sA_71, sR_48_0, sR_48_2, sR_48_9, sR_48_10, sR_48_11, sR_48_20, sR_48_21, sR_48_22, sR_48_23, sR_48_24, sR_48_26, sR_48_27, sR_48_28, sR_48_29, sR_48_30, sR_48_31, sR_48_33, sR_48_34, sR_48_35, sR_48_36, sR_48_37, sR_48_38, sR_48_39, e1, e2, e4, e8, f1, f2, w0, md_bridgesW H hp, q1', e44t, rf_some, xc_int, xc_ref, xc_ret, xc_long, xw_nil, xw_int, xw_ref, xw_long, tl_some, tl_none, true_and, and_true, Nat.zero_le, Nat.reduceAdd, Nat.reduceMul, Nat.reduceLeDiff, Nat.reduceLT, Nat.reduceEqDiff, Nat.reducePow, Int32.reduceAdd, Int32.reduceMul, Int32.reduceSub, Int32.reduceLT, Int32.reduceLE, Int32.reduceToNatClampNeg, litE, ixU, not_false_eq_true, not_true_eq_false, ↓reduceIte, eq_self, true_or, or_true, false_and, and_false, or_false, false_or, i10, i01, in10, i1n, xbT, xbF, r_lt]
      exact no en _ _ _ rfl
/-- the answer of a search -/
def wyA (nx : Nat → Nat → Option Nat) (M s0 G : Nat) (x : Int32) : Int32 := if bK nx M s0 G < bend nx M s0 then tld (bZ nx M s0) (bK nx M s0 G) x else -4
/-- what is told of a part is told of the whole -/
theorem tld_P {S : Nat} {b b' : bL} {K : Nat} {x : Int32} (H : bG S b) (P : bP b b') (hK : K < b.1) : tld b K x = tld b' K x := by
  have eD := (bP_S P hK).2.1
  have ea : ∀ j, j ≤ bD b K → anc b' K j = anc b K j := by
    intro j
    induction j with
    | zero => intro _; rfl
    | succ j ih =>
      intro hj
      rw [anc, anc, ih (by omega)]
      exact (bP_S P (anc_ok H hK j (by omega)).1).2.2.1
  unfold tld
  rw [eD]
  split
  · rfl
  · split
    · rename_i q
      rw [ea _ (by omega), (bP_S P (anc_ok H hK _ (by omega)).1).2.2.2]
    · rfl
theorem bN_B {nx : Nat → Nat → Option Nat} {M s0 : Nat} (hM : M ≤ 64) (k : Nat) : bN (bB nx M s0 k) := bN_V hM (bB_V k) (bB_M0 k).1
theorem bZ_P {nx : Nat → Nat → Option Nat} {M s0 k : Nat} (hk : k ≤ bend nx M s0) : bP (bB nx M s0 k) (bZ nx M s0) := by
  have := bB_P nx M s0 k (bend nx M s0 - k)
  rw [show k + (bend nx M s0 - k) = bend nx M s0 by omega] at this
  exact this
/-- told of the first goal, in the list as it then was -/
theorem md_toldK {nx : Nat → Nat → Option Nat} {M s0 G : Nat} {x : Int32} (hM : M ≤ 64) (hM0 : 0 < M) (h0 : s0 < 4096 * 25) (hn : ∀ x m s, x < 4096 * 25 → nx x m = some s → s < 4096 * 25) (st : ∀ x, x < 4096 * 25 → ∃ x1 x2, nx x 0 = some x1 ∧ nx x1 0 = some x2 ∧ nx x2 0 = some (4096 * (x / 4096))) (wk : ∀ x m s, x < 4096 * 25 → nx x m = some s → ∃ s', nx (4096 * (x / 4096)) m = some s' ∧ s' / 4096 = s / 4096) (hx : rowQ x) (hK : bK nx M s0 G < bend nx M s0) (H : sh h) (J : MI (bB nx M s0 (bK nx M s0 G)) h) : xe_C (d + 2) 165 [.ref 48, .int (nI (bK nx M s0 G)), .int x] h (fun r h' => r = some (.int (wyA nx M s0 G x)) ∧ wr vS h h') := by
  obtain ⟨E1, E2, E3⟩ := bend_ok (M := M) h0 hn
  have h100 := bK_100 h0 hn hM0 st wk hK
  have hkc := E3 _ hK
  have P := bZ_P (nx := nx) (M := M) (s0 := s0) (k := bK nx M s0 G) (by omega)
  have g1 := (bB_G (M := M) h0 hn (bK nx M s0 G)).1
  have eD := (bP_S P hkc).2.1
  refine xe_C_mono (md_told (d := d) hx g1 (bN_B hM _) hkc (by rw [← eD]; exact h100) H J) ?_
  rintro r h' ⟨rfl, W⟩
  refine ⟨?_, W⟩
  unfold wyA
  rw [if_pos hK, tld_P g1 P hkc]
theorem md_told4 {x : Int32} {Q : Option Value → xe_H → Prop} : xe_C (d + 1) 165 [.ref 48, .int (-4), .int x] h Q = Q (some (.int (-4))) h := by
  simp only [xs_165, xs_165_0, xs_165_1, xs_165_3, xs_165_6, xs_165_8, e44t, rf_some, xc_int, xc_ref, xc_ret, xc_long, xw_nil, xw_int, xw_ref, xw_long, tl_some, tl_none, true_and, and_true, Nat.zero_le, Nat.reduceAdd, Nat.reduceMul, Nat.reduceLeDiff, Nat.reduceLT, Nat.reduceEqDiff, Nat.reducePow, Int32.reduceAdd, Int32.reduceMul, Int32.reduceSub, Int32.reduceLT, Int32.reduceLE, Int32.reduceToNatClampNeg, litE, ixU, not_false_eq_true, not_true_eq_false, ↓reduceIte, eq_self, true_or, or_true, false_and, and_false, or_false, false_or, i10, i01, in10, i1n, xbT, xbF, r_lt]
theorem gH_n {G : Nat} (hG : G < 2 ^ 31) : gH G (nI G) := fun w hw => nIe (by omega) hG
theorem md_way {p : Nat} {x : Int32} (hg : pg_ok g) (hp1 : p < g 31) (hx : rowQ x) (H : sh h) (hp : mp h 0 g) : xe_C (d + 7) 166 [.ref 48, .int (nI p), .int x] h (fun r h' => r = some (.int (wyA (nx1 g) (g 24 + 1) (4096 * g (25 + 2 * p) + rc (gr g)) (g (26 + 2 * p)) x)) ∧ wr vS h h') := by
  have h24 : g 24 ≤ 6 := hg.1
  have h31 : g 31 ≤ 3 := hg.2.1
  have h35 : g 35 ≤ 5 := hg.2.2.2.2.2.2.2.1
  obtain ⟨hpl, hgo⟩ := hg.2.2.2.2.2.2.2.2.2.2.2 p hp1
  have hrc := rc_lt (f := gr g) hg.2.2.2.2.2.2.2.2.2.1
  have q1 : (0 ≤ nI p ∧ nI p < nI (g 31)) := ⟨nI_pos' (by omega), in_lt (by omega) hp1⟩
  have beg : ∀ Q, xe_C (d + 7) 166 [.ref 48, .int (nI p), .int x] h Q = xe_C (d + 6) 164 [.ref 48, .int (nI p), .int (nI (g (26 + 2 * p)))] h (fun r h' => xe_P (d + 6) 166 31 [.ref 48, .int (nI p), .int x] (r.toList ++ [.ref 48]) h' Q) := by
    intro Q
    by_cases x0 : x = 0
    · simp only [xs_166, xs_166_0, xs_166_1, xs_166_2, xs_166_5, xs_166_8, xs_166_9, xs_166_12, xs_166_13, xs_166_15, xs_166_18, xs_166_19, xs_166_20, xs_166_21, xs_166_22, xs_166_23, xs_166_24, xs_166_25, xs_166_28, H, sT_48, sT_49, sN_49, sA_49, sT_50, sN_50, sA_50, sT_51, sN_51, sA_51, sT_52, sN_52, sA_52, sT_53, sN_53, sA_53, sT_54, sN_54, sA_54, sT_55, sN_55, sA_55, sT_56, sN_56, sA_56, sT_57, sN_57, sA_57, sT_58, sN_58, sA_58, sT_59, sN_59, sA_59, sT_60, sN_60, sA_60, sT_61, sN_61, sA_61, sT_62, sN_62, sA_62, sT_63, sN_63, sA_63, sT_64, sN_64, sA_64, sT_65, sN_65, sA_65, sT_66, sN_66, sA_66, sT_67, sN_67, sA_67, sT_68, sN_68, sB_68, sT_69, sN_69, sA_69, sT_70, sN_70, sA_70, sT_71, sN_71, sA_71, sR_48_0, sR_48_2, sR_48_9, sR_48_10, sR_48_11, sR_48_20, sR_48_21, sR_48_22, sR_48_23, sR_48_24, sR_48_26, sR_48_27, sR_48_28, sR_48_29, sR_48_30, sR_48_31, sR_48_33, sR_48_34, sR_48_35, sR_48_36, sR_48_37, sR_48_38, sR_48_39, md_isOne H hp hg, q1, eq_true x0, md_goalG H hp hp1 (show p < 3 by omega), and_self, rf_some, xc_int, xc_ref, xc_ret, xc_long, xw_nil, xw_int, xw_ref, xw_long, tl_some, tl_none, true_and, and_true, Nat.zero_le, Nat.reduceAdd, Nat.reduceMul, Nat.reduceLeDiff, Nat.reduceLT, Nat.reduceEqDiff, Nat.reducePow, Int32.reduceAdd, Int32.reduceMul, Int32.reduceSub, Int32.reduceLT, Int32.reduceLE, Int32.reduceToNatClampNeg, litE, ixU, not_false_eq_true, not_true_eq_false, ↓reduceIte, eq_self, true_or, or_true, false_and, and_false, or_false, false_or, i10, i01, in10, i1n, xbT, xbF, r_lt]
    · have ex : (10 ≤ x) = True := eq_true (hx.resolve_left x0)
      simp only [xs_166, xs_166_0, xs_166_1, xs_166_2, xs_166_5, xs_166_8, xs_166_9, xs_166_12, xs_166_13, xs_166_15, xs_166_18, xs_166_19, xs_166_20, xs_166_21, xs_166_22, xs_166_23, xs_166_24, xs_166_25, xs_166_28, H, sT_48, sT_49, sN_49, sA_49, sT_50, sN_50, sA_50, sT_51, sN_51, sA_51, sT_52, sN_52, sA_52, sT_53, sN_53, sA_53, sT_54, sN_54, sA_54, sT_55, sN_55, sA_55, sT_56, sN_56, sA_56, sT_57, sN_57, sA_57, sT_58, sN_58, sA_58, sT_59, sN_59, sA_59, sT_60, sN_60, sA_60, sT_61, sN_61, sA_61, sT_62, sN_62, sA_62, sT_63, sN_63, sA_63, sT_64, sN_64, sA_64, sT_65, sN_65, sA_65, sT_66, sN_66, sA_66, sT_67, sN_67, sA_67, sT_68, sN_68, sB_68, sT_69, sN_69, sA_69, sT_70, sN_70, sA_70, sT_71, sN_71, sA_71, sR_48_0, sR_48_2, sR_48_9, sR_48_10, sR_48_11, sR_48_20, sR_48_21, sR_48_22, sR_48_23, sR_48_24, sR_48_26, sR_48_27, sR_48_28, sR_48_29, sR_48_30, sR_48_31, sR_48_33, sR_48_34, sR_48_35, sR_48_36, sR_48_37, sR_48_38, sR_48_39, md_isOne H hp hg, q1, eq_false x0, ex, md_goalG H hp hp1 (show p < 3 by omega), and_self, rf_some, xc_int, xc_ref, xc_ret, xc_long, xw_nil, xw_int, xw_ref, xw_long, tl_some, tl_none, true_and, and_true, Nat.zero_le, Nat.reduceAdd, Nat.reduceMul, Nat.reduceLeDiff, Nat.reduceLT, Nat.reduceEqDiff, Nat.reducePow, Int32.reduceAdd, Int32.reduceMul, Int32.reduceSub, Int32.reduceLT, Int32.reduceLE, Int32.reduceToNatClampNeg, litE, ixU, not_false_eq_true, not_true_eq_false, ↓reduceIte, eq_self, true_or, or_true, false_and, and_false, or_false, false_or, i10, i01, in10, i1n, xbT, xbF, r_lt]
  rw [beg]
  refine xe_C_mono (md_searchesOne (d := d) hg hp1 (gH_n (by omega)) H hp) ?_
  rintro v h1 ⟨W, R⟩
  have H1 := wr_sh W H
  rcases R with ⟨hK, rfl, J⟩ | ⟨hK, rfl, J⟩
  · simp only [xs_166_31, xs_166_32, H1, sT_48, sT_49, sN_49, sA_49, sT_50, sN_50, sA_50, sT_51, sN_51, sA_51, sT_52, sN_52, sA_52, sT_53, sN_53, sA_53, sT_54, sN_54, sA_54, sT_55, sN_55, sA_55, sT_56, sN_56, sA_56, sT_57, sN_57, sA_57, sT_58, sN_58, sA_58, sT_59, sN_59, sA_59, sT_60, sN_60, sA_60, sT_61, sN_61, sA_61, sT_62, sN_62, sA_62, sT_63, sN_63, sA_63, sT_64, sN_64, sA_64, sT_65, sN_65, sA_65, sT_66, sN_66, sA_66, sT_67, sN_67, sA_67, sT_68, sN_68, sB_68, sT_69, sN_69, sA_69, sT_70, sN_70, sA_70, sT_71, sN_71, sA_71, sR_48_0, sR_48_2, sR_48_9, sR_48_10, sR_48_11, sR_48_20, sR_48_21, sR_48_22, sR_48_23, sR_48_24, sR_48_26, sR_48_27, sR_48_28, sR_48_29, sR_48_30, sR_48_31, sR_48_33, sR_48_34, sR_48_35, sR_48_36, sR_48_37, sR_48_38, sR_48_39, rf_some, xc_int, xc_ref, xc_ret, xc_long, xw_nil, xw_int, xw_ref, xw_long, tl_some, tl_none, true_and, and_true, Nat.zero_le, Nat.reduceAdd, Nat.reduceMul, Nat.reduceLeDiff, Nat.reduceLT, Nat.reduceEqDiff, Nat.reducePow, Int32.reduceAdd, Int32.reduceMul, Int32.reduceSub, Int32.reduceLT, Int32.reduceLE, Int32.reduceToNatClampNeg, litE, ixU, not_false_eq_true, not_true_eq_false, ↓reduceIte, eq_self, true_or, or_true, false_and, and_false, or_false, false_or, i10, i01, in10, i1n, xbT, xbF, r_lt]
    refine xe_C_mono (md_toldK (d := d + 4) (nx := nx1 g) (by omega) (by omega) (by omega) (nx1_b hg) (fun x _ => stay3 (fun w f hf => stay_1 hf) x) (weak_1 hg) hx hK H1 J) ?_
    rintro r h2 ⟨rfl, W2⟩
    simp only [xs_166_35, rf_some, xc_int, xc_ref, xc_ret, xc_long, xw_nil, xw_int, xw_ref, xw_long, tl_some, tl_none, true_and, and_true, Nat.zero_le, Nat.reduceAdd, Nat.reduceMul, Nat.reduceLeDiff, Nat.reduceLT, Nat.reduceEqDiff, Nat.reducePow, Int32.reduceAdd, Int32.reduceMul, Int32.reduceSub, Int32.reduceLT, Int32.reduceLE, Int32.reduceToNatClampNeg, litE, ixU, not_false_eq_true, not_true_eq_false, ↓reduceIte, eq_self, true_or, or_true, false_and, and_false, or_false, false_or, i10, i01, in10, i1n, xbT, xbF, r_lt]
    exact wr_tr W W2
  · simp only [xs_166_31, xs_166_32, H1, sT_48, sT_49, sN_49, sA_49, sT_50, sN_50, sA_50, sT_51, sN_51, sA_51, sT_52, sN_52, sA_52, sT_53, sN_53, sA_53, sT_54, sN_54, sA_54, sT_55, sN_55, sA_55, sT_56, sN_56, sA_56, sT_57, sN_57, sA_57, sT_58, sN_58, sA_58, sT_59, sN_59, sA_59, sT_60, sN_60, sA_60, sT_61, sN_61, sA_61, sT_62, sN_62, sA_62, sT_63, sN_63, sA_63, sT_64, sN_64, sA_64, sT_65, sN_65, sA_65, sT_66, sN_66, sA_66, sT_67, sN_67, sA_67, sT_68, sN_68, sB_68, sT_69, sN_69, sA_69, sT_70, sN_70, sA_70, sT_71, sN_71, sA_71, sR_48_0, sR_48_2, sR_48_9, sR_48_10, sR_48_11, sR_48_20, sR_48_21, sR_48_22, sR_48_23, sR_48_24, sR_48_26, sR_48_27, sR_48_28, sR_48_29, sR_48_30, sR_48_31, sR_48_33, sR_48_34, sR_48_35, sR_48_36, sR_48_37, sR_48_38, sR_48_39, md_told4, xs_166_35, rf_some, xc_int, xc_ref, xc_ret, xc_long, xw_nil, xw_int, xw_ref, xw_long, tl_some, tl_none, true_and, and_true, Nat.zero_le, Nat.reduceAdd, Nat.reduceMul, Nat.reduceLeDiff, Nat.reduceLT, Nat.reduceEqDiff, Nat.reducePow, Int32.reduceAdd, Int32.reduceMul, Int32.reduceSub, Int32.reduceLT, Int32.reduceLE, Int32.reduceToNatClampNeg, litE, ixU, not_false_eq_true, not_true_eq_false, ↓reduceIte, eq_self, true_or, or_true, false_and, and_false, or_false, false_or, i10, i01, in10, i1n, xbT, xbF, r_lt]
    refine ⟨?_, W⟩
    unfold wyA
    rw [if_neg (by omega)]
end WO
