/-! text: the reference, from its begin -/
/-- what a text that fails writes, of the reference -/
def meS (a j : Nat) : Prop := msS a j ∨ (a = 48 ∧ (j = 12 ∨ j = 13))
/-- what a text that holds writes -/
def mfS (a j : Nat) : Prop := meS a j ∨ (a = 48 ∧ (j = 1 ∨ j = 32)) ∨ a = 68 ∨ (a = 49 ∧ j < 35)
section TU
variable {d : Nat} {h h1 : xe_H} {g : Nat → Nat} {Q : Option Value → xe_H → Prop} {T : Nat → Nat} {n : Nat}
theorem mt_end {g : Nat → Nat} {x : Int32} {l2 : Value} (q24 : g 24 ≤ 6) (q31 : g 31 ≤ 3) (H : sh h1) (W : wr meS h h1) (M : msQ g h1) (K : ∀ h', wr mfS h h' → mp h' 0 g → xe_I h' 48 1 = nI (g 35) → xe_I h' 48 32 = 0 → xe_I h' 68 0 = 0 → xe_I h' 68 1 = 0 → xe_I h' 48 12 = xe_I h1 48 12 → xe_I h' 48 13 = xe_I h1 48 13 → Q (some (.int x)) h') : xe_P (d + 6) 134 178 [.ref 48, .int x, l2] [] h1 Q := by
  obtain ⟨⟨a1, a2, a3, a4, a5, a6⟩, bb, cc, pp, -⟩ := M
  have A := mt_cpA (d := d) (l1 := x) (Q := Q) H 35 0 h1 (by omega) (wr_rf _ _) (fun j hj => by omega) (fun h2 l2 W2 v2 => by
    have H2 := wr_sh W2 H
    have B := mt_cpB (d := d) (l1 := x) (Q := Q) H2 6 0 h2 (by omega) (wr_rf _ _) (fun j hj => by omega) (fun j _ => rfl) (fun h3 l3 W3 v3 u3 => by
      have H3 := wr_sh W3 H2
      have f3 : xe_I h3 48 3 = nI (g 35) := by rw [W3.2 48 3 (by omega), W2.2 48 3 (by omega)]; exact a1
      have W4 : wr mfS h (xe_sI (xe_sI (xe_sI (xe_sI h3 48 1 (nI (g 35))) 48 32 0) 68 0 0) 68 1 0) := wr_sI (wr_sI (wr_sI (wr_sI (wr_tr (wr_sub W (fun a j z => Or.inl z)) (wr_tr (wr_sub W2 (fun a j z => by unfold mfS; omega)) (wr_sub W3 (fun a j z => by unfold mfS; omega)))) (by unfold mfS; omega)) (by unfold mfS; omega)) (by unfold mfS; omega)) (by unfold mfS; omega)
      have i : ∀ a j, ¬ a = 68 → ¬ (a = 48 ∧ (j = 1 ∨ j = 32)) → xe_I (xe_sI (xe_sI (xe_sI (xe_sI h3 48 1 (nI (g 35))) 48 32 0) 68 0 0) 68 1 0) a j = xe_I h3 a j := fun a j z1 z2 => by rw [hI_sI, if_neg (by omega), hI_sI, if_neg (by omega), hI_sI, if_neg (by omega), hI_sI, if_neg (by omega)]
      have r : ∀ j, j < 35 → 24 ≤ j ∨ j % 4 < 2 → xe_I (xe_sI (xe_sI (xe_sI (xe_sI h3 48 1 (nI (g 35))) 48 32 0) 68 0 0) 68 1 0) 49 j = xe_I h1 50 j := fun j hj z => by rw [i _ _ (by omega) (by omega), u3 j z, v2 j hj]
      have k := K _ W4 (by
        refine ⟨⟨?_, ?_, ?_, ?_, ?_⟩, fun b hb => ⟨?_, ?_⟩, fun b hb => ⟨?_, ?_⟩, fun p hp => ⟨?_, ?_⟩⟩
        · rw [Nat.zero_add, r _ (by omega) (by omega)]; exact a2
        · rw [Nat.zero_add, r _ (by omega) (by omega)]; exact a3
        · rw [Nat.zero_add, r _ (by omega) (by omega)]; exact a4
        · rw [Nat.zero_add, r _ (by omega) (by omega)]; exact a5
        · rw [Nat.zero_add, r _ (by omega) (by omega)]; exact a6
        · rw [Nat.zero_add, r _ (by omega) (by omega)]; exact (bb b hb).1
        · rw [Nat.zero_add, r _ (by omega) (by omega)]; exact (bb b hb).2
        · intro _; rw [Nat.zero_add, i _ _ (by omega) (by omega), (v3 b hb).1, W2.2 51 b (by omega)]; exact (cc b hb).1
        · rw [Nat.zero_add, i _ _ (by omega) (by omega), (v3 b hb).2, W2.2 52 b (by omega)]; exact (cc b hb).2
        · rw [Nat.zero_add, r _ (by omega) (by omega)]; exact (pp p hp).1
        · rw [Nat.zero_add, r _ (by omega) (by omega)]; exact (pp p hp).2) (by rw [hI_sI, if_neg (by omega), hI_sI, if_neg (by omega), hI_sI, if_neg (by omega), hI_sI, if_pos ⟨rfl, rfl⟩]) (by rw [hI_sI, if_neg (by omega), hI_sI, if_neg (by omega), hI_sI, if_pos ⟨rfl, rfl⟩]) (by rw [hI_sI, if_neg (by omega), hI_sI, if_pos ⟨rfl, rfl⟩]) (by rw [hI_sI, if_pos ⟨rfl, rfl⟩]) (by rw [i _ _ (by omega) (by omega), W3.2 48 12 (by omega), W2.2 48 12 (by omega)]) (by rw [i _ _ (by omega) (by omega), W3.2 48 13 (by omega), W2.2 48 13 (by omega)])
      simp only [xs_134_250, xs_134_251, xs_134_252, xs_134_255, xs_134_258, xs_134_259, xs_134_260, xs_134_263, xs_134_264, xs_134_267, xs_134_268, xs_134_269z (h := xe_sI (xe_sI h3 48 1 (nI (g 35))) 48 32 0) (a := 68) (sT_68 H3).2, xs_134_270, xs_134_271, xs_134_274, xs_134_275, xs_134_276z (h := xe_sI (xe_sI (xe_sI h3 48 1 (nI (g 35))) 48 32 0) 68 0 0) (a := 68) (sT_68 H3).2, xs_134_277, xs_134_278, H3, sT_48, sT_49, sN_49, sA_49, sT_50, sN_50, sA_50, sT_51, sN_51, sA_51, sT_52, sN_52, sA_52, sT_53, sN_53, sA_53, sT_54, sN_54, sA_54, sT_55, sN_55, sA_55, sT_56, sN_56, sA_56, sT_57, sN_57, sA_57, sT_58, sN_58, sA_58, sT_59, sN_59, sA_59, sT_60, sN_60, sA_60, sT_61, sN_61, sA_61, sT_62, sN_62, sA_62, sT_63, sN_63, sA_63, sT_64, sN_64, sA_64, sT_65, sN_65, sA_65, sT_66, sN_66, sA_66, sT_67, sN_67, sA_67, sT_68, sN_68, sB_68, sT_69, sN_69, sA_69, sT_70, sN_70, sA_70, sT_71, sN_71, sA_71, sR_48_0, sR_48_2, sR_48_9, sR_48_10, sR_48_11, sR_48_20, sR_48_21, sR_48_22, sR_48_23, sR_48_24, sR_48_26, sR_48_27, sR_48_28, sR_48_29, sR_48_30, sR_48_31, sR_48_33, sR_48_34, sR_48_35, sR_48_36, sR_48_37, sR_48_38, sR_48_39, f3, rf_some, xc_int, xc_ref, xc_ret, xc_long, xw_nil, xw_int, xw_ref, xw_long, tl_some, tl_none, true_and, and_true, Nat.zero_le, Nat.reduceAdd, Nat.reduceMul, Nat.reduceLeDiff, Nat.reduceLT, Nat.reduceEqDiff, Nat.reducePow, Int32.reduceAdd, Int32.reduceMul, Int32.reduceSub, Int32.reduceLT, Int32.reduceLE, Int32.reduceToNatClampNeg, litE, ixU, not_false_eq_true, not_true_eq_false, ↓reduceIte, eq_self, true_or, or_true, false_and, and_false, or_false, false_or, i10, i01, in10, i1n, xbT, xbF, r_lt, hI_sI, hL_sI, hR_sI, hT_sI, hN_sI, hn_sI, ho_sI, hia_sI, hba_sI, hal_sI, hix_sI, hI_aI, hL_aI, hR_aI, hT_aI, hN_aI, hn_aI, ho_aI, hia_aI, hal_aI, hix_aI, sh_sI, sh_aI, sh_sL, sh_aL]
      exact k)
    rw [show nI 0 = (0 : Int32) from rfl] at B
    simp only [xs_134_204, xs_134_205, rf_some, xc_int, xc_ref, xc_ret, xc_long, xw_nil, xw_int, xw_ref, xw_long, tl_some, tl_none, true_and, and_true, Nat.zero_le, Nat.reduceAdd, Nat.reduceMul, Nat.reduceLeDiff, Nat.reduceLT, Nat.reduceEqDiff, Nat.reducePow, Int32.reduceAdd, Int32.reduceMul, Int32.reduceSub, Int32.reduceLT, Int32.reduceLE, Int32.reduceToNatClampNeg, litE, ixU, not_false_eq_true, not_true_eq_false, ↓reduceIte, eq_self, true_or, or_true, false_and, and_false, or_false, false_or, i10, i01, in10, i1n, xbT, xbF, r_lt]
    exact B)
  rw [show nI 0 = (0 : Int32) from rfl] at A
  simp only [xs_134_178, xs_134_179, rf_some, xc_int, xc_ref, xc_ret, xc_long, xw_nil, xw_int, xw_ref, xw_long, tl_some, tl_none, true_and, and_true, Nat.zero_le, Nat.reduceAdd, Nat.reduceMul, Nat.reduceLeDiff, Nat.reduceLT, Nat.reduceEqDiff, Nat.reducePow, Int32.reduceAdd, Int32.reduceMul, Int32.reduceSub, Int32.reduceLT, Int32.reduceLE, Int32.reduceToNatClampNeg, litE, ixU, not_false_eq_true, not_true_eq_false, ↓reduceIte, eq_self, true_or, or_true, false_and, and_false, or_false, false_or, i10, i01, in10, i1n, xbT, xbF, r_lt]
  exact A
theorem md_text (hn : n ≤ 320) (hT : ∀ k, T k < 256) (H : sh h) (C : mTp' T n h) (Wd : mWd h)
    (K0 : ∀ h', (txR T n).1 = 0 → wr mfS h h' → mp h' 0 (txR T n).2.2.2 → xe_I h' 48 1 = nI ((txR T n).2.2.2 35) → xe_I h' 48 32 = 0 → xe_I h' 68 0 = 0 → xe_I h' 68 1 = 0 → xe_I h' 48 12 = 0 → xe_I h' 48 13 = 0 → Q (some (.int (txA T n))) h')
    (K1 : ∀ h', ¬ (txR T n).1 = 0 → wr meS h h' → xe_I h' 48 12 = 0 → xe_I h' 48 13 = nI (txR T n).1 → Q (some (.int (txA T n))) h') : xe_C (d + 7) 134 [.ref 48] h Q := by
  obtain ⟨hb, h24, h31, h32, h33, h34, h35, h36, h37, h38, h39, h40⟩ := pg0_v
  generalize hh1 : xe_sI (xe_sI (xe_sI (xe_sI (xe_sI (xe_sI (xe_sI (xe_sI h 48 14 0) 48 16 0) 48 3 2) 48 4 0) 48 5 (-1)) 48 6 (-1)) 48 7 0) 48 8 0 = h1
  have W1 : wr msS h h1 := by
    rw [← hh1]
    exact wr_sI (wr_sI (wr_sI (wr_sI (wr_sI (wr_sI (wr_sI (wr_sI (wr_rf _ _) (by unfold msS; omega)) (by unfold msS; omega)) (by unfold msS; omega)) (by unfold msS; omega)) (by unfold msS; omega)) (by unfold msS; omega)) (by unfold msS; omega)) (by unfold msS; omega)
  have H1 := wr_sh W1 H
  have v14 : xe_I h1 48 14 = 0 := by rw [← hh1]; simp only [hI_sI, rf_some, xc_int, xc_ref, xc_ret, xc_long, xw_nil, xw_int, xw_ref, xw_long, tl_some, tl_none, true_and, and_true, Nat.zero_le, Nat.reduceAdd, Nat.reduceMul, Nat.reduceLeDiff, Nat.reduceLT, Nat.reduceEqDiff, Nat.reducePow, Int32.reduceAdd, Int32.reduceMul, Int32.reduceSub, Int32.reduceLT, Int32.reduceLE, Int32.reduceToNatClampNeg, litE, ixU, not_false_eq_true, not_true_eq_false, ↓reduceIte, eq_self, true_or, or_true, false_and, and_false, or_false, false_or, i10, i01, in10, i1n, xbT, xbF, r_lt]
  have v16 : xe_I h1 48 16 = nI 0 := by rw [← hh1]; simp only [hI_sI, rf_some, xc_int, xc_ref, xc_ret, xc_long, xw_nil, xw_int, xw_ref, xw_long, tl_some, tl_none, true_and, and_true, Nat.zero_le, Nat.reduceAdd, Nat.reduceMul, Nat.reduceLeDiff, Nat.reduceLT, Nat.reduceEqDiff, Nat.reducePow, Int32.reduceAdd, Int32.reduceMul, Int32.reduceSub, Int32.reduceLT, Int32.reduceLE, Int32.reduceToNatClampNeg, litE, ixU, not_false_eq_true, not_true_eq_false, ↓reduceIte, eq_self, true_or, or_true, false_and, and_false, or_false, false_or, i10, i01, in10, i1n, xbT, xbF, r_lt]; rfl
  have v3 : xe_I h1 48 3 = 2 := by rw [← hh1]; simp only [hI_sI, rf_some, xc_int, xc_ref, xc_ret, xc_long, xw_nil, xw_int, xw_ref, xw_long, tl_some, tl_none, true_and, and_true, Nat.zero_le, Nat.reduceAdd, Nat.reduceMul, Nat.reduceLeDiff, Nat.reduceLT, Nat.reduceEqDiff, Nat.reducePow, Int32.reduceAdd, Int32.reduceMul, Int32.reduceSub, Int32.reduceLT, Int32.reduceLE, Int32.reduceToNatClampNeg, litE, ixU, not_false_eq_true, not_true_eq_false, ↓reduceIte, eq_self, true_or, or_true, false_and, and_false, or_false, false_or, i10, i01, in10, i1n, xbT, xbF, r_lt]
  have v4 : xe_I h1 48 4 = 0 := by rw [← hh1]; simp only [hI_sI, rf_some, xc_int, xc_ref, xc_ret, xc_long, xw_nil, xw_int, xw_ref, xw_long, tl_some, tl_none, true_and, and_true, Nat.zero_le, Nat.reduceAdd, Nat.reduceMul, Nat.reduceLeDiff, Nat.reduceLT, Nat.reduceEqDiff, Nat.reducePow, Int32.reduceAdd, Int32.reduceMul, Int32.reduceSub, Int32.reduceLT, Int32.reduceLE, Int32.reduceToNatClampNeg, litE, ixU, not_false_eq_true, not_true_eq_false, ↓reduceIte, eq_self, true_or, or_true, false_and, and_false, or_false, false_or, i10, i01, in10, i1n, xbT, xbF, r_lt]
  have v5 : xe_I h1 48 5 = -1 := by rw [← hh1]; simp only [hI_sI, rf_some, xc_int, xc_ref, xc_ret, xc_long, xw_nil, xw_int, xw_ref, xw_long, tl_some, tl_none, true_and, and_true, Nat.zero_le, Nat.reduceAdd, Nat.reduceMul, Nat.reduceLeDiff, Nat.reduceLT, Nat.reduceEqDiff, Nat.reducePow, Int32.reduceAdd, Int32.reduceMul, Int32.reduceSub, Int32.reduceLT, Int32.reduceLE, Int32.reduceToNatClampNeg, litE, ixU, not_false_eq_true, not_true_eq_false, ↓reduceIte, eq_self, true_or, or_true, false_and, and_false, or_false, false_or, i10, i01, in10, i1n, xbT, xbF, r_lt]
  have v6 : xe_I h1 48 6 = -1 := by rw [← hh1]; simp only [hI_sI, rf_some, xc_int, xc_ref, xc_ret, xc_long, xw_nil, xw_int, xw_ref, xw_long, tl_some, tl_none, true_and, and_true, Nat.zero_le, Nat.reduceAdd, Nat.reduceMul, Nat.reduceLeDiff, Nat.reduceLT, Nat.reduceEqDiff, Nat.reducePow, Int32.reduceAdd, Int32.reduceMul, Int32.reduceSub, Int32.reduceLT, Int32.reduceLE, Int32.reduceToNatClampNeg, litE, ixU, not_false_eq_true, not_true_eq_false, ↓reduceIte, eq_self, true_or, or_true, false_and, and_false, or_false, false_or, i10, i01, in10, i1n, xbT, xbF, r_lt]
  have v7 : xe_I h1 48 7 = 0 := by rw [← hh1]; simp only [hI_sI, rf_some, xc_int, xc_ref, xc_ret, xc_long, xw_nil, xw_int, xw_ref, xw_long, tl_some, tl_none, true_and, and_true, Nat.zero_le, Nat.reduceAdd, Nat.reduceMul, Nat.reduceLeDiff, Nat.reduceLT, Nat.reduceEqDiff, Nat.reducePow, Int32.reduceAdd, Int32.reduceMul, Int32.reduceSub, Int32.reduceLT, Int32.reduceLE, Int32.reduceToNatClampNeg, litE, ixU, not_false_eq_true, not_true_eq_false, ↓reduceIte, eq_self, true_or, or_true, false_and, and_false, or_false, false_or, i10, i01, in10, i1n, xbT, xbF, r_lt]
  have v8 : xe_I h1 48 8 = 0 := by rw [← hh1]; simp only [hI_sI, rf_some, xc_int, xc_ref, xc_ret, xc_long, xw_nil, xw_int, xw_ref, xw_long, tl_some, tl_none, true_and, and_true, Nat.zero_le, Nat.reduceAdd, Nat.reduceMul, Nat.reduceLeDiff, Nat.reduceLT, Nat.reduceEqDiff, Nat.reducePow, Int32.reduceAdd, Int32.reduceMul, Int32.reduceSub, Int32.reduceLT, Int32.reduceLE, Int32.reduceToNatClampNeg, litE, ixU, not_false_eq_true, not_true_eq_false, ↓reduceIte, eq_self, true_or, or_true, false_and, and_false, or_false, false_or, i10, i01, in10, i1n, xbT, xbF, r_lt]
  have ok := (txL_ok (T := T) (n := n) 321 0 0 pg0 (by omega) gq_0).1
  have bd := txL_b (T := T) (n := n) 321 0 0 pg0 (by omega) gq_0
  unfold txA txR at K0 K1
  have A := mt_clr (d := d) (l1 := 0) (Q := Q) H1 35 0 h1 (by omega) (wr_rf _ _) (fun j hj => by omega) (fun j _ hj => by omega) (fun h2 l2 W2 c1 c2 => by
    have H2 := wr_sh W2 H1
    have W2' : wr msS h h2 := wr_tr W1 (wr_sub W2 (fun a j z => by unfold msS; omega))
    have C2 := mTp'_m C W2'
    have st := md_step (d := d + 4) hn hT (show 0 ≤ n by omega) H2 C2 (by rw [W2.2 48 14 (by omega)]; exact v14) (by rw [W2.2 48 16 (by omega)]; exact v16)
    simp only [xs_134_84, xs_134_85, H2, sT_48, sT_49, sN_49, sA_49, sT_50, sN_50, sA_50, sT_51, sN_51, sA_51, sT_52, sN_52, sA_52, sT_53, sN_53, sA_53, sT_54, sN_54, sA_54, sT_55, sN_55, sA_55, sT_56, sN_56, sA_56, sT_57, sN_57, sA_57, sT_58, sN_58, sA_58, sT_59, sN_59, sA_59, sT_60, sN_60, sA_60, sT_61, sN_61, sA_61, sT_62, sN_62, sA_62, sT_63, sN_63, sA_63, sT_64, sN_64, sA_64, sT_65, sN_65, sA_65, sT_66, sN_66, sA_66, sT_67, sN_67, sA_67, sT_68, sN_68, sB_68, sT_69, sN_69, sA_69, sT_70, sN_70, sA_70, sT_71, sN_71, sA_71, sR_48_0, sR_48_2, sR_48_9, sR_48_10, sR_48_11, sR_48_20, sR_48_21, sR_48_22, sR_48_23, sR_48_24, sR_48_26, sR_48_27, sR_48_28, sR_48_29, sR_48_30, sR_48_31, sR_48_33, sR_48_34, sR_48_35, sR_48_36, sR_48_37, sR_48_38, sR_48_39, rf_some, xc_int, xc_ref, xc_ret, xc_long, xw_nil, xw_int, xw_ref, xw_long, tl_some, tl_none, true_and, and_true, Nat.zero_le, Nat.reduceAdd, Nat.reduceMul, Nat.reduceLeDiff, Nat.reduceLT, Nat.reduceEqDiff, Nat.reducePow, Int32.reduceAdd, Int32.reduceMul, Int32.reduceSub, Int32.reduceLT, Int32.reduceLE, Int32.reduceToNatClampNeg, litE, ixU, not_false_eq_true, not_true_eq_false, ↓reduceIte, eq_self, true_or, or_true, false_and, and_false, or_false, false_or, i10, i01, in10, i1n, xbT, xbF, r_lt]
    refine xe_C_mono st ?_
    rintro r h3 ⟨rfl, W3, L3⟩
    have W3' := wr_tr W2' (tm_ms W3)
    have e3 : ∀ j, j < 9 → xe_I h3 48 j = xe_I h1 48 j := fun j hj => by rw [W3.2 48 j (by unfold tmS; omega), W2.2 48 j (by omega)]
    have p3 : ∀ c j, 50 ≤ c → c ≤ 52 → xe_I h3 c j = xe_I h2 c j := fun c j x1 x2 => W3.2 c j (by unfold tmS; omega)
    have M3 : msQ pg0 h3 := by
      refine ⟨⟨?_, ?_, ?_, ?_, ?_, ?_⟩, fun b hb' => by omega, fun b hb' => ⟨?_, ?_⟩, fun p hp => by omega, ⟨0, by omega, ?_, fun w hw => ?_⟩, ⟨?_, ?_⟩, ⟨0, by omega, ?_, fun b hb' => ?_⟩, ⟨0, by omega, ?_, fun b hb' => ?_⟩⟩
      · rw [e3 3 (by omega), v3, h35]; rfl
      · rw [p3 50 24 (by omega) (by omega), c1 24 (by omega), h24]; rfl
      · rw [p3 50 31 (by omega) (by omega), c1 31 (by omega), h31]; rfl
      · rw [p3 50 32 (by omega) (by omega), c1 32 (by omega), h32]; rfl
      · rw [p3 50 33 (by omega) (by omega), c1 33 (by omega), h33]; rfl
      · rw [p3 50 34 (by omega) (by omega), c1 34 (by omega), h34]; rfl
      · rw [p3 51 b (by omega) (by omega), (c2 b hb').1, (hb b hb').1]; rfl
      · rw [p3 52 b (by omega) (by omega), (c2 b hb').2, (hb b hb').2]; rfl
      · rw [e3 4 (by omega), v4]; rfl
      · rcases (show w = 0 ∨ w = 1 ∨ w = 2 by omega) with rfl | rfl | rfl
        · rw [h38]
        · rw [h39]
        · rw [h40]
      · rw [e3 5 (by omega), v5, h36]; rfl
      · rw [e3 6 (by omega), v6, h37]; rfl
      · rw [e3 7 (by omega), v7]; rfl
      · rw [if_pos (hb b hb').2, Nat.zero_div]
      · rw [e3 8 (by omega), v8]; rfl
      · rw [if_pos (hb b hb').1, Nat.zero_div]
    have o := md_tloop (d := d) (Q := Q) hn hT H C Wd 321 0 0 pg0 h3 l2 (by omega) (by omega) (by omega) gq_0 W3' M3 L3 (fun h4 l2 o0 W4 M4 f14 f17 => by
      have ok := ok o0
      generalize txL T n 321 0 0 pg0 = o at *
      obtain ⟨oc, op, ol, og⟩ := o
      dsimp only at *
      have H4 := wr_sh W4 H
      have q36 := ok.1.2.2.2.2.2.2.1
      have q37 := ok.1.2.2.2.2.2.2.2.1
      have q35 := ok.1.2.2.2.2.2.1
      have q24 := ok.1.1
      obtain ⟨⟨a1, a2, -⟩, -, -, -, -, ⟨t1, t2⟩, -⟩ := id M4
      have p1 : (nI (og 35) ≤ nI (og 36) - 1) = (og 35 < og 36) := by rw [propext (le_pred (x := nI (og 35)) (n := og 36) (by omega)), nIlt (by omega) (by omega)]
      have p2 : (nI (og 37) - 1 < nI (og 24)) = (og 37 ≤ og 24) := by
        rw [fa_lt, nI1, pk_sub_toInt (by omega) (by decide), nI_toInt (by omega)]
        exact propext ⟨fun z => by omega, fun z => by omega⟩
      have bad : (og 35 < og 36 ∨ og 24 < og 37) → xe_P (d + 6) 134 144 [.ref 48, .int (nI ol), l2] [] h4 Q := fun z => by
        have fl := fun d Q => md_fails (d := d) (c := 6) (Q := Q) H4 f14 f17
        have k := K1 (xe_sI (xe_sI (xe_sI (xe_sI h4 48 14 6) 48 15 (nI n)) 48 12 0) 48 13 6) (by rw [if_pos ⟨o0, z⟩]; show ¬ (6 : Nat) = 0; decide) (wr_sI (wr_sI (wr_sI (wr_sI (wr_sub W4 (fun a j z => Or.inl z)) (by unfold meS msS; omega)) (by unfold meS msS; omega)) (by unfold meS msS; omega)) (by unfold meS msS; omega)) (by rw [hI_sI, if_neg (by omega), hI_sI, if_pos ⟨rfl, rfl⟩]) (by rw [if_pos ⟨o0, z⟩, hI_sI, if_pos ⟨rfl, rfl⟩]; rfl)
        rw [if_pos (show oc = 0 ∧ (og 35 < og 36 ∨ og 24 < og 37) from ⟨o0, z⟩)] at k
        rw [if_neg (show ¬ (6 : Nat) = 0 by decide)] at k
        simp only [xs_134_144, xs_134_145, xs_134_147, xs_134_150, xs_134_151, xs_134_152, xs_134_155, xs_134_156, xs_134_157, xs_134_160, xs_134_163, xs_134_164, xs_134_167, xs_134_170, xs_134_172, xs_134_173, xs_134_176, xs_134_177, H4, sT_48, sT_49, sN_49, sA_49, sT_50, sN_50, sA_50, sT_51, sN_51, sA_51, sT_52, sN_52, sA_52, sT_53, sN_53, sA_53, sT_54, sN_54, sA_54, sT_55, sN_55, sA_55, sT_56, sN_56, sA_56, sT_57, sN_57, sA_57, sT_58, sN_58, sA_58, sT_59, sN_59, sA_59, sT_60, sN_60, sA_60, sT_61, sN_61, sA_61, sT_62, sN_62, sA_62, sT_63, sN_63, sA_63, sT_64, sN_64, sA_64, sT_65, sN_65, sA_65, sT_66, sN_66, sA_66, sT_67, sN_67, sA_67, sT_68, sN_68, sB_68, sT_69, sN_69, sA_69, sT_70, sN_70, sA_70, sT_71, sN_71, sA_71, sR_48_0, sR_48_2, sR_48_9, sR_48_10, sR_48_11, sR_48_20, sR_48_21, sR_48_22, sR_48_23, sR_48_24, sR_48_26, sR_48_27, sR_48_28, sR_48_29, sR_48_30, sR_48_31, sR_48_33, sR_48_34, sR_48_35, sR_48_36, sR_48_37, sR_48_38, sR_48_39, fl, show ((6 : Int32) ≤ 0) = False from eq_false (by decide), rf_some, xc_int, xc_ref, xc_ret, xc_long, xw_nil, xw_int, xw_ref, xw_long, tl_some, tl_none, true_and, and_true, Nat.zero_le, Nat.reduceAdd, Nat.reduceMul, Nat.reduceLeDiff, Nat.reduceLT, Nat.reduceEqDiff, Nat.reducePow, Int32.reduceAdd, Int32.reduceMul, Int32.reduceSub, Int32.reduceLT, Int32.reduceLE, Int32.reduceToNatClampNeg, litE, ixU, not_false_eq_true, not_true_eq_false, ↓reduceIte, eq_self, true_or, or_true, false_and, and_false, or_false, false_or, i10, i01, in10, i1n, xbT, xbF, r_lt, hI_sI, hL_sI, hR_sI, hT_sI, hN_sI, hn_sI, ho_sI, hia_sI, hba_sI, hal_sI, hix_sI, hI_aI, hL_aI, hR_aI, hT_aI, hN_aI, hn_aI, ho_aI, hia_aI, hal_aI, hix_aI, sh_sI, sh_aI, sh_sL, sh_aL]
        exact k
      by_cases z1 : og 35 < og 36
      · have k := bad (Or.inl z1)
        simp only [xs_134_112, xs_134_113, xs_134_116, xs_134_119, xs_134_120, xs_134_123, xs_134_124, xs_134_127, H4, sT_48, sT_49, sN_49, sA_49, sT_50, sN_50, sA_50, sT_51, sN_51, sA_51, sT_52, sN_52, sA_52, sT_53, sN_53, sA_53, sT_54, sN_54, sA_54, sT_55, sN_55, sA_55, sT_56, sN_56, sA_56, sT_57, sN_57, sA_57, sT_58, sN_58, sA_58, sT_59, sN_59, sA_59, sT_60, sN_60, sA_60, sT_61, sN_61, sA_61, sT_62, sN_62, sA_62, sT_63, sN_63, sA_63, sT_64, sN_64, sA_64, sT_65, sN_65, sA_65, sT_66, sN_66, sA_66, sT_67, sN_67, sA_67, sT_68, sN_68, sB_68, sT_69, sN_69, sA_69, sT_70, sN_70, sA_70, sT_71, sN_71, sA_71, sR_48_0, sR_48_2, sR_48_9, sR_48_10, sR_48_11, sR_48_20, sR_48_21, sR_48_22, sR_48_23, sR_48_24, sR_48_26, sR_48_27, sR_48_28, sR_48_29, sR_48_30, sR_48_31, sR_48_33, sR_48_34, sR_48_35, sR_48_36, sR_48_37, sR_48_38, sR_48_39, f14, t1, a1, p1, eq_true z1, rf_some, xc_int, xc_ref, xc_ret, xc_long, xw_nil, xw_int, xw_ref, xw_long, tl_some, tl_none, true_and, and_true, Nat.zero_le, Nat.reduceAdd, Nat.reduceMul, Nat.reduceLeDiff, Nat.reduceLT, Nat.reduceEqDiff, Nat.reducePow, Int32.reduceAdd, Int32.reduceMul, Int32.reduceSub, Int32.reduceLT, Int32.reduceLE, Int32.reduceToNatClampNeg, litE, ixU, not_false_eq_true, not_true_eq_false, ↓reduceIte, eq_self, true_or, or_true, false_and, and_false, or_false, false_or, i10, i01, in10, i1n, xbT, xbF, r_lt]
        exact k
      · by_cases z2 : og 37 ≤ og 24
        · have nc : ¬ (oc = 0 ∧ (og 35 < og 36 ∨ og 24 < og 37)) := by omega
          generalize hh5 : xe_sI (xe_sI h4 48 12 0) 48 13 0 = h5
          have W5 : wr meS h h5 := by rw [← hh5]; exact wr_sI (wr_sI (wr_sub W4 (fun a j z => Or.inl z)) (by unfold meS msS; omega)) (by unfold meS msS; omega)
          have H5 := wr_sh W5 H
          have M5 : msQ og h5 := msQ_c M4 (fun c j q => by rw [← hh5, hI_sI, if_neg (by omega), hI_sI, if_neg (by omega)])
          have g14 : xe_I h5 48 14 = 0 := by rw [← hh5, hI_sI, if_neg (by omega), hI_sI, if_neg (by omega)]; exact f14
          have k := mt_end (d := d) (x := nI ol) (l2 := l2) (Q := Q) q24 ok.1.2.1 H5 W5 M5 (fun h6 W6 m6 u1 u2 u3 u4 u5 u6 => by
            have k := K0 h6 (by rw [if_neg nc]; exact o0) W6 (by rw [if_neg nc]; exact m6) (by rw [if_neg nc]; exact u1) u2 u3 u4 (by rw [u5, ← hh5, hI_sI, if_neg (by omega), hI_sI, if_pos ⟨rfl, rfl⟩]) (by rw [u6, ← hh5, hI_sI, if_pos ⟨rfl, rfl⟩])
            rw [if_neg nc, if_pos o0] at k
            exact k)
          simp only [xs_134_112, xs_134_113, xs_134_116, xs_134_119, xs_134_120, xs_134_123, xs_134_124, xs_134_127, xs_134_130, xs_134_131, xs_134_134, xs_134_135, xs_134_138, xs_134_140, xs_134_141, xs_134_150, xs_134_151, xs_134_152, xs_134_155, xs_134_156, xs_134_157, xs_134_160, xs_134_163, xs_134_164, xs_134_167, H4, sT_48, sT_49, sN_49, sA_49, sT_50, sN_50, sA_50, sT_51, sN_51, sA_51, sT_52, sN_52, sA_52, sT_53, sN_53, sA_53, sT_54, sN_54, sA_54, sT_55, sN_55, sA_55, sT_56, sN_56, sA_56, sT_57, sN_57, sA_57, sT_58, sN_58, sA_58, sT_59, sN_59, sA_59, sT_60, sN_60, sA_60, sT_61, sN_61, sA_61, sT_62, sN_62, sA_62, sT_63, sN_63, sA_63, sT_64, sN_64, sA_64, sT_65, sN_65, sA_65, sT_66, sN_66, sA_66, sT_67, sN_67, sA_67, sT_68, sN_68, sB_68, sT_69, sN_69, sA_69, sT_70, sN_70, sA_70, sT_71, sN_71, sA_71, sR_48_0, sR_48_2, sR_48_9, sR_48_10, sR_48_11, sR_48_20, sR_48_21, sR_48_22, sR_48_23, sR_48_24, sR_48_26, sR_48_27, sR_48_28, sR_48_29, sR_48_30, sR_48_31, sR_48_33, sR_48_34, sR_48_35, sR_48_36, sR_48_37, sR_48_38, sR_48_39, f14, t1, a1, p1, eq_false z1, t2, a2, p2, eq_true z2, hh5, H5, g14, show ((0 : Int32) ≤ 0) = True from eq_true (by decide), rf_some, xc_int, xc_ref, xc_ret, xc_long, xw_nil, xw_int, xw_ref, xw_long, tl_some, tl_none, true_and, and_true, Nat.zero_le, Nat.reduceAdd, Nat.reduceMul, Nat.reduceLeDiff, Nat.reduceLT, Nat.reduceEqDiff, Nat.reducePow, Int32.reduceAdd, Int32.reduceMul, Int32.reduceSub, Int32.reduceLT, Int32.reduceLE, Int32.reduceToNatClampNeg, litE, ixU, not_false_eq_true, not_true_eq_false, ↓reduceIte, eq_self, true_or, or_true, false_and, and_false, or_false, false_or, i10, i01, in10, i1n, xbT, xbF, r_lt, hI_sI, hL_sI, hR_sI, hT_sI, hN_sI, hn_sI, ho_sI, hia_sI, hba_sI, hal_sI, hix_sI, hI_aI, hL_aI, hR_aI, hT_aI, hN_aI, hn_aI, ho_aI, hia_aI, hal_aI, hix_aI, sh_sI, sh_aI, sh_sL, sh_aL]
          exact k
        · have k := bad (Or.inr (by omega))
          simp only [xs_134_112, xs_134_113, xs_134_116, xs_134_119, xs_134_120, xs_134_123, xs_134_124, xs_134_127, xs_134_130, xs_134_131, xs_134_134, xs_134_135, xs_134_138, xs_134_140, xs_134_141, H4, sT_48, sT_49, sN_49, sA_49, sT_50, sN_50, sA_50, sT_51, sN_51, sA_51, sT_52, sN_52, sA_52, sT_53, sN_53, sA_53, sT_54, sN_54, sA_54, sT_55, sN_55, sA_55, sT_56, sN_56, sA_56, sT_57, sN_57, sA_57, sT_58, sN_58, sA_58, sT_59, sN_59, sA_59, sT_60, sN_60, sA_60, sT_61, sN_61, sA_61, sT_62, sN_62, sA_62, sT_63, sN_63, sA_63, sT_64, sN_64, sA_64, sT_65, sN_65, sA_65, sT_66, sN_66, sA_66, sT_67, sN_67, sA_67, sT_68, sN_68, sB_68, sT_69, sN_69, sA_69, sT_70, sN_70, sA_70, sT_71, sN_71, sA_71, sR_48_0, sR_48_2, sR_48_9, sR_48_10, sR_48_11, sR_48_20, sR_48_21, sR_48_22, sR_48_23, sR_48_24, sR_48_26, sR_48_27, sR_48_28, sR_48_29, sR_48_30, sR_48_31, sR_48_33, sR_48_34, sR_48_35, sR_48_36, sR_48_37, sR_48_38, sR_48_39, f14, t1, a1, p1, eq_false z1, t2, a2, p2, eq_false z2, rf_some, xc_int, xc_ref, xc_ret, xc_long, xw_nil, xw_int, xw_ref, xw_long, tl_some, tl_none, true_and, and_true, Nat.zero_le, Nat.reduceAdd, Nat.reduceMul, Nat.reduceLeDiff, Nat.reduceLT, Nat.reduceEqDiff, Nat.reducePow, Int32.reduceAdd, Int32.reduceMul, Int32.reduceSub, Int32.reduceLT, Int32.reduceLE, Int32.reduceToNatClampNeg, litE, ixU, not_false_eq_true, not_true_eq_false, ↓reduceIte, eq_self, true_or, or_true, false_and, and_false, or_false, false_or, i10, i01, in10, i1n, xbT, xbF, r_lt]
          exact k) (fun h4 l2 x o0 W4 B4 => by
      generalize txL T n 321 0 0 pg0 = o at *
      obtain ⟨oc, op, ol, og⟩ := o
      dsimp only at *
      have H4 := wr_sh W4 H
      have nc : ¬ (oc = 0 ∧ (og 35 < og 36 ∨ og 24 < og 37)) := fun y => o0 y.1
      have k := K1 (xe_sI (xe_sI h4 48 12 0) 48 13 (nI oc)) (by rw [if_neg nc]; exact o0) (wr_sI (wr_sI (wr_sub W4 (fun a j z => Or.inl z)) (by unfold meS msS; omega)) (by unfold meS msS; omega)) (by rw [hI_sI, if_neg (by omega), hI_sI, if_pos ⟨rfl, rfl⟩]) (by rw [if_neg nc, hI_sI, if_pos ⟨rfl, rfl⟩])
      rw [if_neg nc, if_neg o0] at k
      have oz : (nI oc = 0) = False := by rw [nIe0 (by omega)]; exact eq_false o0
      have ol0 : (nI oc ≤ 0) = False := by rw [show (0 : Int32) = nI 0 from rfl, nIle (by omega) (by decide)]; exact eq_false (by omega)
      simp only [xs_134_112, xs_134_113, xs_134_116, xs_134_150, xs_134_151, xs_134_152, xs_134_155, xs_134_156, xs_134_157, xs_134_160, xs_134_163, xs_134_164, xs_134_167, xs_134_170, xs_134_172, xs_134_173, xs_134_176, xs_134_177, H4, sT_48, sT_49, sN_49, sA_49, sT_50, sN_50, sA_50, sT_51, sN_51, sA_51, sT_52, sN_52, sA_52, sT_53, sN_53, sA_53, sT_54, sN_54, sA_54, sT_55, sN_55, sA_55, sT_56, sN_56, sA_56, sT_57, sN_57, sA_57, sT_58, sN_58, sA_58, sT_59, sN_59, sA_59, sT_60, sN_60, sA_60, sT_61, sN_61, sA_61, sT_62, sN_62, sA_62, sT_63, sN_63, sA_63, sT_64, sN_64, sA_64, sT_65, sN_65, sA_65, sT_66, sN_66, sA_66, sT_67, sN_67, sA_67, sT_68, sN_68, sB_68, sT_69, sN_69, sA_69, sT_70, sN_70, sA_70, sT_71, sN_71, sA_71, sR_48_0, sR_48_2, sR_48_9, sR_48_10, sR_48_11, sR_48_20, sR_48_21, sR_48_22, sR_48_23, sR_48_24, sR_48_26, sR_48_27, sR_48_28, sR_48_29, sR_48_30, sR_48_31, sR_48_33, sR_48_34, sR_48_35, sR_48_36, sR_48_37, sR_48_38, sR_48_39, B4.1, B4.2, oz, ol0, rf_some, xc_int, xc_ref, xc_ret, xc_long, xw_nil, xw_int, xw_ref, xw_long, tl_some, tl_none, true_and, and_true, Nat.zero_le, Nat.reduceAdd, Nat.reduceMul, Nat.reduceLeDiff, Nat.reduceLT, Nat.reduceEqDiff, Nat.reducePow, Int32.reduceAdd, Int32.reduceMul, Int32.reduceSub, Int32.reduceLT, Int32.reduceLE, Int32.reduceToNatClampNeg, litE, ixU, not_false_eq_true, not_true_eq_false, ↓reduceIte, eq_self, true_or, or_true, false_and, and_false, or_false, false_or, i10, i01, in10, i1n, xbT, xbF, r_lt, hI_sI, hL_sI, hR_sI, hT_sI, hN_sI, hn_sI, ho_sI, hia_sI, hba_sI, hal_sI, hix_sI, hI_aI, hL_aI, hR_aI, hT_aI, hN_aI, hn_aI, ho_aI, hia_aI, hal_aI, hix_aI, sh_sI, sh_aI, sh_sL, sh_aL]
      exact k)
    rw [show nI 0 = (0 : Int32) from rfl] at o
    exact o)
  rw [show nI 0 = (0 : Int32) from rfl] at A
  simp only [xs_134, xs_134_0, xs_134_1, xs_134_2, xs_134_5, xs_134_6, xs_134_7, xs_134_10, xs_134_11, xs_134_12, xs_134_15, xs_134_16, xs_134_17, xs_134_20, xs_134_21, xs_134_22, xs_134_25, xs_134_26, xs_134_27, xs_134_30, xs_134_31, xs_134_32, xs_134_35, xs_134_36, xs_134_37, xs_134_40, xs_134_41, xs_134_42, xs_134_43, H, sT_48, sT_49, sN_49, sA_49, sT_50, sN_50, sA_50, sT_51, sN_51, sA_51, sT_52, sN_52, sA_52, sT_53, sN_53, sA_53, sT_54, sN_54, sA_54, sT_55, sN_55, sA_55, sT_56, sN_56, sA_56, sT_57, sN_57, sA_57, sT_58, sN_58, sA_58, sT_59, sN_59, sA_59, sT_60, sN_60, sA_60, sT_61, sN_61, sA_61, sT_62, sN_62, sA_62, sT_63, sN_63, sA_63, sT_64, sN_64, sA_64, sT_65, sN_65, sA_65, sT_66, sN_66, sA_66, sT_67, sN_67, sA_67, sT_68, sN_68, sB_68, sT_69, sN_69, sA_69, sT_70, sN_70, sA_70, sT_71, sN_71, sA_71, sR_48_0, sR_48_2, sR_48_9, sR_48_10, sR_48_11, sR_48_20, sR_48_21, sR_48_22, sR_48_23, sR_48_24, sR_48_26, sR_48_27, sR_48_28, sR_48_29, sR_48_30, sR_48_31, sR_48_33, sR_48_34, sR_48_35, sR_48_36, sR_48_37, sR_48_38, sR_48_39, hh1, rf_some, xc_int, xc_ref, xc_ret, xc_long, xw_nil, xw_int, xw_ref, xw_long, tl_some, tl_none, true_and, and_true, Nat.zero_le, Nat.reduceAdd, Nat.reduceMul, Nat.reduceLeDiff, Nat.reduceLT, Nat.reduceEqDiff, Nat.reducePow, Int32.reduceAdd, Int32.reduceMul, Int32.reduceSub, Int32.reduceLT, Int32.reduceLE, Int32.reduceToNatClampNeg, litE, ixU, not_false_eq_true, not_true_eq_false, ↓reduceIte, eq_self, true_or, or_true, false_and, and_false, or_false, false_or, i10, i01, in10, i1n, xbT, xbF, r_lt, hI_sI, hL_sI, hR_sI, hT_sI, hN_sI, hn_sI, ho_sI, hia_sI, hba_sI, hal_sI, hix_sI, hI_aI, hL_aI, hR_aI, hT_aI, hN_aI, hn_aI, ho_aI, hia_aI, hal_aI, hix_aI, sh_sI, sh_aI, sh_sL, sh_aL]
  exact A
end TU
