/-! ways: the reference -/
def MI (b : bL) (h : xe_H) : Prop := xe_I h 48 25 = nI b.1 ∧ (∀ i, i < b.1 → xe_I h 58 i = nI (bS b i) ∧ xe_I h 57 (bS b i) = (if i = 0 then -1 else nI (64 * bF b i + bM b i + 1))) ∧ ∀ x, x < 102400 → kn b x = false → xe_I h 57 x = 0
def vS (a j : Nat) : Prop := a = 56 ∨ a = 57 ∨ a = 58 ∨ a = 59 ∨ (a = 48 ∧ j = 25)
theorem MI_c {b : bL} {h h' : xe_H} (H : MI b h) (e : ∀ a j, a = 57 ∨ a = 58 ∨ (a = 48 ∧ j = 25) → xe_I h' a j = xe_I h a j) : MI b h' := by
  refine ⟨by rw [e 48 25 (by omega)]; exact H.1, fun i hi => ?_, fun x hx hk => by rw [e 57 x (by omega)]; exact H.2.2 x hx hk⟩
  rw [e 58 i (by omega), e 57 _ (by omega)]
  exact H.2.1 i hi
theorem MI_W {b : bL} {h : xe_H} {f : Nat → Nat} (H : MI b h) : MI b (mW h f) := MI_c H (fun a j q => mW_o (by omega))
/-- numbers of a list -/
def bN (b : bL) : Prop := ∀ i, i < b.1 → bM b i < 64
theorem bN_V {nx : Nat → Nat → Option Nat} {M : Nat} {b : bL} (hM : M ≤ 64) (H : bV nx M b) (h0 : bM b 0 = 0) : bN b := fun i hi => by
  by_cases z : i = 0
  · rw [z, h0]; omega
  · have := (H i (by omega) hi).2.1
    omega
section WM
variable {d : Nat} {h : xe_H} {Q : Option Value → xe_H → Prop}
theorem md_begins {x : Nat} (hx : x < 102400) (H : sh h) : xe_C (d + 1) 161 [.ref 48, .int (nI x)] h (fun r h' => r = none ∧ wr vS h h' ∧ MI (1, fun _ => (x, 0, 0, 0)) h') := by
  have lp : ∀ k i, i + k = 102400 → xe_P d 161 2 [.ref 48, .int (nI x), .int (nI i)] [] (xe_aI h 57 (fl (xe_I h 57) 0 i 0)) (fun r h' => r = none ∧ wr vS h h' ∧ MI (1, fun _ => (x, 0, 0, 0)) h') := by
    intro k
    induction k with
    | zero =>
      intro i hi
      have hi : i = 102400 := by omega
      have e1 : (102400 ≤ nI 102400) = True := eq_true (by decide)
      have H1 : sh (xe_aI h 57 (fl (xe_I h 57) 0 102400 0)) := H
      rw [hi]
      simp only [xs_161_2, xs_161_3, xs_161_5, xs_161_21, xs_161_22, xs_161_23, xs_161_26, xs_161_27, xs_161_30, xs_161_31, xs_161_32, xs_161_33, xs_161_34, xs_161_37, xs_161_38, xs_161_39, xs_161_40, e1, H1, sT_48, sT_49, sN_49, sA_49, sT_50, sN_50, sA_50, sT_51, sN_51, sA_51, sT_52, sN_52, sA_52, sT_53, sN_53, sA_53, sT_54, sN_54, sA_54, sT_55, sN_55, sA_55, sT_56, sN_56, sA_56, sT_57, sN_57, sA_57, sT_58, sN_58, sA_58, sT_59, sN_59, sA_59, sT_60, sN_60, sA_60, sT_61, sN_61, sA_61, sT_62, sN_62, sA_62, sT_63, sN_63, sA_63, sT_64, sN_64, sA_64, sT_65, sN_65, sA_65, sT_66, sN_66, sA_66, sT_67, sN_67, sA_67, sT_68, sN_68, sB_68, sT_69, sN_69, sA_69, sT_70, sN_70, sA_70, sT_71, sN_71, sA_71, sR_48_0, sR_48_2, sR_48_9, sR_48_10, sR_48_11, sR_48_20, sR_48_21, sR_48_22, sR_48_23, sR_48_24, sR_48_26, sR_48_27, sR_48_28, sR_48_29, sR_48_30, sR_48_31, sR_48_33, sR_48_34, sR_48_35, sR_48_36, sR_48_37, sR_48_38, sR_48_39, nIlt0 (show x < 2 ^ 31 by omega), nI_clamp (show x < 2 ^ 31 by omega), show x < 102400 by omega, rf_some, xc_int, xc_ref, xc_ret, xc_long, xw_nil, xw_int, xw_ref, xw_long, tl_some, tl_none, true_and, and_true, Nat.zero_le, Nat.reduceAdd, Nat.reduceMul, Nat.reduceLeDiff, Nat.reduceLT, Nat.reduceEqDiff, Nat.reducePow, Int32.reduceAdd, Int32.reduceMul, Int32.reduceSub, Int32.reduceLT, Int32.reduceLE, Int32.reduceToNatClampNeg, litE, ixU, not_false_eq_true, not_true_eq_false, ↓reduceIte, eq_self, true_or, or_true, false_and, and_false, or_false, false_or, i10, i01, in10, i1n, xbT, xbF, r_lt, hI_sI, hL_sI, hR_sI, hT_sI, hN_sI, hn_sI, ho_sI, hia_sI, hba_sI, hal_sI, hix_sI, hI_aI, hL_aI, hR_aI, hT_aI, hN_aI, hn_aI, ho_aI, hia_aI, hal_aI, hix_aI, sh_sI, sh_aI, sh_sL, sh_aL]
      refine ⟨wr_sI (wr_sI (wr_sI (wr_aI (wr_rf _ h) (fun j => Or.inl (Or.inr (Or.inl rfl)))) (by unfold vS; omega)) (by unfold vS; omega)) (by unfold vS; omega), ⟨?_, fun i hi => ?_, fun y hy hk => ?_⟩⟩
      · rw [hI_sI, if_neg (by omega), hI_sI, if_neg (by omega), hI_sI, if_pos ⟨rfl, rfl⟩]; rfl
      · have : i = 0 := by have : i < 1 := hi; omega
        subst this
        refine ⟨?_, ?_⟩
        · rw [hI_sI, if_neg (by omega), hI_sI, if_pos ⟨rfl, rfl⟩]; rfl
        · rw [hI_sI, if_pos ⟨rfl, rfl⟩, if_pos rfl]
      · have hyx : ¬ y = x := fun e => by
          have : kn (1, fun _ => (x, 0, 0, 0)) y = true := kn_t.mpr ⟨0, Nat.one_pos, e.symm⟩
          rw [hk] at this
          cases this
        rw [hI_sI, if_neg (fun z => hyx z.2), hI_sI, if_neg (by omega), hI_sI, if_neg (by omega), hI_aI, if_pos rfl]
        exact if_pos ⟨Nat.zero_le _, hy⟩
    | succ k ih =>
      intro i hi
      have H1 : sh (xe_aI h 57 (fl (xe_I h 57) 0 i 0)) := H
      have e1 : (102400 ≤ nI i) = False := eq_false (by rw [show (102400 : Int32) = nI 102400 from rfl, nI_leI (by decide) (by omega)]; omega)
      rw [xs_161_2]
      simp only [xs_161_3, xs_161_5, xs_161_8, xs_161_9, xs_161_12, xs_161_13, xs_161_14, xs_161_15, xs_161_18, e1, H1, sT_48, sT_49, sN_49, sA_49, sT_50, sN_50, sA_50, sT_51, sN_51, sA_51, sT_52, sN_52, sA_52, sT_53, sN_53, sA_53, sT_54, sN_54, sA_54, sT_55, sN_55, sA_55, sT_56, sN_56, sA_56, sT_57, sN_57, sA_57, sT_58, sN_58, sA_58, sT_59, sN_59, sA_59, sT_60, sN_60, sA_60, sT_61, sN_61, sA_61, sT_62, sN_62, sA_62, sT_63, sN_63, sA_63, sT_64, sN_64, sA_64, sT_65, sN_65, sA_65, sT_66, sN_66, sA_66, sT_67, sN_67, sA_67, sT_68, sN_68, sB_68, sT_69, sN_69, sA_69, sT_70, sN_70, sA_70, sT_71, sN_71, sA_71, sR_48_0, sR_48_2, sR_48_9, sR_48_10, sR_48_11, sR_48_20, sR_48_21, sR_48_22, sR_48_23, sR_48_24, sR_48_26, sR_48_27, sR_48_28, sR_48_29, sR_48_30, sR_48_31, sR_48_33, sR_48_34, sR_48_35, sR_48_36, sR_48_37, sR_48_38, sR_48_39, nIlt0 (show i < 2 ^ 31 by omega), nI_clamp (show i < 2 ^ 31 by omega), show i < 102400 by omega, nI_1, sI_aI, fl_s _ _ (Nat.zero_le i), rf_some, xc_int, xc_ref, xc_ret, xc_long, xw_nil, xw_int, xw_ref, xw_long, tl_some, tl_none, true_and, and_true, Nat.zero_le, Nat.reduceAdd, Nat.reduceMul, Nat.reduceLeDiff, Nat.reduceLT, Nat.reduceEqDiff, Nat.reducePow, Int32.reduceAdd, Int32.reduceMul, Int32.reduceSub, Int32.reduceLT, Int32.reduceLE, Int32.reduceToNatClampNeg, litE, ixU, not_false_eq_true, not_true_eq_false, ↓reduceIte, eq_self, true_or, or_true, false_and, and_false, or_false, false_or, i10, i01, in10, i1n, xbT, xbF, r_lt]
      exact ih (i + 1) (by omega)
  have l0 := lp 102400 0 (by omega)
  rw [fl_0, aI_self, show nI 0 = (0 : Int32) from rfl] at l0
  simp only [xs_161, xs_161_0, xs_161_1, rf_some, xc_int, xc_ref, xc_ret, xc_long, xw_nil, xw_int, xw_ref, xw_long, tl_some, tl_none, true_and, and_true, Nat.zero_le, Nat.reduceAdd, Nat.reduceMul, Nat.reduceLeDiff, Nat.reduceLT, Nat.reduceEqDiff, Nat.reducePow, Int32.reduceAdd, Int32.reduceMul, Int32.reduceSub, Int32.reduceLT, Int32.reduceLE, Int32.reduceToNatClampNeg, litE, ixU, not_false_eq_true, not_true_eq_false, ↓reduceIte, eq_self, true_or, or_true, false_and, and_false, or_false, false_or, i10, i01, in10, i1n, xbT, xbF, r_lt]
  exact l0
theorem md_finds {b : bL} {s k m : Nat} (hG : bG 102400 b) (hN : bN b) (hG2 : bG 102400 (bA b s k m)) (hs : s < 102400) (hk : k < b.1) (hm : m < 64) (H : sh h) (J : MI b h) : xe_C (d + 1) 162 [.ref 48, .int (nI s), .int (nI k), .int (nI m)] h (fun r h' => r = none ∧ wr vS h h' ∧ MI (bA b s k m) h') := by
  have hb := bG_le hG
  obtain ⟨j1, j2, j3⟩ := id J
  cases hkn : kn b s with
  | true =>
    obtain ⟨i, i1, i2⟩ := kn_t.mp hkn
    have e57 := (j2 i i1).2
    rw [i2] at e57
    have ne : (xe_I h 57 s = 0) = False := by
      rw [e57]
      split
      · exact eq_false (by decide)
      · rename_i z
        rw [bA_old hkn] at hG2
        obtain ⟨q1, q2⟩ := hG.2.2.2.2.1 i (by omega) i1
        exact eq_false (fun y => by
          have := congrArg Int32.toNatClampNeg y
          have hm' := hN i i1
          rw [nI_clamp (by omega)] at this
          exact absurd this (by show ¬ _ = 0; omega))
    rw [bA_old hkn]
    simp only [xs_162, xs_162_0, xs_162_1, xs_162_4, xs_162_5, xs_162_6, xs_162_43, H, sT_48, sT_49, sN_49, sA_49, sT_50, sN_50, sA_50, sT_51, sN_51, sA_51, sT_52, sN_52, sA_52, sT_53, sN_53, sA_53, sT_54, sN_54, sA_54, sT_55, sN_55, sA_55, sT_56, sN_56, sA_56, sT_57, sN_57, sA_57, sT_58, sN_58, sA_58, sT_59, sN_59, sA_59, sT_60, sN_60, sA_60, sT_61, sN_61, sA_61, sT_62, sN_62, sA_62, sT_63, sN_63, sA_63, sT_64, sN_64, sA_64, sT_65, sN_65, sA_65, sT_66, sN_66, sA_66, sT_67, sN_67, sA_67, sT_68, sN_68, sB_68, sT_69, sN_69, sA_69, sT_70, sN_70, sA_70, sT_71, sN_71, sA_71, sR_48_0, sR_48_2, sR_48_9, sR_48_10, sR_48_11, sR_48_20, sR_48_21, sR_48_22, sR_48_23, sR_48_24, sR_48_26, sR_48_27, sR_48_28, sR_48_29, sR_48_30, sR_48_31, sR_48_33, sR_48_34, sR_48_35, sR_48_36, sR_48_37, sR_48_38, sR_48_39, nIlt0 (show s < 2 ^ 31 by omega), nI_clamp (show s < 2 ^ 31 by omega), show s < 102400 by omega, ne, rf_some, xc_int, xc_ref, xc_ret, xc_long, xw_nil, xw_int, xw_ref, xw_long, tl_some, tl_none, true_and, and_true, Nat.zero_le, Nat.reduceAdd, Nat.reduceMul, Nat.reduceLeDiff, Nat.reduceLT, Nat.reduceEqDiff, Nat.reducePow, Int32.reduceAdd, Int32.reduceMul, Int32.reduceSub, Int32.reduceLT, Int32.reduceLE, Int32.reduceToNatClampNeg, litE, ixU, not_false_eq_true, not_true_eq_false, ↓reduceIte, eq_self, true_or, or_true, false_and, and_false, or_false, false_or, i10, i01, in10, i1n, xbT, xbF, r_lt]
    exact ⟨wr_rf _ h, J⟩
  | false =>
    have e57 := j3 s hs hkn
    have hb2 := bG_le hG2
    rw [bA_new hkn] at hb2 ⊢
    have hb2 : b.1 + 1 ≤ 102400 := hb2
    have ek : (64 : Int32) * nI k + nI m + 1 = nI (64 * k + m + 1) := by rw [show (64 : Int32) = nI 64 from rfl, pk_mul, nI_add, nI_1]
    simp only [xs_162, xs_162_0, xs_162_1, xs_162_4, xs_162_5, xs_162_6, xs_162_9, xs_162_10, xs_162_13, xs_162_14, xs_162_16, xs_162_17, xs_162_18, xs_162_19, xs_162_20, xs_162_21, xs_162_22, xs_162_23, xs_162_24, xs_162_27, xs_162_28, xs_162_31, xs_162_32, xs_162_33, xs_162_34, xs_162_34i, xs_162_35, xs_162_38, xs_162_39, xs_162_40, xs_162_43, H, sT_48, sT_49, sN_49, sA_49, sT_50, sN_50, sA_50, sT_51, sN_51, sA_51, sT_52, sN_52, sA_52, sT_53, sN_53, sA_53, sT_54, sN_54, sA_54, sT_55, sN_55, sA_55, sT_56, sN_56, sA_56, sT_57, sN_57, sA_57, sT_58, sN_58, sA_58, sT_59, sN_59, sA_59, sT_60, sN_60, sA_60, sT_61, sN_61, sA_61, sT_62, sN_62, sA_62, sT_63, sN_63, sA_63, sT_64, sN_64, sA_64, sT_65, sN_65, sA_65, sT_66, sN_66, sA_66, sT_67, sN_67, sA_67, sT_68, sN_68, sB_68, sT_69, sN_69, sA_69, sT_70, sN_70, sA_70, sT_71, sN_71, sA_71, sR_48_0, sR_48_2, sR_48_9, sR_48_10, sR_48_11, sR_48_20, sR_48_21, sR_48_22, sR_48_23, sR_48_24, sR_48_26, sR_48_27, sR_48_28, sR_48_29, sR_48_30, sR_48_31, sR_48_33, sR_48_34, sR_48_35, sR_48_36, sR_48_37, sR_48_38, sR_48_39, nIlt0 (show s < 2 ^ 31 by omega), nI_clamp (show s < 2 ^ 31 by omega), show s < 102400 by omega, e57, ek, j1, nIlt0 (show b.1 < 2 ^ 31 by omega), nI_clamp (show b.1 < 2 ^ 31 by omega), show b.1 < 102400 by omega, nI_1, rf_some, xc_int, xc_ref, xc_ret, xc_long, xw_nil, xw_int, xw_ref, xw_long, tl_some, tl_none, true_and, and_true, Nat.zero_le, Nat.reduceAdd, Nat.reduceMul, Nat.reduceLeDiff, Nat.reduceLT, Nat.reduceEqDiff, Nat.reducePow, Int32.reduceAdd, Int32.reduceMul, Int32.reduceSub, Int32.reduceLT, Int32.reduceLE, Int32.reduceToNatClampNeg, litE, ixU, not_false_eq_true, not_true_eq_false, ↓reduceIte, eq_self, true_or, or_true, false_and, and_false, or_false, false_or, i10, i01, in10, i1n, xbT, xbF, r_lt, hI_sI, hL_sI, hR_sI, hT_sI, hN_sI, hn_sI, ho_sI, hia_sI, hba_sI, hal_sI, hix_sI, hI_aI, hL_aI, hR_aI, hT_aI, hN_aI, hn_aI, ho_aI, hia_aI, hal_aI, hix_aI, sh_sI, sh_aI, sh_sL, sh_aL]
    have hn : ∀ i, i < b.1 → bS b i ≠ s := fun i hi e => by
      have := kn_t.mpr ⟨i, hi, e⟩
      rw [hkn] at this
      cases this
    refine ⟨wr_sI (wr_sI (wr_sI (wr_rf _ h) (by unfold vS; omega)) (by unfold vS; omega)) (by unfold vS; omega), ⟨?_, fun i hi => ?_, fun y hy hy2 => ?_⟩⟩
    · rw [hI_sI, if_pos ⟨rfl, rfl⟩]
    · have hi : i < b.1 + 1 := hi
      show xe_I _ 58 i = nI (if i = b.1 then ((s, k, m, bD b k + 1) : bE4) else b.2 i).1 ∧ xe_I _ 57 (if i = b.1 then ((s, k, m, bD b k + 1) : bE4) else b.2 i).1 = if i = 0 then -1 else nI (64 * (if i = b.1 then ((s, k, m, bD b k + 1) : bE4) else b.2 i).2.1 + (if i = b.1 then ((s, k, m, bD b k + 1) : bE4) else b.2 i).2.2.1 + 1)
      by_cases z : i = b.1
      · have h0 := hG.1
        rw [if_pos z]
        refine ⟨?_, ?_⟩
        · rw [hI_sI, if_neg (by omega), hI_sI, if_pos ⟨rfl, z⟩]
        · rw [hI_sI, if_neg (by omega), hI_sI, if_neg (by omega), hI_sI, if_pos ⟨rfl, rfl⟩, if_neg (by omega)]
      · rw [if_neg z]
        obtain ⟨q1, q2⟩ := j2 i (by omega)
        refine ⟨?_, ?_⟩
        · rw [hI_sI, if_neg (by omega), hI_sI, if_neg (fun w => z w.2)]; exact q1
        · rw [hI_sI, if_neg (by omega), hI_sI, if_neg (by omega), hI_sI, if_neg (fun w => hn i (by omega) w.2)]; exact q2
    · have hys : ¬ y = s := fun e => by
        have : kn (b.1 + 1, fun j => if j = b.1 then (s, k, m, bD b k + 1) else b.2 j) y = true := kn_t.mpr ⟨b.1, Nat.lt_succ_self _, by
          show (if b.1 = b.1 then ((s, k, m, bD b k + 1) : bE4) else b.2 b.1).1 = y
          rw [if_pos rfl]; exact e.symm⟩
        rw [hy2] at this
        cases this
      have hyb : kn b y = false := by
        cases e : kn b y with
        | false => rfl
        | true =>
          obtain ⟨i, i1, i2⟩ := kn_t.mp e
          have : kn (b.1 + 1, fun j => if j = b.1 then (s, k, m, bD b k + 1) else b.2 j) y = true := kn_t.mpr ⟨i, Nat.lt_succ_of_lt i1, by
            show (if i = b.1 then ((s, k, m, bD b k + 1) : bE4) else b.2 i).1 = y
            rw [if_neg (by omega)]; exact i2⟩
          rw [hy2] at this
          cases this
      rw [hI_sI, if_neg (by omega), hI_sI, if_neg (by omega), hI_sI, if_neg (fun w => hys w.2)]
      exact j3 y hy hyb
end WM
