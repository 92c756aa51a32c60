/-! the reference's small methods -/
theorem litE {a b : Nat} (ha : a < 2 ^ 31) (hb : b < 2 ^ 31) : ((OfNat.ofNat a : Int32) = OfNat.ofNat b) = (a = b) := nIe ha hb
theorem ixN {h : xe_H} {a m : Nat} (hm : m < 2 ^ 31) : xe_ix h a (nI m) = (m < xe_N h a) := by
  unfold xe_ix
  rw [nI_clamp hm]
  have h1 : ¬ nI m < 0 := nI_pos hm
  simp [h1]
theorem ixL {h : xe_H} {a m : Nat} (hm : m < 2 ^ 31) : xe_ix h a (OfNat.ofNat m) = (m < xe_N h a) := ixN hm
theorem ixU (h : xe_H) (a : Nat) (i : Int32) : xe_ix h a i = (¬ i < 0 ∧ i.toNatClampNeg < xe_N h a) := by
  unfold xe_ix
  simp
section MD
variable {d : Nat} {h : xe_H} {Q : Option Value → xe_H → Prop}
theorem lg_lt (x y : Int64) : (lg_cmp x y < 0) = (x < y) := by
  unfold lg_cmp
  rw [eq_iff_iff]
  have h1 := fa_lt64 x y
  have h2 := fa_lt64 y x
  have h3 := fa_eq64 x y
  split
  · rename_i hq
    have hq := h2.mp hq
    constructor
    · intro z; exact absurd z (by decide)
    · intro z; rw [h1] at z; omega
  · split
    · rename_i hq
      rw [h3] at hq
      constructor
      · intro z; exact absurd z (by decide)
      · intro z; rw [h1] at z; omega
    · rename_i q1 q2
      have q1 : ¬ y.toInt < x.toInt := fun z => q1 (h2.mpr z)
      rw [h3] at q2
      constructor
      · intro _; rw [h1]; omega
      · intro _; decide
theorem lg_gt (x y : Int64) : (0 < lg_cmp x y) = (y < x) := by
  unfold lg_cmp
  rw [eq_iff_iff]
  have h2 := fa_lt64 y x
  have h3 := fa_eq64 x y
  split
  · rename_i hq
    exact ⟨fun _ => hq, fun _ => by decide⟩
  · split
    · rename_i hq
      have hq := h3.mp hq
      exact ⟨fun z => absurd z (by decide), fun z => by have := h2.mp z; omega⟩
    · rename_i q1 q2
      exact ⟨fun z => absurd z (by decide), fun z => absurd z q1⟩
theorem md_in (w0 w1 w2 : Int64) : xe_C (d + 1) 120 [.long w0, .long w1, .long w2] h Q = Q (some (.int (xb (w1 ≤ w0 ∧ w0 ≤ w2)))) h := by
  simp only [xs_120, xs_120_0, xs_120_1, xs_120_2, xs_120_3, xs_120_6, xs_120_7, xs_120_9, xs_120_10, xs_120_13, xs_120_14, xs_120_17, xs_120_18, lg_lt, lg_gt]
  have h1 : (w1 ≤ w0) ↔ ¬ w0 < w1 := by rw [fa_le64, fa_lt64]; omega
  have h2 : (w0 ≤ w2) ↔ ¬ w2 < w0 := by rw [fa_le64, fa_lt64]; omega
  by_cases q1 : w0 < w1
  · rw [xb_f (fun z => h1.mp z.1 q1)]; simp [q1]
  · by_cases q2 : w2 < w0
    · rw [xb_f (fun z => h2.mp z.2 q2)]; simp [q1, q2]
    · rw [xb_t ⟨h1.mpr q1, h2.mpr q2⟩]; simp [q1, q2]
theorem md_bridges (H : sh h) : xe_C (d + 1) 136 [.ref 48] h Q = Q (some (.int (xe_I h 49 24))) h := by
  simp only [xs_136, xs_136_0, xs_136_1, xs_136_4, xs_136_6, xs_136_7, H, sT_48, sT_49, sN_49, sA_49, sT_50, sN_50, sA_50, sT_51, sN_51, sA_51, sT_52, sN_52, sA_52, sT_53, sN_53, sA_53, sT_54, sN_54, sA_54, sT_55, sN_55, sA_55, sT_56, sN_56, sA_56, sT_57, sN_57, sA_57, sT_58, sN_58, sA_58, sT_59, sN_59, sA_59, sT_60, sN_60, sA_60, sT_61, sN_61, sA_61, sT_62, sN_62, sA_62, sT_63, sN_63, sA_63, sT_64, sN_64, sA_64, sT_65, sN_65, sA_65, sT_66, sN_66, sA_66, sT_67, sN_67, sA_67, sT_68, sN_68, sB_68, sT_69, sN_69, sA_69, sT_70, sN_70, sA_70, sT_71, sN_71, sA_71, sR_48_0, sR_48_2, sR_48_9, sR_48_10, sR_48_11, sR_48_20, sR_48_21, sR_48_22, sR_48_23, sR_48_24, sR_48_26, sR_48_27, sR_48_28, sR_48_29, sR_48_30, sR_48_31, sR_48_33, sR_48_34, sR_48_35, sR_48_36, sR_48_37, sR_48_38, sR_48_39, rf_some, xc_int, xc_ref, xc_ret, xc_long, xw_nil, xw_int, xw_ref, xw_long, tl_some, tl_none, true_and, and_true, Nat.zero_le, Nat.reduceAdd, Nat.reduceMul, Nat.reduceLeDiff, Nat.reduceLT, Nat.reduceEqDiff, Nat.reducePow, Int32.reduceAdd, Int32.reduceMul, Int32.reduceSub, Int32.reduceLT, Int32.reduceLE, Int32.reduceToNatClampNeg, litE, ixU, not_false_eq_true, not_true_eq_false, ↓reduceIte, eq_self, true_or, or_true, false_and, and_false, or_false, false_or]
theorem md_holds (H : sh h) : xe_C (d + 1) 142 [.ref 48] h Q = Q (some (.int (xe_I h 49 33 + 2))) h := by
  simp only [xs_142, xs_142_0, xs_142_1, xs_142_4, xs_142_6, xs_142_7, xs_142_8, xs_142_9, H, sT_48, sT_49, sN_49, sA_49, sT_50, sN_50, sA_50, sT_51, sN_51, sA_51, sT_52, sN_52, sA_52, sT_53, sN_53, sA_53, sT_54, sN_54, sA_54, sT_55, sN_55, sA_55, sT_56, sN_56, sA_56, sT_57, sN_57, sA_57, sT_58, sN_58, sA_58, sT_59, sN_59, sA_59, sT_60, sN_60, sA_60, sT_61, sN_61, sA_61, sT_62, sN_62, sA_62, sT_63, sN_63, sA_63, sT_64, sN_64, sA_64, sT_65, sN_65, sA_65, sT_66, sN_66, sA_66, sT_67, sN_67, sA_67, sT_68, sN_68, sB_68, sT_69, sN_69, sA_69, sT_70, sN_70, sA_70, sT_71, sN_71, sA_71, sR_48_0, sR_48_2, sR_48_9, sR_48_10, sR_48_11, sR_48_20, sR_48_21, sR_48_22, sR_48_23, sR_48_24, sR_48_26, sR_48_27, sR_48_28, sR_48_29, sR_48_30, sR_48_31, sR_48_33, sR_48_34, sR_48_35, sR_48_36, sR_48_37, sR_48_38, sR_48_39, rf_some, xc_int, xc_ref, xc_ret, xc_long, xw_nil, xw_int, xw_ref, xw_long, tl_some, tl_none, true_and, and_true, Nat.zero_le, Nat.reduceAdd, Nat.reduceMul, Nat.reduceLeDiff, Nat.reduceLT, Nat.reduceEqDiff, Nat.reducePow, Int32.reduceAdd, Int32.reduceMul, Int32.reduceSub, Int32.reduceLT, Int32.reduceLE, Int32.reduceToNatClampNeg, litE, ixU, not_false_eq_true, not_true_eq_false, ↓reduceIte, eq_self, true_or, or_true, false_and, and_false, or_false, false_or]
theorem md_placeOf (H : sh h) {p : Nat} (hp : p < 3) : xe_C (d + 1) 140 [.ref 48, .int (nI p)] h Q = Q (some (.int (xe_I h 49 (25 + 2 * p)))) h := by
  have e1 : (25 : Int32) + 2 * nI p = nI (25 + 2 * p) := by rw [show (25 : Int32) = nI 25 from rfl, nI2, pk_mul, nI_add]
  simp only [xs_140, xs_140_0, xs_140_1, xs_140_4, xs_140_6, xs_140_7, xs_140_8, xs_140_9, xs_140_10, xs_140_11, H, sT_48, sT_49, sN_49, sA_49, sT_50, sN_50, sA_50, sT_51, sN_51, sA_51, sT_52, sN_52, sA_52, sT_53, sN_53, sA_53, sT_54, sN_54, sA_54, sT_55, sN_55, sA_55, sT_56, sN_56, sA_56, sT_57, sN_57, sA_57, sT_58, sN_58, sA_58, sT_59, sN_59, sA_59, sT_60, sN_60, sA_60, sT_61, sN_61, sA_61, sT_62, sN_62, sA_62, sT_63, sN_63, sA_63, sT_64, sN_64, sA_64, sT_65, sN_65, sA_65, sT_66, sN_66, sA_66, sT_67, sN_67, sA_67, sT_68, sN_68, sB_68, sT_69, sN_69, sA_69, sT_70, sN_70, sA_70, sT_71, sN_71, sA_71, sR_48_0, sR_48_2, sR_48_9, sR_48_10, sR_48_11, sR_48_20, sR_48_21, sR_48_22, sR_48_23, sR_48_24, sR_48_26, sR_48_27, sR_48_28, sR_48_29, sR_48_30, sR_48_31, sR_48_33, sR_48_34, sR_48_35, sR_48_36, sR_48_37, sR_48_38, sR_48_39, rf_some, xc_int, xc_ref, xc_ret, xc_long, xw_nil, xw_int, xw_ref, xw_long, tl_some, tl_none, true_and, and_true, Nat.zero_le, Nat.reduceAdd, Nat.reduceMul, Nat.reduceLeDiff, Nat.reduceLT, Nat.reduceEqDiff, Nat.reducePow, Int32.reduceAdd, Int32.reduceMul, Int32.reduceSub, Int32.reduceLT, Int32.reduceLE, Int32.reduceToNatClampNeg, litE, ixU, not_false_eq_true, not_true_eq_false, ↓reduceIte, eq_self, true_or, or_true, false_and, and_false, or_false, false_or, e1, nIlt0 (show 25 + 2 * p < 2 ^ 31 by omega), nI_clamp (show 25 + 2 * p < 2 ^ 31 by omega), show 25 + 2 * p < 140 by omega]
theorem md_goalOf (H : sh h) {p : Nat} (hp : p < 3) : xe_C (d + 1) 141 [.ref 48, .int (nI p)] h Q = Q (some (.int (xe_I h 49 (26 + 2 * p)))) h := by
  have e1 : (25 : Int32) + 2 * nI p + 1 = nI (26 + 2 * p) := by rw [show (25 : Int32) = nI 25 from rfl, nI2, nI1, pk_mul, nI_add, nI_add]; congr 1; omega
  simp only [xs_141, xs_141_0, xs_141_1, xs_141_4, xs_141_6, xs_141_7, xs_141_8, xs_141_9, xs_141_10, xs_141_11, xs_141_12, xs_141_13, H, sT_48, sT_49, sN_49, sA_49, sT_50, sN_50, sA_50, sT_51, sN_51, sA_51, sT_52, sN_52, sA_52, sT_53, sN_53, sA_53, sT_54, sN_54, sA_54, sT_55, sN_55, sA_55, sT_56, sN_56, sA_56, sT_57, sN_57, sA_57, sT_58, sN_58, sA_58, sT_59, sN_59, sA_59, sT_60, sN_60, sA_60, sT_61, sN_61, sA_61, sT_62, sN_62, sA_62, sT_63, sN_63, sA_63, sT_64, sN_64, sA_64, sT_65, sN_65, sA_65, sT_66, sN_66, sA_66, sT_67, sN_67, sA_67, sT_68, sN_68, sB_68, sT_69, sN_69, sA_69, sT_70, sN_70, sA_70, sT_71, sN_71, sA_71, sR_48_0, sR_48_2, sR_48_9, sR_48_10, sR_48_11, sR_48_20, sR_48_21, sR_48_22, sR_48_23, sR_48_24, sR_48_26, sR_48_27, sR_48_28, sR_48_29, sR_48_30, sR_48_31, sR_48_33, sR_48_34, sR_48_35, sR_48_36, sR_48_37, sR_48_38, sR_48_39, rf_some, xc_int, xc_ref, xc_ret, xc_long, xw_nil, xw_int, xw_ref, xw_long, tl_some, tl_none, true_and, and_true, Nat.zero_le, Nat.reduceAdd, Nat.reduceMul, Nat.reduceLeDiff, Nat.reduceLT, Nat.reduceEqDiff, Nat.reducePow, Int32.reduceAdd, Int32.reduceMul, Int32.reduceSub, Int32.reduceLT, Int32.reduceLE, Int32.reduceToNatClampNeg, litE, ixU, not_false_eq_true, not_true_eq_false, ↓reduceIte, eq_self, true_or, or_true, false_and, and_false, or_false, false_or, e1, nIlt0 (show 26 + 2 * p < 2 ^ 31 by omega), nI_clamp (show 26 + 2 * p < 2 ^ 31 by omega), show 26 + 2 * p < 140 by omega]
/-- six cells of a row, written one behind another -/
def s6 (h : xe_H) (a : Nat) (f : Nat → Int32) : xe_H := xe_sI (xe_sI (xe_sI (xe_sI (xe_sI (xe_sI h a 0 (f 0)) a 1 (f 1)) a 2 (f 2)) a 3 (f 3)) a 4 (f 4)) a 5 (f 5)
theorem s6_I (h : xe_H) (a b j : Nat) (f : Nat → Int32) : xe_I (s6 h a f) b j = if b = a ∧ j < 6 then f j else xe_I h b j := by
  unfold s6
  simp only [hI_sI]
  by_cases hb : b = a
  · subst hb
    by_cases hj : j < 6
    · rcases (show j = 0 ∨ j = 1 ∨ j = 2 ∨ j = 3 ∨ j = 4 ∨ j = 5 by omega) with rfl | rfl | rfl | rfl | rfl | rfl <;> simp
    · have h0 : ¬ j = 0 := by omega
      have h1 : ¬ j = 1 := by omega
      have h2 : ¬ j = 2 := by omega
      have h3 : ¬ j = 3 := by omega
      have h4 : ¬ j = 4 := by omega
      have h5 : ¬ j = 5 := by omega
      simp [hj, h0, h1, h2, h3, h4, h5]
  · simp [hb]
theorem s6_q (h : xe_H) (a : Nat) (f : Nat → Int32) : xe_n (s6 h a f) = xe_n h ∧ xe_z (s6 h a f) = xe_z h ∧ (∀ b, xe_T (s6 h a f) b = xe_T h b) ∧ (∀ b, xe_N (s6 h a f) b = xe_N h b) ∧ xe_L (s6 h a f) = xe_L h ∧ xe_R (s6 h a f) = xe_R h := by
  unfold s6
  simp only [hn_sI, hz_sI, hT_sI, hN_sI, hL_sI, hR_sI, and_self, implies_true]
theorem s6_L (h : xe_H) (a : Nat) (f : Nat → Int32) : xe_L (s6 h a f) = xe_L h := rfl
theorem s6_R (h : xe_H) (a : Nat) (f : Nat → Int32) : xe_R (s6 h a f) = xe_R h := rfl
theorem s6_n (h : xe_H) (a : Nat) (f : Nat → Int32) : xe_n (s6 h a f) = xe_n h := rfl
theorem s6_z (h : xe_H) (a : Nat) (f : Nat → Int32) : xe_z (s6 h a f) = xe_z h := rfl
theorem s6_T (h : xe_H) (a b : Nat) (f : Nat → Int32) : xe_T (s6 h a f) b = xe_T h b := rfl
theorem s6_N (h : xe_H) (a b : Nat) (f : Nat → Int32) : xe_N (s6 h a f) b = xe_N h b := rfl
theorem s6_sh (h : xe_H) (a : Nat) (f : Nat → Int32) : sh (s6 h a f) = sh h := rfl
theorem s6_c {h : xe_H} {a : Nat} {f g : Nat → Int32} (hf : ∀ b, b < 6 → f b = g b) : s6 h a f = s6 h a g := by
  unfold s6
  rw [hf 0 (by omega), hf 1 (by omega), hf 2 (by omega), hf 3 (by omega), hf 4 (by omega), hf 5 (by omega)]
set_option maxRecDepth 10000 in
theorem md_worksNow (H : sh h) : xe_C (d + 1) 145 [.ref 48] h Q = Q none (s6 h 56 (fun b => xe_I h 49 (4 * b + 3))) := by
  simp only [xs_145, xs_145_0, xs_145_1, xs_145_2, xs_145_3, xs_145_5, xs_145_8, xs_145_9, xs_145_12, xs_145_13, xs_145_14, xs_145_17, xs_145_18, xs_145_19, xs_145_20, xs_145_21, xs_145_22, xs_145_23, xs_145_24, xs_145_27, xs_145_30, H, sT_48, sT_49, sN_49, sA_49, sT_50, sN_50, sA_50, sT_51, sN_51, sA_51, sT_52, sN_52, sA_52, sT_53, sN_53, sA_53, sT_54, sN_54, sA_54, sT_55, sN_55, sA_55, sT_56, sN_56, sA_56, sT_57, sN_57, sA_57, sT_58, sN_58, sA_58, sT_59, sN_59, sA_59, sT_60, sN_60, sA_60, sT_61, sN_61, sA_61, sT_62, sN_62, sA_62, sT_63, sN_63, sA_63, sT_64, sN_64, sA_64, sT_65, sN_65, sA_65, sT_66, sN_66, sA_66, sT_67, sN_67, sA_67, sT_68, sN_68, sB_68, sT_69, sN_69, sA_69, sT_70, sN_70, sA_70, sT_71, sN_71, sA_71, sR_48_0, sR_48_2, sR_48_9, sR_48_10, sR_48_11, sR_48_20, sR_48_21, sR_48_22, sR_48_23, sR_48_24, sR_48_26, sR_48_27, sR_48_28, sR_48_29, sR_48_30, sR_48_31, sR_48_33, sR_48_34, sR_48_35, sR_48_36, sR_48_37, sR_48_38, sR_48_39, rf_some, xc_int, xc_ref, xc_ret, xc_long, xw_nil, xw_int, xw_ref, xw_long, tl_some, tl_none, true_and, and_true, Nat.zero_le, Nat.reduceAdd, Nat.reduceMul, Nat.reduceLeDiff, Nat.reduceLT, Nat.reduceEqDiff, Nat.reducePow, Int32.reduceAdd, Int32.reduceMul, Int32.reduceSub, Int32.reduceLT, Int32.reduceLE, Int32.reduceToNatClampNeg, litE, ixU, not_false_eq_true, not_true_eq_false, ↓reduceIte, eq_self, true_or, or_true, false_and, and_false, or_false, false_or, hI_sI, hL_sI, hR_sI, hT_sI, hN_sI, hn_sI, ho_sI, hia_sI, hba_sI, hal_sI, hix_sI, hI_aI, hL_aI, hR_aI, hT_aI, hN_aI, hn_aI, ho_aI, hia_aI, hal_aI, hix_aI, sh_sI, sh_aI, sh_sL, sh_aL, s6]
end MD
/-- heaps that say the same are the same -/
theorem xe_ext {h1 h2 : xe_H} (e0 : xe_n h1 = xe_n h2) (e1 : xe_z h1 = xe_z h2) (e2 : ∀ a, xe_T h1 a = xe_T h2 a) (e6 : ∀ a, xe_N h1 a = xe_N h2 a) (e3 : ∀ a j, xe_I h1 a j = xe_I h2 a j) (e4 : xe_L h1 = xe_L h2) (e5 : xe_R h1 = xe_R h2) : h1 = h2 := by
  obtain ⟨a1, a2, a3, a4, a5, a6⟩ := h1
  obtain ⟨b1, b2, b3, b4, b5, b6⟩ := h2
  have e3' : a4 = b4 := by funext a j; exact e3 a j
  have e4' : a5 = b5 := e4
  have e5' : a6 = b6 := e5
  have e0' : a1 = b1 := e0
  have e1' : a2 = b2 := e1
  have e2' : a3 = b3 := by funext a; exact Prod.ext (e2 a) (e6 a)
  subst e0' e1' e2' e3' e4' e5'
  rfl
/-- the reference's rests at work -/
def mW (h : xe_H) (f : Nat → Nat) : xe_H := s6 h 56 (fun b => nI (f b))
theorem mW_I (h : xe_H) (f : Nat → Nat) (b j : Nat) : xe_I (mW h f) b j = if b = 56 ∧ j < 6 then nI (f j) else xe_I h b j := s6_I h 56 b j _
theorem mW_r {h : xe_H} {f : Nat → Nat} {b : Nat} (hb : b < 6) : xe_I (mW h f) 56 b = nI (f b) := by rw [mW_I, if_pos ⟨rfl, hb⟩]
theorem mW_o {h : xe_H} {f : Nat → Nat} {a b : Nat} (ha : a ≠ 56) : xe_I (mW h f) a b = xe_I h a b := by rw [mW_I, if_neg (fun z => ha z.1)]
theorem mW_sh (h : xe_H) (f : Nat → Nat) : sh (mW h f) = sh h := s6_sh h 56 _
theorem mW_N (h : xe_H) (f : Nat → Nat) (a : Nat) : xe_N (mW h f) a = xe_N h a := (s6_q h 56 _).2.2.2.1 a
theorem mW_n (h : xe_H) (f : Nat → Nat) : xe_n (mW h f) = xe_n h := (s6_q h 56 _).1
theorem mW_z (h : xe_H) (f : Nat → Nat) : xe_z (mW h f) = xe_z h := (s6_q h 56 _).2.1
theorem mW_L (h : xe_H) (f : Nat → Nat) : xe_L (mW h f) = xe_L h := (s6_q h 56 _).2.2.2.2.1
theorem mW_R (h : xe_H) (f : Nat → Nat) : xe_R (mW h f) = xe_R h := (s6_q h 56 _).2.2.2.2.2
theorem mW_mW (h : xe_H) (f g : Nat → Nat) : mW (mW h f) g = mW h g := by
  have q1 := s6_q (mW h f) 56 (fun b => nI (g b))
  have q2 := s6_q h 56 (fun b => nI (f b))
  have q3 := s6_q h 56 (fun b => nI (g b))
  refine xe_ext (q1.1.trans (q2.1.trans q3.1.symm)) (q1.2.1.trans (q2.2.1.trans q3.2.1.symm)) (fun a => (q1.2.2.1 a).trans ((q2.2.2.1 a).trans (q3.2.2.1 a).symm)) (fun a => (q1.2.2.2.1 a).trans ((q2.2.2.2.1 a).trans (q3.2.2.2.1 a).symm)) (fun a j => ?_) (q1.2.2.2.2.1.trans (q2.2.2.2.2.1.trans q3.2.2.2.2.1.symm)) (q1.2.2.2.2.2.trans (q2.2.2.2.2.2.trans q3.2.2.2.2.2.symm))
  rw [mW_I, mW_I, mW_I]
  split <;> simp_all
theorem mW_s6 (h : xe_H) (f : Nat → Nat) (g : Nat → Int32) : s6 (mW h f) 56 g = s6 h 56 g := by
  have q1 := s6_q (mW h f) 56 g
  have q2 := s6_q h 56 (fun b => nI (f b))
  have q3 := s6_q h 56 g
  refine xe_ext (q1.1.trans (q2.1.trans q3.1.symm)) (q1.2.1.trans (q2.2.1.trans q3.2.1.symm)) (fun a => (q1.2.2.1 a).trans ((q2.2.2.1 a).trans (q3.2.2.1 a).symm)) (fun a => (q1.2.2.2.1 a).trans ((q2.2.2.2.1 a).trans (q3.2.2.2.1 a).symm)) (fun a j => ?_) (q1.2.2.2.2.1.trans (q2.2.2.2.2.1.trans q3.2.2.2.2.1.symm)) (q1.2.2.2.2.2.trans (q2.2.2.2.2.2.trans q3.2.2.2.2.2.symm))
  rw [s6_I, s6_I, mW_I]
  split <;> simp_all
theorem mW_up {h : xe_H} {f : Nat → Nat} {b v : Nat} (hb : b < 6) : xe_sI (mW h f) 56 b (nI v) = mW h (up f b v) := by
  have q2 := s6_q h 56 (fun b => nI (f b))
  have q3 := s6_q h 56 (fun c => nI (up f b v c))
  refine xe_ext ((hn_sI _ _ _ _).trans (q2.1.trans q3.1.symm)) ((hz_sI _ _ _ _).trans (q2.2.1.trans q3.2.1.symm)) (fun a => (hT_sI _ _ _ _ _).trans ((q2.2.2.1 a).trans (q3.2.2.1 a).symm)) (fun a => (hN_sI _ _ _ _ _).trans ((q2.2.2.2.1 a).trans (q3.2.2.2.1 a).symm)) (fun a j => ?_) ((hL_sI _ _ _ _).trans (q2.2.2.2.2.1.trans q3.2.2.2.2.1.symm)) ((hR_sI _ _ _ _).trans (q2.2.2.2.2.2.trans q3.2.2.2.2.2.symm))
  rw [hI_sI, mW_I, mW_I]
  unfold up
  by_cases ha : a = 56
  · subst ha
    by_cases hj : j = b
    · subst hj; simp [hb]
    · simp [hj]
  · simp [ha]
theorem mW_c {h : xe_H} {f g : Nat → Nat} (hf : ∀ b, b < 6 → f b = g b) : mW h f = mW h g := s6_c (fun b hb => by rw [hf b hb])
/-- a page in the reference's row, from a place on -/
def mp (h : xe_H) (o : Nat) (g : Nat → Nat) : Prop := (xe_I h 49 (o + 24) = nI (g 24) ∧ xe_I h 49 (o + 31) = nI (g 31) ∧ xe_I h 49 (o + 32) = nI (g 32) ∧ xe_I h 49 (o + 33) = nI (g 33) - 2 ∧ xe_I h 49 (o + 34) = nI (g 34)) ∧
  (∀ b, b < g 24 → xe_I h 49 (o + 4 * b) = nI (g (4 * b)) ∧ xe_I h 49 (o + (4 * b + 1)) = nI (g (4 * b + 1))) ∧ (∀ b, b < 6 → (b < g 24 → xe_I h 49 (o + (4 * b + 2)) = (if g (4 * b + 2) = 6 then -4 else nI (g (4 * b + 2)))) ∧ xe_I h 49 (o + (4 * b + 3)) = nI (g (4 * b + 3))) ∧
  (∀ p, p < g 31 → xe_I h 49 (o + (25 + 2 * p)) = nI (g (25 + 2 * p)) ∧ xe_I h 49 (o + (26 + 2 * p)) = nI (g (26 + 2 * p)))
theorem mp_W {h : xe_H} {f : Nat → Nat} {o : Nat} {g : Nat → Nat} (H : mp h o g) : mp (mW h f) o g := by
  have e : ∀ j, xe_I (mW h f) 49 j = xe_I h 49 j := fun j => mW_o (by decide)
  unfold mp
  simp only [e]
  exact H
section MD2
variable {d : Nat} {h : xe_H} {Q : Option Value → xe_H → Prop}
theorem md_now (H : sh h) {g : Nat → Nat} (hp : mp h 0 g) : xe_C (d + 1) 145 [.ref 48] h Q = Q none (mW h (gr g)) := by
  rw [md_worksNow H]
  have e : s6 h 56 (fun b => xe_I h 49 (4 * b + 3)) = mW h (gr g) := s6_c (fun b hb => by
    have := (hp.2.2.1 b hb).2
    rw [Nat.zero_add] at this
    exact this)
  rw [e]
set_option maxRecDepth 10000 in
theorem md_works (H : sh h) (c : Nat) (hc : c < 2 ^ 31) : xe_C (d + 1) 146 [.ref 48, .int (nI c)] h Q = Q none (mW h (fun b => c / 4 ^ b % 4)) := by
  have e : ∀ b, b < 6 → nI c >>> (2 * nI b &&& 31) &&& 3 = nI (c / 4 ^ b % 4) := by
    intro b hb
    have e1 : nI c >>> (2 * nI b &&& 31) = nI (c / 2 ^ (2 * b)) := by
      refine pk_shrN hc _ (2 * b) ?_
      rcases (show b = 0 ∨ b = 1 ∨ b = 2 ∨ b = 3 ∨ b = 4 ∨ b = 5 by omega) with rfl | rfl | rfl | rfl | rfl | rfl <;> decide
    rw [e1, show (3 : Int32) = nI (2 ^ 2 - 1) from rfl, fa_mask, Nat.pow_mul]
  have e0 : nI c >>> ((0 : Int32) &&& 31) &&& 3 = nI (c / 4 ^ 0 % 4) := e 0 (by decide)
  have e1 : nI c >>> ((2 : Int32) &&& 31) &&& 3 = nI (c / 4 ^ 1 % 4) := e 1 (by decide)
  have e2 : nI c >>> ((4 : Int32) &&& 31) &&& 3 = nI (c / 4 ^ 2 % 4) := e 2 (by decide)
  have e3 : nI c >>> ((6 : Int32) &&& 31) &&& 3 = nI (c / 4 ^ 3 % 4) := e 3 (by decide)
  have e4 : nI c >>> ((8 : Int32) &&& 31) &&& 3 = nI (c / 4 ^ 4 % 4) := e 4 (by decide)
  have e5 : nI c >>> ((10 : Int32) &&& 31) &&& 3 = nI (c / 4 ^ 5 % 4) := e 5 (by decide)
  simp only [xs_146, xs_146_0, xs_146_1, xs_146_2, xs_146_3, xs_146_5, xs_146_8, xs_146_9, xs_146_12, xs_146_13, xs_146_14, xs_146_15, xs_146_16, xs_146_17, xs_146_18, xs_146_19, xs_146_20, xs_146_21, xs_146_24, xs_146_27, H, sT_48, sT_49, sN_49, sA_49, sT_50, sN_50, sA_50, sT_51, sN_51, sA_51, sT_52, sN_52, sA_52, sT_53, sN_53, sA_53, sT_54, sN_54, sA_54, sT_55, sN_55, sA_55, sT_56, sN_56, sA_56, sT_57, sN_57, sA_57, sT_58, sN_58, sA_58, sT_59, sN_59, sA_59, sT_60, sN_60, sA_60, sT_61, sN_61, sA_61, sT_62, sN_62, sA_62, sT_63, sN_63, sA_63, sT_64, sN_64, sA_64, sT_65, sN_65, sA_65, sT_66, sN_66, sA_66, sT_67, sN_67, sA_67, sT_68, sN_68, sB_68, sT_69, sN_69, sA_69, sT_70, sN_70, sA_70, sT_71, sN_71, sA_71, sR_48_0, sR_48_2, sR_48_9, sR_48_10, sR_48_11, sR_48_20, sR_48_21, sR_48_22, sR_48_23, sR_48_24, sR_48_26, sR_48_27, sR_48_28, sR_48_29, sR_48_30, sR_48_31, sR_48_33, sR_48_34, sR_48_35, sR_48_36, sR_48_37, sR_48_38, sR_48_39, rf_some, xc_int, xc_ref, xc_ret, xc_long, xw_nil, xw_int, xw_ref, xw_long, tl_some, tl_none, true_and, and_true, Nat.zero_le, Nat.reduceAdd, Nat.reduceMul, Nat.reduceLeDiff, Nat.reduceLT, Nat.reduceEqDiff, Nat.reducePow, Int32.reduceAdd, Int32.reduceMul, Int32.reduceSub, Int32.reduceLT, Int32.reduceLE, Int32.reduceToNatClampNeg, litE, ixU, not_false_eq_true, not_true_eq_false, ↓reduceIte, eq_self, true_or, or_true, false_and, and_false, or_false, false_or, hI_sI, hL_sI, hR_sI, hT_sI, hN_sI, hn_sI, ho_sI, hia_sI, hba_sI, hal_sI, hix_sI, hI_aI, hL_aI, hR_aI, hT_aI, hN_aI, hn_aI, ho_aI, hia_aI, hal_aI, hix_aI, sh_sI, sh_aI, sh_sL, sh_aL, mW, s6, e0, e1, e2, e3, e4, e5]
theorem md_ends_step (H : sh h) {b v : Nat} (hb : b < 6) (hv : xe_I h 56 b = nI v) (hv2 : v < 2 ^ 31) : xe_P d 151 2 [.ref 48, .int (nI b)] [] h Q = xe_P d 151 2 [.ref 48, .int (nI (b + 1))] [] (xe_sI h 56 b (nI (v - 1))) Q := by
  have e1 : (6 ≤ nI b) = False := eq_false (by rw [nI6, nI_leI (by decide) (by omega)]; omega)
  refine Eq.trans (b := xe_P d 151 12 [.ref 48, .int (nI b)] [.ref 56] h Q) ?_ ?_
  · simp only [xs_151_2, xs_151_3, xs_151_5, xs_151_8, xs_151_9, e1, ↓reduceIte, H, sT_48, sT_49, sN_49, sA_49, sT_50, sN_50, sA_50, sT_51, sN_51, sA_51, sT_52, sN_52, sA_52, sT_53, sN_53, sA_53, sT_54, sN_54, sA_54, sT_55, sN_55, sA_55, sT_56, sN_56, sA_56, sT_57, sN_57, sA_57, sT_58, sN_58, sA_58, sT_59, sN_59, sA_59, sT_60, sN_60, sA_60, sT_61, sN_61, sA_61, sT_62, sN_62, sA_62, sT_63, sN_63, sA_63, sT_64, sN_64, sA_64, sT_65, sN_65, sA_65, sT_66, sN_66, sA_66, sT_67, sN_67, sA_67, sT_68, sN_68, sB_68, sT_69, sN_69, sA_69, sT_70, sN_70, sA_70, sT_71, sN_71, sA_71, sR_48_0, sR_48_2, sR_48_9, sR_48_10, sR_48_11, sR_48_20, sR_48_21, sR_48_22, sR_48_23, sR_48_24, sR_48_26, sR_48_27, sR_48_28, sR_48_29, sR_48_30, sR_48_31, sR_48_33, sR_48_34, sR_48_35, sR_48_36, sR_48_37, sR_48_38, sR_48_39, rf_some, xc_int, xc_ref, xc_ret, xc_long, xw_nil, xw_int, xw_ref, xw_long, tl_some, tl_none, true_and, and_true, Nat.zero_le, Nat.reduceAdd, Nat.reduceMul, Nat.reduceLeDiff, Nat.reduceLT, Nat.reduceEqDiff, Nat.reducePow, Int32.reduceAdd, Int32.reduceMul, Int32.reduceSub, Int32.reduceLT, Int32.reduceLE, Int32.reduceToNatClampNeg, litE, ixU, not_false_eq_true, not_true_eq_false, ↓reduceIte, eq_self, true_or, or_true, false_and, and_false, or_false, false_or, hI_sI, hL_sI, hR_sI, hT_sI, hN_sI, hn_sI, ho_sI, hia_sI, hba_sI, hal_sI, hix_sI, hI_aI, hL_aI, hR_aI, hT_aI, hN_aI, hn_aI, ho_aI, hia_aI, hal_aI, hix_aI, sh_sI, sh_aI, sh_sL, sh_aL]
  · have e2 : nI b + 1 = nI (b + 1) := nI_1 b
    simp only [xs_151_12, xs_151_13, xs_151_14, xs_151_15, xs_151_16, xs_151_19, xs_151_20, xs_151_21, xs_151_24, xs_151_25, xs_151_28, xs_151_29, xs_151_30, xs_151_31, xs_151_34, ↓reduceIte, H, sT_48, sT_49, sN_49, sA_49, sT_50, sN_50, sA_50, sT_51, sN_51, sA_51, sT_52, sN_52, sA_52, sT_53, sN_53, sA_53, sT_54, sN_54, sA_54, sT_55, sN_55, sA_55, sT_56, sN_56, sA_56, sT_57, sN_57, sA_57, sT_58, sN_58, sA_58, sT_59, sN_59, sA_59, sT_60, sN_60, sA_60, sT_61, sN_61, sA_61, sT_62, sN_62, sA_62, sT_63, sN_63, sA_63, sT_64, sN_64, sA_64, sT_65, sN_65, sA_65, sT_66, sN_66, sA_66, sT_67, sN_67, sA_67, sT_68, sN_68, sB_68, sT_69, sN_69, sA_69, sT_70, sN_70, sA_70, sT_71, sN_71, sA_71, sR_48_0, sR_48_2, sR_48_9, sR_48_10, sR_48_11, sR_48_20, sR_48_21, sR_48_22, sR_48_23, sR_48_24, sR_48_26, sR_48_27, sR_48_28, sR_48_29, sR_48_30, sR_48_31, sR_48_33, sR_48_34, sR_48_35, sR_48_36, sR_48_37, sR_48_38, sR_48_39, rf_some, xc_int, xc_ref, xc_ret, xc_long, xw_nil, xw_int, xw_ref, xw_long, tl_some, tl_none, true_and, and_true, Nat.zero_le, Nat.reduceAdd, Nat.reduceMul, Nat.reduceLeDiff, Nat.reduceLT, Nat.reduceEqDiff, Nat.reducePow, Int32.reduceAdd, Int32.reduceMul, Int32.reduceSub, Int32.reduceLT, Int32.reduceLE, Int32.reduceToNatClampNeg, litE, ixU, not_false_eq_true, not_true_eq_false, ↓reduceIte, eq_self, true_or, or_true, false_and, and_false, or_false, false_or, hI_sI, hL_sI, hR_sI, hT_sI, hN_sI, hn_sI, ho_sI, hia_sI, hba_sI, hal_sI, hix_sI, hI_aI, hL_aI, hR_aI, hT_aI, hN_aI, hn_aI, ho_aI, hia_aI, hal_aI, hix_aI, sh_sI, sh_aI, sh_sL, sh_aL, nIlt0 (show b < 2 ^ 31 by omega), nI_clamp (show b < 2 ^ 31 by omega), hb, hv, nIle0 hv2, e2]
    by_cases h0 : v ≤ 0
    · have h1 : v = 0 := by omega
      rw [if_pos h0]
      subst h1
      rfl
    · simp only [h0, ↓reduceIte, nIp (show 1 ≤ v by omega)]
theorem md_ends {f : Nat → Nat} (H : sh h) (hf : rp_ok f) : xe_C (d + 1) 151 [.ref 48] (mW h f) Q = Q none (mW h (fun b => f b - 1)) := by
  have st : ∀ (b : Nat) (f' : Nat → Nat), b < 6 → (∀ c, b ≤ c → f' c = f c) → xe_P d 151 2 [.ref 48, .int (nI b)] [] (mW h f') Q = xe_P d 151 2 [.ref 48, .int (nI (b + 1))] [] (mW h (up f' b (f b - 1))) Q := by
    intro b f' hb hq
    have h8 := hf b hb
    rw [md_ends_step (h := mW h f') (v := f b) (by rw [mW_sh]; exact H) hb (by rw [mW_r hb, hq b (Nat.le_refl _)]) (by omega), mW_up hb]
  rw [xs_151, xs_151_0, xs_151_1]
  simp only [xc_ref]
  rw [show (0 : Int32) = nI 0 from rfl, st 0 f (by omega) (fun _ _ => rfl), st 1 _ (by omega) (fun c hc => by unfold up; rw [if_neg (by omega)]), st 2 _ (by omega) (fun c hc => by unfold up; rw [if_neg (by omega), if_neg (by omega)]), st 3 _ (by omega) (fun c hc => by unfold up; rw [if_neg (by omega), if_neg (by omega), if_neg (by omega)]), st 4 _ (by omega) (fun c hc => by unfold up; rw [if_neg (by omega), if_neg (by omega), if_neg (by omega), if_neg (by omega)]), st 5 _ (by omega) (fun c hc => by unfold up; rw [if_neg (by omega), if_neg (by omega), if_neg (by omega), if_neg (by omega), if_neg (by omega)])]
  have e6 : (6 ≤ nI (5 + 1)) = True := eq_true (by decide)
  simp only [xs_151_2, xs_151_3, xs_151_5, e6, ↓reduceIte, xs_151_37]
  rw [mW_c (g := fun b => f b - 1)]
  intro b hb
  unfold up
  rcases (show b = 0 ∨ b = 1 ∨ b = 2 ∨ b = 3 ∨ b = 4 ∨ b = 5 by omega) with rfl | rfl | rfl | rfl | rfl | rfl <;> simp
end MD2
