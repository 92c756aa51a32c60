/-! the reference's moves -/
theorem wide0 : (0 : Int64) = Int32.toInt64 0 := by decide
section MV
variable {d : Nat} {h : xe_H} {Q : Option Value → xe_H → Prop}
theorem md_isBridge (H : sh h) {g : Nat → Nat} (hp : mp h 0 g) (hg : pg_ok g) (x : Int32) : xe_C (d + 2) 137 [.ref 48, .int x] h Q = Q (some (.int (xb (0 ≤ x ∧ x < nI (g 24))))) h := by
  have e24 : xe_I h 49 24 = nI (g 24) := hp.1.1
  have h24 : g 24 ≤ 6 := hg.1
  simp only [xs_137, xs_137_0, xs_137_1, xs_137_2, xs_137_3, xs_137_4, xs_137_7, xs_137_8, xs_137_9, xs_137_10, xs_137_13, H, sT_48, sT_49, sN_49, sA_49, sT_50, sN_50, sA_50, sT_51, sN_51, sA_51, sT_52, sN_52, sA_52, sT_53, sN_53, sA_53, sT_54, sN_54, sA_54, sT_55, sN_55, sA_55, sT_56, sN_56, sA_56, sT_57, sN_57, sA_57, sT_58, sN_58, sA_58, sT_59, sN_59, sA_59, sT_60, sN_60, sA_60, sT_61, sN_61, sA_61, sT_62, sN_62, sA_62, sT_63, sN_63, sA_63, sT_64, sN_64, sA_64, sT_65, sN_65, sA_65, sT_66, sN_66, sA_66, sT_67, sN_67, sA_67, sT_68, sN_68, sB_68, sT_69, sN_69, sA_69, sT_70, sN_70, sA_70, sT_71, sN_71, sA_71, sR_48_0, sR_48_2, sR_48_9, sR_48_10, sR_48_11, sR_48_20, sR_48_21, sR_48_22, sR_48_23, sR_48_24, sR_48_26, sR_48_27, sR_48_28, sR_48_29, sR_48_30, sR_48_31, sR_48_33, sR_48_34, sR_48_35, sR_48_36, sR_48_37, sR_48_38, sR_48_39, rf_some, xc_int, xc_ref, xc_ret, xc_long, xw_nil, xw_int, xw_ref, xw_long, tl_some, tl_none, true_and, and_true, Nat.zero_le, Nat.reduceAdd, Nat.reduceMul, Nat.reduceLeDiff, Nat.reduceLT, Nat.reduceEqDiff, Nat.reducePow, Int32.reduceAdd, Int32.reduceMul, Int32.reduceSub, Int32.reduceLT, Int32.reduceLE, Int32.reduceToNatClampNeg, litE, ixU, not_false_eq_true, not_true_eq_false, ↓reduceIte, eq_self, true_or, or_true, false_and, and_false, or_false, false_or, md_bridges H, e24, md_in, xb_01]
  have key : (0 ≤ x.toInt64 ∧ x.toInt64 ≤ (nI (g 24) - 1).toInt64) ↔ (0 ≤ x ∧ x < nI (g 24)) := by
    rw [wide0, fa_wide_le, fa_wide_le]
    refine and_congr Iff.rfl ?_
    rw [fa_le, fa_lt, nI1, pk_sub_toInt (by omega) (by decide), nI_toInt (by omega)]
    omega
  rw [xb_c key]
theorem idx4 (b k : Nat) : (4 : Int32) * nI b + nI k = nI (4 * b + k) := by rw [show (4 : Int32) = nI 4 from rfl, pk_mul, nI_add]
theorem idx40 (b : Nat) : (4 : Int32) * nI b = nI (4 * b) := by rw [show (4 : Int32) = nI 4 from rfl, pk_mul]
theorem md_canCross (H : sh h) {g f : Nat → Nat} (hp : mp h 0 g) (hg : pg_ok g) (hf : rp_ok f) {b w : Nat} (hb : b < g 24) (hw : w < 2 ^ 31) : xe_C (d + 1) 148 [.ref 48, .int (nI b), .int (nI w)] (mW h f) Q = Q (some (.int (xb (f b = 0 ∧ (g (4 * b) = w ∨ g (4 * b + 1) = w))))) (mW h f) := by
  have h24 : g 24 ≤ 6 := hg.1
  have H' : sh (mW h f) := by rw [mW_sh]; exact H
  obtain ⟨b1, b2, -⟩ := hg.2.2.2.2.2.2.2.2.1 b hb
  have h35 : g 35 ≤ 5 := hg.2.2.2.2.2.2.2.1
  have f8 := hf b (by omega)
  obtain ⟨p1, p2⟩ := hp.2.1 b hb
  rw [Nat.zero_add] at p1 p2
  have i1 : xe_I (mW h f) 49 (4 * b) = nI (g (4 * b)) := by rw [mW_o (by decide)]; exact p1
  have i2 : xe_I (mW h f) 49 (4 * b + 1) = nI (g (4 * b + 1)) := by rw [mW_o (by decide)]; exact p2
  have e1 : (4 : Int32) * nI b + 1 = nI (4 * b + 1) := idx4 b 1
  simp only [xs_148, xs_148_0, xs_148_1, xs_148_4, xs_148_5, xs_148_6, xs_148_9, xs_148_10, xs_148_13, xs_148_14, xs_148_15, xs_148_16, xs_148_17, xs_148_18, xs_148_21, xs_148_22, xs_148_25, xs_148_26, xs_148_27, xs_148_28, xs_148_29, xs_148_30, xs_148_31, xs_148_32, xs_148_35, xs_148_36, xs_148_39, xs_148_40, H', sT_48, sT_49, sN_49, sA_49, sT_50, sN_50, sA_50, sT_51, sN_51, sA_51, sT_52, sN_52, sA_52, sT_53, sN_53, sA_53, sT_54, sN_54, sA_54, sT_55, sN_55, sA_55, sT_56, sN_56, sA_56, sT_57, sN_57, sA_57, sT_58, sN_58, sA_58, sT_59, sN_59, sA_59, sT_60, sN_60, sA_60, sT_61, sN_61, sA_61, sT_62, sN_62, sA_62, sT_63, sN_63, sA_63, sT_64, sN_64, sA_64, sT_65, sN_65, sA_65, sT_66, sN_66, sA_66, sT_67, sN_67, sA_67, sT_68, sN_68, sB_68, sT_69, sN_69, sA_69, sT_70, sN_70, sA_70, sT_71, sN_71, sA_71, sR_48_0, sR_48_2, sR_48_9, sR_48_10, sR_48_11, sR_48_20, sR_48_21, sR_48_22, sR_48_23, sR_48_24, sR_48_26, sR_48_27, sR_48_28, sR_48_29, sR_48_30, sR_48_31, sR_48_33, sR_48_34, sR_48_35, sR_48_36, sR_48_37, sR_48_38, sR_48_39, rf_some, xc_int, xc_ref, xc_ret, xc_long, xw_nil, xw_int, xw_ref, xw_long, tl_some, tl_none, true_and, and_true, Nat.zero_le, Nat.reduceAdd, Nat.reduceMul, Nat.reduceLeDiff, Nat.reduceLT, Nat.reduceEqDiff, Nat.reducePow, Int32.reduceAdd, Int32.reduceMul, Int32.reduceSub, Int32.reduceLT, Int32.reduceLE, Int32.reduceToNatClampNeg, litE, ixU, not_false_eq_true, not_true_eq_false, ↓reduceIte, eq_self, true_or, or_true, false_and, and_false, or_false, false_or, idx40, nI_1, nIlt0 (show b < 2 ^ 31 by omega), nIlt0 (show 4 * b < 2 ^ 31 by omega), nIlt0 (show 4 * b + 1 < 2 ^ 31 by omega), nI_clamp (show b < 2 ^ 31 by omega), nI_clamp (show 4 * b < 2 ^ 31 by omega), nI_clamp (show 4 * b + 1 < 2 ^ 31 by omega), show b < 6 by omega, show 4 * b < 140 by omega, show 4 * b + 1 < 140 by omega, mW_r (show b < 6 by omega), i1, i2, nIe0 (show f b < 2 ^ 31 by omega), nIe (show g (4 * b) < 2 ^ 31 by omega) hw, nIe (show g (4 * b + 1) < 2 ^ 31 by omega) hw]
  by_cases c1 : f b = 0
  · by_cases c2 : g (4 * b) = w
    · rw [xb_t ⟨c1, Or.inl c2⟩]; simp [c1, c2]
    · by_cases c3 : g (4 * b + 1) = w
      · rw [xb_t ⟨c1, Or.inr c3⟩]; simp [c1, c2, c3]
      · rw [xb_f (by rintro ⟨-, q | q⟩; exact c2 q; exact c3 q)]; simp [c1, c2, c3]
  · rw [xb_f (fun z => c1 z.1)]; simp [c1]
theorem md_holdsW (H : sh h) {g f : Nat → Nat} (hp : mp h 0 g) : xe_C (d + 1) 142 [.ref 48] (mW h f) Q = Q (some (.int (nI (g 33)))) (mW h f) := by
  rw [md_holds (by rw [mW_sh]; exact H), mW_o (by decide)]
  have e : xe_I h 49 33 + 2 = nI (g 33) := by
    rw [show xe_I h 49 33 = nI (g 33) - 2 from hp.1.2.2.2.1]
    exact Int32.sub_add_cancel _ _
  rw [e]
theorem md_shuts (H : sh h) {g f : Nat → Nat} (hp : mp h 0 g) (hg : pg_ok g) {b : Nat} (hb : b < g 24) : xe_C (d + 3) 149 [.ref 48, .int (nI b)] (mW h f) Q = Q none (mW h (up f b (g 33 + 1))) := by
  have h24 : g 24 ≤ 6 := hg.1
  have H' : sh (mW h f) := by rw [mW_sh]; exact H
  have c : (0 ≤ nI b ∧ nI b < nI (g 24)) := ⟨nI_pos' (by omega), nI_lt hb (by omega)⟩
  have e1 : xe_sI (mW h f) 56 b (nI (g 33 + 1)) = mW h (up f b (g 33 + 1)) := mW_up (by omega)
  simp only [xs_149, xs_149_0, xs_149_1, xs_149_2, xs_149_5, xs_149_8, xs_149_9, xs_149_12, xs_149_13, xs_149_14, xs_149_17, xs_149_18, xs_149_19, xs_149_20, H', sT_48, sT_49, sN_49, sA_49, sT_50, sN_50, sA_50, sT_51, sN_51, sA_51, sT_52, sN_52, sA_52, sT_53, sN_53, sA_53, sT_54, sN_54, sA_54, sT_55, sN_55, sA_55, sT_56, sN_56, sA_56, sT_57, sN_57, sA_57, sT_58, sN_58, sA_58, sT_59, sN_59, sA_59, sT_60, sN_60, sA_60, sT_61, sN_61, sA_61, sT_62, sN_62, sA_62, sT_63, sN_63, sA_63, sT_64, sN_64, sA_64, sT_65, sN_65, sA_65, sT_66, sN_66, sA_66, sT_67, sN_67, sA_67, sT_68, sN_68, sB_68, sT_69, sN_69, sA_69, sT_70, sN_70, sA_70, sT_71, sN_71, sA_71, sR_48_0, sR_48_2, sR_48_9, sR_48_10, sR_48_11, sR_48_20, sR_48_21, sR_48_22, sR_48_23, sR_48_24, sR_48_26, sR_48_27, sR_48_28, sR_48_29, sR_48_30, sR_48_31, sR_48_33, sR_48_34, sR_48_35, sR_48_36, sR_48_37, sR_48_38, sR_48_39, rf_some, xc_int, xc_ref, xc_ret, xc_long, xw_nil, xw_int, xw_ref, xw_long, tl_some, tl_none, true_and, and_true, Nat.zero_le, Nat.reduceAdd, Nat.reduceMul, Nat.reduceLeDiff, Nat.reduceLT, Nat.reduceEqDiff, Nat.reducePow, Int32.reduceAdd, Int32.reduceMul, Int32.reduceSub, Int32.reduceLT, Int32.reduceLE, Int32.reduceToNatClampNeg, litE, ixU, not_false_eq_true, not_true_eq_false, ↓reduceIte, eq_self, true_or, or_true, false_and, and_false, or_false, false_or, md_isBridge H' (mp_W hp) hg, xb_t c, md_holdsW H hp, nI_1, nIlt0 (show b < 2 ^ 31 by omega), nI_clamp (show b < 2 ^ 31 by omega), show b < 6 by omega, e1]
theorem md_shutsN (H : sh h) {g f : Nat → Nat} (hp : mp h 0 g) (hg : pg_ok g) {x : Int32} (hx : ¬ (0 ≤ x ∧ x < nI (g 24))) : xe_C (d + 3) 149 [.ref 48, .int x] (mW h f) Q = Q none (mW h f) := by
  have H' : sh (mW h f) := by rw [mW_sh]; exact H
  simp only [xs_149, xs_149_0, xs_149_1, xs_149_2, xs_149_5, xs_149_8, xs_149_9, xs_149_12, xs_149_13, xs_149_14, xs_149_17, xs_149_18, xs_149_19, xs_149_20, H', sT_48, sT_49, sN_49, sA_49, sT_50, sN_50, sA_50, sT_51, sN_51, sA_51, sT_52, sN_52, sA_52, sT_53, sN_53, sA_53, sT_54, sN_54, sA_54, sT_55, sN_55, sA_55, sT_56, sN_56, sA_56, sT_57, sN_57, sA_57, sT_58, sN_58, sA_58, sT_59, sN_59, sA_59, sT_60, sN_60, sA_60, sT_61, sN_61, sA_61, sT_62, sN_62, sA_62, sT_63, sN_63, sA_63, sT_64, sN_64, sA_64, sT_65, sN_65, sA_65, sT_66, sN_66, sA_66, sT_67, sN_67, sA_67, sT_68, sN_68, sB_68, sT_69, sN_69, sA_69, sT_70, sN_70, sA_70, sT_71, sN_71, sA_71, sR_48_0, sR_48_2, sR_48_9, sR_48_10, sR_48_11, sR_48_20, sR_48_21, sR_48_22, sR_48_23, sR_48_24, sR_48_26, sR_48_27, sR_48_28, sR_48_29, sR_48_30, sR_48_31, sR_48_33, sR_48_34, sR_48_35, sR_48_36, sR_48_37, sR_48_38, sR_48_39, rf_some, xc_int, xc_ref, xc_ret, xc_long, xw_nil, xw_int, xw_ref, xw_long, tl_some, tl_none, true_and, and_true, Nat.zero_le, Nat.reduceAdd, Nat.reduceMul, Nat.reduceLeDiff, Nat.reduceLT, Nat.reduceEqDiff, Nat.reducePow, Int32.reduceAdd, Int32.reduceMul, Int32.reduceSub, Int32.reduceLT, Int32.reduceLE, Int32.reduceToNatClampNeg, litE, ixU, not_false_eq_true, not_true_eq_false, ↓reduceIte, eq_self, true_or, or_true, false_and, and_false, or_false, false_or, md_isBridge H' (mp_W hp) hg, xb_f hx]
theorem md_crosses (H : sh h) {g f : Nat → Nat} (hp : mp h 0 g) (hg : pg_ok g) (hf : rp_ok f) {b w : Nat} (hb : b < g 24) (hw : w < 2 ^ 31) : xe_C (d + 4) 150 [.ref 48, .int (nI b), .int (nI w)] (mW h f) Q = Q (some (.int (nI (pa g w (b + 1))))) (mW h (ra g f (b + 1))) := by
  have h24 : g 24 ≤ 6 := hg.1
  have h32 : g 32 ≤ 2 := hg.2.2.1
  have H' : sh (mW h f) := by rw [mW_sh]; exact H
  obtain ⟨b1, b2, -, b4⟩ := hg.2.2.2.2.2.2.2.2.1 b hb
  have h35 : g 35 ≤ 5 := hg.2.2.2.2.2.2.2.1
  obtain ⟨p1, p2⟩ := hp.2.1 b hb
  obtain ⟨p3, p4⟩ := hp.2.2.1 b (by omega)
  rw [Nat.zero_add] at p1 p2 p3 p4
  have fin : ∀ f' : Nat → Nat, ∀ v, xe_P (d + 3) 150 83 [.ref 48, .int (nI b), .int (nI w), .int v] [] (mW h f') Q = Q (some (.int (nI (pa g w (b + 1))))) (mW h f') := by
    sorry
  sorry
end MV
