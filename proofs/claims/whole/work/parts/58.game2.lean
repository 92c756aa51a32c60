/-! the game, the reference's stack -/
theorem i20 : ((2 : Int32) = 0) = False := eq_false (by decide)
theorem ng1 (x : Int32) : x + (-1) = x - 1 := by rw [Int32.sub_eq_add_neg]
theorem orN {a k : Nat} (b : Nat) (h : a < 2 ^ k) : a ||| b * 2 ^ k = a + b * 2 ^ k := by
  rw [Nat.or_comm, Nat.mul_comm b, ← Nat.two_pow_add_eq_or_of_lt h, Nat.add_comm]
theorem or_z (x : Int32) : (0 : Int32) ||| x = x := by
  apply Int32.toBitVec_inj.mp
  simp
theorem or_wide {f : Nat → Nat} (hf : rp_ok f) : (((((nI (f 0) ||| nI (f 1 * 2 ^ (3 * 1))) ||| nI (f 2 * 2 ^ (3 * 2))) ||| nI (f 3 * 2 ^ (3 * 3))) ||| nI (f 4 * 2 ^ (3 * 4))) ||| nI (f 5 * 2 ^ (3 * 5))) = nI (rp f) := by
  have h0 := hf 0 (by omega); have h1 := hf 1 (by omega); have h2 := hf 2 (by omega); have h3 := hf 3 (by omega); have h4 := hf 4 (by omega); have h5 := hf 5 (by omega)
  rw [fa_or, fa_or, fa_or, fa_or, fa_or]
  congr 1
  rw [orN (k := 3 * 1) (f 1) (by simp only [Nat.reduceMul, Nat.reducePow]; omega), orN (k := 3 * 2) (f 2) (by simp only [Nat.reduceMul, Nat.reducePow]; omega), orN (k := 3 * 3) (f 3) (by simp only [Nat.reduceMul, Nat.reducePow]; omega), orN (k := 3 * 4) (f 4) (by simp only [Nat.reduceMul, Nat.reducePow]; omega), orN (k := 3 * 5) (f 5) (by simp only [Nat.reduceMul, Nat.reducePow]; omega)]
  unfold rp
  simp only [Nat.reduceMul, Nat.reducePow]
  omega
/-- six rests in one int, two bits each -/
def rc (f : Nat → Nat) : Nat := f 0 + 4 * f 1 + 16 * f 2 + 64 * f 3 + 256 * f 4 + 1024 * f 5
theorem or_code {f : Nat → Nat} (hf : ∀ b, b < 6 → f b ≤ 3) : (((((nI (f 0) ||| nI (f 1 * 2 ^ (2 * 1))) ||| nI (f 2 * 2 ^ (2 * 2))) ||| nI (f 3 * 2 ^ (2 * 3))) ||| nI (f 4 * 2 ^ (2 * 4))) ||| nI (f 5 * 2 ^ (2 * 5))) = nI (rc f) := by
  have h0 := hf 0 (by omega); have h1 := hf 1 (by omega); have h2 := hf 2 (by omega); have h3 := hf 3 (by omega); have h4 := hf 4 (by omega); have h5 := hf 5 (by omega)
  rw [fa_or, fa_or, fa_or, fa_or, fa_or]
  congr 1
  rw [orN (k := 2 * 1) (f 1) (by simp only [Nat.reduceMul, Nat.reducePow]; omega), orN (k := 2 * 2) (f 2) (by simp only [Nat.reduceMul, Nat.reducePow]; omega), orN (k := 2 * 3) (f 3) (by simp only [Nat.reduceMul, Nat.reducePow]; omega), orN (k := 2 * 4) (f 4) (by simp only [Nat.reduceMul, Nat.reducePow]; omega), orN (k := 2 * 5) (f 5) (by simp only [Nat.reduceMul, Nat.reducePow]; omega)]
  unfold rc
  simp only [Nat.reduceMul, Nat.reducePow]
  omega
section GS
variable {d : Nat} {h : xe_H} {Q : Option Value → xe_H → Prop}
set_option maxRecDepth 10000 in
theorem md_wide (H : sh h) {f : Nat → Nat} (hf : rp_ok f) : xe_C (d + 1) 173 [.ref 48, .int (nI (rp f))] h Q = Q none (mW h f) := by
  have e0 : nI (rp f) >>> ((0 : Int32) &&& 31) &&& 7 = nI (f 0) := rp_get hf (b := 0) (by decide)
  have e1 : nI (rp f) >>> ((3 : Int32) &&& 31) &&& 7 = nI (f 1) := rp_get hf (b := 1) (by decide)
  have e2 : nI (rp f) >>> ((6 : Int32) &&& 31) &&& 7 = nI (f 2) := rp_get hf (b := 2) (by decide)
  have e3 : nI (rp f) >>> ((9 : Int32) &&& 31) &&& 7 = nI (f 3) := rp_get hf (b := 3) (by decide)
  have e4 : nI (rp f) >>> ((12 : Int32) &&& 31) &&& 7 = nI (f 4) := rp_get hf (b := 4) (by decide)
  have e5 : nI (rp f) >>> ((15 : Int32) &&& 31) &&& 7 = nI (f 5) := rp_get hf (b := 5) (by decide)
  simp only [xs_173, xs_173_0, xs_173_1, xs_173_2, xs_173_3, xs_173_5, xs_173_8, xs_173_9, xs_173_12, xs_173_13, xs_173_14, xs_173_15, xs_173_16, xs_173_17, xs_173_18, xs_173_20, xs_173_21, xs_173_22, xs_173_25, xs_173_28, H, sT_48, sT_49, sN_49, sA_49, sT_50, sN_50, sA_50, sT_51, sN_51, sA_51, sT_52, sN_52, sA_52, sT_53, sN_53, sA_53, sT_54, sN_54, sA_54, sT_55, sN_55, sA_55, sT_56, sN_56, sA_56, sT_57, sN_57, sA_57, sT_58, sN_58, sA_58, sT_59, sN_59, sA_59, sT_60, sN_60, sA_60, sT_61, sN_61, sA_61, sT_62, sN_62, sA_62, sT_63, sN_63, sA_63, sT_64, sN_64, sA_64, sT_65, sN_65, sA_65, sT_66, sN_66, sA_66, sT_67, sN_67, sA_67, sT_68, sN_68, sB_68, sT_69, sN_69, sA_69, sT_70, sN_70, sA_70, sT_71, sN_71, sA_71, sR_48_0, sR_48_2, sR_48_9, sR_48_10, sR_48_11, sR_48_20, sR_48_21, sR_48_22, sR_48_23, sR_48_24, sR_48_26, sR_48_27, sR_48_28, sR_48_29, sR_48_30, sR_48_31, sR_48_33, sR_48_34, sR_48_35, sR_48_36, sR_48_37, sR_48_38, sR_48_39, rf_some, xc_int, xc_ref, xc_ret, xc_long, xw_nil, xw_int, xw_ref, xw_long, tl_some, tl_none, true_and, and_true, Nat.zero_le, Nat.reduceAdd, Nat.reduceMul, Nat.reduceLeDiff, Nat.reduceLT, Nat.reduceEqDiff, Nat.reducePow, Int32.reduceAdd, Int32.reduceMul, Int32.reduceSub, Int32.reduceLT, Int32.reduceLE, Int32.reduceToNatClampNeg, litE, ixU, not_false_eq_true, not_true_eq_false, ↓reduceIte, eq_self, true_or, or_true, false_and, and_false, or_false, false_or, hI_sI, hL_sI, hR_sI, hT_sI, hN_sI, hn_sI, ho_sI, hia_sI, hba_sI, hal_sI, hix_sI, hI_aI, hL_aI, hR_aI, hT_aI, hN_aI, hn_aI, ho_aI, hia_aI, hal_aI, hix_aI, sh_sI, sh_aI, sh_sL, sh_aL, mW, s6, e0, e1, e2, e3, e4, e5]
set_option maxRecDepth 10000 in
theorem md_wideNow (H : sh h) {f : Nat → Nat} (hf : rp_ok f) : xe_C (d + 1) 172 [.ref 48] (mW h f) Q = Q (some (.int (nI (rp f)))) (mW h f) := by
  have H' : sh (mW h f) := by rw [mW_sh]; exact H
  have e0 : nI (f 0) <<< ((0 : Int32) &&& 31) = nI (f 0) := (rp_sh (b := 0) (by decide) (f 0) (hf 0 (by decide))).trans (by rw [Nat.mul_zero, Nat.pow_zero, Nat.mul_one])
  have e1 : nI (f 1) <<< ((3 : Int32) &&& 31) = nI (f 1 * 2 ^ (3 * 1)) := rp_sh (b := 1) (by decide) (f 1) (hf 1 (by decide))
  have e2 : nI (f 2) <<< ((6 : Int32) &&& 31) = nI (f 2 * 2 ^ (3 * 2)) := rp_sh (b := 2) (by decide) (f 2) (hf 2 (by decide))
  have e3 : nI (f 3) <<< ((9 : Int32) &&& 31) = nI (f 3 * 2 ^ (3 * 3)) := rp_sh (b := 3) (by decide) (f 3) (hf 3 (by decide))
  have e4 : nI (f 4) <<< ((12 : Int32) &&& 31) = nI (f 4 * 2 ^ (3 * 4)) := rp_sh (b := 4) (by decide) (f 4) (hf 4 (by decide))
  have e5 : nI (f 5) <<< ((15 : Int32) &&& 31) = nI (f 5 * 2 ^ (3 * 5)) := rp_sh (b := 5) (by decide) (f 5) (hf 5 (by decide))
  have m0 : xe_I (mW h f) 56 0 = nI (f 0) := mW_r (by decide)
  have m1 : xe_I (mW h f) 56 1 = nI (f 1) := mW_r (by decide)
  have m2 : xe_I (mW h f) 56 2 = nI (f 2) := mW_r (by decide)
  have m3 : xe_I (mW h f) 56 3 = nI (f 3) := mW_r (by decide)
  have m4 : xe_I (mW h f) 56 4 = nI (f 4) := mW_r (by decide)
  have m5 : xe_I (mW h f) 56 5 = nI (f 5) := mW_r (by decide)
  rw [← or_wide hf]
  generalize hA : nI (f 1 * 2 ^ (3 * 1)) = A1 at e1 ⊢
  generalize hA : nI (f 2 * 2 ^ (3 * 2)) = A2 at e2 ⊢
  generalize hA : nI (f 3 * 2 ^ (3 * 3)) = A3 at e3 ⊢
  generalize hA : nI (f 4 * 2 ^ (3 * 4)) = A4 at e4 ⊢
  generalize hA : nI (f 5 * 2 ^ (3 * 5)) = A5 at e5 ⊢
  simp only [xs_172, xs_172_0, xs_172_1, xs_172_2, xs_172_3, xs_172_4, xs_172_5, xs_172_7, xs_172_10, xs_172_11, xs_172_12, xs_172_15, xs_172_16, xs_172_17, xs_172_18, xs_172_19, xs_172_20, xs_172_21, xs_172_22, xs_172_23, xs_172_26, xs_172_29, xs_172_30, H', sT_48, sT_49, sN_49, sA_49, sT_50, sN_50, sA_50, sT_51, sN_51, sA_51, sT_52, sN_52, sA_52, sT_53, sN_53, sA_53, sT_54, sN_54, sA_54, sT_55, sN_55, sA_55, sT_56, sN_56, sA_56, sT_57, sN_57, sA_57, sT_58, sN_58, sA_58, sT_59, sN_59, sA_59, sT_60, sN_60, sA_60, sT_61, sN_61, sA_61, sT_62, sN_62, sA_62, sT_63, sN_63, sA_63, sT_64, sN_64, sA_64, sT_65, sN_65, sA_65, sT_66, sN_66, sA_66, sT_67, sN_67, sA_67, sT_68, sN_68, sB_68, sT_69, sN_69, sA_69, sT_70, sN_70, sA_70, sT_71, sN_71, sA_71, sR_48_0, sR_48_2, sR_48_9, sR_48_10, sR_48_11, sR_48_20, sR_48_21, sR_48_22, sR_48_23, sR_48_24, sR_48_26, sR_48_27, sR_48_28, sR_48_29, sR_48_30, sR_48_31, sR_48_33, sR_48_34, sR_48_35, sR_48_36, sR_48_37, sR_48_38, sR_48_39, rf_some, xc_int, xc_ref, xc_ret, xc_long, xw_nil, xw_int, xw_ref, xw_long, tl_some, tl_none, true_and, and_true, Nat.zero_le, Nat.reduceAdd, Nat.reduceMul, Nat.reduceLeDiff, Nat.reduceLT, Nat.reduceEqDiff, Nat.reducePow, Int32.reduceAdd, Int32.reduceMul, Int32.reduceSub, Int32.reduceLT, Int32.reduceLE, Int32.reduceToNatClampNeg, litE, ixU, not_false_eq_true, not_true_eq_false, ↓reduceIte, eq_self, true_or, or_true, false_and, and_false, or_false, false_or, m0, m1, m2, m3, m4, m5, e0, e1, e2, e3, e4, e5, or_z]
theorem rc_sh {b : Nat} (hb : b < 6) (v : Nat) (hv : v ≤ 4) : (nI v : Int32) <<< (2 * nI b &&& 31) = nI (v * 2 ^ (2 * b)) := by
  have hv2 : v * 2 ^ (2 * b) < 2 ^ 32 := by
    rcases (show b = 0 ∨ b = 1 ∨ b = 2 ∨ b = 3 ∨ b = 4 ∨ b = 5 by omega) with rfl | rfl | rfl | rfl | rfl | rfl <;> simp only [Nat.reduceMul, Nat.reducePow] <;> omega
  refine pk_shlN _ (2 * b) ?_ hv2
  rcases (show b = 0 ∨ b = 1 ∨ b = 2 ∨ b = 3 ∨ b = 4 ∨ b = 5 by omega) with rfl | rfl | rfl | rfl | rfl | rfl <;> decide
set_option maxRecDepth 10000 in
theorem md_codeNow (H : sh h) {f : Nat → Nat} (hf : ∀ b, b < 6 → f b ≤ 3) : xe_C (d + 1) 147 [.ref 48] (mW h f) Q = Q (some (.int (nI (rc f)))) (mW h f) := by
  have H' : sh (mW h f) := by rw [mW_sh]; exact H
  have h4 : ∀ b, b < 6 → f b ≤ 4 := fun b hb => Nat.le_trans (hf b hb) (by decide)
  have e0 : nI (f 0) <<< ((0 : Int32) &&& 31) = nI (f 0) := (rc_sh (b := 0) (by decide) (f 0) (h4 0 (by decide))).trans (by rw [Nat.mul_zero, Nat.pow_zero, Nat.mul_one])
  have e1 : nI (f 1) <<< ((2 : Int32) &&& 31) = nI (f 1 * 2 ^ (2 * 1)) := rc_sh (b := 1) (by decide) (f 1) (h4 1 (by decide))
  have e2 : nI (f 2) <<< ((4 : Int32) &&& 31) = nI (f 2 * 2 ^ (2 * 2)) := rc_sh (b := 2) (by decide) (f 2) (h4 2 (by decide))
  have e3 : nI (f 3) <<< ((6 : Int32) &&& 31) = nI (f 3 * 2 ^ (2 * 3)) := rc_sh (b := 3) (by decide) (f 3) (h4 3 (by decide))
  have e4 : nI (f 4) <<< ((8 : Int32) &&& 31) = nI (f 4 * 2 ^ (2 * 4)) := rc_sh (b := 4) (by decide) (f 4) (h4 4 (by decide))
  have e5 : nI (f 5) <<< ((10 : Int32) &&& 31) = nI (f 5 * 2 ^ (2 * 5)) := rc_sh (b := 5) (by decide) (f 5) (h4 5 (by decide))
  have m0 : xe_I (mW h f) 56 0 = nI (f 0) := mW_r (by decide)
  have m1 : xe_I (mW h f) 56 1 = nI (f 1) := mW_r (by decide)
  have m2 : xe_I (mW h f) 56 2 = nI (f 2) := mW_r (by decide)
  have m3 : xe_I (mW h f) 56 3 = nI (f 3) := mW_r (by decide)
  have m4 : xe_I (mW h f) 56 4 = nI (f 4) := mW_r (by decide)
  have m5 : xe_I (mW h f) 56 5 = nI (f 5) := mW_r (by decide)
  rw [← or_code hf]
  generalize hA : nI (f 1 * 2 ^ (2 * 1)) = A1 at e1 ⊢
  generalize hA : nI (f 2 * 2 ^ (2 * 2)) = A2 at e2 ⊢
  generalize hA : nI (f 3 * 2 ^ (2 * 3)) = A3 at e3 ⊢
  generalize hA : nI (f 4 * 2 ^ (2 * 4)) = A4 at e4 ⊢
  generalize hA : nI (f 5 * 2 ^ (2 * 5)) = A5 at e5 ⊢
  simp only [xs_147, xs_147_0, xs_147_1, xs_147_2, xs_147_3, xs_147_4, xs_147_5, xs_147_7, xs_147_10, xs_147_11, xs_147_12, xs_147_15, xs_147_16, xs_147_17, xs_147_18, xs_147_19, xs_147_20, xs_147_21, xs_147_22, xs_147_23, xs_147_26, xs_147_29, xs_147_30, H', sT_48, sT_49, sN_49, sA_49, sT_50, sN_50, sA_50, sT_51, sN_51, sA_51, sT_52, sN_52, sA_52, sT_53, sN_53, sA_53, sT_54, sN_54, sA_54, sT_55, sN_55, sA_55, sT_56, sN_56, sA_56, sT_57, sN_57, sA_57, sT_58, sN_58, sA_58, sT_59, sN_59, sA_59, sT_60, sN_60, sA_60, sT_61, sN_61, sA_61, sT_62, sN_62, sA_62, sT_63, sN_63, sA_63, sT_64, sN_64, sA_64, sT_65, sN_65, sA_65, sT_66, sN_66, sA_66, sT_67, sN_67, sA_67, sT_68, sN_68, sB_68, sT_69, sN_69, sA_69, sT_70, sN_70, sA_70, sT_71, sN_71, sA_71, sR_48_0, sR_48_2, sR_48_9, sR_48_10, sR_48_11, sR_48_20, sR_48_21, sR_48_22, sR_48_23, sR_48_24, sR_48_26, sR_48_27, sR_48_28, sR_48_29, sR_48_30, sR_48_31, sR_48_33, sR_48_34, sR_48_35, sR_48_36, sR_48_37, sR_48_38, sR_48_39, rf_some, xc_int, xc_ref, xc_ret, xc_long, xw_nil, xw_int, xw_ref, xw_long, tl_some, tl_none, true_and, and_true, Nat.zero_le, Nat.reduceAdd, Nat.reduceMul, Nat.reduceLeDiff, Nat.reduceLT, Nat.reduceEqDiff, Nat.reducePow, Int32.reduceAdd, Int32.reduceMul, Int32.reduceSub, Int32.reduceLT, Int32.reduceLE, Int32.reduceToNatClampNeg, litE, ixU, not_false_eq_true, not_true_eq_false, ↓reduceIte, eq_self, true_or, or_true, false_and, and_false, or_false, false_or, m0, m1, m2, m3, m4, m5, e0, e1, e2, e3, e4, e5, or_z]
/-- a place of the stack -/
def pos (k w o : Nat) (f : Nat → Nat) (h : xe_H) : Prop := xe_I h 60 k = nI w ∧ xe_I h 61 k = nI o ∧ xe_I h 62 k = nI (rp f)
def wS (k a j : Nat) : Prop := a = 56 ∨ ((60 ≤ a ∧ a ≤ 63) ∧ k ≤ j)
theorem pos_w {k k' w o : Nat} {f : Nat → Nat} {h h' : xe_H} (H : pos k w o f h) (W : wr (wS k') h h') (hk : k < k') : pos k w o f h' := by
  refine ⟨?_, ?_, ?_⟩
  · rw [W.2 60 k (by unfold wS; omega)]; exact H.1
  · rw [W.2 61 k (by unfold wS; omega)]; exact H.2.1
  · rw [W.2 62 k (by unfold wS; omega)]; exact H.2.2
theorem md_lays (H : sh h) {k : Nat} (hk : k < 10) (x y z : Int32) : xe_C (d + 1) 174 [.ref 48, .int (nI k), .int x, .int y, .int z] h Q = Q none (xe_sI (xe_sI (xe_sI (xe_sI h 60 k x) 61 k y) 62 k z) 63 k (-1)) := by
  simp only [xs_174, xs_174_0, xs_174_1, xs_174_4, xs_174_5, xs_174_6, xs_174_7, xs_174_8, xs_174_11, xs_174_12, xs_174_13, xs_174_14, xs_174_15, xs_174_18, xs_174_19, xs_174_21, xs_174_22, xs_174_23, xs_174_26, xs_174_27, xs_174_28, xs_174_29, H, sT_48, sT_49, sN_49, sA_49, sT_50, sN_50, sA_50, sT_51, sN_51, sA_51, sT_52, sN_52, sA_52, sT_53, sN_53, sA_53, sT_54, sN_54, sA_54, sT_55, sN_55, sA_55, sT_56, sN_56, sA_56, sT_57, sN_57, sA_57, sT_58, sN_58, sA_58, sT_59, sN_59, sA_59, sT_60, sN_60, sA_60, sT_61, sN_61, sA_61, sT_62, sN_62, sA_62, sT_63, sN_63, sA_63, sT_64, sN_64, sA_64, sT_65, sN_65, sA_65, sT_66, sN_66, sA_66, sT_67, sN_67, sA_67, sT_68, sN_68, sB_68, sT_69, sN_69, sA_69, sT_70, sN_70, sA_70, sT_71, sN_71, sA_71, sR_48_0, sR_48_2, sR_48_9, sR_48_10, sR_48_11, sR_48_20, sR_48_21, sR_48_22, sR_48_23, sR_48_24, sR_48_26, sR_48_27, sR_48_28, sR_48_29, sR_48_30, sR_48_31, sR_48_33, sR_48_34, sR_48_35, sR_48_36, sR_48_37, sR_48_38, sR_48_39, rf_some, xc_int, xc_ref, xc_ret, xc_long, xw_nil, xw_int, xw_ref, xw_long, tl_some, tl_none, true_and, and_true, Nat.zero_le, Nat.reduceAdd, Nat.reduceMul, Nat.reduceLeDiff, Nat.reduceLT, Nat.reduceEqDiff, Nat.reducePow, Int32.reduceAdd, Int32.reduceMul, Int32.reduceSub, Int32.reduceLT, Int32.reduceLE, Int32.reduceToNatClampNeg, litE, ixU, not_false_eq_true, not_true_eq_false, ↓reduceIte, eq_self, true_or, or_true, false_and, and_false, or_false, false_or, i10, i01, in10, i1n, xbT, xbF, r_lt, hI_sI, hL_sI, hR_sI, hT_sI, hN_sI, hn_sI, ho_sI, hia_sI, hba_sI, hal_sI, hix_sI, hI_aI, hL_aI, hR_aI, hT_aI, hN_aI, hn_aI, ho_aI, hia_aI, hal_aI, hix_aI, sh_sI, sh_aI, sh_sL, sh_aL, nIlt0 (show k < 2 ^ 31 by omega), nI_clamp (show k < 2 ^ 31 by omega), show k < 10 by omega]
theorem lays_p {k w o : Nat} {f : Nat → Nat} {h h0 : xe_H} {k0 : Nat} (W : wr (wS k0) h0 h) (hk : k0 ≤ k) : wr (wS k0) h0 (xe_sI (xe_sI (xe_sI (xe_sI h 60 k (nI w)) 61 k (nI o)) 62 k (nI (rp f))) 63 k (-1)) ∧ pos k w o f (xe_sI (xe_sI (xe_sI (xe_sI h 60 k (nI w)) 61 k (nI o)) 62 k (nI (rp f))) 63 k (-1)) ∧ xe_I (xe_sI (xe_sI (xe_sI (xe_sI h 60 k (nI w)) 61 k (nI o)) 62 k (nI (rp f))) 63 k (-1)) 63 k = nI 0 - 1 := by
  refine ⟨wr_sI (wr_sI (wr_sI (wr_sI W ?_) ?_) ?_) ?_, ⟨?_, ?_, ?_⟩, ?_⟩
  · exact Or.inr ⟨by omega, hk⟩
  · exact Or.inr ⟨by omega, hk⟩
  · exact Or.inr ⟨by omega, hk⟩
  · exact Or.inr ⟨by omega, hk⟩
  · simp only [hI_sI, Nat.reduceEqDiff, false_and, and_self, ↓reduceIte]
  · simp only [hI_sI, Nat.reduceEqDiff, false_and, and_self, ↓reduceIte]
  · simp only [hI_sI, Nat.reduceEqDiff, false_and, and_self, ↓reduceIte]
  · rw [hI_sI, if_pos ⟨rfl, rfl⟩]; decide
theorem mpw {g : Nat → Nat} {k : Nat} {h h' : xe_H} (hg : pg_ok g) (hm : mp h 0 g) (W : wr (wS k) h h') : mp h' 0 g := mp_c hg hm (fun j _ _ => W.2 49 j (by unfold wS; omega))
theorem wS_W {k : Nat} (h : xe_H) (f : Nat → Nat) : wr (wS k) h (mW h f) := wr_sub (mW_wr h f) (fun _ _ z => Or.inl z)
/-- the next move of one who is on turn -/
theorem md_triesH {g f : Nat → Nat} {k w o G : Nat} (hg : pg_ok g) (hf : ro g f) (hw : w < g 35) (ho : o < g 35) (hG : G < g 35) (hk : k < 9) (hk2 : k % 2 = 0) {K : Option Value → xe_H → Prop} : ∀ (n t : Nat) (h : xe_H), t + n = g 24 + 1 → sh h → mp h 0 g → pos k w o f h → xe_I h 63 k = nI t - 1 →
    (∀ h', wr (wS k) h h' → pos k w o f h' → xe_I h' 63 k = nI (g 24 + 1) → (∀ j, t ≤ j → j ≤ g 24 → ¬ cm g f w j) → K (some (.int 1)) h') →
    (∀ m h', t ≤ m → m ≤ g 24 → (∀ j, t ≤ j → j < m → ¬ cm g f w j) → cm g f w m → pa g w m = G → wr (wS k) h h' → pos k w o f h' → xe_I h' 63 k = nI m → K (some (.int 1)) h') →
    (∀ m h', t ≤ m → m ≤ g 24 → (∀ j, t ≤ j → j < m → ¬ cm g f w j) → cm g f w m → ¬ pa g w m = G → wr (wS k) h h' → pos k w o f h' → xe_I h' 63 k = nI m → pos (k + 1) (pa g w m) o (ra g f m) h' → xe_I h' 63 (k + 1) = nI 0 - 1 → K (some (.int 0)) h') →
    xe_C (d + 6) 176 [.ref 48, .int (nI k), .int (nI G)] h K := by
  have h24 : g 24 ≤ 6 := hg.1
  have h35 : g 35 ≤ 5 := hg.2.2.2.2.2.2.2.1
  intro n t h htn H hm hpos hmv k1 k2 k3
  have par : nI k - nI k / 2 * 2 = 0 := by
    have := pk_rem (a := k) (d := 2) (by omega) (by omega) (by omega)
    rw [hk2] at this
    exact this
  have lp : ∀ n m h1 l4, m + n = g 24 + 1 → wr (wS k) h h1 → pos k w o f h1 → xe_I h1 63 k = nI m → t ≤ m → (∀ j, t ≤ j → j < m → ¬ cm g f w j) → xe_P (d + 5) 176 22 [.ref 48, .int (nI k), .int (nI G), .int 1, l4] [] h1 K := by
    intro n
    induction n with
    | zero =>
      intro m h1 l4 hmn W P1 E hle hn
      have em : m = g 24 + 1 := by omega
      subst em
      have H1 := wr_sh W H
      have m1 := mpw hg hm W
      have e3 : (nI (g 24) < nI (g 24 + 1)) = True := eq_true (nI_lt (by omega) (by omega))
      simp only [xs_176_22, xs_176_23, xs_176_26, xs_176_27, xs_176_28, xs_176_29, xs_176_32, xs_176_159, xs_176_160, H1, sT_48, sT_49, sN_49, sA_49, sT_50, sN_50, sA_50, sT_51, sN_51, sA_51, sT_52, sN_52, sA_52, sT_53, sN_53, sA_53, sT_54, sN_54, sA_54, sT_55, sN_55, sA_55, sT_56, sN_56, sA_56, sT_57, sN_57, sA_57, sT_58, sN_58, sA_58, sT_59, sN_59, sA_59, sT_60, sN_60, sA_60, sT_61, sN_61, sA_61, sT_62, sN_62, sA_62, sT_63, sN_63, sA_63, sT_64, sN_64, sA_64, sT_65, sN_65, sA_65, sT_66, sN_66, sA_66, sT_67, sN_67, sA_67, sT_68, sN_68, sB_68, sT_69, sN_69, sA_69, sT_70, sN_70, sA_70, sT_71, sN_71, sA_71, sR_48_0, sR_48_2, sR_48_9, sR_48_10, sR_48_11, sR_48_20, sR_48_21, sR_48_22, sR_48_23, sR_48_24, sR_48_26, sR_48_27, sR_48_28, sR_48_29, sR_48_30, sR_48_31, sR_48_33, sR_48_34, sR_48_35, sR_48_36, sR_48_37, sR_48_38, sR_48_39, md_bridgesG H1 m1, nIlt0 (show k < 2 ^ 31 by omega), nI_clamp (show k < 2 ^ 31 by omega), show k < 10 by omega, E, e3, rf_some, xc_int, xc_ref, xc_ret, xc_long, xw_nil, xw_int, xw_ref, xw_long, tl_some, tl_none, true_and, and_true, Nat.zero_le, Nat.reduceAdd, Nat.reduceMul, Nat.reduceLeDiff, Nat.reduceLT, Nat.reduceEqDiff, Nat.reducePow, Int32.reduceAdd, Int32.reduceMul, Int32.reduceSub, Int32.reduceLT, Int32.reduceLE, Int32.reduceToNatClampNeg, litE, ixU, not_false_eq_true, not_true_eq_false, ↓reduceIte, eq_self, true_or, or_true, false_and, and_false, or_false, false_or, i10, i01, in10, i1n, xbT, xbF, r_lt]
      exact k1 h1 W P1 E (fun j h1 h2 => hn j h1 (by omega))
    | succ n ih =>
      intro m h1 l4 hmn W P1 E hle hn
      have H1 := wr_sh W H
      have m1 := mpw hg hm W
      obtain ⟨p60, p61, p62⟩ := id P1
      have e3 : (nI (g 24) < nI m) = False := eq_false (by rw [nI_ltI (by omega) (by omega)]; omega)
      have HW : ∀ f, sh (mW h1 f) := fun f => by rw [mW_sh]; exact H1
      have W1 : ∀ f', wr (wS k) h (mW h1 f') := fun f' => wr_tr W (wS_W h1 f')
      have i63 : ∀ f', xe_I (mW h1 f') 63 k = nI m := fun f' => by rw [mW_o (by decide)]; exact E
      have i60 : ∀ f', xe_I (mW h1 f') 60 k = nI w := fun f' => by rw [mW_o (by decide)]; exact p60
      have i61 : ∀ f', xe_I (mW h1 f') 61 k = nI o := fun f' => by rw [mW_o (by decide)]; exact p61
      have i62 : ∀ f', xe_I (mW h1 f') 62 k = nI (rp f) := fun f' => by rw [mW_o (by decide)]; exact p62
      rw [xs_176_22]
      simp only [xs_176_23, xs_176_26, xs_176_27, xs_176_28, xs_176_29, xs_176_32, xs_176_35, xs_176_36, xs_176_37, xs_176_40, xs_176_41, xs_176_42, H1, sT_48, sT_49, sN_49, sA_49, sT_50, sN_50, sA_50, sT_51, sN_51, sA_51, sT_52, sN_52, sA_52, sT_53, sN_53, sA_53, sT_54, sN_54, sA_54, sT_55, sN_55, sA_55, sT_56, sN_56, sA_56, sT_57, sN_57, sA_57, sT_58, sN_58, sA_58, sT_59, sN_59, sA_59, sT_60, sN_60, sA_60, sT_61, sN_61, sA_61, sT_62, sN_62, sA_62, sT_63, sN_63, sA_63, sT_64, sN_64, sA_64, sT_65, sN_65, sA_65, sT_66, sN_66, sA_66, sT_67, sN_67, sA_67, sT_68, sN_68, sB_68, sT_69, sN_69, sA_69, sT_70, sN_70, sA_70, sT_71, sN_71, sA_71, sR_48_0, sR_48_2, sR_48_9, sR_48_10, sR_48_11, sR_48_20, sR_48_21, sR_48_22, sR_48_23, sR_48_24, sR_48_26, sR_48_27, sR_48_28, sR_48_29, sR_48_30, sR_48_31, sR_48_33, sR_48_34, sR_48_35, sR_48_36, sR_48_37, sR_48_38, sR_48_39, md_bridgesG H1 m1, nIlt0 (show k < 2 ^ 31 by omega), nI_clamp (show k < 2 ^ 31 by omega), show k < 10 by omega, E, e3, p62, md_wide H1 (ro_rp hf), rf_some, xc_int, xc_ref, xc_ret, xc_long, xw_nil, xw_int, xw_ref, xw_long, tl_some, tl_none, true_and, and_true, Nat.zero_le, Nat.reduceAdd, Nat.reduceMul, Nat.reduceLeDiff, Nat.reduceLT, Nat.reduceEqDiff, Nat.reducePow, Int32.reduceAdd, Int32.reduceMul, Int32.reduceSub, Int32.reduceLT, Int32.reduceLE, Int32.reduceToNatClampNeg, litE, ixU, not_false_eq_true, not_true_eq_false, ↓reduceIte, eq_self, true_or, or_true, false_and, and_false, or_false, false_or, i10, i01, in10, i1n, xbT, xbF, r_lt]
      simp only [xs_176_45, xs_176_46, xs_176_47, xs_176_50, xs_176_51, xs_176_52, xs_176_53, xs_176_56, xs_176_57, xs_176_60, xs_176_61, xs_176_62, xs_176_65, xs_176_66, xs_176_69, xs_176_70, xs_176_71, HW, sT_48, sT_49, sN_49, sA_49, sT_50, sN_50, sA_50, sT_51, sN_51, sA_51, sT_52, sN_52, sA_52, sT_53, sN_53, sA_53, sT_54, sN_54, sA_54, sT_55, sN_55, sA_55, sT_56, sN_56, sA_56, sT_57, sN_57, sA_57, sT_58, sN_58, sA_58, sT_59, sN_59, sA_59, sT_60, sN_60, sA_60, sT_61, sN_61, sA_61, sT_62, sN_62, sA_62, sT_63, sN_63, sA_63, sT_64, sN_64, sA_64, sT_65, sN_65, sA_65, sT_66, sN_66, sA_66, sT_67, sN_67, sA_67, sT_68, sN_68, sB_68, sT_69, sN_69, sA_69, sT_70, sN_70, sA_70, sT_71, sN_71, sA_71, sR_48_0, sR_48_2, sR_48_9, sR_48_10, sR_48_11, sR_48_20, sR_48_21, sR_48_22, sR_48_23, sR_48_24, sR_48_26, sR_48_27, sR_48_28, sR_48_29, sR_48_30, sR_48_31, sR_48_33, sR_48_34, sR_48_35, sR_48_36, sR_48_37, sR_48_38, sR_48_39, nIlt0 (show k < 2 ^ 31 by omega), nI_clamp (show k < 2 ^ 31 by omega), show k < 10 by omega, i63, i60, i61, rf_some, xc_int, xc_ref, xc_ret, xc_long, xw_nil, xw_int, xw_ref, xw_long, tl_some, tl_none, true_and, and_true, Nat.zero_le, Nat.reduceAdd, Nat.reduceMul, Nat.reduceLeDiff, Nat.reduceLT, Nat.reduceEqDiff, Nat.reducePow, Int32.reduceAdd, Int32.reduceMul, Int32.reduceSub, Int32.reduceLT, Int32.reduceLE, Int32.reduceToNatClampNeg, litE, ixU, not_false_eq_true, not_true_eq_false, ↓reduceIte, eq_self, true_or, or_true, false_and, and_false, or_false, false_or, i10, i01, in10, i1n, xbT, xbF, r_lt]
      by_cases y : cm g f w m
      · rw [md_moves (d := d) H1 m1 hg (ro_rp hf) (show m < 2 ^ 31 by omega) (show w < 2 ^ 31 by omega) y]
        have hpa := pa_lt hg (show w < g 35 by omega) y
        by_cases x : pa g w m = G
        · have e5 : (nI (pa g w m) = nI G) = True := eq_true (by rw [x])
          simp only [xs_176_74, xs_176_76, xs_176_78, xs_176_80, xs_176_83, xs_176_84, xs_176_87, xs_176_89, xs_176_90, xs_176_93, xs_176_94, nI_ne4 (show pa g w m < 2 ^ 31 by omega), e5, rf_some, xc_int, xc_ref, xc_ret, xc_long, xw_nil, xw_int, xw_ref, xw_long, tl_some, tl_none, true_and, and_true, Nat.zero_le, Nat.reduceAdd, Nat.reduceMul, Nat.reduceLeDiff, Nat.reduceLT, Nat.reduceEqDiff, Nat.reducePow, Int32.reduceAdd, Int32.reduceMul, Int32.reduceSub, Int32.reduceLT, Int32.reduceLE, Int32.reduceToNatClampNeg, litE, ixU, not_false_eq_true, not_true_eq_false, ↓reduceIte, eq_self, true_or, or_true, false_and, and_false, or_false, false_or, i10, i01, in10, i1n, xbT, xbF, r_lt]
          exact k2 m _ hle (by omega) hn y x (W1 _) ⟨i60 _, i61 _, i62 _⟩ (i63 _)
        · have e5 : (nI (pa g w m) = nI G) = False := eq_false (by rw [nI_eq (by omega) (by omega)]; exact x)
          simp only [xs_176_74, xs_176_76, xs_176_78, xs_176_80, xs_176_83, xs_176_84, xs_176_87, xs_176_89, xs_176_90, xs_176_93, xs_176_94, xs_176_95, xs_176_96, xs_176_99, xs_176_100, xs_176_103, xs_176_104, xs_176_105, xs_176_106, xs_176_107, xs_176_108, xs_176_111, xs_176_113, xs_176_116, xs_176_117, xs_176_120, xs_176_121, xs_176_122, xs_176_123, xs_176_126, xs_176_127, xs_176_130, xs_176_131, xs_176_132, xs_176_135, xs_176_137, xs_176_138, xs_176_141, nI_ne4 (show pa g w m < 2 ^ 31 by omega), e5, HW, sT_48, sT_49, sN_49, sA_49, sT_50, sN_50, sA_50, sT_51, sN_51, sA_51, sT_52, sN_52, sA_52, sT_53, sN_53, sA_53, sT_54, sN_54, sA_54, sT_55, sN_55, sA_55, sT_56, sN_56, sA_56, sT_57, sN_57, sA_57, sT_58, sN_58, sA_58, sT_59, sN_59, sA_59, sT_60, sN_60, sA_60, sT_61, sN_61, sA_61, sT_62, sN_62, sA_62, sT_63, sN_63, sA_63, sT_64, sN_64, sA_64, sT_65, sN_65, sA_65, sT_66, sN_66, sA_66, sT_67, sN_67, sA_67, sT_68, sN_68, sB_68, sT_69, sN_69, sA_69, sT_70, sN_70, sA_70, sT_71, sN_71, sA_71, sR_48_0, sR_48_2, sR_48_9, sR_48_10, sR_48_11, sR_48_20, sR_48_21, sR_48_22, sR_48_23, sR_48_24, sR_48_26, sR_48_27, sR_48_28, sR_48_29, sR_48_30, sR_48_31, sR_48_33, sR_48_34, sR_48_35, sR_48_36, sR_48_37, sR_48_38, sR_48_39, nIlt0 (show k < 2 ^ 31 by omega), nI_clamp (show k < 2 ^ 31 by omega), show k < 10 by omega, i61, md_wideNow H1 (ra_ok hg (ro_rp hf) m), nI_1, rf_some, xc_int, xc_ref, xc_ret, xc_long, xw_nil, xw_int, xw_ref, xw_long, tl_some, tl_none, true_and, and_true, Nat.zero_le, Nat.reduceAdd, Nat.reduceMul, Nat.reduceLeDiff, Nat.reduceLT, Nat.reduceEqDiff, Nat.reducePow, Int32.reduceAdd, Int32.reduceMul, Int32.reduceSub, Int32.reduceLT, Int32.reduceLE, Int32.reduceToNatClampNeg, litE, ixU, not_false_eq_true, not_true_eq_false, ↓reduceIte, eq_self, true_or, or_true, false_and, and_false, or_false, false_or, i10, i01, in10, i1n, xbT, xbF, r_lt]
          rw [md_lays (d := d + 4) (HW _) (show k + 1 < 10 by omega)]
          simp only [xs_176_144, xs_176_145, rf_some, xc_int, xc_ref, xc_ret, xc_long, xw_nil, xw_int, xw_ref, xw_long, tl_some, tl_none, true_and, and_true, Nat.zero_le, Nat.reduceAdd, Nat.reduceMul, Nat.reduceLeDiff, Nat.reduceLT, Nat.reduceEqDiff, Nat.reducePow, Int32.reduceAdd, Int32.reduceMul, Int32.reduceSub, Int32.reduceLT, Int32.reduceLE, Int32.reduceToNatClampNeg, litE, ixU, not_false_eq_true, not_true_eq_false, ↓reduceIte, eq_self, true_or, or_true, false_and, and_false, or_false, false_or, i10, i01, in10, i1n, xbT, xbF, r_lt]
          obtain ⟨q1, q2, q3⟩ := lays_p (k := k + 1) (w := pa g w m) (o := o) (f := ra g f m) (W1 (ra g f m)) (show k ≤ k + 1 by omega)
          refine k3 m _ hle (by omega) hn y x q1 ⟨?_, ?_, ?_⟩ ?_ q2 q3
          all_goals simp only [hI_sI, Nat.reduceEqDiff, false_and, true_and, show (k = k + 1) = False from eq_false (by omega), and_false, ↓reduceIte]
          · exact i60 _
          · exact i61 _
          · exact i62 _
          · exact i63 _
      · rw [md_movesN (d := d) H1 m1 hg (ro_rp hf) (show m < 2 ^ 31 by omega) (show w < 2 ^ 31 by omega) y]
        have e44 : ((-4 : Int32) = -4) = True := eq_true rfl
        simp only [xs_176_74, xs_176_76, xs_176_78, xs_176_80, xs_176_146, xs_176_147, xs_176_150, xs_176_151, xs_176_152, xs_176_153, xs_176_154, xs_176_155, xs_176_156, e44, HW, sT_48, sT_49, sN_49, sA_49, sT_50, sN_50, sA_50, sT_51, sN_51, sA_51, sT_52, sN_52, sA_52, sT_53, sN_53, sA_53, sT_54, sN_54, sA_54, sT_55, sN_55, sA_55, sT_56, sN_56, sA_56, sT_57, sN_57, sA_57, sT_58, sN_58, sA_58, sT_59, sN_59, sA_59, sT_60, sN_60, sA_60, sT_61, sN_61, sA_61, sT_62, sN_62, sA_62, sT_63, sN_63, sA_63, sT_64, sN_64, sA_64, sT_65, sN_65, sA_65, sT_66, sN_66, sA_66, sT_67, sN_67, sA_67, sT_68, sN_68, sB_68, sT_69, sN_69, sA_69, sT_70, sN_70, sA_70, sT_71, sN_71, sA_71, sR_48_0, sR_48_2, sR_48_9, sR_48_10, sR_48_11, sR_48_20, sR_48_21, sR_48_22, sR_48_23, sR_48_24, sR_48_26, sR_48_27, sR_48_28, sR_48_29, sR_48_30, sR_48_31, sR_48_33, sR_48_34, sR_48_35, sR_48_36, sR_48_37, sR_48_38, sR_48_39, nIlt0 (show k < 2 ^ 31 by omega), nI_clamp (show k < 2 ^ 31 by omega), show k < 10 by omega, i63, nI_1, rf_some, xc_int, xc_ref, xc_ret, xc_long, xw_nil, xw_int, xw_ref, xw_long, tl_some, tl_none, true_and, and_true, Nat.zero_le, Nat.reduceAdd, Nat.reduceMul, Nat.reduceLeDiff, Nat.reduceLT, Nat.reduceEqDiff, Nat.reducePow, Int32.reduceAdd, Int32.reduceMul, Int32.reduceSub, Int32.reduceLT, Int32.reduceLE, Int32.reduceToNatClampNeg, litE, ixU, not_false_eq_true, not_true_eq_false, ↓reduceIte, eq_self, true_or, or_true, false_and, and_false, or_false, false_or, i10, i01, in10, i1n, xbT, xbF, r_lt, hI_sI, hL_sI, hR_sI, hT_sI, hN_sI, hn_sI, ho_sI, hia_sI, hba_sI, hal_sI, hix_sI, hI_aI, hL_aI, hR_aI, hT_aI, hN_aI, hn_aI, ho_aI, hia_aI, hal_aI, hix_aI, sh_sI, sh_aI, sh_sL, sh_aL]
        refine ih (m + 1) _ _ (by omega) (wr_sI (W1 f) (Or.inr ⟨by omega, Nat.le_refl _⟩)) ⟨?_, ?_, ?_⟩ ?_ (by omega) (fun j h1 h2 => ?_)
        · rw [hI_sI, if_neg (by omega)]; exact i60 _
        · rw [hI_sI, if_neg (by omega)]; exact i61 _
        · rw [hI_sI, if_neg (by omega)]; exact i62 _
        · rw [hI_sI, if_pos ⟨rfl, rfl⟩]
        · by_cases q : j = m
          · rw [q]; exact y
          · exact hn j h1 (by omega)
  have e1 : nI t - 1 + 1 = nI t := Int32.sub_add_cancel _ _
  have ef : ((0 : Int32) = 0) = True := eq_true rfl
  simp only [xs_176, xs_176_0, xs_176_1, xs_176_2, xs_176_3, xs_176_6, xs_176_7, xs_176_10, xs_176_11, xs_176_12, xs_176_13, xs_176_16, xs_176_17, xs_176_18, xs_176_19, xs_176_20, xs_176_21, par, ef, i20, H, sT_48, sT_49, sN_49, sA_49, sT_50, sN_50, sA_50, sT_51, sN_51, sA_51, sT_52, sN_52, sA_52, sT_53, sN_53, sA_53, sT_54, sN_54, sA_54, sT_55, sN_55, sA_55, sT_56, sN_56, sA_56, sT_57, sN_57, sA_57, sT_58, sN_58, sA_58, sT_59, sN_59, sA_59, sT_60, sN_60, sA_60, sT_61, sN_61, sA_61, sT_62, sN_62, sA_62, sT_63, sN_63, sA_63, sT_64, sN_64, sA_64, sT_65, sN_65, sA_65, sT_66, sN_66, sA_66, sT_67, sN_67, sA_67, sT_68, sN_68, sB_68, sT_69, sN_69, sA_69, sT_70, sN_70, sA_70, sT_71, sN_71, sA_71, sR_48_0, sR_48_2, sR_48_9, sR_48_10, sR_48_11, sR_48_20, sR_48_21, sR_48_22, sR_48_23, sR_48_24, sR_48_26, sR_48_27, sR_48_28, sR_48_29, sR_48_30, sR_48_31, sR_48_33, sR_48_34, sR_48_35, sR_48_36, sR_48_37, sR_48_38, sR_48_39, nIlt0 (show k < 2 ^ 31 by omega), nI_clamp (show k < 2 ^ 31 by omega), show k < 10 by omega, hmv, e1, rf_some, xc_int, xc_ref, xc_ret, xc_long, xw_nil, xw_int, xw_ref, xw_long, tl_some, tl_none, true_and, and_true, Nat.zero_le, Nat.reduceAdd, Nat.reduceMul, Nat.reduceLeDiff, Nat.reduceLT, Nat.reduceEqDiff, Nat.reducePow, Int32.reduceAdd, Int32.reduceMul, Int32.reduceSub, Int32.reduceLT, Int32.reduceLE, Int32.reduceToNatClampNeg, litE, ixU, not_false_eq_true, not_true_eq_false, ↓reduceIte, eq_self, true_or, or_true, false_and, and_false, or_false, false_or, i10, i01, in10, i1n, xbT, xbF, r_lt, hI_sI, hL_sI, hR_sI, hT_sI, hN_sI, hn_sI, ho_sI, hia_sI, hba_sI, hal_sI, hix_sI, hI_aI, hL_aI, hR_aI, hT_aI, hN_aI, hn_aI, ho_aI, hia_aI, hal_aI, hix_aI, sh_sI, sh_aI, sh_sL, sh_aL]
  refine lp n t (xe_sI h 63 k (nI t)) _ htn (wr_sI (wr_rf _ h) (Or.inr ⟨by omega, Nat.le_refl _⟩)) ⟨?_, ?_, ?_⟩ ?_ (Nat.le_refl _) (fun j h1 h2 => absurd h1 (by omega))
  · rw [hI_sI, if_neg (by omega)]; exact hpos.1
  · rw [hI_sI, if_neg (by omega)]; exact hpos.2.1
  · rw [hI_sI, if_neg (by omega)]; exact hpos.2.2
  · rw [hI_sI, if_pos ⟨rfl, rfl⟩]
/-- the next move of one who is on turn -/
theorem md_triesO {g f : Nat → Nat} {k w o G : Nat} (hg : pg_ok g) (hf : ro g f) (hw : w < g 35) (ho : o < g 35) (hG : G < g 35) (hk : k < 9) (hk2 : k % 2 = 1) {K : Option Value → xe_H → Prop} : ∀ (n t : Nat) (h : xe_H), t + n = g 24 + 1 → sh h → mp h 0 g → pos k w o f h → xe_I h 63 k = nI t - 1 →
    (∀ h', wr (wS k) h h' → pos k w o f h' → xe_I h' 63 k = nI (g 24 + 1) → (∀ j, t ≤ j → j ≤ g 24 → ¬ cm g f o j) → K (some (.int 1)) h') →
    (∀ m h', t ≤ m → m ≤ g 24 → (∀ j, t ≤ j → j < m → ¬ cm g f o j) → cm g f o m → wr (wS k) h h' → pos k w o f h' → xe_I h' 63 k = nI m → pos (k + 1) w (pa g o m) (gnf g f m) h' → xe_I h' 63 (k + 1) = nI 0 - 1 → K (some (.int 0)) h') →
    xe_C (d + 6) 176 [.ref 48, .int (nI k), .int (nI G)] h K := by
  have h24 : g 24 ≤ 6 := hg.1
  have h35 : g 35 ≤ 5 := hg.2.2.2.2.2.2.2.1
  intro n t h htn H hm hpos hmv k1 k3
  have par : nI k - nI k / 2 * 2 = 1 := by
    have := pk_rem (a := k) (d := 2) (by omega) (by omega) (by omega)
    rw [hk2] at this
    exact this
  have lp : ∀ n m h1 l4, m + n = g 24 + 1 → wr (wS k) h h1 → pos k w o f h1 → xe_I h1 63 k = nI m → t ≤ m → (∀ j, t ≤ j → j < m → ¬ cm g f o j) → xe_P (d + 5) 176 22 [.ref 48, .int (nI k), .int (nI G), .int 0, l4] [] h1 K := by
    intro n
    induction n with
    | zero =>
      intro m h1 l4 hmn W P1 E hle hn
      have em : m = g 24 + 1 := by omega
      subst em
      have H1 := wr_sh W H
      have m1 := mpw hg hm W
      have e3 : (nI (g 24) < nI (g 24 + 1)) = True := eq_true (nI_lt (by omega) (by omega))
      simp only [xs_176_22, xs_176_23, xs_176_26, xs_176_27, xs_176_28, xs_176_29, xs_176_32, xs_176_159, xs_176_160, H1, sT_48, sT_49, sN_49, sA_49, sT_50, sN_50, sA_50, sT_51, sN_51, sA_51, sT_52, sN_52, sA_52, sT_53, sN_53, sA_53, sT_54, sN_54, sA_54, sT_55, sN_55, sA_55, sT_56, sN_56, sA_56, sT_57, sN_57, sA_57, sT_58, sN_58, sA_58, sT_59, sN_59, sA_59, sT_60, sN_60, sA_60, sT_61, sN_61, sA_61, sT_62, sN_62, sA_62, sT_63, sN_63, sA_63, sT_64, sN_64, sA_64, sT_65, sN_65, sA_65, sT_66, sN_66, sA_66, sT_67, sN_67, sA_67, sT_68, sN_68, sB_68, sT_69, sN_69, sA_69, sT_70, sN_70, sA_70, sT_71, sN_71, sA_71, sR_48_0, sR_48_2, sR_48_9, sR_48_10, sR_48_11, sR_48_20, sR_48_21, sR_48_22, sR_48_23, sR_48_24, sR_48_26, sR_48_27, sR_48_28, sR_48_29, sR_48_30, sR_48_31, sR_48_33, sR_48_34, sR_48_35, sR_48_36, sR_48_37, sR_48_38, sR_48_39, md_bridgesG H1 m1, nIlt0 (show k < 2 ^ 31 by omega), nI_clamp (show k < 2 ^ 31 by omega), show k < 10 by omega, E, e3, rf_some, xc_int, xc_ref, xc_ret, xc_long, xw_nil, xw_int, xw_ref, xw_long, tl_some, tl_none, true_and, and_true, Nat.zero_le, Nat.reduceAdd, Nat.reduceMul, Nat.reduceLeDiff, Nat.reduceLT, Nat.reduceEqDiff, Nat.reducePow, Int32.reduceAdd, Int32.reduceMul, Int32.reduceSub, Int32.reduceLT, Int32.reduceLE, Int32.reduceToNatClampNeg, litE, ixU, not_false_eq_true, not_true_eq_false, ↓reduceIte, eq_self, true_or, or_true, false_and, and_false, or_false, false_or, i10, i01, in10, i1n, xbT, xbF, r_lt]
      exact k1 h1 W P1 E (fun j h1 h2 => hn j h1 (by omega))
    | succ n ih =>
      intro m h1 l4 hmn W P1 E hle hn
      have H1 := wr_sh W H
      have m1 := mpw hg hm W
      obtain ⟨p60, p61, p62⟩ := id P1
      have e3 : (nI (g 24) < nI m) = False := eq_false (by rw [nI_ltI (by omega) (by omega)]; omega)
      have HW : ∀ f, sh (mW h1 f) := fun f => by rw [mW_sh]; exact H1
      have W1 : ∀ f', wr (wS k) h (mW h1 f') := fun f' => wr_tr W (wS_W h1 f')
      have i63 : ∀ f', xe_I (mW h1 f') 63 k = nI m := fun f' => by rw [mW_o (by decide)]; exact E
      have i60 : ∀ f', xe_I (mW h1 f') 60 k = nI w := fun f' => by rw [mW_o (by decide)]; exact p60
      have i61 : ∀ f', xe_I (mW h1 f') 61 k = nI o := fun f' => by rw [mW_o (by decide)]; exact p61
      have i62 : ∀ f', xe_I (mW h1 f') 62 k = nI (rp f) := fun f' => by rw [mW_o (by decide)]; exact p62
      rw [xs_176_22]
      simp only [xs_176_23, xs_176_26, xs_176_27, xs_176_28, xs_176_29, xs_176_32, xs_176_35, xs_176_36, xs_176_37, xs_176_40, xs_176_41, xs_176_42, H1, sT_48, sT_49, sN_49, sA_49, sT_50, sN_50, sA_50, sT_51, sN_51, sA_51, sT_52, sN_52, sA_52, sT_53, sN_53, sA_53, sT_54, sN_54, sA_54, sT_55, sN_55, sA_55, sT_56, sN_56, sA_56, sT_57, sN_57, sA_57, sT_58, sN_58, sA_58, sT_59, sN_59, sA_59, sT_60, sN_60, sA_60, sT_61, sN_61, sA_61, sT_62, sN_62, sA_62, sT_63, sN_63, sA_63, sT_64, sN_64, sA_64, sT_65, sN_65, sA_65, sT_66, sN_66, sA_66, sT_67, sN_67, sA_67, sT_68, sN_68, sB_68, sT_69, sN_69, sA_69, sT_70, sN_70, sA_70, sT_71, sN_71, sA_71, sR_48_0, sR_48_2, sR_48_9, sR_48_10, sR_48_11, sR_48_20, sR_48_21, sR_48_22, sR_48_23, sR_48_24, sR_48_26, sR_48_27, sR_48_28, sR_48_29, sR_48_30, sR_48_31, sR_48_33, sR_48_34, sR_48_35, sR_48_36, sR_48_37, sR_48_38, sR_48_39, md_bridgesG H1 m1, nIlt0 (show k < 2 ^ 31 by omega), nI_clamp (show k < 2 ^ 31 by omega), show k < 10 by omega, E, e3, p62, md_wide H1 (ro_rp hf), rf_some, xc_int, xc_ref, xc_ret, xc_long, xw_nil, xw_int, xw_ref, xw_long, tl_some, tl_none, true_and, and_true, Nat.zero_le, Nat.reduceAdd, Nat.reduceMul, Nat.reduceLeDiff, Nat.reduceLT, Nat.reduceEqDiff, Nat.reducePow, Int32.reduceAdd, Int32.reduceMul, Int32.reduceSub, Int32.reduceLT, Int32.reduceLE, Int32.reduceToNatClampNeg, litE, ixU, not_false_eq_true, not_true_eq_false, ↓reduceIte, eq_self, true_or, or_true, false_and, and_false, or_false, false_or, i10, i01, in10, i1n, xbT, xbF, r_lt]
      simp only [xs_176_45, xs_176_46, xs_176_47, xs_176_50, xs_176_51, xs_176_52, xs_176_53, xs_176_56, xs_176_57, xs_176_60, xs_176_61, xs_176_62, xs_176_65, xs_176_66, xs_176_69, xs_176_70, xs_176_71, HW, sT_48, sT_49, sN_49, sA_49, sT_50, sN_50, sA_50, sT_51, sN_51, sA_51, sT_52, sN_52, sA_52, sT_53, sN_53, sA_53, sT_54, sN_54, sA_54, sT_55, sN_55, sA_55, sT_56, sN_56, sA_56, sT_57, sN_57, sA_57, sT_58, sN_58, sA_58, sT_59, sN_59, sA_59, sT_60, sN_60, sA_60, sT_61, sN_61, sA_61, sT_62, sN_62, sA_62, sT_63, sN_63, sA_63, sT_64, sN_64, sA_64, sT_65, sN_65, sA_65, sT_66, sN_66, sA_66, sT_67, sN_67, sA_67, sT_68, sN_68, sB_68, sT_69, sN_69, sA_69, sT_70, sN_70, sA_70, sT_71, sN_71, sA_71, sR_48_0, sR_48_2, sR_48_9, sR_48_10, sR_48_11, sR_48_20, sR_48_21, sR_48_22, sR_48_23, sR_48_24, sR_48_26, sR_48_27, sR_48_28, sR_48_29, sR_48_30, sR_48_31, sR_48_33, sR_48_34, sR_48_35, sR_48_36, sR_48_37, sR_48_38, sR_48_39, nIlt0 (show k < 2 ^ 31 by omega), nI_clamp (show k < 2 ^ 31 by omega), show k < 10 by omega, i63, i60, i61, rf_some, xc_int, xc_ref, xc_ret, xc_long, xw_nil, xw_int, xw_ref, xw_long, tl_some, tl_none, true_and, and_true, Nat.zero_le, Nat.reduceAdd, Nat.reduceMul, Nat.reduceLeDiff, Nat.reduceLT, Nat.reduceEqDiff, Nat.reducePow, Int32.reduceAdd, Int32.reduceMul, Int32.reduceSub, Int32.reduceLT, Int32.reduceLE, Int32.reduceToNatClampNeg, litE, ixU, not_false_eq_true, not_true_eq_false, ↓reduceIte, eq_self, true_or, or_true, false_and, and_false, or_false, false_or, i10, i01, in10, i1n, xbT, xbF, r_lt]
      by_cases y : cm g f o m
      · rw [md_moves (d := d) H1 m1 hg (ro_rp hf) (show m < 2 ^ 31 by omega) (show o < 2 ^ 31 by omega) y]
        have hpa := pa_lt hg (show o < g 35 by omega) y
        have me := fun d Q => md_ends (d := d) (Q := Q) H1 (ra_ok hg (ro_rp hf) m)
        rw [show (fun b => ra g f m b - 1) = gnf g f m from rfl] at me
        · simp only [xs_176_74, xs_176_76, xs_176_78, xs_176_80, xs_176_83, xs_176_84, xs_176_87, xs_176_89, xs_176_90, xs_176_93, xs_176_94, xs_176_95, xs_176_96, xs_176_99, xs_176_100, xs_176_103, xs_176_104, xs_176_105, xs_176_106, xs_176_107, xs_176_108, xs_176_111, xs_176_113, xs_176_116, xs_176_117, xs_176_120, xs_176_121, xs_176_122, xs_176_123, xs_176_126, xs_176_127, xs_176_130, xs_176_131, xs_176_132, xs_176_135, xs_176_137, xs_176_138, xs_176_141, nI_ne4 (show pa g o m < 2 ^ 31 by omega), HW, sT_48, sT_49, sN_49, sA_49, sT_50, sN_50, sA_50, sT_51, sN_51, sA_51, sT_52, sN_52, sA_52, sT_53, sN_53, sA_53, sT_54, sN_54, sA_54, sT_55, sN_55, sA_55, sT_56, sN_56, sA_56, sT_57, sN_57, sA_57, sT_58, sN_58, sA_58, sT_59, sN_59, sA_59, sT_60, sN_60, sA_60, sT_61, sN_61, sA_61, sT_62, sN_62, sA_62, sT_63, sN_63, sA_63, sT_64, sN_64, sA_64, sT_65, sN_65, sA_65, sT_66, sN_66, sA_66, sT_67, sN_67, sA_67, sT_68, sN_68, sB_68, sT_69, sN_69, sA_69, sT_70, sN_70, sA_70, sT_71, sN_71, sA_71, sR_48_0, sR_48_2, sR_48_9, sR_48_10, sR_48_11, sR_48_20, sR_48_21, sR_48_22, sR_48_23, sR_48_24, sR_48_26, sR_48_27, sR_48_28, sR_48_29, sR_48_30, sR_48_31, sR_48_33, sR_48_34, sR_48_35, sR_48_36, sR_48_37, sR_48_38, sR_48_39, nIlt0 (show k < 2 ^ 31 by omega), nI_clamp (show k < 2 ^ 31 by omega), show k < 10 by omega, i60, me, md_wideNow H1 (ro_rp (ro_gn hg hf (cm_le y))), nI_1, rf_some, xc_int, xc_ref, xc_ret, xc_long, xw_nil, xw_int, xw_ref, xw_long, tl_some, tl_none, true_and, and_true, Nat.zero_le, Nat.reduceAdd, Nat.reduceMul, Nat.reduceLeDiff, Nat.reduceLT, Nat.reduceEqDiff, Nat.reducePow, Int32.reduceAdd, Int32.reduceMul, Int32.reduceSub, Int32.reduceLT, Int32.reduceLE, Int32.reduceToNatClampNeg, litE, ixU, not_false_eq_true, not_true_eq_false, ↓reduceIte, eq_self, true_or, or_true, false_and, and_false, or_false, false_or, i10, i01, in10, i1n, xbT, xbF, r_lt]
          rw [md_lays (d := d + 4) (HW _) (show k + 1 < 10 by omega)]
          simp only [xs_176_144, xs_176_145, rf_some, xc_int, xc_ref, xc_ret, xc_long, xw_nil, xw_int, xw_ref, xw_long, tl_some, tl_none, true_and, and_true, Nat.zero_le, Nat.reduceAdd, Nat.reduceMul, Nat.reduceLeDiff, Nat.reduceLT, Nat.reduceEqDiff, Nat.reducePow, Int32.reduceAdd, Int32.reduceMul, Int32.reduceSub, Int32.reduceLT, Int32.reduceLE, Int32.reduceToNatClampNeg, litE, ixU, not_false_eq_true, not_true_eq_false, ↓reduceIte, eq_self, true_or, or_true, false_and, and_false, or_false, false_or, i10, i01, in10, i1n, xbT, xbF, r_lt]
          obtain ⟨q1, q2, q3⟩ := lays_p (k := k + 1) (w := w) (o := pa g o m) (f := gnf g f m) (W1 (gnf g f m)) (show k ≤ k + 1 by omega)
          refine k3 m _ hle (by omega) hn y q1 ⟨?_, ?_, ?_⟩ ?_ q2 q3
          all_goals simp only [hI_sI, Nat.reduceEqDiff, false_and, true_and, show (k = k + 1) = False from eq_false (by omega), and_false, ↓reduceIte]
          · exact i60 _
          · exact i61 _
          · exact i62 _
          · exact i63 _
      · rw [md_movesN (d := d) H1 m1 hg (ro_rp hf) (show m < 2 ^ 31 by omega) (show o < 2 ^ 31 by omega) y]
        have e44 : ((-4 : Int32) = -4) = True := eq_true rfl
        simp only [xs_176_74, xs_176_76, xs_176_78, xs_176_80, xs_176_146, xs_176_147, xs_176_150, xs_176_151, xs_176_152, xs_176_153, xs_176_154, xs_176_155, xs_176_156, e44, HW, sT_48, sT_49, sN_49, sA_49, sT_50, sN_50, sA_50, sT_51, sN_51, sA_51, sT_52, sN_52, sA_52, sT_53, sN_53, sA_53, sT_54, sN_54, sA_54, sT_55, sN_55, sA_55, sT_56, sN_56, sA_56, sT_57, sN_57, sA_57, sT_58, sN_58, sA_58, sT_59, sN_59, sA_59, sT_60, sN_60, sA_60, sT_61, sN_61, sA_61, sT_62, sN_62, sA_62, sT_63, sN_63, sA_63, sT_64, sN_64, sA_64, sT_65, sN_65, sA_65, sT_66, sN_66, sA_66, sT_67, sN_67, sA_67, sT_68, sN_68, sB_68, sT_69, sN_69, sA_69, sT_70, sN_70, sA_70, sT_71, sN_71, sA_71, sR_48_0, sR_48_2, sR_48_9, sR_48_10, sR_48_11, sR_48_20, sR_48_21, sR_48_22, sR_48_23, sR_48_24, sR_48_26, sR_48_27, sR_48_28, sR_48_29, sR_48_30, sR_48_31, sR_48_33, sR_48_34, sR_48_35, sR_48_36, sR_48_37, sR_48_38, sR_48_39, nIlt0 (show k < 2 ^ 31 by omega), nI_clamp (show k < 2 ^ 31 by omega), show k < 10 by omega, i63, nI_1, rf_some, xc_int, xc_ref, xc_ret, xc_long, xw_nil, xw_int, xw_ref, xw_long, tl_some, tl_none, true_and, and_true, Nat.zero_le, Nat.reduceAdd, Nat.reduceMul, Nat.reduceLeDiff, Nat.reduceLT, Nat.reduceEqDiff, Nat.reducePow, Int32.reduceAdd, Int32.reduceMul, Int32.reduceSub, Int32.reduceLT, Int32.reduceLE, Int32.reduceToNatClampNeg, litE, ixU, not_false_eq_true, not_true_eq_false, ↓reduceIte, eq_self, true_or, or_true, false_and, and_false, or_false, false_or, i10, i01, in10, i1n, xbT, xbF, r_lt, hI_sI, hL_sI, hR_sI, hT_sI, hN_sI, hn_sI, ho_sI, hia_sI, hba_sI, hal_sI, hix_sI, hI_aI, hL_aI, hR_aI, hT_aI, hN_aI, hn_aI, ho_aI, hia_aI, hal_aI, hix_aI, sh_sI, sh_aI, sh_sL, sh_aL]
        refine ih (m + 1) _ _ (by omega) (wr_sI (W1 f) (Or.inr ⟨by omega, Nat.le_refl _⟩)) ⟨?_, ?_, ?_⟩ ?_ (by omega) (fun j h1 h2 => ?_)
        · rw [hI_sI, if_neg (by omega)]; exact i60 _
        · rw [hI_sI, if_neg (by omega)]; exact i61 _
        · rw [hI_sI, if_neg (by omega)]; exact i62 _
        · rw [hI_sI, if_pos ⟨rfl, rfl⟩]
        · by_cases q : j = m
          · rw [q]; exact y
          · exact hn j h1 (by omega)
  have e1 : nI t - 1 + 1 = nI t := Int32.sub_add_cancel _ _
  have ef : ((1 : Int32) = 0) = False := i10
  simp only [xs_176, xs_176_0, xs_176_1, xs_176_2, xs_176_3, xs_176_6, xs_176_7, xs_176_10, xs_176_11, xs_176_12, xs_176_13, xs_176_16, xs_176_17, xs_176_18, xs_176_19, xs_176_20, xs_176_21, par, ef, i20, H, sT_48, sT_49, sN_49, sA_49, sT_50, sN_50, sA_50, sT_51, sN_51, sA_51, sT_52, sN_52, sA_52, sT_53, sN_53, sA_53, sT_54, sN_54, sA_54, sT_55, sN_55, sA_55, sT_56, sN_56, sA_56, sT_57, sN_57, sA_57, sT_58, sN_58, sA_58, sT_59, sN_59, sA_59, sT_60, sN_60, sA_60, sT_61, sN_61, sA_61, sT_62, sN_62, sA_62, sT_63, sN_63, sA_63, sT_64, sN_64, sA_64, sT_65, sN_65, sA_65, sT_66, sN_66, sA_66, sT_67, sN_67, sA_67, sT_68, sN_68, sB_68, sT_69, sN_69, sA_69, sT_70, sN_70, sA_70, sT_71, sN_71, sA_71, sR_48_0, sR_48_2, sR_48_9, sR_48_10, sR_48_11, sR_48_20, sR_48_21, sR_48_22, sR_48_23, sR_48_24, sR_48_26, sR_48_27, sR_48_28, sR_48_29, sR_48_30, sR_48_31, sR_48_33, sR_48_34, sR_48_35, sR_48_36, sR_48_37, sR_48_38, sR_48_39, nIlt0 (show k < 2 ^ 31 by omega), nI_clamp (show k < 2 ^ 31 by omega), show k < 10 by omega, hmv, e1, rf_some, xc_int, xc_ref, xc_ret, xc_long, xw_nil, xw_int, xw_ref, xw_long, tl_some, tl_none, true_and, and_true, Nat.zero_le, Nat.reduceAdd, Nat.reduceMul, Nat.reduceLeDiff, Nat.reduceLT, Nat.reduceEqDiff, Nat.reducePow, Int32.reduceAdd, Int32.reduceMul, Int32.reduceSub, Int32.reduceLT, Int32.reduceLE, Int32.reduceToNatClampNeg, litE, ixU, not_false_eq_true, not_true_eq_false, ↓reduceIte, eq_self, true_or, or_true, false_and, and_false, or_false, false_or, i10, i01, in10, i1n, xbT, xbF, r_lt, hI_sI, hL_sI, hR_sI, hT_sI, hN_sI, hn_sI, ho_sI, hia_sI, hba_sI, hal_sI, hix_sI, hI_aI, hL_aI, hR_aI, hT_aI, hN_aI, hn_aI, ho_aI, hia_aI, hal_aI, hix_aI, sh_sI, sh_aI, sh_sL, sh_aL]
  refine lp n t (xe_sI h 63 k (nI t)) _ htn (wr_sI (wr_rf _ h) (Or.inr ⟨by omega, Nat.le_refl _⟩)) ⟨?_, ?_, ?_⟩ ?_ (Nat.le_refl _) (fun j h1 h2 => absurd h1 (by omega))
  · rw [hI_sI, if_neg (by omega)]; exact hpos.1
  · rw [hI_sI, if_neg (by omega)]; exact hpos.2.1
  · rw [hI_sI, if_neg (by omega)]; exact hpos.2.2
  · rw [hI_sI, if_pos ⟨rfl, rfl⟩]
end GS
