/-! rows written in loops; feed, sheet -/
theorem sI_aI (h : xe_H) (a k : Nat) (F : Nat → Int32) (v : Int32) : xe_sI (xe_aI h a F) a k v = xe_aI h a (upd F k v) := by
  refine xe_ext rfl rfl (fun _ => rfl) (fun _ => rfl) (fun b j => ?_) rfl rfl
  rw [hI_sI, hI_aI, hI_aI]
  by_cases hb : b = a
  · by_cases hj : j = k
    · simp [hb, hj, upd]
    · simp [hb, hj, upd]
  · simp [hb]
theorem aI_self (h : xe_H) (a : Nat) : xe_aI h a (xe_I h a) = h := by
  refine xe_ext rfl rfl (fun _ => rfl) (fun _ => rfl) (fun b j => ?_) rfl rfl
  rw [hI_aI]
  split
  · rename_i q; rw [q]
  · rfl
theorem aI_aI (h : xe_H) (a : Nat) (F G : Nat → Int32) : xe_aI (xe_aI h a F) a G = xe_aI h a G := by
  refine xe_ext rfl rfl (fun _ => rfl) (fun _ => rfl) (fun b j => ?_) rfl rfl
  rw [hI_aI, hI_aI, hI_aI]
  split <;> rfl
theorem sI_sI (h : xe_H) (a k : Nat) (u v : Int32) : xe_sI (xe_sI h a k u) a k v = xe_sI h a k v := by
  refine xe_ext rfl rfl (fun _ => rfl) (fun _ => rfl) (fun b j => ?_) rfl rfl
  rw [hI_sI, hI_sI, hI_sI]
  split <;> rfl
theorem sI_comm {h : xe_H} {a k b j : Nat} (u v : Int32) (hn : ¬ (a = b ∧ k = j)) : xe_sI (xe_sI h a k u) b j v = xe_sI (xe_sI h b j v) a k u := by
  refine xe_ext rfl rfl (fun _ => rfl) (fun _ => rfl) (fun c i => ?_) rfl rfl
  simp only [hI_sI]
  by_cases h1 : c = b ∧ i = j
  · rw [if_pos h1, if_pos h1, if_neg (fun z => hn ⟨z.1.symm.trans h1.1, z.2.symm.trans h1.2⟩)]
  · rw [if_neg h1, if_neg h1]
theorem sI_aI_ne {h : xe_H} {a b k : Nat} (F : Nat → Int32) (v : Int32) (hn : a ≠ b) : xe_sI (xe_aI h a F) b k v = xe_aI (xe_sI h b k v) a F := by
  refine xe_ext rfl rfl (fun _ => rfl) (fun _ => rfl) (fun c i => ?_) rfl rfl
  rw [hI_sI, hI_aI, hI_aI, hI_sI]
  by_cases h1 : c = a
  · rw [if_pos h1, if_pos h1, if_neg (fun z => hn (h1.symm.trans z.1))]
  · rw [if_neg h1, if_neg h1]
theorem nI_lit8 (n : Nat) : nI n + 8 = nI (n + 8) := by rw [show (8 : Int32) = nI 8 from rfl, nI_add]
theorem fl_n {n m : Nat} (h : m < 2 ^ 31) (hn : n < 2 ^ 31) : (nI m ≤ nI n) = (m ≤ n) := nIle h hn
section FD
variable {d : Nat} {h : xe_H} {Q : Option Value → xe_H → Prop}
theorem sK_28 (H : sh h) : xe_T h 28 = 10 := (sT_28 H).2
theorem ndT (n : Nat) : ((10 : Nat) = 11) = False := eq_false (by decide)
/-- Arrays.fill over a stretch of an int row -/
theorem j_range {x y n : Nat} (h1 : x ≤ y) (h2 : y ≤ n) (hn : n < 2 ^ 31) : xe_C (d + 1) 213 [.int (nI n), .int (nI x), .int (nI y)] h Q = Q none h := by
  simp only [xs_213, xs_213_0, xs_213_1, xs_213_2, xs_213_46, xs_213_47, xs_213_59, xs_213_60, xs_213_61, xs_213_73, fl_n (show x < 2 ^ 31 by omega) (show y < 2 ^ 31 by omega), fl_n (show y < 2 ^ 31 by omega) hn, h1, h2, nIge0 (show x < 2 ^ 31 by omega), rf_some, xc_int, xc_ref, xc_ret, xc_long, xw_nil, xw_int, xw_ref, xw_long, tl_some, tl_none, true_and, and_true, Nat.zero_le, Nat.reduceAdd, Nat.reduceMul, Nat.reduceLeDiff, Nat.reduceLT, Nat.reduceEqDiff, Nat.reducePow, Int32.reduceAdd, Int32.reduceMul, Int32.reduceSub, Int32.reduceLT, Int32.reduceLE, Int32.reduceToNatClampNeg, litE, ixU, not_false_eq_true, not_true_eq_false, ↓reduceIte, eq_self, true_or, or_true, false_and, and_false, or_false, false_or, i10, i01, in10, i1n, xbT, xbF, r_lt]
def fl (G : Nat → Int32) (f t : Nat) (v : Int32) : Nat → Int32 := fun j => if f ≤ j ∧ j < t then v else G j
theorem fl_0 (G : Nat → Int32) (f : Nat) (v : Int32) : fl G f f v = G := funext fun j => if_neg (by omega)
theorem fl_s (G : Nat → Int32) {f t : Nat} (v : Int32) (hft : f ≤ t) : upd (fl G f t v) t v = fl G f (t + 1) v := by
  funext j
  unfold upd fl
  by_cases h1 : j = t
  · subst h1; rw [if_pos rfl, if_pos (by omega)]
  · rw [if_neg h1]
    by_cases h2 : f ≤ j ∧ j < t
    · rw [if_pos h2, if_pos (by omega)]
    · rw [if_neg h2, if_neg (by omega)]
theorem j_fill {a f t N : Nat} (v : Int32) (ho : xe_ob h a 8) (hN : xe_N h a = N) (hN2 : N < 2 ^ 31) (h1 : f ≤ t) (h2 : t ≤ N) : xe_C (d + 2) 216 [.ref a, .int (nI f), .int (nI t), .int v] h Q = Q none (xe_aI h a (fl (xe_I h a) f t v)) := by
  have hal : xe_al h a := ⟨by rw [ho.2]; decide, by rw [ho.2]; decide, Or.inl ho.1⟩
  have loop : ∀ m i, i + m = t → f ≤ i → xe_P (d + 1) 216 10 [.ref a, .int (nI f), .int (nI t), .int v, .int (nI i)] [] (xe_aI h a (fl (xe_I h a) f i v)) Q = Q none (xe_aI h a (fl (xe_I h a) f t v)) := by
    intro m
    induction m with
    | zero =>
      intro i hi hf
      have : i = t := by omega
      subst this
      simp only [xs_216_10, xs_216_12, xs_216_13, fl_n (show i < 2 ^ 31 by omega) (show i < 2 ^ 31 by omega), Nat.le_refl, ↓reduceIte, xs_216_27]
    | succ m ih =>
      intro i hi hf
      have e1 : (nI t ≤ nI i) = False := by rw [fl_n (by omega) (by omega)]; exact eq_false (by omega)
      rw [xs_216_10, xs_216_12, xs_216_13, if_neg (of_eq_false e1)]
      simp only [xs_216_16, xs_216_17, xs_216_19, xs_216_20, xs_216_21, xs_216_24, ↓reduceIte, ho_aI, hix_aI, ho, ix_nI hN (show i < N by omega) hN2, nI_clamp (show i < 2 ^ 31 by omega), nI_1, xc_int, true_and, sI_aI, fl_s _ _ hf]
      exact ih (i + 1) (by omega) (by omega)
  have e0 : xe_aI h a (fl (xe_I h a) f f v) = h := by rw [fl_0, aI_self]
  have := loop (t - f) f (by omega) (by omega)
  rw [e0] at this
  have eN : Int32.ofNat (xe_N h a) = nI N := by rw [hN]; rfl
  simp only [xs_216, xs_216_0, xs_216_1, xs_216_2, xs_216_3, xs_216_4, xs_216_7, xs_216_8, hal, eN, j_range h1 h2 hN2, rf_some, xc_int, xc_ref, xc_ret, xc_long, xw_nil, xw_int, xw_ref, xw_long, tl_some, tl_none, true_and, and_true, Nat.zero_le, Nat.reduceAdd, Nat.reduceMul, Nat.reduceLeDiff, Nat.reduceLT, Nat.reduceEqDiff, Nat.reducePow, Int32.reduceAdd, Int32.reduceMul, Int32.reduceSub, Int32.reduceLT, Int32.reduceLE, Int32.reduceToNatClampNeg, litE, ixU, not_false_eq_true, not_true_eq_false, ↓reduceIte, eq_self, true_or, or_true, false_and, and_false, or_false, false_or, i10, i01, in10, i1n, xbT, xbF, r_lt]
  exact this
/-- Arrays.fill over an int row -/
theorem j_fillA {a N : Nat} (v : Int32) (ho : xe_ob h a 8) (hN : xe_N h a = N) (hN2 : N < 2 ^ 31) : xe_C (d + 1) 215 [.ref a, .int v] h Q = Q none (xe_aI h a (fl (xe_I h a) 0 N v)) := by
  have hal : xe_al h a := ⟨by rw [ho.2]; decide, by rw [ho.2]; decide, Or.inl ho.1⟩
  have loop : ∀ m i, i + m = N → xe_P d 215 5 [.ref a, .int v, .int (nI i), .int (nI N)] [] (xe_aI h a (fl (xe_I h a) 0 i v)) Q = Q none (xe_aI h a (fl (xe_I h a) 0 N v)) := by
    intro m
    induction m with
    | zero =>
      intro i hi
      have : i = N := by omega
      subst this
      simp only [xs_215_5, xs_215_6, xs_215_7, fl_n (show i < 2 ^ 31 by omega) (show i < 2 ^ 31 by omega), Nat.le_refl, ↓reduceIte, xs_215_20]
    | succ m ih =>
      intro i hi
      have e1 : (nI N ≤ nI i) = False := by rw [fl_n (by omega) (by omega)]; exact eq_false (by omega)
      rw [xs_215_5, xs_215_6, xs_215_7, if_neg (of_eq_false e1)]
      simp only [xs_215_10, xs_215_11, xs_215_12, xs_215_13, xs_215_14, xs_215_17, ↓reduceIte, ho_aI, hix_aI, ho, ix_nI hN (show i < N by omega) hN2, nI_clamp (show i < 2 ^ 31 by omega), nI_1, xc_int, true_and, sI_aI, fl_s _ _ (Nat.zero_le i)]
      exact ih (i + 1) (by omega)
  have e0 : xe_aI h a (fl (xe_I h a) 0 0 v) = h := by rw [fl_0, aI_self]
  have := loop N 0 (by omega)
  rw [e0] at this
  have eN : Int32.ofNat (xe_N h a) = nI N := by rw [hN]; rfl
  simp only [xs_215, xs_215_0, xs_215_1, xs_215_2, xs_215_3, xs_215_4, hal, eN, rf_some, xc_int, xc_ref, xc_ret, xc_long, xw_nil, xw_int, xw_ref, xw_long, tl_some, tl_none, true_and, and_true, Nat.zero_le, Nat.reduceAdd, Nat.reduceMul, Nat.reduceLeDiff, Nat.reduceLT, Nat.reduceEqDiff, Nat.reducePow, Int32.reduceAdd, Int32.reduceMul, Int32.reduceSub, Int32.reduceLT, Int32.reduceLE, Int32.reduceToNatClampNeg, litE, ixU, not_false_eq_true, not_true_eq_false, ↓reduceIte, eq_self, true_or, or_true, false_and, and_false, or_false, false_or, i10, i01, in10, i1n, xbT, xbF, r_lt]
  exact this
/-- a byte of eight, on the two sides -/
def bw (w : Int64) (i : Nat) : Int32 := (w >>> ((56 - 8 * nI i : Int32).toInt64 &&& 63)).toInt32
def bn (w : Int64) (i : Nat) : Nat := (bw w i &&& 255).toNatClampNeg
theorem bn_lt (x : Int32) : (x &&& 255).toNatClampNeg < 256 ∧ x &&& 255 = nI (x &&& 255).toNatClampNeg := by
  have e : x &&& 255 = nI (x.toUInt32.toNat % 256) := by
    have : x = nI x.toUInt32.toNat := by
      unfold nI
      apply Int32.toBitVec_inj.mp
      simp [Int32.toBitVec_ofNat]
    calc x &&& 255 = nI x.toUInt32.toNat &&& nI (2 ^ 8 - 1) := by rw [← this]; rfl
      _ = nI (x.toUInt32.toNat % 2 ^ 8) := fa_mask _ _
  have hm : x.toUInt32.toNat % 256 < 256 := Nat.mod_lt _ (by decide)
  rw [e, nI_clamp (by omega)]
  exact ⟨hm, rfl⟩
theorem bn_sx (w : Int64) (i : Nat) : (bw w i).toInt8.toInt32.toInt8.toInt32 = sx (bn w i) := by
  unfold sx bn
  rw [← (bn_lt (bw w i)).2, fa_byte_low, fb_byte_twice]
/-- the class's eight bytes -/
theorem tl_take (H : sh h) (w : Int64) {len : Nat} (hl : len + 8 ≤ 320) (e : xe_I h 27 1 = nI len) : xe_C (d + 1) 21 [.ref 27, .long w] h Q = Q (some (.int (nI (len + 8)))) (xe_sI (xe_aI h 28 (fb_put (xe_I h 28) (fun i => sx (bn w i)) len 8)) 27 1 (nI (len + 8))) := by
  have loop : ∀ m i, i + m = 8 → xe_P d 21 18 [.ref 27, .long w, .retAddr 0, .int (nI i)] [] (xe_aI h 28 (fb_put (xe_I h 28) (fun i => sx (bn w i)) len i)) Q = xe_P d 21 52 [.ref 27, .long w, .retAddr 0, .int (nI 8)] [] (xe_aI h 28 (fb_put (xe_I h 28) (fun i => sx (bn w i)) len 8)) Q := by
    intro m
    induction m with
    | zero =>
      intro i hi
      have : i = 8 := by omega
      subst this
      rw [xs_21_18, xs_21_19, xs_21_21, if_pos (by decide)]
    | succ m ih =>
      intro i hi
      have e1 : (8 ≤ nI i) = False := by rw [show (8 : Int32) = nI 8 from rfl, fl_n (by omega) (by omega)]; exact eq_false (by omega)
      have e2 : xe_I (xe_aI h 28 (fb_put (xe_I h 28) (fun i => sx (bn w i)) len i)) 27 1 = nI len := by rw [hI_aI, if_neg (by decide), e]
      have e3 : (w >>> ((56 - 8 * nI i : Int32).toInt64 &&& 63)).toInt32.toInt8.toInt32.toInt8.toInt32 = sx (bn w i) := bn_sx w i
      rw [xs_21_18, xs_21_19, xs_21_21, if_neg (of_eq_false e1)]
      simp only [xs_21_24, xs_21_25, xs_21_28, xs_21_29, xs_21_32, xs_21_33, xs_21_34, xs_21_35, xs_21_37, xs_21_39, xs_21_40, xs_21_41, xs_21_42, xs_21_43, xs_21_44, xs_21_45 (show xe_T (xe_aI h 28 (fb_put (xe_I h 28) (fun i => sx (bn w i)) len i)) 28 = 10 from (sT_28 H).2), xs_21_46, xs_21_49, ↓reduceIte, H, sT_0, sT_1, sT_2, sN_2, sA_2, sT_3, sN_3, sA_3, sT_4, sN_4, sA_4, sT_5, sN_5, sA_5, sT_6, sN_6, sA_6, sT_7, sT_8, sN_8, sA_8, sT_9, sN_9, sA_9, sT_10, sN_10, sA_10, sT_11, sN_11, sA_11, sT_12, sN_12, sA_12, sT_13, sN_13, sT_14, sT_15, sN_15, sA_15, sT_16, sN_16, sA_16, sT_17, sN_17, sA_17, sT_18, sN_18, sA_18, sT_19, sN_19, sA_19, sT_20, sT_21, sN_21, sA_21, sT_22, sN_22, sA_22, sT_23, sN_23, sA_23, sT_24, sN_24, sA_24, sT_25, sN_25, sA_25, sT_26, sN_26, sB_26, sT_27, sT_28, sN_28, sB_28, sT_29, sT_30, sN_30, sT_32, sN_32, sA_32, sT_33, sT_34, sN_34, sA_34, sT_35, sN_35, sA_35, sT_36, sT_37, sN_37, sA_37, sT_38, sN_38, sA_38, sT_39, sN_39, sA_39, sT_40, sN_40, sB_40, sT_41, sN_41, sA_41, sT_42, sN_42, sA_42, sT_43, sN_43, sA_43, sT_44, sT_45, sN_45, sA_45, sT_46, sN_46, sA_46, sT_47, sN_47, sA_47, sR_1_7, sR_1_8, sR_1_9, sR_1_10, sR_1_11, sR_0_0, sR_7_7, sR_7_8, sR_7_9, sR_7_10, sR_7_11, sR_0_1, sR_0_2, sR_14_7, sR_14_8, sR_14_9, sR_14_10, sR_14_11, sR_13_0, sR_20_7, sR_20_8, sR_20_9, sR_20_10, sR_20_11, sR_13_1, sR_0_3, sR_0_4, sR_27_0, sR_0_5, sR_29_0, sR_29_3, sR_0_6, sR_33_1, sR_33_2, sR_0_7, sR_36_2, sR_36_3, sR_36_4, sR_36_5, sR_36_6, sR_36_7, sR_36_8, sR_0_8, sR_44_0, sR_44_1, sR_44_2, rf_some, xc_int, xc_ref, xc_ret, xc_long, xw_nil, xw_int, xw_ref, xw_long, tl_some, tl_none, true_and, and_true, Nat.zero_le, Nat.reduceAdd, Nat.reduceMul, Nat.reduceLeDiff, Nat.reduceLT, Nat.reduceEqDiff, Nat.reducePow, Int32.reduceAdd, Int32.reduceMul, Int32.reduceSub, Int32.reduceLT, Int32.reduceLE, Int32.reduceToNatClampNeg, litE, ixU, not_false_eq_true, not_true_eq_false, ↓reduceIte, eq_self, true_or, or_true, false_and, and_false, or_false, false_or, i10, i01, in10, i1n, xbT, xbF, r_lt, hI_sI, hL_sI, hR_sI, hT_sI, hN_sI, hn_sI, ho_sI, hia_sI, hba_sI, hal_sI, hix_sI, hI_aI, hL_aI, hR_aI, hT_aI, hN_aI, hn_aI, ho_aI, hia_aI, hal_aI, hix_aI, sh_sI, sh_aI, sh_sL, sh_aL, e2, nI_add, e3, nIlt0 (show len + i < 2 ^ 31 by omega), nI_clamp (show len + i < 2 ^ 31 by omega), show len + i < 320 by omega, sI_aI, nI_1]
      rw [fb_put_succ (xe_I h 28) (fun i => sx (bn w i)) len i]
      exact ih (i + 1) (by omega)
  have l0 := loop 8 0 (by omega)
  rw [fb_put_0, aI_self] at l0
  have e1 : (nI (len + 8) ≤ 320) = True := by rw [show (320 : Int32) = nI 320 from rfl, fl_n (by omega) (by omega)]; exact eq_true (by omega)
  have e2 : xe_I (xe_aI h 28 (fb_put (xe_I h 28) (fun i => sx (bn w i)) len 8)) 27 1 = nI len := by rw [hI_aI, if_neg (by decide), e]
  simp only [xs_21, xs_21_0, xs_21_1, xs_21_4, xs_21_6, xs_21_7, xs_21_10, xs_21_13, xs_21_15, xs_21_16, xs_21_17, H, sT_0, sT_1, sT_2, sN_2, sA_2, sT_3, sN_3, sA_3, sT_4, sN_4, sA_4, sT_5, sN_5, sA_5, sT_6, sN_6, sA_6, sT_7, sT_8, sN_8, sA_8, sT_9, sN_9, sA_9, sT_10, sN_10, sA_10, sT_11, sN_11, sA_11, sT_12, sN_12, sA_12, sT_13, sN_13, sT_14, sT_15, sN_15, sA_15, sT_16, sN_16, sA_16, sT_17, sN_17, sA_17, sT_18, sN_18, sA_18, sT_19, sN_19, sA_19, sT_20, sT_21, sN_21, sA_21, sT_22, sN_22, sA_22, sT_23, sN_23, sA_23, sT_24, sN_24, sA_24, sT_25, sN_25, sA_25, sT_26, sN_26, sB_26, sT_27, sT_28, sN_28, sB_28, sT_29, sT_30, sN_30, sT_32, sN_32, sA_32, sT_33, sT_34, sN_34, sA_34, sT_35, sN_35, sA_35, sT_36, sT_37, sN_37, sA_37, sT_38, sN_38, sA_38, sT_39, sN_39, sA_39, sT_40, sN_40, sB_40, sT_41, sN_41, sA_41, sT_42, sN_42, sA_42, sT_43, sN_43, sA_43, sT_44, sT_45, sN_45, sA_45, sT_46, sN_46, sA_46, sT_47, sN_47, sA_47, sR_1_7, sR_1_8, sR_1_9, sR_1_10, sR_1_11, sR_0_0, sR_7_7, sR_7_8, sR_7_9, sR_7_10, sR_7_11, sR_0_1, sR_0_2, sR_14_7, sR_14_8, sR_14_9, sR_14_10, sR_14_11, sR_13_0, sR_20_7, sR_20_8, sR_20_9, sR_20_10, sR_20_11, sR_13_1, sR_0_3, sR_0_4, sR_27_0, sR_0_5, sR_29_0, sR_29_3, sR_0_6, sR_33_1, sR_33_2, sR_0_7, sR_36_2, sR_36_3, sR_36_4, sR_36_5, sR_36_6, sR_36_7, sR_36_8, sR_0_8, sR_44_0, sR_44_1, sR_44_2, rf_some, xc_int, xc_ref, xc_ret, xc_long, xw_nil, xw_int, xw_ref, xw_long, tl_some, tl_none, true_and, and_true, Nat.zero_le, Nat.reduceAdd, Nat.reduceMul, Nat.reduceLeDiff, Nat.reduceLT, Nat.reduceEqDiff, Nat.reducePow, Int32.reduceAdd, Int32.reduceMul, Int32.reduceSub, Int32.reduceLT, Int32.reduceLE, Int32.reduceToNatClampNeg, litE, ixU, not_false_eq_true, not_true_eq_false, ↓reduceIte, eq_self, true_or, or_true, false_and, and_false, or_false, false_or, i10, i01, in10, i1n, xbT, xbF, r_lt, e, nI_lit8, e1]
  rw [show (0 : Int32) = nI 0 from rfl, l0]
  simp only [xs_21_52, xs_21_53, xs_21_53i, xs_21_54, xs_21_57, xs_21_59, xs_21_60, xs_21_63, xs_21_64, xs_21_67, H, sT_0, sT_1, sT_2, sN_2, sA_2, sT_3, sN_3, sA_3, sT_4, sN_4, sA_4, sT_5, sN_5, sA_5, sT_6, sN_6, sA_6, sT_7, sT_8, sN_8, sA_8, sT_9, sN_9, sA_9, sT_10, sN_10, sA_10, sT_11, sN_11, sA_11, sT_12, sN_12, sA_12, sT_13, sN_13, sT_14, sT_15, sN_15, sA_15, sT_16, sN_16, sA_16, sT_17, sN_17, sA_17, sT_18, sN_18, sA_18, sT_19, sN_19, sA_19, sT_20, sT_21, sN_21, sA_21, sT_22, sN_22, sA_22, sT_23, sN_23, sA_23, sT_24, sN_24, sA_24, sT_25, sN_25, sA_25, sT_26, sN_26, sB_26, sT_27, sT_28, sN_28, sB_28, sT_29, sT_30, sN_30, sT_32, sN_32, sA_32, sT_33, sT_34, sN_34, sA_34, sT_35, sN_35, sA_35, sT_36, sT_37, sN_37, sA_37, sT_38, sN_38, sA_38, sT_39, sN_39, sA_39, sT_40, sN_40, sB_40, sT_41, sN_41, sA_41, sT_42, sN_42, sA_42, sT_43, sN_43, sA_43, sT_44, sT_45, sN_45, sA_45, sT_46, sN_46, sA_46, sT_47, sN_47, sA_47, sR_1_7, sR_1_8, sR_1_9, sR_1_10, sR_1_11, sR_0_0, sR_7_7, sR_7_8, sR_7_9, sR_7_10, sR_7_11, sR_0_1, sR_0_2, sR_14_7, sR_14_8, sR_14_9, sR_14_10, sR_14_11, sR_13_0, sR_20_7, sR_20_8, sR_20_9, sR_20_10, sR_20_11, sR_13_1, sR_0_3, sR_0_4, sR_27_0, sR_0_5, sR_29_0, sR_29_3, sR_0_6, sR_33_1, sR_33_2, sR_0_7, sR_36_2, sR_36_3, sR_36_4, sR_36_5, sR_36_6, sR_36_7, sR_36_8, sR_0_8, sR_44_0, sR_44_1, sR_44_2, rf_some, xc_int, xc_ref, xc_ret, xc_long, xw_nil, xw_int, xw_ref, xw_long, tl_some, tl_none, true_and, and_true, Nat.zero_le, Nat.reduceAdd, Nat.reduceMul, Nat.reduceLeDiff, Nat.reduceLT, Nat.reduceEqDiff, Nat.reducePow, Int32.reduceAdd, Int32.reduceMul, Int32.reduceSub, Int32.reduceLT, Int32.reduceLE, Int32.reduceToNatClampNeg, litE, ixU, not_false_eq_true, not_true_eq_false, ↓reduceIte, eq_self, true_or, or_true, false_and, and_false, or_false, false_or, i10, i01, in10, i1n, xbT, xbF, r_lt, hI_sI, hL_sI, hR_sI, hT_sI, hN_sI, hn_sI, ho_sI, hia_sI, hba_sI, hal_sI, hix_sI, hI_aI, hL_aI, hR_aI, hT_aI, hN_aI, hn_aI, ho_aI, hia_aI, hal_aI, hix_aI, sh_sI, sh_aI, sh_sL, sh_aL, e2, nI_lit8]
theorem tl_feed (H : sh h) (w : Int64) {len : Nat} (hl : len + 8 ≤ 320) (e : xe_I h 27 1 = nI len) : xe_C (d + 2) 83 [.ref 0, .long w] h Q = Q (some (.int (nI (len + 8)))) (xe_sI (xe_aI h 28 (fb_put (xe_I h 28) (fun i => sx (bn w i)) len 8)) 27 1 (nI (len + 8))) := by
  simp only [xs_83, xs_83_0, xs_83_1, xs_83_4, xs_83_5, xs_83_8, H, sT_0, sT_1, sT_2, sN_2, sA_2, sT_3, sN_3, sA_3, sT_4, sN_4, sA_4, sT_5, sN_5, sA_5, sT_6, sN_6, sA_6, sT_7, sT_8, sN_8, sA_8, sT_9, sN_9, sA_9, sT_10, sN_10, sA_10, sT_11, sN_11, sA_11, sT_12, sN_12, sA_12, sT_13, sN_13, sT_14, sT_15, sN_15, sA_15, sT_16, sN_16, sA_16, sT_17, sN_17, sA_17, sT_18, sN_18, sA_18, sT_19, sN_19, sA_19, sT_20, sT_21, sN_21, sA_21, sT_22, sN_22, sA_22, sT_23, sN_23, sA_23, sT_24, sN_24, sA_24, sT_25, sN_25, sA_25, sT_26, sN_26, sB_26, sT_27, sT_28, sN_28, sB_28, sT_29, sT_30, sN_30, sT_32, sN_32, sA_32, sT_33, sT_34, sN_34, sA_34, sT_35, sN_35, sA_35, sT_36, sT_37, sN_37, sA_37, sT_38, sN_38, sA_38, sT_39, sN_39, sA_39, sT_40, sN_40, sB_40, sT_41, sN_41, sA_41, sT_42, sN_42, sA_42, sT_43, sN_43, sA_43, sT_44, sT_45, sN_45, sA_45, sT_46, sN_46, sA_46, sT_47, sN_47, sA_47, sR_1_7, sR_1_8, sR_1_9, sR_1_10, sR_1_11, sR_0_0, sR_7_7, sR_7_8, sR_7_9, sR_7_10, sR_7_11, sR_0_1, sR_0_2, sR_14_7, sR_14_8, sR_14_9, sR_14_10, sR_14_11, sR_13_0, sR_20_7, sR_20_8, sR_20_9, sR_20_10, sR_20_11, sR_13_1, sR_0_3, sR_0_4, sR_27_0, sR_0_5, sR_29_0, sR_29_3, sR_0_6, sR_33_1, sR_33_2, sR_0_7, sR_36_2, sR_36_3, sR_36_4, sR_36_5, sR_36_6, sR_36_7, sR_36_8, sR_0_8, sR_44_0, sR_44_1, sR_44_2, rf_some, xc_int, xc_ref, xc_ret, xc_long, xw_nil, xw_int, xw_ref, xw_long, tl_some, tl_none, true_and, and_true, Nat.zero_le, Nat.reduceAdd, Nat.reduceMul, Nat.reduceLeDiff, Nat.reduceLT, Nat.reduceEqDiff, Nat.reducePow, Int32.reduceAdd, Int32.reduceMul, Int32.reduceSub, Int32.reduceLT, Int32.reduceLE, Int32.reduceToNatClampNeg, litE, ixU, not_false_eq_true, not_true_eq_false, ↓reduceIte, eq_self, true_or, or_true, false_and, and_false, or_false, false_or, i10, i01, in10, i1n, xbT, xbF, r_lt, tl_take H w hl e]
theorem md_feed (H : sh h) (w : Int64) {len : Nat} (hl : len + 8 ≤ 320) (e : xe_I h 48 12 = nI len) : xe_C (d + 2) 121 [.ref 48, .long w] h Q = Q (some (.int (nI (len + 8)))) (xe_sI (xe_aI h 53 (fb_put (xe_I h 53) (fun i => nI (bn w i)) len 8)) 48 12 (nI (len + 8))) := by
  have loop : ∀ m i, i + m = 8 → xe_P (d + 1) 121 19 [.ref 48, .long w, .retAddr 0, .int (56 - 8 * nI i)] [] (xe_sI (xe_aI h 53 (fb_put (xe_I h 53) (fun i => nI (bn w i)) len i)) 48 12 (nI (len + i))) Q = xe_P (d + 1) 121 56 [.ref 48, .long w, .retAddr 0, .int (56 - 8 * nI 8)] [] (xe_sI (xe_aI h 53 (fb_put (xe_I h 53) (fun i => nI (bn w i)) len 8)) 48 12 (nI (len + 8))) Q := by
    intro m
    induction m with
    | zero =>
      intro i hi
      have : i = 8 := by omega
      subst this
      rw [xs_121_19, xs_121_20, if_pos (by decide)]
    | succ m ih =>
      intro i hi
      have e1 : ((56 - 8 * nI i : Int32) < 0) = False := by
        rcases (show i = 0 ∨ i = 1 ∨ i = 2 ∨ i = 3 ∨ i = 4 ∨ i = 5 ∨ i = 6 ∨ i = 7 by omega) with rfl | rfl | rfl | rfl | rfl | rfl | rfl | rfl <;> exact eq_false (by decide)
      have e4 : (56 - 8 * nI i : Int32) + (-8) = 56 - 8 * nI (i + 1) := by
        rcases (show i = 0 ∨ i = 1 ∨ i = 2 ∨ i = 3 ∨ i = 4 ∨ i = 5 ∨ i = 6 ∨ i = 7 by omega) with rfl | rfl | rfl | rfl | rfl | rfl | rfl | rfl <;> decide
      have e3 : (w >>> ((56 - 8 * nI i : Int32).toInt64 &&& 63)).toInt32 &&& 255 = nI (bn w i) := (bn_lt (bw w i)).2
      rw [xs_121_19, xs_121_20, if_neg (of_eq_false e1)]
      simp only [xs_121_23, xs_121_24, xs_121_27, xs_121_28, xs_121_31, xs_121_32, xs_121_33, xs_121_34, xs_121_35, xs_121_38, xs_121_39, xs_121_40, xs_121_41, xs_121_41i, xs_121_42, xs_121_45, xs_121_46, xs_121_47, xs_121_50, xs_121_53, ↓reduceIte, H, sT_48, sT_49, sN_49, sA_49, sT_50, sN_50, sA_50, sT_51, sN_51, sA_51, sT_52, sN_52, sA_52, sT_53, sN_53, sA_53, sT_54, sN_54, sA_54, sT_55, sN_55, sA_55, sT_56, sN_56, sA_56, sT_57, sN_57, sA_57, sT_58, sN_58, sA_58, sT_59, sN_59, sA_59, sT_60, sN_60, sA_60, sT_61, sN_61, sA_61, sT_62, sN_62, sA_62, sT_63, sN_63, sA_63, sT_64, sN_64, sA_64, sT_65, sN_65, sA_65, sT_66, sN_66, sA_66, sT_67, sN_67, sA_67, sT_68, sN_68, sB_68, sT_69, sN_69, sA_69, sT_70, sN_70, sA_70, sT_71, sN_71, sA_71, sR_48_0, sR_48_2, sR_48_9, sR_48_10, sR_48_11, sR_48_20, sR_48_21, sR_48_22, sR_48_23, sR_48_24, sR_48_26, sR_48_27, sR_48_28, sR_48_29, sR_48_30, sR_48_31, sR_48_33, sR_48_34, sR_48_35, sR_48_36, sR_48_37, sR_48_38, sR_48_39, rf_some, xc_int, xc_ref, xc_ret, xc_long, xw_nil, xw_int, xw_ref, xw_long, tl_some, tl_none, true_and, and_true, Nat.zero_le, Nat.reduceAdd, Nat.reduceMul, Nat.reduceLeDiff, Nat.reduceLT, Nat.reduceEqDiff, Nat.reducePow, Int32.reduceAdd, Int32.reduceMul, Int32.reduceSub, Int32.reduceLT, Int32.reduceLE, Int32.reduceToNatClampNeg, litE, ixU, not_false_eq_true, not_true_eq_false, ↓reduceIte, eq_self, true_or, or_true, false_and, and_false, or_false, false_or, i10, i01, in10, i1n, xbT, xbF, r_lt, hI_sI, hL_sI, hR_sI, hT_sI, hN_sI, hn_sI, ho_sI, hia_sI, hba_sI, hal_sI, hix_sI, hI_aI, hL_aI, hR_aI, hT_aI, hN_aI, hn_aI, ho_aI, hia_aI, hal_aI, hix_aI, sh_sI, sh_aI, sh_sL, sh_aL, and_self, e3, nIlt0 (show len + i < 2 ^ 31 by omega), nI_clamp (show len + i < 2 ^ 31 by omega), show len + i < 320 by omega, nI_1, e4]
      rw [sI_comm (h := xe_aI h 53 _) _ _ (by omega), sI_sI, sI_aI, fb_put_succ (xe_I h 53) (fun i => nI (bn w i)) len i]
      exact ih (i + 1) (by omega)
  have l0 := loop 8 0 (by omega)
  have e5 : xe_sI (xe_aI h 53 (fb_put (xe_I h 53) (fun i => nI (bn w i)) len 0)) 48 12 (nI (len + 0)) = h := by
    rw [fb_put_0, aI_self, Nat.add_zero, ← e]
    refine xe_ext rfl rfl (fun _ => rfl) (fun _ => rfl) (fun b j => ?_) rfl rfl
    rw [hI_sI]
    split
    · rename_i z; rw [z.1, z.2]
    · rfl
  rw [e5] at l0
  have e1 : (nI (len + 8) ≤ 320) = True := by rw [show (320 : Int32) = nI 320 from rfl, fl_n (by omega) (by omega)]; exact eq_true (by omega)
  simp only [xs_121, xs_121_0, xs_121_1, xs_121_4, xs_121_6, xs_121_7, xs_121_10, xs_121_13, xs_121_15, xs_121_16, xs_121_18, H, sT_48, sT_49, sN_49, sA_49, sT_50, sN_50, sA_50, sT_51, sN_51, sA_51, sT_52, sN_52, sA_52, sT_53, sN_53, sA_53, sT_54, sN_54, sA_54, sT_55, sN_55, sA_55, sT_56, sN_56, sA_56, sT_57, sN_57, sA_57, sT_58, sN_58, sA_58, sT_59, sN_59, sA_59, sT_60, sN_60, sA_60, sT_61, sN_61, sA_61, sT_62, sN_62, sA_62, sT_63, sN_63, sA_63, sT_64, sN_64, sA_64, sT_65, sN_65, sA_65, sT_66, sN_66, sA_66, sT_67, sN_67, sA_67, sT_68, sN_68, sB_68, sT_69, sN_69, sA_69, sT_70, sN_70, sA_70, sT_71, sN_71, sA_71, sR_48_0, sR_48_2, sR_48_9, sR_48_10, sR_48_11, sR_48_20, sR_48_21, sR_48_22, sR_48_23, sR_48_24, sR_48_26, sR_48_27, sR_48_28, sR_48_29, sR_48_30, sR_48_31, sR_48_33, sR_48_34, sR_48_35, sR_48_36, sR_48_37, sR_48_38, sR_48_39, rf_some, xc_int, xc_ref, xc_ret, xc_long, xw_nil, xw_int, xw_ref, xw_long, tl_some, tl_none, true_and, and_true, Nat.zero_le, Nat.reduceAdd, Nat.reduceMul, Nat.reduceLeDiff, Nat.reduceLT, Nat.reduceEqDiff, Nat.reducePow, Int32.reduceAdd, Int32.reduceMul, Int32.reduceSub, Int32.reduceLT, Int32.reduceLE, Int32.reduceToNatClampNeg, litE, ixU, not_false_eq_true, not_true_eq_false, ↓reduceIte, eq_self, true_or, or_true, false_and, and_false, or_false, false_or, i10, i01, in10, i1n, xbT, xbF, r_lt, e, nI_lit8, e1]
  rw [show (56 : Int32) = 56 - 8 * nI 0 from by decide, l0]
  simp only [xs_121_56, xs_121_57, xs_121_60, H, sT_48, sT_49, sN_49, sA_49, sT_50, sN_50, sA_50, sT_51, sN_51, sA_51, sT_52, sN_52, sA_52, sT_53, sN_53, sA_53, sT_54, sN_54, sA_54, sT_55, sN_55, sA_55, sT_56, sN_56, sA_56, sT_57, sN_57, sA_57, sT_58, sN_58, sA_58, sT_59, sN_59, sA_59, sT_60, sN_60, sA_60, sT_61, sN_61, sA_61, sT_62, sN_62, sA_62, sT_63, sN_63, sA_63, sT_64, sN_64, sA_64, sT_65, sN_65, sA_65, sT_66, sN_66, sA_66, sT_67, sN_67, sA_67, sT_68, sN_68, sB_68, sT_69, sN_69, sA_69, sT_70, sN_70, sA_70, sT_71, sN_71, sA_71, sR_48_0, sR_48_2, sR_48_9, sR_48_10, sR_48_11, sR_48_20, sR_48_21, sR_48_22, sR_48_23, sR_48_24, sR_48_26, sR_48_27, sR_48_28, sR_48_29, sR_48_30, sR_48_31, sR_48_33, sR_48_34, sR_48_35, sR_48_36, sR_48_37, sR_48_38, sR_48_39, rf_some, xc_int, xc_ref, xc_ret, xc_long, xw_nil, xw_int, xw_ref, xw_long, tl_some, tl_none, true_and, and_true, Nat.zero_le, Nat.reduceAdd, Nat.reduceMul, Nat.reduceLeDiff, Nat.reduceLT, Nat.reduceEqDiff, Nat.reducePow, Int32.reduceAdd, Int32.reduceMul, Int32.reduceSub, Int32.reduceLT, Int32.reduceLE, Int32.reduceToNatClampNeg, litE, ixU, not_false_eq_true, not_true_eq_false, ↓reduceIte, eq_self, true_or, or_true, false_and, and_false, or_false, false_or, i10, i01, in10, i1n, xbT, xbF, r_lt, hI_sI, hL_sI, hR_sI, hT_sI, hN_sI, hn_sI, ho_sI, hia_sI, hba_sI, hal_sI, hix_sI, hI_aI, hL_aI, hR_aI, hT_aI, hN_aI, hn_aI, ho_aI, hia_aI, hal_aI, hix_aI, sh_sI, sh_aI, sh_sL, sh_aL, and_self]
end FD
/-- rows 4, 5, 6 of the state changed -/
theorem Inv_ss {L : Nat} {xs : Nat → Int32} {s s' : Nat → Nat → Nat} {ce : Nat → Int32} {h h' : xe_H} (HI : Inv L xs s ce h) (r0 : ∀ a, a ≠ 4 → a ≠ 5 → a ≠ 6 → s' a = s a) (hp : pOK s') (hs : sh h') (hr : rm h') (hT : cTp s' h') (hS : cSn s' h') (h9 : xe_I h' 0 9 = nI (s' 5 3)) (mT : mTp s' h') (mS : mSn s' h') (m9 : xe_I h' 48 40 = nI (s' 5 3))
    (e : ∀ a j, (cc a j ∨ cm' a j ∨ xe_S ≤ a) → ¬ (a = 27 ∨ a = 28 ∨ a = 36 ∨ a = 38 ∨ a = 39 ∨ a = 40 ∨ a = 0) → ¬ (a = 48 ∧ j ≠ 1) → ¬ (a = 53 ∨ a = 64) → xe_I h' a j = xe_I h a j) (eT : ∀ a, xe_S ≤ a → xe_T h' a = xe_T h a ∧ xe_N h' a = xe_N h a) : Inv L xs s' ce h' := by
  obtain ⟨h1, h2, h3, h4, h5, h6⟩ := HI
  obtain ⟨c1, c2, c3, c4, c5, c6⟩ := h5
  obtain ⟨m1, m2, m3, m4, m5, m6, m7⟩ := h6
  have ec : ∀ a j, cc a j → ¬ (a = 27 ∨ a = 28 ∨ a = 36 ∨ a = 38 ∨ a = 39 ∨ a = 40 ∨ a = 0) → xe_I h' a j = xe_I h a j := fun a j q z => e a j (Or.inl q) z (fun y => by unfold cc at q; omega) (fun y => by unfold cc at q; omega)
  have em : ∀ a j, cm' a j → ¬ (a = 48 ∧ j ≠ 1) → ¬ (a = 53 ∨ a = 64) → xe_I h' a j = xe_I h a j := fun a j q z z2 => e a j (Or.inr (Or.inl q)) (fun y => by unfold cm' at q; omega) z z2
  refine ⟨hs, hr, fun a ha => ⟨fun j => ?_, ?_, ?_⟩, hp, ⟨?_, ?_, hT, hS, ?_, h9⟩, ⟨⟨?_, ?_⟩, ?_, mT, mS, ?_, m9, mWd_c m7 (fun j => em 54 j (by unfold cm'; omega) (by omega) (by omega)) (fun j => em 55 j (by unfold cm'; omega) (by omega) (by omega))⟩⟩
  · have hS : 72 ≤ a := Nat.le_trans (by decide) ha
    rw [e a j (Or.inr (Or.inr ha)) (by omega) (by omega) (by omega)]; exact (h3 a ha).1 j
  · rw [(eT a ha).1]; exact (h3 a ha).2.1
  · rw [(eT a ha).2]; exact (h3 a ha).2.2
  · rw [r0 0 (by decide) (by decide) (by decide)]
    exact tn_v_c c1 (fun a j x1 x2 => ec a j (by unfold cc; omega) (by omega))
  · unfold cIm
    rw [r0 3 (by decide) (by decide) (by decide), r0 1 (by decide) (by decide) (by decide), r0 2 (by decide) (by decide) (by decide)]
    exact cIm_c c2 (fun a j x1 x2 => ec a j (by unfold cc; omega) (by omega))
  · unfold cSh
    rw [r0 7 (by decide) (by decide) (by decide), r0 8 (by decide) (by decide) (by decide)]
    exact cSh_c c5 (fun a j x1 x2 => ec a j (by unfold cc; omega) (by omega))
  · rw [r0 0 (by decide) (by decide) (by decide)]
    exact mp_c h4.1 m1.1 (fun j x1 x2 => em 49 j (by unfold cm'; omega) (by omega) (by omega))
  · rw [r0 0 (by decide) (by decide) (by decide), em 48 1 (by unfold cm'; omega) (by omega) (by omega)]
    exact m1.2
  · unfold mIm
    rw [r0 3 (by decide) (by decide) (by decide), r0 1 (by decide) (by decide) (by decide), r0 2 (by decide) (by decide) (by decide)]
    exact mIm_c h4 m2 (fun j x1 x2 => em 49 j (by unfold cm'; omega) (by omega) (by omega)) (fun j => em 68 j (by unfold cm'; omega) (by omega) (by omega))
  · unfold mSh
    rw [r0 7 (by decide) (by decide) (by decide), r0 8 (by decide) (by decide) (by decide)]
    exact mSh_c m5 (fun a j x1 x2 => em a j (by unfold cm'; omega) (by omega) (by omega))
/-- the state behind eight bytes more -/
def sFd (s : Nat → Nat → Nat) (w : Int64) : Nat → Nat → Nat := fun a => if a = 4 then fb_put (s 4) (bn w) (s 5 0) 8 else if a = 5 then up (s 5) 0 (s 5 0 + 8) else s a
theorem ok_feed {L : Nat} {xs : Nat → Int32} {s : Nat → Nat → Nat} {ce : Nat → Int32} {h : xe_H} (HI : Inv L xs s ce h) (w : Int64) : ok2 L xs 83 121 [.long w] h := by
  intro d
  obtain ⟨H, hr, hv, hp, ⟨c1, c2, c3, c4, c5, c6⟩, ⟨m1, m2, m3, m4, m5, m6, m7⟩⟩ := id HI
  have h6 : s 5 0 ≤ 320 := hp.2.2.1.1
  by_cases q : s 5 0 + 8 ≤ 320
  · rw [tl_feed (h := h) H w q c3.1]
    rw [md_feed (h := xe_sI (xe_aI h 28 _) 27 1 _) H w q (by rw [hI_sI, if_neg (by omega), hI_aI, if_neg (by decide)]; exact m3.1)]
    have hF : ∀ k, k < s 5 0 + 8 → ¬ k < s 5 0 → (s 5 0 ≤ k ∧ k < s 5 0 + 8) := fun k h1 h2 => by omega
    refine ⟨⟨_, rfl, rfl⟩, sFd s w, ce, Inv_ss HI (fun a h1 h2 h3 => by unfold sFd; rw [if_neg h1, if_neg h2]) ?_ H hr ⟨rfl, c3.2.1, fun k hk => ?_⟩ ⟨c4.1, c4.2⟩ c6 ⟨rfl, m3.2.1, fun k hk => ?_⟩ ⟨m4.1, m4.2⟩ m6 (fun a j q z1 z2 z3 => ?_) (fun a ha => ⟨rfl, rfl⟩)⟩
    · obtain ⟨p1, p2, p3, p4, p5, p6, p7⟩ := hp
      refine ⟨p1, p2, ⟨q, fun k hk => ?_⟩, p4, p5, p6, p7⟩
      show fb_put (s 4) (bn w) (s 5 0) 8 k < 256
      unfold fb_put
      split
      · exact (bn_lt _).1
      · exact p3.2 k (by have : k < s 5 0 + 8 := hk; omega)
    · have hk2 : k < s 5 0 + 8 := hk
      rw [hI_sI, if_neg (by omega), hI_aI, if_neg (by decide), hI_sI, if_neg (by omega), hI_aI, if_pos rfl]
      show fb_put (xe_I h 28) (fun i => sx (bn w i)) (s 5 0) 8 k = sx (fb_put (s 4) (bn w) (s 5 0) 8 k)
      unfold fb_put
      by_cases z : k < s 5 0
      · rw [if_neg (by omega), if_neg (by omega)]; exact c3.2.2 k z
      · rw [if_pos (hF k hk2 z), if_pos (hF k hk2 z)]
    · have hk2 : k < s 5 0 + 8 := hk
      rw [hI_sI, if_neg (by omega), hI_aI, if_pos rfl]
      show fb_put (xe_I _ 53) (fun i => nI (bn w i)) (s 5 0) 8 k = nI (fb_put (s 4) (bn w) (s 5 0) 8 k)
      unfold fb_put
      by_cases z : k < s 5 0
      · rw [if_neg (by omega), if_neg (by omega), hI_sI, if_neg (by omega), hI_aI, if_neg (by decide)]; exact m3.2.2 k z
      · rw [if_pos (hF k hk2 z), if_pos (hF k hk2 z)]
    · rw [hI_sI, if_neg (by omega), hI_aI, if_neg (by omega), hI_sI, if_neg (by omega), hI_aI, if_neg (by omega)]
  · have e1 : (nI (s 5 0 + 8) ≤ 320) = False := by rw [show (320 : Int32) = nI 320 from rfl, fl_n (by omega) (by omega)]; exact eq_false (by omega)
    simp only [xs_83, xs_83_0, xs_83_1, xs_83_4, xs_83_5, xs_83_8, xs_21, xs_21_0, xs_21_1, xs_21_4, xs_21_6, xs_21_7, xs_21_10, xs_21_13, xs_21_15, xs_121, xs_121_0, xs_121_1, xs_121_4, xs_121_6, xs_121_7, xs_121_10, xs_121_13, xs_121_15, H, sT_0, sT_1, sT_2, sN_2, sA_2, sT_3, sN_3, sA_3, sT_4, sN_4, sA_4, sT_5, sN_5, sA_5, sT_6, sN_6, sA_6, sT_7, sT_8, sN_8, sA_8, sT_9, sN_9, sA_9, sT_10, sN_10, sA_10, sT_11, sN_11, sA_11, sT_12, sN_12, sA_12, sT_13, sN_13, sT_14, sT_15, sN_15, sA_15, sT_16, sN_16, sA_16, sT_17, sN_17, sA_17, sT_18, sN_18, sA_18, sT_19, sN_19, sA_19, sT_20, sT_21, sN_21, sA_21, sT_22, sN_22, sA_22, sT_23, sN_23, sA_23, sT_24, sN_24, sA_24, sT_25, sN_25, sA_25, sT_26, sN_26, sB_26, sT_27, sT_28, sN_28, sB_28, sT_29, sT_30, sN_30, sT_32, sN_32, sA_32, sT_33, sT_34, sN_34, sA_34, sT_35, sN_35, sA_35, sT_36, sT_37, sN_37, sA_37, sT_38, sN_38, sA_38, sT_39, sN_39, sA_39, sT_40, sN_40, sB_40, sT_41, sN_41, sA_41, sT_42, sN_42, sA_42, sT_43, sN_43, sA_43, sT_44, sT_45, sN_45, sA_45, sT_46, sN_46, sA_46, sT_47, sN_47, sA_47, sR_1_7, sR_1_8, sR_1_9, sR_1_10, sR_1_11, sR_0_0, sR_7_7, sR_7_8, sR_7_9, sR_7_10, sR_7_11, sR_0_1, sR_0_2, sR_14_7, sR_14_8, sR_14_9, sR_14_10, sR_14_11, sR_13_0, sR_20_7, sR_20_8, sR_20_9, sR_20_10, sR_20_11, sR_13_1, sR_0_3, sR_0_4, sR_27_0, sR_0_5, sR_29_0, sR_29_3, sR_0_6, sR_33_1, sR_33_2, sR_0_7, sR_36_2, sR_36_3, sR_36_4, sR_36_5, sR_36_6, sR_36_7, sR_36_8, sR_0_8, sR_44_0, sR_44_1, sR_44_2, sT_48, sT_49, sN_49, sA_49, sT_50, sN_50, sA_50, sT_51, sN_51, sA_51, sT_52, sN_52, sA_52, sT_53, sN_53, sA_53, sT_54, sN_54, sA_54, sT_55, sN_55, sA_55, sT_56, sN_56, sA_56, sT_57, sN_57, sA_57, sT_58, sN_58, sA_58, sT_59, sN_59, sA_59, sT_60, sN_60, sA_60, sT_61, sN_61, sA_61, sT_62, sN_62, sA_62, sT_63, sN_63, sA_63, sT_64, sN_64, sA_64, sT_65, sN_65, sA_65, sT_66, sN_66, sA_66, sT_67, sN_67, sA_67, sT_68, sN_68, sB_68, sT_69, sN_69, sA_69, sT_70, sN_70, sA_70, sT_71, sN_71, sA_71, sR_48_0, sR_48_2, sR_48_9, sR_48_10, sR_48_11, sR_48_20, sR_48_21, sR_48_22, sR_48_23, sR_48_24, sR_48_26, sR_48_27, sR_48_28, sR_48_29, sR_48_30, sR_48_31, sR_48_33, sR_48_34, sR_48_35, sR_48_36, sR_48_37, sR_48_38, sR_48_39, rf_some, xc_int, xc_ref, xc_ret, xc_long, xw_nil, xw_int, xw_ref, xw_long, tl_some, tl_none, true_and, and_true, Nat.zero_le, Nat.reduceAdd, Nat.reduceMul, Nat.reduceLeDiff, Nat.reduceLT, Nat.reduceEqDiff, Nat.reducePow, Int32.reduceAdd, Int32.reduceMul, Int32.reduceSub, Int32.reduceLT, Int32.reduceLE, Int32.reduceToNatClampNeg, litE, ixU, not_false_eq_true, not_true_eq_false, ↓reduceIte, eq_self, true_or, or_true, false_and, and_false, or_false, false_or, i10, i01, in10, i1n, xbT, xbF, r_lt, c3.1, m3.1, nI_lit8, e1]
    exact ⟨⟨_, rfl, rfl⟩, s, ce, HI⟩
