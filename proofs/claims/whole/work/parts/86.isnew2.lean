/-! ways: a queue twice as long; a state that may be new -/
section WJ
variable {d : Nat} {h : xe_H} {t : Bool}
theorem cl_twice {q M : Nat} {Q : Option Value → xe_H → Prop} (ho : xe_ob h q 9) (hN : xe_N h q = M) (hM0 : 0 < M) (hM : M ≤ 65536) (hn : xe_n h < xe_S) : xe_C (d + 1) 217 [.ref q, .int (nI (2 * M))] h Q = Q (some (.ref (xe_n h))) (xe_aL2 (xe_new h 9 (2 * M)) (xe_n h) (va_cpy (xe_L (xe_new h 9 (2 * M)) q) (xe_L (xe_new h 9 (2 * M)) (xe_n h)) 0 0 M)) := by
  have hal : xe_al h q := ⟨by rw [ho.2]; decide, by rw [ho.2]; decide, Or.inl ho.1⟩
  have e1 : Int32.ofNat (xe_N h q) = nI M := by rw [hN]; rfl
  have e2 : (nI (2 * M) = nI M) = False := eq_false (fun z => by have := (nI_eq (by omega) (by omega)).mp z; omega)
  have hqn : ¬ q = xe_n h := by have := ho.1; omega
  have hT : xe_T (xe_new h 9 (2 * M)) q = 9 := by rw [hT_new, if_neg hqn]; exact ho.2
  have hT2 : xe_T (xe_new h 9 (2 * M)) (xe_n h) = 9 := by rw [hT_new, if_pos rfl]
  have hN1 : xe_N (xe_new h 9 (2 * M)) q = M := by rw [hN_new, if_neg hqn]; exact hN
  have hN2 : xe_N (xe_new h 9 (2 * M)) (xe_n h) = 2 * M := by rw [hN_new, if_pos rfl]
  have hal1 : xe_al (xe_new h 9 (2 * M)) q := ⟨by rw [hT]; decide, by rw [hT]; decide, Or.inl (by rw [hn_new]; have := ho.1; omega)⟩
  have e3 : Int32.ofNat (xe_N (xe_new h 9 (2 * M)) q) = nI M := by rw [hN1]; rfl
  have e4 : (nI (2 * M) < nI M) = False := eq_false (by rw [nI_ltI (by omega) (by omega)]; omega)
  simp only [xs_217, xs_217_0, xs_217_1, xs_217_2, xs_217_3, hal, e1, e2, rf_some, xc_int, xc_ref, xc_ret, xc_long, xw_nil, xw_int, xw_ref, xw_long, tl_some, tl_none, true_and, and_true, Nat.zero_le, Nat.reduceAdd, Nat.reduceMul, Nat.reduceLeDiff, Nat.reduceLT, Nat.reduceEqDiff, Nat.reducePow, Int32.reduceAdd, Int32.reduceMul, Int32.reduceSub, Int32.reduceLT, Int32.reduceLE, Int32.reduceToNatClampNeg, litE, ixU, not_false_eq_true, not_true_eq_false, ↓reduceIte, eq_self, true_or, or_true, false_and, and_false, or_false, false_or, i10, i01, in10, i1n, xbT, xbF, r_lt]
  simp only [xs_217_14, xs_217_15, nIlt0 (show 2 * M < 2 ^ 31 by omega), nI_clamp (show 2 * M < 2 ^ 31 by omega), show 2 * M ≤ 200000 by omega, hn, rf_some, xc_int, xc_ref, xc_ret, xc_long, xw_nil, xw_int, xw_ref, xw_long, tl_some, tl_none, true_and, and_true, Nat.zero_le, Nat.reduceAdd, Nat.reduceMul, Nat.reduceLeDiff, Nat.reduceLT, Nat.reduceEqDiff, Nat.reducePow, Int32.reduceAdd, Int32.reduceMul, Int32.reduceSub, Int32.reduceLT, Int32.reduceLE, Int32.reduceToNatClampNeg, litE, ixU, not_false_eq_true, not_true_eq_false, ↓reduceIte, eq_self, true_or, or_true, false_and, and_false, or_false, false_or, i10, i01, in10, i1n, xbT, xbF, r_lt]
  rw [xs_217_17 hn]
  simp only [xs_217_18, xs_217_19, xs_217_20, xs_217_21, xs_217_22, xs_217_23, xs_217_24, xs_217_25, hal1, e3, e4, rf_some, xc_int, xc_ref, xc_ret, xc_long, xw_nil, xw_int, xw_ref, xw_long, tl_some, tl_none, true_and, and_true, Nat.zero_le, Nat.reduceAdd, Nat.reduceMul, Nat.reduceLeDiff, Nat.reduceLT, Nat.reduceEqDiff, Nat.reducePow, Int32.reduceAdd, Int32.reduceMul, Int32.reduceSub, Int32.reduceLT, Int32.reduceLE, Int32.reduceToNatClampNeg, litE, ixU, not_false_eq_true, not_true_eq_false, ↓reduceIte, eq_self, true_or, or_true, false_and, and_false, or_false, false_or, i10, i01, in10, i1n, xbT, xbF, r_lt]
  rw [xs_217_28 hT hT2]
  have a1 : q < xe_n (xe_new h 9 (2 * M)) := by rw [hn_new]; have := ho.1; omega
  have a2 : xe_n h < xe_n (xe_new h 9 (2 * M)) := by rw [hn_new]; omega
  simp only [xs_217_31, xs_217_32, a1, a2, hN1, hN2, nIlt0 (show M < 2 ^ 31 by omega), nI_clamp (show M < 2 ^ 31 by omega), Nat.zero_add, Nat.le_refl, show M ≤ 2 * M by omega, hn, rf_some, xc_int, xc_ref, xc_ret, xc_long, xw_nil, xw_int, xw_ref, xw_long, tl_some, tl_none, true_and, and_true, Nat.zero_le, Nat.reduceAdd, Nat.reduceMul, Nat.reduceLeDiff, Nat.reduceLT, Nat.reduceEqDiff, Nat.reducePow, Int32.reduceAdd, Int32.reduceMul, Int32.reduceSub, Int32.reduceLT, Int32.reduceLE, Int32.reduceToNatClampNeg, litE, ixU, not_false_eq_true, not_true_eq_false, ↓reduceIte, eq_self, true_or, or_true, false_and, and_false, or_false, false_or, i10, i01, in10, i1n, xbT, xbF, r_lt]
/-- a state that may be new -/
theorem cl_isNew {b : bL} {X m f : Nat} (hX : X < bnd t) (hm : m < 64) (hf : f < 102400) (hb : kn b X = false → b.1 < 102400) (H : sh h) (C : CW t b h) : xe_C (d + 2) 78 [.ref 29, .int (nI (rp (fd X))), .int (nI (we t (X / 4096))), .int (nI (wl t (X / 4096))), .int (nI m), .int (nI f)] h (fun r h' => r = some (.int (if kn b X then 0 else 1)) ∧ wq (fun a j => a = 29 ∧ j = 2) h h' ∧ CW t (bA b X f m) h') := by
  obtain ⟨⟨q, k, C1⟩, K, c4, c2, c5⟩ := C
  obtain ⟨w1, w2⟩ := we_5 hX
  have hK := kx_b hX
  have hK2 : kx t X < 102400 := by
    unfold bnd at hK
    cases t
    · simp only [Bool.false_eq_true, if_false] at hK; omega
    · simp only [if_true] at hK; omega
  have hsh : (nI (we t (X / 4096)) + 5 * nI (wl t (X / 4096))) <<< ((12 : Int32) &&& 31) ||| nI (X % 4096) = nI (kx t X) := by
    rw [show (5 : Int32) = nI 5 from rfl, pk_mul, nI_add, pk_shlN _ 12 (by decide) (by omega), Nat.mul_comm _ (2 ^ 12), fa_or_sum _ (show X % 4096 < 2 ^ 12 by omega)]
    rfl
  have e6 : nI (kx t X) >>> ((6 : Int32) &&& 31) = nI (kx t X / 64) := pk_shrN (by omega) _ 6 (by decide)
  have e63 : nI (kx t X) &&& 63 = nI (kx t X % 64) := by
    rw [show (63 : Int32) = nI (2 ^ 6 - 1) from rfl, fa_mask]
  have hk64 : kx t X % 64 < 64 := Nat.mod_lt _ (by decide)
  have kl : (nI 1600 ≤ nI (kx t X / 64)) = False := lt_f (by omega) (by omega)
  have al30 : xe_al h 30 := ⟨by rw [(sT_30 H).2]; decide, by rw [(sT_30 H).2]; decide, Or.inl (sT_30 H).1⟩
  have n30 : Int32.ofNat 1600 = nI 1600 := rfl
  have sq := fun d Q => cl_squeezed (d := d) (h := h) (Q := Q) (fd_3 X)
  rw [rc_fd] at sq
  have bk := bitK (w := xe_L h 30 (kx t X / 64)) hk64
  have kv := K X hX
  rw [kv] at bk
  have c29 := sT_29 H
  cases hkn : kn b X with
  | true =>
    rw [hkn] at bk
    have bk' : ((xe_L h 30 (kx t X / 64) &&& (1 : Int64) <<< ((nI (kx t X % 64)).toInt64 &&& 63)) = 0) = False := bk.trans (eq_false (by decide))
    simp only [xs_78, xs_78_0, xs_78_1, xs_78_2, xs_78_3, xs_78_4, xs_78_5, xs_78_7, xs_78_8, xs_78_9, xs_78_12, xs_78_13, xs_78_15, xs_78_17, xs_78_19, xs_78_20, xs_78_22, xs_78_23, xs_78_25, xs_78_27, xs_78_28, xs_78_29, xs_78_31, xs_78_33, xs_78_36, xs_78_38, xs_78_39, xs_78_42, xs_78_43, xs_78_46, xs_78_47, xs_78_50, xs_78_52, xs_78_53, xs_78_55, xs_78_56, xs_78_57, xs_78_58, xs_78_61, xs_78_62, H, sT_0, sT_1, sT_2, sN_2, sA_2, sT_3, sN_3, sA_3, sT_4, sN_4, sA_4, sT_5, sN_5, sA_5, sT_6, sN_6, sA_6, sT_7, sT_8, sN_8, sA_8, sT_9, sN_9, sA_9, sT_10, sN_10, sA_10, sT_11, sN_11, sA_11, sT_12, sN_12, sA_12, sT_13, sN_13, sT_14, sT_15, sN_15, sA_15, sT_16, sN_16, sA_16, sT_17, sN_17, sA_17, sT_18, sN_18, sA_18, sT_19, sN_19, sA_19, sT_20, sT_21, sN_21, sA_21, sT_22, sN_22, sA_22, sT_23, sN_23, sA_23, sT_24, sN_24, sA_24, sT_25, sN_25, sA_25, sT_26, sN_26, sB_26, sT_27, sT_28, sN_28, sB_28, sT_29, sT_30, sN_30, sT_32, sN_32, sA_32, sT_33, sT_34, sN_34, sA_34, sT_35, sN_35, sA_35, sT_36, sT_37, sN_37, sA_37, sT_38, sN_38, sA_38, sT_39, sN_39, sA_39, sT_40, sN_40, sB_40, sT_41, sN_41, sA_41, sT_42, sN_42, sA_42, sT_43, sN_43, sA_43, sT_44, sT_45, sN_45, sA_45, sT_46, sN_46, sA_46, sT_47, sN_47, sA_47, sR_1_7, sR_1_8, sR_1_9, sR_1_10, sR_1_11, sR_0_0, sR_7_7, sR_7_8, sR_7_9, sR_7_10, sR_7_11, sR_0_1, sR_0_2, sR_14_7, sR_14_8, sR_14_9, sR_14_10, sR_14_11, sR_13_0, sR_20_7, sR_20_8, sR_20_9, sR_20_10, sR_20_11, sR_13_1, sR_0_3, sR_0_4, sR_27_0, sR_0_5, sR_29_0, sR_29_3, sR_0_6, sR_33_1, sR_33_2, sR_0_7, sR_36_2, sR_36_3, sR_36_4, sR_36_5, sR_36_6, sR_36_7, sR_36_8, sR_0_8, sR_44_0, sR_44_1, sR_44_2, sq, hsh, e6, e63, al30, n30, kl, nIlt0 (show kx t X / 64 < 2 ^ 31 by omega), nI_clamp (show kx t X / 64 < 2 ^ 31 by omega), show kx t X / 64 < 1600 by omega, lg_0, bk', rf_some, xc_int, xc_ref, xc_ret, xc_long, xw_nil, xw_int, xw_ref, xw_long, tl_some, tl_none, true_and, and_true, Nat.zero_le, Nat.reduceAdd, Nat.reduceMul, Nat.reduceLeDiff, Nat.reduceLT, Nat.reduceEqDiff, Nat.reducePow, Int32.reduceAdd, Int32.reduceMul, Int32.reduceSub, Int32.reduceLT, Int32.reduceLE, Int32.reduceToNatClampNeg, litE, ixU, not_false_eq_true, not_true_eq_false, ↓reduceIte, eq_self, true_or, or_true, false_and, and_false, or_false, false_or, i10, i01, in10, i1n, xbT, xbF, r_lt]
    rw [bA_old hkn]
    exact ⟨wq_rf _ h, ⟨q, k, C1⟩, K, c4, c2, c5⟩
  | false =>
    have hb := hb hkn
    rw [hkn] at bk
    have bk' : ((xe_L h 30 (kx t X / 64) &&& (1 : Int64) <<< ((nI (kx t X % 64)).toInt64 &&& 63)) = 0) = True := bk.trans (eq_true rfl)
    obtain ⟨⟨c1, ck, cq, co, cN, cn, cz⟩, cb, cL⟩ := C1
    have q30 : ¬ q = 30 := by omega
    have alq : xe_al h q := ⟨by rw [co.2]; decide, by rw [co.2]; decide, Or.inl co.1⟩
    have nq : Int32.ofNat (xe_N h q) = nI (256 * 2 ^ k) := by rw [cN]; rfl
    have pk9 : 2 ^ k ≤ 2 ^ 9 := Nat.pow_le_pow_right (by decide) ck
    have pk0 : 0 < 2 ^ k := Nat.two_pow_pos k
    generalize hh1 : xe_sL2 h 30 (kx t X / 64) (xe_L h 30 (kx t X / 64) ||| (1 : Int64) <<< ((nI (kx t X % 64)).toInt64 &&& 63)) = h1
    have K1 : CK t (bA b X f m) h1 := fun Y hY => by
      rw [kn_A, ← hh1, hL_sL, ← K Y hY]
      have hy64 : kx t Y % 64 < 64 := Nat.mod_lt _ (by decide)
      by_cases e : kx t Y / 64 = kx t X / 64
      · rw [if_pos ⟨rfl, e⟩, bitO hk64 hy64, e]
        congr 1
        by_cases e2 : Y = X
        · rw [e2, decide_eq_true rfl, decide_eq_true rfl]
        · rw [decide_eq_false e2, decide_eq_false (fun z => e2 (kx_inj hY hX (by omega)))]
      · rw [if_neg (fun z => e z.2), decide_eq_false (fun z => e (by rw [z])), Bool.or_false]
    have H1 : sh h1 := by rw [← hh1]; exact H
    have W1 : wq (fun a j => a = 29 ∧ j = 2) h h1 := by rw [← hh1]; exact wq_sL (wq_rf _ h)
    have d1 : xe_R h1 29 1 = some q := by rw [← hh1]; exact c1
    have d4 : xe_R h1 29 4 = some 1 := by rw [← hh1]; exact c4
    have d2 : xe_I h1 29 2 = nI b.1 := by rw [← hh1]; exact c2
    have d5 : xe_I h1 29 5 = (if t then 1 else 0) := by rw [← hh1]; exact c5
    have dq : xe_ob h1 q 9 := by rw [← hh1]; exact co
    have dN : xe_N h1 q = 256 * 2 ^ k := by rw [← hh1]; exact cN
    have dn : xe_n h1 ≤ 72 + k := by rw [← hh1]; exact cn
    have dz : xe_z h1 ≤ 209500 + 512 * 2 ^ k := by rw [← hh1]; exact cz
    have dL : ∀ i, i < b.1 → xe_L h1 q i = lN (ent t (bS b i) (bM b i) (bF b i)) := fun i hi => by
      rw [← hh1, hL_sL, if_neg (fun z => q30 z.1)]; exact cL i hi
    have alq1 : xe_al h1 q := by rw [← hh1]; exact alq
    have nq1 : Int32.ofNat (xe_N h1 q) = nI (256 * 2 ^ k) := by rw [dN]; rfl
    by_cases room : b.1 < 256 * 2 ^ k
    · have lt1 : (nI b.1 < nI (256 * 2 ^ k)) = True := eq_true (nI_lt room (by omega))
      simp only [xs_78, xs_78_0, xs_78_1, xs_78_2, xs_78_3, xs_78_4, xs_78_5, xs_78_7, xs_78_8, xs_78_9, xs_78_12, xs_78_13, xs_78_15, xs_78_17, xs_78_19, xs_78_20, xs_78_22, xs_78_23, xs_78_25, xs_78_27, xs_78_28, xs_78_29, xs_78_31, xs_78_33, xs_78_36, xs_78_38, xs_78_39, xs_78_42, xs_78_43, xs_78_46, xs_78_47, xs_78_50, xs_78_52, xs_78_53, xs_78_55, xs_78_56, xs_78_57, xs_78_58, xs_78_63, xs_78_64, xs_78_67, xs_78_69, xs_78_70, xs_78_71, xs_78_73, xs_78_74, H, sT_0, sT_1, sT_2, sN_2, sA_2, sT_3, sN_3, sA_3, sT_4, sN_4, sA_4, sT_5, sN_5, sA_5, sT_6, sN_6, sA_6, sT_7, sT_8, sN_8, sA_8, sT_9, sN_9, sA_9, sT_10, sN_10, sA_10, sT_11, sN_11, sA_11, sT_12, sN_12, sA_12, sT_13, sN_13, sT_14, sT_15, sN_15, sA_15, sT_16, sN_16, sA_16, sT_17, sN_17, sA_17, sT_18, sN_18, sA_18, sT_19, sN_19, sA_19, sT_20, sT_21, sN_21, sA_21, sT_22, sN_22, sA_22, sT_23, sN_23, sA_23, sT_24, sN_24, sA_24, sT_25, sN_25, sA_25, sT_26, sN_26, sB_26, sT_27, sT_28, sN_28, sB_28, sT_29, sT_30, sN_30, sT_32, sN_32, sA_32, sT_33, sT_34, sN_34, sA_34, sT_35, sN_35, sA_35, sT_36, sT_37, sN_37, sA_37, sT_38, sN_38, sA_38, sT_39, sN_39, sA_39, sT_40, sN_40, sB_40, sT_41, sN_41, sA_41, sT_42, sN_42, sA_42, sT_43, sN_43, sA_43, sT_44, sT_45, sN_45, sA_45, sT_46, sN_46, sA_46, sT_47, sN_47, sA_47, sR_1_7, sR_1_8, sR_1_9, sR_1_10, sR_1_11, sR_0_0, sR_7_7, sR_7_8, sR_7_9, sR_7_10, sR_7_11, sR_0_1, sR_0_2, sR_14_7, sR_14_8, sR_14_9, sR_14_10, sR_14_11, sR_13_0, sR_20_7, sR_20_8, sR_20_9, sR_20_10, sR_20_11, sR_13_1, sR_0_3, sR_0_4, sR_27_0, sR_0_5, sR_29_0, sR_29_3, sR_0_6, sR_33_1, sR_33_2, sR_0_7, sR_36_2, sR_36_3, sR_36_4, sR_36_5, sR_36_6, sR_36_7, sR_36_8, sR_0_8, sR_44_0, sR_44_1, sR_44_2, sq, hsh, e6, e63, al30, n30, kl, nIlt0 (show kx t X / 64 < 2 ^ 31 by omega), nI_clamp (show kx t X / 64 < 2 ^ 31 by omega), show kx t X / 64 < 1600 by omega, lg_0, bk', hh1, rf_some, xc_int, xc_ref, xc_ret, xc_long, xw_nil, xw_int, xw_ref, xw_long, tl_some, tl_none, true_and, and_true, Nat.zero_le, Nat.reduceAdd, Nat.reduceMul, Nat.reduceLeDiff, Nat.reduceLT, Nat.reduceEqDiff, Nat.reducePow, Int32.reduceAdd, Int32.reduceMul, Int32.reduceSub, Int32.reduceLT, Int32.reduceLE, Int32.reduceToNatClampNeg, litE, ixU, not_false_eq_true, not_true_eq_false, ↓reduceIte, eq_self, true_or, or_true, false_and, and_false, or_false, false_or, i10, i01, in10, i1n, xbT, xbF, r_lt]
      simp only [xs_78_75, xs_78_76, xs_78_79, xs_78_80, xs_78_83, xs_78_84, H1, sT_0, sT_1, sT_2, sN_2, sA_2, sT_3, sN_3, sA_3, sT_4, sN_4, sA_4, sT_5, sN_5, sA_5, sT_6, sN_6, sA_6, sT_7, sT_8, sN_8, sA_8, sT_9, sN_9, sA_9, sT_10, sN_10, sA_10, sT_11, sN_11, sA_11, sT_12, sN_12, sA_12, sT_13, sN_13, sT_14, sT_15, sN_15, sA_15, sT_16, sN_16, sA_16, sT_17, sN_17, sA_17, sT_18, sN_18, sA_18, sT_19, sN_19, sA_19, sT_20, sT_21, sN_21, sA_21, sT_22, sN_22, sA_22, sT_23, sN_23, sA_23, sT_24, sN_24, sA_24, sT_25, sN_25, sA_25, sT_26, sN_26, sB_26, sT_27, sT_28, sN_28, sB_28, sT_29, sT_30, sN_30, sT_32, sN_32, sA_32, sT_33, sT_34, sN_34, sA_34, sT_35, sN_35, sA_35, sT_36, sT_37, sN_37, sA_37, sT_38, sN_38, sA_38, sT_39, sN_39, sA_39, sT_40, sN_40, sB_40, sT_41, sN_41, sA_41, sT_42, sN_42, sA_42, sT_43, sN_43, sA_43, sT_44, sT_45, sN_45, sA_45, sT_46, sN_46, sA_46, sT_47, sN_47, sA_47, sR_1_7, sR_1_8, sR_1_9, sR_1_10, sR_1_11, sR_0_0, sR_7_7, sR_7_8, sR_7_9, sR_7_10, sR_7_11, sR_0_1, sR_0_2, sR_14_7, sR_14_8, sR_14_9, sR_14_10, sR_14_11, sR_13_0, sR_20_7, sR_20_8, sR_20_9, sR_20_10, sR_20_11, sR_13_1, sR_0_3, sR_0_4, sR_27_0, sR_0_5, sR_29_0, sR_29_3, sR_0_6, sR_33_1, sR_33_2, sR_0_7, sR_36_2, sR_36_3, sR_36_4, sR_36_5, sR_36_6, sR_36_7, sR_36_8, sR_0_8, sR_44_0, sR_44_1, sR_44_2, d1, d2, alq1, nq1, lt1, rf_some, xc_int, xc_ref, xc_ret, xc_long, xw_nil, xw_int, xw_ref, xw_long, tl_some, tl_none, true_and, and_true, Nat.zero_le, Nat.reduceAdd, Nat.reduceMul, Nat.reduceLeDiff, Nat.reduceLT, Nat.reduceEqDiff, Nat.reducePow, Int32.reduceAdd, Int32.reduceMul, Int32.reduceSub, Int32.reduceLT, Int32.reduceLE, Int32.reduceToNatClampNeg, litE, ixU, not_false_eq_true, not_true_eq_false, ↓reduceIte, eq_self, true_or, or_true, false_and, and_false, or_false, false_or, i10, i01, in10, i1n, xbT, xbF, r_lt]
      exact cl_putE hX hm hf hb hkn H1 ⟨⟨d1, ck, cq, dq, dN, dn, dz⟩, cb, dL⟩ room K1 d4 d2 d5 (fun h' W' C' => ⟨rfl, wq_tr W1 W', C'⟩)
    · have eb : b.1 = 256 * 2 ^ k := by omega
      have lt1 : (nI b.1 < nI (256 * 2 ^ k)) = False := eq_false (by rw [nI_ltI (by omega) (by omega)]; omega)
      have k8 : k ≤ 8 := by
        by_cases z : k = 9
        · subst z; omega
        · omega
      have p8 : 2 ^ k ≤ 2 ^ 8 := Nat.pow_le_pow_right (by decide) k8
      have hnS : xe_n h1 < xe_S := by unfold xe_S; omega
      have e2 : (2 : Int32) * nI (256 * 2 ^ k) = nI (2 * (256 * 2 ^ k)) := by rw [show (2 : Int32) = nI 2 from rfl, pk_mul]
      have hn72 := H1.1.1
      generalize hh2 : xe_sR (xe_aL2 (xe_new h1 9 (2 * (256 * 2 ^ k))) (xe_n h1) (va_cpy (xe_L (xe_new h1 9 (2 * (256 * 2 ^ k))) q) (xe_L (xe_new h1 9 (2 * (256 * 2 ^ k))) (xe_n h1)) 0 0 (256 * 2 ^ k))) 29 1 (some (xe_n h1)) = h2
      have hqn : ¬ q = xe_n h1 := by have := dq.1; omega
      have n2 : xe_n h2 = xe_n h1 + 1 := by rw [← hh2]; rfl
      have z2 : xe_z h2 = xe_z h1 + 2 * (256 * 2 ^ k) := by rw [← hh2]; rfl
      have T2 : ∀ a, xe_T h2 a = if a = xe_n h1 then 9 else xe_T h1 a := fun a => by rw [← hh2, hT_sR, hT_aL, hT_new]
      have N2 : ∀ a, xe_N h2 a = if a = xe_n h1 then 2 * (256 * 2 ^ k) else xe_N h1 a := fun a => by rw [← hh2, hN_sR, hN_aL, hN_new]
      have I2 : ∀ a j, ¬ a = xe_n h1 → xe_I h2 a j = xe_I h1 a j := fun a j z => by rw [← hh2, hI_sR, hI_aL, hI_new, if_neg z]
      have R2 : ∀ a j, ¬ a = xe_n h1 → ¬ (a = 29 ∧ j = 1) → xe_R h2 a j = xe_R h1 a j := fun a j z y => by rw [← hh2, hR_sR, if_neg y, hR_aL, hR_new, if_neg z]
      have L2 : ∀ a j, ¬ a = xe_n h1 → xe_L h2 a j = xe_L h1 a j := fun a j z => by rw [← hh2, hL_sR, hL_aL, if_neg z, hL_new, if_neg z]
      have L3 : ∀ j, j < 256 * 2 ^ k → xe_L h2 (xe_n h1) j = xe_L h1 q j := fun j hj => by
        rw [← hh2, hL_sR, hL_aL, if_pos rfl]
        unfold va_cpy
        rw [if_pos ⟨Nat.zero_le _, by omega⟩, Nat.zero_add, Nat.sub_zero, hL_new, if_neg hqn]
      have sT : ∀ e ∈ shT, e.1 < 72 := by decide
      have sR : ∀ e ∈ shR, e.1 < 72 ∧ ¬ (e.1 = 29 ∧ e.2.1 = 1) := by decide
      have H2 : sh h2 := by
        refine ⟨⟨by rw [n2]; omega, by rw [n2]; omega⟩, fun e he => ?_, fun e he => ?_⟩
        · have := sT e he
          rw [T2, N2, if_neg (by omega), if_neg (by omega)]
          exact H1.2.1 e he
        · obtain ⟨y1, y2⟩ := sR e he
          rw [R2 _ _ (by omega) y2]
          exact H1.2.2 e he
      have W2 : wq (fun a j => a = 29 ∧ j = 2) h1 h2 := ⟨fun _ => H2, fun a ha => by rw [T2, N2, if_neg (by omega), if_neg (by omega)]; exact ⟨rfl, rfl⟩, fun a j _ ha => I2 a j (by omega)⟩
      have ob29 : ∀ f, xe_ob (xe_aL2 (xe_new h1 9 (2 * (256 * 2 ^ k))) (xe_n h1) f) 29 5 := fun f => ⟨by rw [hn_aL, hn_new]; omega, by rw [hT_aL, hT_new, if_neg (by omega)]; exact (sT_29 H1).2⟩
      simp only [xs_78, xs_78_0, xs_78_1, xs_78_2, xs_78_3, xs_78_4, xs_78_5, xs_78_7, xs_78_8, xs_78_9, xs_78_12, xs_78_13, xs_78_15, xs_78_17, xs_78_19, xs_78_20, xs_78_22, xs_78_23, xs_78_25, xs_78_27, xs_78_28, xs_78_29, xs_78_31, xs_78_33, xs_78_36, xs_78_38, xs_78_39, xs_78_42, xs_78_43, xs_78_46, xs_78_47, xs_78_50, xs_78_52, xs_78_53, xs_78_55, xs_78_56, xs_78_57, xs_78_58, xs_78_63, xs_78_64, xs_78_67, xs_78_69, xs_78_70, xs_78_71, xs_78_73, xs_78_74, H, sT_0, sT_1, sT_2, sN_2, sA_2, sT_3, sN_3, sA_3, sT_4, sN_4, sA_4, sT_5, sN_5, sA_5, sT_6, sN_6, sA_6, sT_7, sT_8, sN_8, sA_8, sT_9, sN_9, sA_9, sT_10, sN_10, sA_10, sT_11, sN_11, sA_11, sT_12, sN_12, sA_12, sT_13, sN_13, sT_14, sT_15, sN_15, sA_15, sT_16, sN_16, sA_16, sT_17, sN_17, sA_17, sT_18, sN_18, sA_18, sT_19, sN_19, sA_19, sT_20, sT_21, sN_21, sA_21, sT_22, sN_22, sA_22, sT_23, sN_23, sA_23, sT_24, sN_24, sA_24, sT_25, sN_25, sA_25, sT_26, sN_26, sB_26, sT_27, sT_28, sN_28, sB_28, sT_29, sT_30, sN_30, sT_32, sN_32, sA_32, sT_33, sT_34, sN_34, sA_34, sT_35, sN_35, sA_35, sT_36, sT_37, sN_37, sA_37, sT_38, sN_38, sA_38, sT_39, sN_39, sA_39, sT_40, sN_40, sB_40, sT_41, sN_41, sA_41, sT_42, sN_42, sA_42, sT_43, sN_43, sA_43, sT_44, sT_45, sN_45, sA_45, sT_46, sN_46, sA_46, sT_47, sN_47, sA_47, sR_1_7, sR_1_8, sR_1_9, sR_1_10, sR_1_11, sR_0_0, sR_7_7, sR_7_8, sR_7_9, sR_7_10, sR_7_11, sR_0_1, sR_0_2, sR_14_7, sR_14_8, sR_14_9, sR_14_10, sR_14_11, sR_13_0, sR_20_7, sR_20_8, sR_20_9, sR_20_10, sR_20_11, sR_13_1, sR_0_3, sR_0_4, sR_27_0, sR_0_5, sR_29_0, sR_29_3, sR_0_6, sR_33_1, sR_33_2, sR_0_7, sR_36_2, sR_36_3, sR_36_4, sR_36_5, sR_36_6, sR_36_7, sR_36_8, sR_0_8, sR_44_0, sR_44_1, sR_44_2, sq, hsh, e6, e63, al30, n30, kl, nIlt0 (show kx t X / 64 < 2 ^ 31 by omega), nI_clamp (show kx t X / 64 < 2 ^ 31 by omega), show kx t X / 64 < 1600 by omega, lg_0, bk', hh1, rf_some, xc_int, xc_ref, xc_ret, xc_long, xw_nil, xw_int, xw_ref, xw_long, tl_some, tl_none, true_and, and_true, Nat.zero_le, Nat.reduceAdd, Nat.reduceMul, Nat.reduceLeDiff, Nat.reduceLT, Nat.reduceEqDiff, Nat.reducePow, Int32.reduceAdd, Int32.reduceMul, Int32.reduceSub, Int32.reduceLT, Int32.reduceLE, Int32.reduceToNatClampNeg, litE, ixU, not_false_eq_true, not_true_eq_false, ↓reduceIte, eq_self, true_or, or_true, false_and, and_false, or_false, false_or, i10, i01, in10, i1n, xbT, xbF, r_lt]
      simp only [xs_78_75, xs_78_76, xs_78_79, xs_78_80, xs_78_83, xs_78_84, xs_78_87, xs_78_88, xs_78_89, xs_78_92, xs_78_93, xs_78_94, xs_78_97, xs_78_98, xs_78_99, H1, sT_0, sT_1, sT_2, sN_2, sA_2, sT_3, sN_3, sA_3, sT_4, sN_4, sA_4, sT_5, sN_5, sA_5, sT_6, sN_6, sA_6, sT_7, sT_8, sN_8, sA_8, sT_9, sN_9, sA_9, sT_10, sN_10, sA_10, sT_11, sN_11, sA_11, sT_12, sN_12, sA_12, sT_13, sN_13, sT_14, sT_15, sN_15, sA_15, sT_16, sN_16, sA_16, sT_17, sN_17, sA_17, sT_18, sN_18, sA_18, sT_19, sN_19, sA_19, sT_20, sT_21, sN_21, sA_21, sT_22, sN_22, sA_22, sT_23, sN_23, sA_23, sT_24, sN_24, sA_24, sT_25, sN_25, sA_25, sT_26, sN_26, sB_26, sT_27, sT_28, sN_28, sB_28, sT_29, sT_30, sN_30, sT_32, sN_32, sA_32, sT_33, sT_34, sN_34, sA_34, sT_35, sN_35, sA_35, sT_36, sT_37, sN_37, sA_37, sT_38, sN_38, sA_38, sT_39, sN_39, sA_39, sT_40, sN_40, sB_40, sT_41, sN_41, sA_41, sT_42, sN_42, sA_42, sT_43, sN_43, sA_43, sT_44, sT_45, sN_45, sA_45, sT_46, sN_46, sA_46, sT_47, sN_47, sA_47, sR_1_7, sR_1_8, sR_1_9, sR_1_10, sR_1_11, sR_0_0, sR_7_7, sR_7_8, sR_7_9, sR_7_10, sR_7_11, sR_0_1, sR_0_2, sR_14_7, sR_14_8, sR_14_9, sR_14_10, sR_14_11, sR_13_0, sR_20_7, sR_20_8, sR_20_9, sR_20_10, sR_20_11, sR_13_1, sR_0_3, sR_0_4, sR_27_0, sR_0_5, sR_29_0, sR_29_3, sR_0_6, sR_33_1, sR_33_2, sR_0_7, sR_36_2, sR_36_3, sR_36_4, sR_36_5, sR_36_6, sR_36_7, sR_36_8, sR_0_8, sR_44_0, sR_44_1, sR_44_2, d1, d2, alq1, nq1, lt1, e2, rf_some, xc_int, xc_ref, xc_ret, xc_long, xw_nil, xw_int, xw_ref, xw_long, tl_some, tl_none, true_and, and_true, Nat.zero_le, Nat.reduceAdd, Nat.reduceMul, Nat.reduceLeDiff, Nat.reduceLT, Nat.reduceEqDiff, Nat.reducePow, Int32.reduceAdd, Int32.reduceMul, Int32.reduceSub, Int32.reduceLT, Int32.reduceLE, Int32.reduceToNatClampNeg, litE, ixU, not_false_eq_true, not_true_eq_false, ↓reduceIte, eq_self, true_or, or_true, false_and, and_false, or_false, false_or, i10, i01, in10, i1n, xbT, xbF, r_lt]
      rw [cl_twice (d := d) dq dN (by omega) (by omega) hnS]
      simp only [xs_78_102, ob29, hnS, hh2, rf_some, xc_int, xc_ref, xc_ret, xc_long, xw_nil, xw_int, xw_ref, xw_long, tl_some, tl_none, true_and, and_true, Nat.zero_le, Nat.reduceAdd, Nat.reduceMul, Nat.reduceLeDiff, Nat.reduceLT, Nat.reduceEqDiff, Nat.reducePow, Int32.reduceAdd, Int32.reduceMul, Int32.reduceSub, Int32.reduceLT, Int32.reduceLE, Int32.reduceToNatClampNeg, litE, ixU, not_false_eq_true, not_true_eq_false, ↓reduceIte, eq_self, true_or, or_true, false_and, and_false, or_false, false_or, i10, i01, in10, i1n, xbT, xbF, r_lt]
      refine cl_putE (q := xe_n h1) (k := k + 1) hX hm hf hb hkn H2 ⟨⟨by rw [← hh2, hR_sR, if_pos ⟨rfl, rfl⟩], by omega, Or.inr ⟨by omega, hnS⟩, ⟨by rw [n2]; omega, by rw [T2, if_pos rfl]⟩, by rw [N2, if_pos rfl, Nat.pow_succ]; omega, by rw [n2]; omega, by rw [z2, Nat.pow_succ]; omega⟩, by rw [Nat.pow_succ]; omega, fun i hi => by rw [L3 i (by omega)]; exact dL i hi⟩ (by rw [Nat.pow_succ]; omega) (fun Y hY => by rw [L2 _ _ (by omega)]; exact K1 Y hY) (by rw [R2 _ _ (by omega) (by omega)]; exact d4) (by rw [I2 _ _ (by omega)]; exact d2) (by rw [I2 _ _ (by omega)]; exact d5) (fun h' W' C' => ⟨rfl, wq_tr (wq_tr W1 W2) W', C'⟩)
end WJ
