/-! guard: both sides -/
theorem sh_sR {h : xe_H} {a k : Nat} {r : Option Nat} (hn : ∀ e ∈ shR, ¬ (e.1 = a ∧ e.2.1 = k)) (H : sh h) : sh (xe_sR h a k r) := by
  refine ⟨H.1, H.2.1, fun e he => ?_⟩
  rw [hR_sR, if_neg (hn e he)]
  exact H.2.2 e he
theorem fr_sR {h h' : xe_H} {a k : Nat} {r : Option Nat} (H : fr h h') (hn : ∀ e ∈ shR, ¬ (e.1 = a ∧ e.2.1 = k)) (h29 : ¬ (29 = a ∧ 1 = k)) : fr h (xe_sR h' a k r) := ⟨fun z => sh_sR hn (H.1 z), fun z => by
  obtain ⟨q, k', h1, h2, h3, h4, h5, h6, h7⟩ := H.2.1 z
  exact ⟨q, k', by rw [hR_sR, if_neg h29]; exact h1, h2, h3, h4, h5, h6, h7⟩, H.2.2.1, H.2.2.2⟩
/-- the answer out of the fewest and the row's number -/
def gAns (N B : Nat) (a : Nat × Nat) (x : Int32) : Int32 := if N < a.1 then -4 else if x = 0 then nI a.1 else if x.toNatClampNeg - 10 < N then nI (a.2 / B ^ (N - 1 - (x.toNatClampNeg - 10)) % B) else -4
def rowQ (x : Int32) : Prop := x = 0 ∨ 10 ≤ x
theorem rowQ_n {x : Int32} (h : rowQ x) (h0 : ¬ x = 0) : ∃ i, i + 10 < 2 ^ 31 ∧ x = nI (i + 10) := by
  have h1 := h.resolve_left h0
  have h2 : ¬ x < 0 := fun z => by rw [fa_lt, show Int32.toInt 0 = 0 by decide] at z; rw [fa_le, show Int32.toInt 10 = 10 by decide] at h1; omega
  obtain ⟨j, hj, rfl⟩ := nI_of h2
  rw [show (10 : Int32) = nI 10 from rfl, nI_leI (by decide) hj] at h1
  exact ⟨j - 10, by omega, by rw [show j - 10 + 10 = j by omega]⟩
theorem sub10 (i : Nat) : nI (i + 10) - 10 = nI i := by rw [show (10 : Int32) = nI 10 from rfl, pk_sub (by omega), Nat.add_sub_cancel]
section GI
variable {h : xe_H}
theorem c_asksRow {d : Nat} {Q : Option Value → xe_H → Prop} (x : Int32) (q : rowQ x) : xe_C (d + 1) 117 [.int x] h Q = Q (some (.int 1)) h := by
  by_cases z : x = 0
  · simp only [xs_117, xs_117_0, xs_117_1, xs_117_4, xs_117_5, xs_117_7, xs_117_10, xs_117_11, xs_117_14, xs_117_15, eq_true z, rf_some, xc_int, xc_ref, xc_ret, xc_long, xw_nil, xw_int, xw_ref, xw_long, tl_some, tl_none, true_and, and_true, Nat.zero_le, Nat.reduceAdd, Nat.reduceMul, Nat.reduceLeDiff, Nat.reduceLT, Nat.reduceEqDiff, Nat.reducePow, Int32.reduceAdd, Int32.reduceMul, Int32.reduceSub, Int32.reduceLT, Int32.reduceLE, Int32.reduceToNatClampNeg, litE, ixU, not_false_eq_true, not_true_eq_false, ↓reduceIte, eq_self, true_or, or_true, false_and, and_false, or_false, false_or, i10, i01, in10, i1n, xbT, xbF, r_lt]
  · have z1 : (x < 10) = False := r_lt (q.resolve_left z)
    simp only [xs_117, xs_117_0, xs_117_1, xs_117_4, xs_117_5, xs_117_7, xs_117_10, xs_117_11, xs_117_14, xs_117_15, eq_false z, z1, rf_some, xc_int, xc_ref, xc_ret, xc_long, xw_nil, xw_int, xw_ref, xw_long, tl_some, tl_none, true_and, and_true, Nat.zero_le, Nat.reduceAdd, Nat.reduceMul, Nat.reduceLeDiff, Nat.reduceLT, Nat.reduceEqDiff, Nat.reducePow, Int32.reduceAdd, Int32.reduceMul, Int32.reduceSub, Int32.reduceLT, Int32.reduceLE, Int32.reduceToNatClampNeg, litE, ixU, not_false_eq_true, not_true_eq_false, ↓reduceIte, eq_self, true_or, or_true, false_and, and_false, or_false, false_or, i10, i01, in10, i1n, xbT, xbF, r_lt]
theorem c_asksRowN {d : Nat} {Q : Option Value → xe_H → Prop} (x : Int32) (q : ¬ rowQ x) : xe_C (d + 1) 117 [.int x] h Q = Q (some (.int 0)) h := by
  have z : (x = 0) = False := eq_false (fun z => q (Or.inl z))
  have z1 : (x < 10) = True := eq_true (fa_of_nle (fun z => q (Or.inr z)))
  simp only [xs_117, xs_117_0, xs_117_1, xs_117_4, xs_117_5, xs_117_7, xs_117_10, xs_117_11, xs_117_14, xs_117_15, z, z1, rf_some, xc_int, xc_ref, xc_ret, xc_long, xw_nil, xw_int, xw_ref, xw_long, tl_some, tl_none, true_and, and_true, Nat.zero_le, Nat.reduceAdd, Nat.reduceMul, Nat.reduceLeDiff, Nat.reduceLT, Nat.reduceEqDiff, Nat.reducePow, Int32.reduceAdd, Int32.reduceMul, Int32.reduceSub, Int32.reduceLT, Int32.reduceLE, Int32.reduceToNatClampNeg, litE, ixU, not_false_eq_true, not_true_eq_false, ↓reduceIte, eq_self, true_or, or_true, false_and, and_false, or_false, false_or, i10, i01, in10, i1n, xbT, xbF, r_lt]
theorem cl_guarding {g : Nat → Nat} {N b p d : Nat} (hg : pg_ok g) (hb : b < g 24) (h1 : 1 ≤ N) (hN : N ≤ 6) (hp : p < g 31) (x : Int32) (hx : rowQ x) (H : sh h) (tv : tn_v h 1 g) : xe_C (d + 10) 1 [.ref 33, .ref 1, .int (nI p), .int (nI b), .int (nI N), .int x] h (fun v h' => v = some (.int (gAns N (g 24 + 1) (gG g b N (gr g) (g (25 + 2 * p)) 0 0 (N + 1, 0)) x)) ∧ fr h h') := by
  have h24 : g 24 ≤ 6 := hg.1
  have h31 : g 31 ≤ 3 := hg.2.1
  have h35 : g 35 ≤ 5 := hg.2.2.2.2.2.2.2.1
  have hpl := (hg.2.2.2.2.2.2.2.2.2.2.2 p hp).1
  have H1 : sh (xe_sR h 33 0 (some 1)) := sh_sR (by decide) H
  have f1 : fr h (xe_sI (xe_sI (xe_sI (xe_sR h 33 0 (some 1)) 33 5 (nI b)) 33 3 (nI N)) 33 4 (nI (N + 1))) := fr_sI (fr_sI (fr_sI (fr_sR (fr_rf h) (by decide) (by decide)) (by unfold cc cm' xe_S; omega)) (by unfold cc cm' xe_S; omega)) (by unfold cc cm' xe_S; omega)
  have em : (6 < nI N) = False := eq_false (by rw [nI6, nI_ltI (by decide) (by omega)]; omega)
  have eR : xe_R (xe_sR h 33 0 (some 1)) 33 0 = some 1 := by rw [hR_sR, if_pos ⟨rfl, rfl⟩]
  have e5 : xe_I h 5 p = nI (g (25 + 2 * p)) := (tv.2.2.2 p hp).1
  have e6 : xe_I h 1 6 = nI (rp (gr g)) := tv.1.2.2.2.2.2.2
  simp only [xs_1, xs_1_0, xs_1_1, xs_1_2, xs_1_5, xs_1_6, xs_1_7, xs_1_10, xs_1_11, xs_1_13, xs_1_15, xs_1_18, xs_1_21, xs_1_22, xs_1_23, xs_1_26, xs_1_27, xs_1_28, xs_1_31, xs_1_32, xs_1_33, xs_1_34, xs_1_37, xs_1_40, xs_1_41, xs_1_42, xs_1_43, xs_1_46, xs_1_49, xs_1_50, H, H1, sT_0, sT_1, sT_2, sN_2, sA_2, sT_3, sN_3, sA_3, sT_4, sN_4, sA_4, sT_5, sN_5, sA_5, sT_6, sN_6, sA_6, sT_7, sT_8, sN_8, sA_8, sT_9, sN_9, sA_9, sT_10, sN_10, sA_10, sT_11, sN_11, sA_11, sT_12, sN_12, sA_12, sT_13, sN_13, sT_14, sT_15, sN_15, sA_15, sT_16, sN_16, sA_16, sT_17, sN_17, sA_17, sT_18, sN_18, sA_18, sT_19, sN_19, sA_19, sT_20, sT_21, sN_21, sA_21, sT_22, sN_22, sA_22, sT_23, sN_23, sA_23, sT_24, sN_24, sA_24, sT_25, sN_25, sA_25, sT_26, sN_26, sB_26, sT_27, sT_28, sN_28, sB_28, sT_29, sT_30, sN_30, sT_32, sN_32, sA_32, sT_33, sT_34, sN_34, sA_34, sT_35, sN_35, sA_35, sT_36, sT_37, sN_37, sA_37, sT_38, sN_38, sA_38, sT_39, sN_39, sA_39, sT_40, sN_40, sB_40, sT_41, sN_41, sA_41, sT_42, sN_42, sA_42, sT_43, sN_43, sA_43, sT_44, sT_45, sN_45, sA_45, sT_46, sN_46, sA_46, sT_47, sN_47, sA_47, sR_1_7, sR_1_8, sR_1_9, sR_1_10, sR_1_11, sR_0_0, sR_7_7, sR_7_8, sR_7_9, sR_7_10, sR_7_11, sR_0_1, sR_0_2, sR_14_7, sR_14_8, sR_14_9, sR_14_10, sR_14_11, sR_13_0, sR_20_7, sR_20_8, sR_20_9, sR_20_10, sR_20_11, sR_13_1, sR_0_3, sR_0_4, sR_27_0, sR_0_5, sR_29_0, sR_29_3, sR_0_6, sR_33_1, sR_33_2, sR_0_7, sR_36_2, sR_36_3, sR_36_4, sR_36_5, sR_36_6, sR_36_7, sR_36_8, sR_0_8, sR_44_0, sR_44_1, sR_44_2, em, eR, e5, e6, hI_sR, nI_1, nIlt0 (show p < 2 ^ 31 by omega), nI_clamp (show p < 2 ^ 31 by omega), show p < 3 by omega, rf_some, xc_int, xc_ref, xc_ret, xc_long, xw_nil, xw_int, xw_ref, xw_long, tl_some, tl_none, true_and, and_true, Nat.zero_le, Nat.reduceAdd, Nat.reduceMul, Nat.reduceLeDiff, Nat.reduceLT, Nat.reduceEqDiff, Nat.reducePow, Int32.reduceAdd, Int32.reduceMul, Int32.reduceSub, Int32.reduceLT, Int32.reduceLE, Int32.reduceToNatClampNeg, litE, ixU, not_false_eq_true, not_true_eq_false, ↓reduceIte, eq_self, true_or, or_true, false_and, and_false, or_false, false_or, i10, i01, in10, i1n, xbT, xbF, r_lt, hI_sI, hL_sI, hR_sI, hT_sI, hN_sI, hn_sI, ho_sI, hia_sI, hba_sI, hal_sI, hix_sI, hI_aI, hL_aI, hR_aI, hT_aI, hN_aI, hn_aI, ho_aI, hia_aI, hal_aI, hix_aI, sh_sI, sh_aI, sh_sL, sh_aL, ho_sR, hT_sR, hN_sR, hia_sR]
  have tv2 : tn_v (xe_sI (xe_sI (xe_sI (xe_sR h 33 0 (some 1)) 33 5 (nI b)) 33 3 (nI N)) 33 4 (nI (N + 1))) 1 g := tn_v_c tv (fun a j x1 x2 => by rw [hI_sI, if_neg (by omega), hI_sI, if_neg (by omega), hI_sI, if_neg (by omega), hI_sR])
  have hh := cl_hold (d := d + 6 - N) hg hb hN N 0 (gr g) (g (25 + 2 * p)) 0 0 (N + 1, 0) (xe_sI (xe_sI (xe_sI (xe_sR h 33 0 (some 1)) 33 5 (nI b)) 33 3 (nI N)) 33 4 (nI (N + 1))) (by omega) H1 tv2 eR (by rw [hI_sI, if_neg (by omega), hI_sI, if_pos ⟨rfl, rfl⟩]) (by rw [hI_sI, if_neg (by omega), hI_sI, if_neg (by omega), hI_sI, if_pos ⟨rfl, rfl⟩]) ⟨Nat.le_refl _, by rw [hI_sI, if_pos ⟨rfl, rfl⟩], fun q => absurd q (by show ¬ N + 1 ≤ N; omega)⟩ (fun j hj => absurd hj (by omega)) (ro_g hg) hpl (Nat.le_refl _)
  rw [show d + 6 - N + N + 3 = d + 9 by omega] at hh
  refine ⟨by unfold xe_S; decide, xe_C_mono hh ?_⟩
  rintro v h3 ⟨rfl, W, O⟩
  have f3 : fr h h3 := fr_tr f1 (wr_fr W (fun a j q => by unfold gS at q; unfold cc cm' xe_S; omega))
  have H3 := wr_sh W H1
  generalize gG g b N (gr g) (g (25 + 2 * p)) 0 0 (N + 1, 0) = A at O ⊢
  have i3 : xe_I h3 33 3 = nI N := by rw [W.2 33 3 (by unfold gS; omega), hI_sI, if_neg (by omega), hI_sI, if_pos ⟨rfl, rfl⟩]
  have i4 := O.2.1
  have a1 := O.1
  unfold gAns
  by_cases z : A.1 ≤ N
  · have e1 : (nI A.1 ≤ nI N) = True := eq_true (by rw [nI_leI (by omega) (by omega)]; exact z)
    rw [if_neg (show ¬ N < A.1 by omega)]
    by_cases z0 : x = 0
    · simp only [xs_1_53, xs_1_54, xs_1_57, xs_1_58, xs_1_61, xs_1_64, xs_1_66, xs_1_67, xs_1_69, xs_1_72, xs_1_73, xs_1_76, H3, sT_0, sT_1, sT_2, sN_2, sA_2, sT_3, sN_3, sA_3, sT_4, sN_4, sA_4, sT_5, sN_5, sA_5, sT_6, sN_6, sA_6, sT_7, sT_8, sN_8, sA_8, sT_9, sN_9, sA_9, sT_10, sN_10, sA_10, sT_11, sN_11, sA_11, sT_12, sN_12, sA_12, sT_13, sN_13, sT_14, sT_15, sN_15, sA_15, sT_16, sN_16, sA_16, sT_17, sN_17, sA_17, sT_18, sN_18, sA_18, sT_19, sN_19, sA_19, sT_20, sT_21, sN_21, sA_21, sT_22, sN_22, sA_22, sT_23, sN_23, sA_23, sT_24, sN_24, sA_24, sT_25, sN_25, sA_25, sT_26, sN_26, sB_26, sT_27, sT_28, sN_28, sB_28, sT_29, sT_30, sN_30, sT_32, sN_32, sA_32, sT_33, sT_34, sN_34, sA_34, sT_35, sN_35, sA_35, sT_36, sT_37, sN_37, sA_37, sT_38, sN_38, sA_38, sT_39, sN_39, sA_39, sT_40, sN_40, sB_40, sT_41, sN_41, sA_41, sT_42, sN_42, sA_42, sT_43, sN_43, sA_43, sT_44, sT_45, sN_45, sA_45, sT_46, sN_46, sA_46, sT_47, sN_47, sA_47, sR_1_7, sR_1_8, sR_1_9, sR_1_10, sR_1_11, sR_0_0, sR_7_7, sR_7_8, sR_7_9, sR_7_10, sR_7_11, sR_0_1, sR_0_2, sR_14_7, sR_14_8, sR_14_9, sR_14_10, sR_14_11, sR_13_0, sR_20_7, sR_20_8, sR_20_9, sR_20_10, sR_20_11, sR_13_1, sR_0_3, sR_0_4, sR_27_0, sR_0_5, sR_29_0, sR_29_3, sR_0_6, sR_33_1, sR_33_2, sR_0_7, sR_36_2, sR_36_3, sR_36_4, sR_36_5, sR_36_6, sR_36_7, sR_36_8, sR_0_8, sR_44_0, sR_44_1, sR_44_2, i3, i4, e1, eq_true z0, rf_some, xc_int, xc_ref, xc_ret, xc_long, xw_nil, xw_int, xw_ref, xw_long, tl_some, tl_none, true_and, and_true, Nat.zero_le, Nat.reduceAdd, Nat.reduceMul, Nat.reduceLeDiff, Nat.reduceLT, Nat.reduceEqDiff, Nat.reducePow, Int32.reduceAdd, Int32.reduceMul, Int32.reduceSub, Int32.reduceLT, Int32.reduceLE, Int32.reduceToNatClampNeg, litE, ixU, not_false_eq_true, not_true_eq_false, ↓reduceIte, eq_self, true_or, or_true, false_and, and_false, or_false, false_or, i10, i01, in10, i1n, xbT, xbF, r_lt]
      exact f3
    · obtain ⟨i, hi, rfl⟩ := rowQ_n hx z0
      rw [if_neg z0, nI_clamp hi, Nat.add_sub_cancel]
      by_cases y : i < N
      · have e2 : (nI N ≤ nI i) = False := lt_f y (by omega)
        have e3 := O.2.2 z i y
        rw [if_pos y]
        simp only [xs_1_53, xs_1_54, xs_1_57, xs_1_58, xs_1_61, xs_1_64, xs_1_66, xs_1_67, xs_1_69, xs_1_72, xs_1_73, xs_1_76, xs_1_77, xs_1_79, xs_1_81, xs_1_82, xs_1_84, xs_1_86, xs_1_89, xs_1_91, xs_1_92, xs_1_95, xs_1_98, xs_1_99, xs_1_102, xs_1_104, xs_1_105, xs_1_108, xs_1_110, H3, sT_0, sT_1, sT_2, sN_2, sA_2, sT_3, sN_3, sA_3, sT_4, sN_4, sA_4, sT_5, sN_5, sA_5, sT_6, sN_6, sA_6, sT_7, sT_8, sN_8, sA_8, sT_9, sN_9, sA_9, sT_10, sN_10, sA_10, sT_11, sN_11, sA_11, sT_12, sN_12, sA_12, sT_13, sN_13, sT_14, sT_15, sN_15, sA_15, sT_16, sN_16, sA_16, sT_17, sN_17, sA_17, sT_18, sN_18, sA_18, sT_19, sN_19, sA_19, sT_20, sT_21, sN_21, sA_21, sT_22, sN_22, sA_22, sT_23, sN_23, sA_23, sT_24, sN_24, sA_24, sT_25, sN_25, sA_25, sT_26, sN_26, sB_26, sT_27, sT_28, sN_28, sB_28, sT_29, sT_30, sN_30, sT_32, sN_32, sA_32, sT_33, sT_34, sN_34, sA_34, sT_35, sN_35, sA_35, sT_36, sT_37, sN_37, sA_37, sT_38, sN_38, sA_38, sT_39, sN_39, sA_39, sT_40, sN_40, sB_40, sT_41, sN_41, sA_41, sT_42, sN_42, sA_42, sT_43, sN_43, sA_43, sT_44, sT_45, sN_45, sA_45, sT_46, sN_46, sA_46, sT_47, sN_47, sA_47, sR_1_7, sR_1_8, sR_1_9, sR_1_10, sR_1_11, sR_0_0, sR_7_7, sR_7_8, sR_7_9, sR_7_10, sR_7_11, sR_0_1, sR_0_2, sR_14_7, sR_14_8, sR_14_9, sR_14_10, sR_14_11, sR_13_0, sR_20_7, sR_20_8, sR_20_9, sR_20_10, sR_20_11, sR_13_1, sR_0_3, sR_0_4, sR_27_0, sR_0_5, sR_29_0, sR_29_3, sR_0_6, sR_33_1, sR_33_2, sR_0_7, sR_36_2, sR_36_3, sR_36_4, sR_36_5, sR_36_6, sR_36_7, sR_36_8, sR_0_8, sR_44_0, sR_44_1, sR_44_2, i3, i4, e1, eq_false z0, sub10, e2, nIlt0 (show i < 2 ^ 31 by omega), nI_clamp (show i < 2 ^ 31 by omega), show i < 6 by omega, e3, rf_some, xc_int, xc_ref, xc_ret, xc_long, xw_nil, xw_int, xw_ref, xw_long, tl_some, tl_none, true_and, and_true, Nat.zero_le, Nat.reduceAdd, Nat.reduceMul, Nat.reduceLeDiff, Nat.reduceLT, Nat.reduceEqDiff, Nat.reducePow, Int32.reduceAdd, Int32.reduceMul, Int32.reduceSub, Int32.reduceLT, Int32.reduceLE, Int32.reduceToNatClampNeg, litE, ixU, not_false_eq_true, not_true_eq_false, ↓reduceIte, eq_self, true_or, or_true, false_and, and_false, or_false, false_or, i10, i01, in10, i1n, xbT, xbF, r_lt]
        exact f3
      · have e2 : (nI N ≤ nI i) = True := eq_true (by rw [nI_leI (by omega) (by omega)]; omega)
        rw [if_neg y]
        simp only [xs_1_53, xs_1_54, xs_1_57, xs_1_58, xs_1_61, xs_1_64, xs_1_66, xs_1_67, xs_1_69, xs_1_72, xs_1_73, xs_1_76, xs_1_77, xs_1_79, xs_1_81, xs_1_82, xs_1_84, xs_1_86, xs_1_89, xs_1_91, xs_1_92, xs_1_95, xs_1_98, xs_1_99, xs_1_102, xs_1_104, xs_1_105, xs_1_108, xs_1_110, H3, sT_0, sT_1, sT_2, sN_2, sA_2, sT_3, sN_3, sA_3, sT_4, sN_4, sA_4, sT_5, sN_5, sA_5, sT_6, sN_6, sA_6, sT_7, sT_8, sN_8, sA_8, sT_9, sN_9, sA_9, sT_10, sN_10, sA_10, sT_11, sN_11, sA_11, sT_12, sN_12, sA_12, sT_13, sN_13, sT_14, sT_15, sN_15, sA_15, sT_16, sN_16, sA_16, sT_17, sN_17, sA_17, sT_18, sN_18, sA_18, sT_19, sN_19, sA_19, sT_20, sT_21, sN_21, sA_21, sT_22, sN_22, sA_22, sT_23, sN_23, sA_23, sT_24, sN_24, sA_24, sT_25, sN_25, sA_25, sT_26, sN_26, sB_26, sT_27, sT_28, sN_28, sB_28, sT_29, sT_30, sN_30, sT_32, sN_32, sA_32, sT_33, sT_34, sN_34, sA_34, sT_35, sN_35, sA_35, sT_36, sT_37, sN_37, sA_37, sT_38, sN_38, sA_38, sT_39, sN_39, sA_39, sT_40, sN_40, sB_40, sT_41, sN_41, sA_41, sT_42, sN_42, sA_42, sT_43, sN_43, sA_43, sT_44, sT_45, sN_45, sA_45, sT_46, sN_46, sA_46, sT_47, sN_47, sA_47, sR_1_7, sR_1_8, sR_1_9, sR_1_10, sR_1_11, sR_0_0, sR_7_7, sR_7_8, sR_7_9, sR_7_10, sR_7_11, sR_0_1, sR_0_2, sR_14_7, sR_14_8, sR_14_9, sR_14_10, sR_14_11, sR_13_0, sR_20_7, sR_20_8, sR_20_9, sR_20_10, sR_20_11, sR_13_1, sR_0_3, sR_0_4, sR_27_0, sR_0_5, sR_29_0, sR_29_3, sR_0_6, sR_33_1, sR_33_2, sR_0_7, sR_36_2, sR_36_3, sR_36_4, sR_36_5, sR_36_6, sR_36_7, sR_36_8, sR_0_8, sR_44_0, sR_44_1, sR_44_2, i3, i4, e1, eq_false z0, sub10, e2, nIlt0 (show i < 2 ^ 31 by omega), rf_some, xc_int, xc_ref, xc_ret, xc_long, xw_nil, xw_int, xw_ref, xw_long, tl_some, tl_none, true_and, and_true, Nat.zero_le, Nat.reduceAdd, Nat.reduceMul, Nat.reduceLeDiff, Nat.reduceLT, Nat.reduceEqDiff, Nat.reducePow, Int32.reduceAdd, Int32.reduceMul, Int32.reduceSub, Int32.reduceLT, Int32.reduceLE, Int32.reduceToNatClampNeg, litE, ixU, not_false_eq_true, not_true_eq_false, ↓reduceIte, eq_self, true_or, or_true, false_and, and_false, or_false, false_or, i10, i01, in10, i1n, xbT, xbF, r_lt]
        exact f3
  · have e1 : (nI A.1 ≤ nI N) = False := eq_false (by rw [nI_leI (by omega) (by omega)]; exact z)
    rw [if_pos (show N < A.1 by omega)]
    simp only [xs_1_53, xs_1_54, xs_1_57, xs_1_58, xs_1_61, xs_1_64, xs_1_66, H3, sT_0, sT_1, sT_2, sN_2, sA_2, sT_3, sN_3, sA_3, sT_4, sN_4, sA_4, sT_5, sN_5, sA_5, sT_6, sN_6, sA_6, sT_7, sT_8, sN_8, sA_8, sT_9, sN_9, sA_9, sT_10, sN_10, sA_10, sT_11, sN_11, sA_11, sT_12, sN_12, sA_12, sT_13, sN_13, sT_14, sT_15, sN_15, sA_15, sT_16, sN_16, sA_16, sT_17, sN_17, sA_17, sT_18, sN_18, sA_18, sT_19, sN_19, sA_19, sT_20, sT_21, sN_21, sA_21, sT_22, sN_22, sA_22, sT_23, sN_23, sA_23, sT_24, sN_24, sA_24, sT_25, sN_25, sA_25, sT_26, sN_26, sB_26, sT_27, sT_28, sN_28, sB_28, sT_29, sT_30, sN_30, sT_32, sN_32, sA_32, sT_33, sT_34, sN_34, sA_34, sT_35, sN_35, sA_35, sT_36, sT_37, sN_37, sA_37, sT_38, sN_38, sA_38, sT_39, sN_39, sA_39, sT_40, sN_40, sB_40, sT_41, sN_41, sA_41, sT_42, sN_42, sA_42, sT_43, sN_43, sA_43, sT_44, sT_45, sN_45, sA_45, sT_46, sN_46, sA_46, sT_47, sN_47, sA_47, sR_1_7, sR_1_8, sR_1_9, sR_1_10, sR_1_11, sR_0_0, sR_7_7, sR_7_8, sR_7_9, sR_7_10, sR_7_11, sR_0_1, sR_0_2, sR_14_7, sR_14_8, sR_14_9, sR_14_10, sR_14_11, sR_13_0, sR_20_7, sR_20_8, sR_20_9, sR_20_10, sR_20_11, sR_13_1, sR_0_3, sR_0_4, sR_27_0, sR_0_5, sR_29_0, sR_29_3, sR_0_6, sR_33_1, sR_33_2, sR_0_7, sR_36_2, sR_36_3, sR_36_4, sR_36_5, sR_36_6, sR_36_7, sR_36_8, sR_0_8, sR_44_0, sR_44_1, sR_44_2, i3, i4, e1, rf_some, xc_int, xc_ref, xc_ret, xc_long, xw_nil, xw_int, xw_ref, xw_long, tl_some, tl_none, true_and, and_true, Nat.zero_le, Nat.reduceAdd, Nat.reduceMul, Nat.reduceLeDiff, Nat.reduceLT, Nat.reduceEqDiff, Nat.reducePow, Int32.reduceAdd, Int32.reduceMul, Int32.reduceSub, Int32.reduceLT, Int32.reduceLE, Int32.reduceToNatClampNeg, litE, ixU, not_false_eq_true, not_true_eq_false, ↓reduceIte, eq_self, true_or, or_true, false_and, and_false, or_false, false_or, i10, i01, in10, i1n, xbT, xbF, r_lt]
    exact f3
end GI
/-- how many, or -4 -/
def oI (c : Nat) (o : Option Nat) : Int32 := match o with
  | some k => nI (c + k)
  | none => -4
theorem gv_le (g : Nat → Nat) (b : Nat) : ∀ (n : Nat) (f : Nat → Nat) (w v k : Nat), gv g b n f w v = some k → k ≤ n
  | 0, _, _, _, k, e => by rw [gv] at e; cases e; omega
  | n + 1, f, w, v, k, e => by
    rw [gv] at e
    split at e
    · cases e2 : gv g b n (gnf g f (v / (g 24 + 1) ^ n % (g 24 + 1))) (pa g w (v / (g 24 + 1) ^ n % (g 24 + 1))) v with
      | none => rw [e2] at e; cases e
      | some q =>
        rw [e2] at e
        injection e with e
        have := gv_le g b n _ _ _ _ e2
        rw [← e]
        show gdl (v / (g 24 + 1) ^ n % (g 24 + 1)) + q ≤ n + 1
        have hd : gdl (v / (g 24 + 1) ^ n % (g 24 + 1)) ≤ 1 := by unfold gdl; split <;> omega
        omega
    · cases e
theorem b_pow {B n N : Nat} (hB : B ≤ 7) (h0 : 0 < B) (hn : n ≤ N) (hN : N ≤ 6) : 0 < B ^ n ∧ B ^ n ≤ 117649 := by
  refine ⟨Nat.pow_pos h0, ?_⟩
  have h1 : B ^ n ≤ 7 ^ n := Nat.pow_le_pow_left hB n
  have h2 : 7 ^ n ≤ 7 ^ 6 := Nat.pow_le_pow_right (by omega) (by omega)
  omega
section GJ
variable {h : xe_H}
theorem md_guards {g : Nat → Nat} {N b p v d : Nat} {all : Int32} (hg : pg_ok g) (hb : b < g 24) (hN : N ≤ 6) (hp : p < g 31) (hv : v < 2 ^ 31) (H : sh h) (hm : mp h 0 g) (ha : all = nI ((g 24 + 1) ^ N)) : xe_C (d + 6) 171 [.ref 48, .int (nI p), .int (nI b), .int (nI v), .int all] h (fun r h' => r = some (.int (oI 0 (gv g b N (gr g) (g (25 + 2 * p)) v))) ∧ wr (fun a _ => a = 56) h h') := by
  have h24 : g 24 ≤ 6 := hg.1
  have h31 : g 31 ≤ 3 := hg.2.1
  have h35 : g 35 ≤ 5 := hg.2.2.2.2.2.2.2.1
  have hpl := (hg.2.2.2.2.2.2.2.2.2.2.2 p hp).1
  have lp : ∀ n f w c l9, n ≤ N → c + n ≤ N → ro g f → w < g 35 → ∀ R, oI c (gv g b n f w v) = R → xe_P (d + 5) 171 26 [.ref 48, .int (nI p), .int (nI b), .int (nI v), .int all, .int (nI (g 24 + 1)), .int (nI ((g 24 + 1) ^ n)), .int (nI w), .int (nI c), l9] [] (mW h f) (fun r h' => r = some (.int R) ∧ wr (fun a _ => a = 56) h h') := by
    intro n
    induction n with
    | zero =>
      intro f w c l9 hn hc hf hw R hR
      have e1 : (nI ((g 24 + 1) ^ 0) ≤ 1) = True := eq_true (by rw [Nat.pow_zero]; decide)
      simp only [xs_171_26, xs_171_28, xs_171_29, xs_171_102, xs_171_104, e1, rf_some, xc_int, xc_ref, xc_ret, xc_long, xw_nil, xw_int, xw_ref, xw_long, tl_some, tl_none, true_and, and_true, Nat.zero_le, Nat.reduceAdd, Nat.reduceMul, Nat.reduceLeDiff, Nat.reduceLT, Nat.reduceEqDiff, Nat.reducePow, Int32.reduceAdd, Int32.reduceMul, Int32.reduceSub, Int32.reduceLT, Int32.reduceLE, Int32.reduceToNatClampNeg, litE, ixU, not_false_eq_true, not_true_eq_false, ↓reduceIte, eq_self, true_or, or_true, false_and, and_false, or_false, false_or, i10, i01, in10, i1n, xbT, xbF, r_lt]
      refine ⟨?_, mW_wr h f⟩
      rw [← hR, gv]
      rfl
    | succ n ih =>
      intro f w c l9 hn hc hf hw R hR
      obtain ⟨b1, b2⟩ := b_pow (B := g 24 + 1) (n := n) (by omega) (by omega) (show n ≤ N by omega) hN
      obtain ⟨b3, b4⟩ := b_pow (B := g 24 + 1) (n := n + 1) (by omega) (by omega) hn hN
      have b5 : 1 < (g 24 + 1) ^ (n + 1) := Nat.one_lt_pow (by omega) (by omega)
      have e1 : (nI ((g 24 + 1) ^ (n + 1)) ≤ 1) = False := eq_false (by rw [nI1, nI_leI (by omega) (by decide)]; omega)
      have e2 : nI ((g 24 + 1) ^ (n + 1)) / nI (g 24 + 1) = nI ((g 24 + 1) ^ n) := by rw [pk_div (by omega) (by omega) (by omega), Nat.pow_succ, Nat.mul_div_cancel _ (by omega)]
      have e3 : (nI (g 24 + 1) = 0) = False := eq_false (nI_ne0 (by omega) (by omega))
      have e4 : (nI ((g 24 + 1) ^ n) = 0) = False := eq_false (nI_ne0 (by omega) (by omega))
      have e5 : nI v / nI ((g 24 + 1) ^ n) = nI (v / (g 24 + 1) ^ n) := pk_div hv b1 (by omega)
      have hq : v / (g 24 + 1) ^ n < 2 ^ 31 := Nat.lt_of_le_of_lt (Nat.div_le_self _ _) hv
      have e6 : nI (v / (g 24 + 1) ^ n) - nI (v / (g 24 + 1) ^ n) / nI (g 24 + 1) * nI (g 24 + 1) = nI (v / (g 24 + 1) ^ n % (g 24 + 1)) := pk_rem hq (by omega) (by omega)
      rw [gv] at hR
      have hM : v / (g 24 + 1) ^ n % (g 24 + 1) < g 24 + 1 := Nat.mod_lt _ (by omega)
      generalize v / (g 24 + 1) ^ n % (g 24 + 1) = m at hR e6 hM
      have HW : ∀ f, sh (mW h f) := fun f => by rw [mW_sh]; exact H
      rw [xs_171_26]
      simp only [xs_171_28, xs_171_29, xs_171_32, xs_171_34, xs_171_36, xs_171_37, xs_171_39, xs_171_40, xs_171_42, xs_171_43, xs_171_45, xs_171_46, xs_171_48, xs_171_49, xs_171_51, xs_171_53, e1, e2, e3, e4, e5, e6, HW, sT_48, sT_49, sN_49, sA_49, sT_50, sN_50, sA_50, sT_51, sN_51, sA_51, sT_52, sN_52, sA_52, sT_53, sN_53, sA_53, sT_54, sN_54, sA_54, sT_55, sN_55, sA_55, sT_56, sN_56, sA_56, sT_57, sN_57, sA_57, sT_58, sN_58, sA_58, sT_59, sN_59, sA_59, sT_60, sN_60, sA_60, sT_61, sN_61, sA_61, sT_62, sN_62, sA_62, sT_63, sN_63, sA_63, sT_64, sN_64, sA_64, sT_65, sN_65, sA_65, sT_66, sN_66, sA_66, sT_67, sN_67, sA_67, sT_68, sN_68, sB_68, sT_69, sN_69, sA_69, sT_70, sN_70, sA_70, sT_71, sN_71, sA_71, sR_48_0, sR_48_2, sR_48_9, sR_48_10, sR_48_11, sR_48_20, sR_48_21, sR_48_22, sR_48_23, sR_48_24, sR_48_26, sR_48_27, sR_48_28, sR_48_29, sR_48_30, sR_48_31, sR_48_33, sR_48_34, sR_48_35, sR_48_36, sR_48_37, sR_48_38, sR_48_39, rf_some, xc_int, xc_ref, xc_ret, xc_long, xw_nil, xw_int, xw_ref, xw_long, tl_some, tl_none, true_and, and_true, Nat.zero_le, Nat.reduceAdd, Nat.reduceMul, Nat.reduceLeDiff, Nat.reduceLT, Nat.reduceEqDiff, Nat.reducePow, Int32.reduceAdd, Int32.reduceMul, Int32.reduceSub, Int32.reduceLT, Int32.reduceLE, Int32.reduceToNatClampNeg, litE, ixU, not_false_eq_true, not_true_eq_false, ↓reduceIte, eq_self, true_or, or_true, false_and, and_false, or_false, false_or, i10, i01, in10, i1n, xbT, xbF, r_lt]
      by_cases y : cm g f w m
      · rw [md_moves (d := d) H hm hg (ro_rp hf) (show m < 2 ^ 31 by omega) (show w < 2 ^ 31 by omega) y]
        have hpa := pa_lt hg hw y
        have en : ∀ c', xe_P (d + 5) 171 84 [.ref 48, .int (nI p), .int (nI b), .int (nI v), .int all, .int (nI (g 24 + 1)), .int (nI ((g 24 + 1) ^ n)), .int (nI (pa g w m)), .int (nI c'), .int (nI m)] [.ref 48] (mW h (ra g f m)) (fun r h' => r = some (.int R) ∧ wr (fun a _ => a = 56) h h') = (if gnf g f m b = 0 then (R = -4) else xe_P (d + 5) 171 26 [.ref 48, .int (nI p), .int (nI b), .int (nI v), .int all, .int (nI (g 24 + 1)), .int (nI ((g 24 + 1) ^ n)), .int (nI (pa g w m)), .int (nI c'), .int (nI m)] [] (mW h (gnf g f m)) (fun r h' => r = some (.int R) ∧ wr (fun a _ => a = 56) h h')) := by
          intro c'
          have rk := ro_gn hg hf (cm_le y)
          have rb := rk.1 b (by omega)
          have i56 : xe_I (mW h (gnf g f m)) 56 b = nI (gnf g f m b) := mW_r (by omega)
          have me := fun d Q => md_ends (d := d) (Q := Q) H (ra_ok hg (ro_rp hf) m)
          rw [show (fun b => ra g f m b - 1) = gnf g f m from rfl] at me
          simp only [xs_171_84, xs_171_87, xs_171_88, xs_171_91, xs_171_92, xs_171_93, HW, sT_48, sT_49, sN_49, sA_49, sT_50, sN_50, sA_50, sT_51, sN_51, sA_51, sT_52, sN_52, sA_52, sT_53, sN_53, sA_53, sT_54, sN_54, sA_54, sT_55, sN_55, sA_55, sT_56, sN_56, sA_56, sT_57, sN_57, sA_57, sT_58, sN_58, sA_58, sT_59, sN_59, sA_59, sT_60, sN_60, sA_60, sT_61, sN_61, sA_61, sT_62, sN_62, sA_62, sT_63, sN_63, sA_63, sT_64, sN_64, sA_64, sT_65, sN_65, sA_65, sT_66, sN_66, sA_66, sT_67, sN_67, sA_67, sT_68, sN_68, sB_68, sT_69, sN_69, sA_69, sT_70, sN_70, sA_70, sT_71, sN_71, sA_71, sR_48_0, sR_48_2, sR_48_9, sR_48_10, sR_48_11, sR_48_20, sR_48_21, sR_48_22, sR_48_23, sR_48_24, sR_48_26, sR_48_27, sR_48_28, sR_48_29, sR_48_30, sR_48_31, sR_48_33, sR_48_34, sR_48_35, sR_48_36, sR_48_37, sR_48_38, sR_48_39, me, i56, nIlt0 (show b < 2 ^ 31 by omega), nI_clamp (show b < 2 ^ 31 by omega), show b < 6 by omega, nIe0 (show gnf g f m b < 2 ^ 31 by omega), rf_some, xc_int, xc_ref, xc_ret, xc_long, xw_nil, xw_int, xw_ref, xw_long, tl_some, tl_none, true_and, and_true, Nat.zero_le, Nat.reduceAdd, Nat.reduceMul, Nat.reduceLeDiff, Nat.reduceLT, Nat.reduceEqDiff, Nat.reducePow, Int32.reduceAdd, Int32.reduceMul, Int32.reduceSub, Int32.reduceLT, Int32.reduceLE, Int32.reduceToNatClampNeg, litE, ixU, not_false_eq_true, not_true_eq_false, ↓reduceIte, eq_self, true_or, or_true, false_and, and_false, or_false, false_or, i10, i01, in10, i1n, xbT, xbF, r_lt]
          by_cases x : gnf g f m b = 0
          · simp only [x, ↓reduceIte, xs_171_96, xs_171_98]
            rw [eq_iff_iff]
            constructor
            · intro q; have := q.1; injection this with q2; injection q2 with q3; exact q3.symm
            · intro q; rw [q]; exact ⟨rfl, mW_wr h _⟩
          · simp only [x, ↓reduceIte, xs_171_99]
        have ec : xe_P (d + 5) 171 56 [.ref 48, .int (nI p), .int (nI b), .int (nI v), .int all, .int (nI (g 24 + 1)), .int (nI ((g 24 + 1) ^ n)), .int (nI w), .int (nI c), .int (nI m)] [.int (nI (pa g w m))] (mW h (ra g f m)) (fun r h' => r = some (.int R) ∧ wr (fun a _ => a = 56) h h') = xe_P (d + 5) 171 84 [.ref 48, .int (nI p), .int (nI b), .int (nI v), .int all, .int (nI (g 24 + 1)), .int (nI ((g 24 + 1) ^ n)), .int (nI (pa g w m)), .int (nI (c + gdl m)), .int (nI m)] [.ref 48] (mW h (ra g f m)) (fun r h' => r = some (.int R) ∧ wr (fun a _ => a = 56) h h') := by
          unfold gdl
          by_cases m0 : m = 0
          · simp only [xs_171_56, xs_171_58, xs_171_60, xs_171_62, xs_171_65, xs_171_67, xs_171_68, xs_171_70, xs_171_72, xs_171_75, xs_171_76, xs_171_79, xs_171_80, xs_171_81, xs_171_83, nI_ne4 (show pa g w m < 2 ^ 31 by omega), nIle0 (show m < 2 ^ 31 by omega), eq_true (show m ≤ 0 by omega), eq_true m0, ad_0, Nat.add_zero, rf_some, xc_int, xc_ref, xc_ret, xc_long, xw_nil, xw_int, xw_ref, xw_long, tl_some, tl_none, true_and, and_true, Nat.zero_le, Nat.reduceAdd, Nat.reduceMul, Nat.reduceLeDiff, Nat.reduceLT, Nat.reduceEqDiff, Nat.reducePow, Int32.reduceAdd, Int32.reduceMul, Int32.reduceSub, Int32.reduceLT, Int32.reduceLE, Int32.reduceToNatClampNeg, litE, ixU, not_false_eq_true, not_true_eq_false, ↓reduceIte, eq_self, true_or, or_true, false_and, and_false, or_false, false_or, i10, i01, in10, i1n, xbT, xbF, r_lt]
          · simp only [xs_171_56, xs_171_58, xs_171_60, xs_171_62, xs_171_65, xs_171_67, xs_171_68, xs_171_70, xs_171_72, xs_171_75, xs_171_76, xs_171_79, xs_171_80, xs_171_81, xs_171_83, nI_ne4 (show pa g w m < 2 ^ 31 by omega), nIle0 (show m < 2 ^ 31 by omega), eq_false (show ¬ m ≤ 0 by omega), eq_false m0, nI_1, rf_some, xc_int, xc_ref, xc_ret, xc_long, xw_nil, xw_int, xw_ref, xw_long, tl_some, tl_none, true_and, and_true, Nat.zero_le, Nat.reduceAdd, Nat.reduceMul, Nat.reduceLeDiff, Nat.reduceLT, Nat.reduceEqDiff, Nat.reducePow, Int32.reduceAdd, Int32.reduceMul, Int32.reduceSub, Int32.reduceLT, Int32.reduceLE, Int32.reduceToNatClampNeg, litE, ixU, not_false_eq_true, not_true_eq_false, ↓reduceIte, eq_self, true_or, or_true, false_and, and_false, or_false, false_or, i10, i01, in10, i1n, xbT, xbF, r_lt]
        rw [tl_some, ec, en]
        by_cases x : gnf g f m b = 0
        · rw [if_pos x]
          have ev : gvd g f b w m = false := by
            unfold gvd
            rw [cb_t y, Bool.true_and]
            exact decide_eq_false (fun q => q x)
          rw [ev] at hR
          exact hR.symm
        · rw [if_neg x]
          have ev : gvd g f b w m = true := by
            unfold gvd
            rw [cb_t y, Bool.true_and]
            exact decide_eq_true x
          rw [if_pos ev] at hR
          have hgd : gdl m ≤ 1 := by unfold gdl; split <;> omega
          refine ih (gnf g f m) (pa g w m) (c + gdl m) _ (by omega) (by omega) (ro_gn hg hf (cm_le y)) hpa R ?_
          rw [← hR]
          cases gv g b n (gnf g f m) (pa g w m) v with
          | none => rfl
          | some k => show nI _ = nI _; rw [Nat.add_assoc]
      · rw [md_movesN (d := d) H hm hg (ro_rp hf) (show m < 2 ^ 31 by omega) (show w < 2 ^ 31 by omega) y]
        have ev : gvd g f b w m = false := by
          unfold gvd
          rw [cb_f y, Bool.false_and]
        rw [ev] at hR
        have e44 : ((-4 : Int32) = -4) = True := eq_true rfl
        simp only [xs_171_56, xs_171_58, xs_171_60, xs_171_62, xs_171_65, xs_171_67, e44, rf_some, xc_int, xc_ref, xc_ret, xc_long, xw_nil, xw_int, xw_ref, xw_long, tl_some, tl_none, true_and, and_true, Nat.zero_le, Nat.reduceAdd, Nat.reduceMul, Nat.reduceLeDiff, Nat.reduceLT, Nat.reduceEqDiff, Nat.reducePow, Int32.reduceAdd, Int32.reduceMul, Int32.reduceSub, Int32.reduceLT, Int32.reduceLE, Int32.reduceToNatClampNeg, litE, ixU, not_false_eq_true, not_true_eq_false, ↓reduceIte, eq_self, true_or, or_true, false_and, and_false, or_false, false_or, i10, i01, in10, i1n, xbT, xbF, r_lt]
        exact ⟨by rw [← hR]; rfl, mW_wr h f⟩
  subst ha
  have l0 := lp N (gr g) (g (25 + 2 * p)) 0 (.retAddr 0) (Nat.le_refl _) (by omega) (ro_g hg) hpl _ rfl
  simp only [xs_171, xs_171_0, xs_171_1, xs_171_4, xs_171_5, xs_171_6, xs_171_8, xs_171_10, xs_171_12, xs_171_13, xs_171_14, xs_171_17, xs_171_19, xs_171_20, xs_171_22, xs_171_23, H, sT_48, sT_49, sN_49, sA_49, sT_50, sN_50, sA_50, sT_51, sN_51, sA_51, sT_52, sN_52, sA_52, sT_53, sN_53, sA_53, sT_54, sN_54, sA_54, sT_55, sN_55, sA_55, sT_56, sN_56, sA_56, sT_57, sN_57, sA_57, sT_58, sN_58, sA_58, sT_59, sN_59, sA_59, sT_60, sN_60, sA_60, sT_61, sN_61, sA_61, sT_62, sN_62, sA_62, sT_63, sN_63, sA_63, sT_64, sN_64, sA_64, sT_65, sN_65, sA_65, sT_66, sN_66, sA_66, sT_67, sN_67, sA_67, sT_68, sN_68, sB_68, sT_69, sN_69, sA_69, sT_70, sN_70, sA_70, sT_71, sN_71, sA_71, sR_48_0, sR_48_2, sR_48_9, sR_48_10, sR_48_11, sR_48_20, sR_48_21, sR_48_22, sR_48_23, sR_48_24, sR_48_26, sR_48_27, sR_48_28, sR_48_29, sR_48_30, sR_48_31, sR_48_33, sR_48_34, sR_48_35, sR_48_36, sR_48_37, sR_48_38, sR_48_39, md_bridgesG H hm, md_placeG H hm hp (show p < 3 by omega), md_now H hm, nI_1, rf_some, xc_int, xc_ref, xc_ret, xc_long, xw_nil, xw_int, xw_ref, xw_long, tl_some, tl_none, true_and, and_true, Nat.zero_le, Nat.reduceAdd, Nat.reduceMul, Nat.reduceLeDiff, Nat.reduceLT, Nat.reduceEqDiff, Nat.reducePow, Int32.reduceAdd, Int32.reduceMul, Int32.reduceSub, Int32.reduceLT, Int32.reduceLE, Int32.reduceToNatClampNeg, litE, ixU, not_false_eq_true, not_true_eq_false, ↓reduceIte, eq_self, true_or, or_true, false_and, and_false, or_false, false_or, i10, i01, in10, i1n, xbT, xbF, r_lt]
  exact l0
end GJ
