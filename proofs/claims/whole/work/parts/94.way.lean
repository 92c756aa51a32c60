/-! way: the class -/
def sY (a : Nat) (_ : Nat) : Prop := a = 29 ∨ a = 32
section WX
variable {d : Nat} {h : xe_H} {g : Nat → Nat}
theorem sh_w4 (H : sh h) : sh (xe_sR h 29 4 (some 1)) := sh_sR (by decide) H
theorem rm_w4 (R : rm h) : rm (xe_sR h 29 4 (some 1)) := by
  obtain ⟨q, k, h1, h2⟩ := R
  exact ⟨q, k, by rw [hR_sR, if_neg (by decide)]; exact h1, h2⟩
theorem cl_seek1 {p li : Nat} (hg : pg_ok g) (hp : p < g 31) (hli : li < 2 ^ 31) (H : sh h) (R : rm h) (tv : tn_v h 1 g) : xe_C (d + 7) 71 [.ref 29, .ref 1, .int (nI p), .int (-1), .int (nI li)] h (fun r h' => r = none ∧ ∃ h1, wq sY h h1 ∧ srR false g (4096 * g (25 + 2 * p) + rc (gr g)) (g (26 + 2 * p)) li h1 h') := by
  have h31 : g 31 ≤ 3 := hg.2.1
  have h35 : g 35 ≤ 5 := hg.2.2.2.2.2.2.2.1
  obtain ⟨hpl, hgo⟩ := hg.2.2.2.2.2.2.2.2.2.2.2 p hp
  obtain ⟨v5, v6⟩ := tv.2.2.2 p hp
  have v5 : xe_I h 5 p = nI (g (25 + 2 * p)) := v5
  have v6 : xe_I h 6 p = nI (g (26 + 2 * p)) := v6
  have H' := sh_w4 H
  have em : ((-1 : Int32) = -1) = True := eq_true rfl
  simp only [xs_71, xs_71_0, xs_71_1, xs_71_2, xs_71_5, xs_71_6, xs_71_7, xs_71_8, xs_71_11, xs_71_12, xs_71_15, xs_71_16, xs_71_19, xs_71_20, xs_71_21, xs_71_24, xs_71_27, xs_71_28, xs_71_29, xs_71_32, xs_71_33, xs_71_34, xs_71_37, xs_71_40, xs_71_41, xs_71_44, xs_71_47, xs_71_48, xs_71_49, xs_71_52, xs_71_53, xs_71_56, xs_71_57, xs_71_58, xs_71_61, xs_71_64, xs_71_65, xs_71_66, xs_71_67, xs_71_70, xs_71_73, xs_71_74, xs_71_77, xs_71_80, xs_71_81, xs_71_82, xs_71_85, xs_71_86, xs_71_88, H, H', sT_0, sT_1, sT_2, sN_2, sA_2, sT_3, sN_3, sA_3, sT_4, sN_4, sA_4, sT_5, sN_5, sA_5, sT_6, sN_6, sA_6, sT_7, sT_8, sN_8, sA_8, sT_9, sN_9, sA_9, sT_10, sN_10, sA_10, sT_11, sN_11, sA_11, sT_12, sN_12, sA_12, sT_13, sN_13, sT_14, sT_15, sN_15, sA_15, sT_16, sN_16, sA_16, sT_17, sN_17, sA_17, sT_18, sN_18, sA_18, sT_19, sN_19, sA_19, sT_20, sT_21, sN_21, sA_21, sT_22, sN_22, sA_22, sT_23, sN_23, sA_23, sT_24, sN_24, sA_24, sT_25, sN_25, sA_25, sT_26, sN_26, sB_26, sT_27, sT_28, sN_28, sB_28, sT_29, sT_30, sN_30, sT_32, sN_32, sA_32, sT_33, sT_34, sN_34, sA_34, sT_35, sN_35, sA_35, sT_36, sT_37, sN_37, sA_37, sT_38, sN_38, sA_38, sT_39, sN_39, sA_39, sT_40, sN_40, sB_40, sT_41, sN_41, sA_41, sT_42, sN_42, sA_42, sT_43, sN_43, sA_43, sT_44, sT_45, sN_45, sA_45, sT_46, sN_46, sA_46, sT_47, sN_47, sA_47, sR_1_7, sR_1_8, sR_1_9, sR_1_10, sR_1_11, sR_0_0, sR_7_7, sR_7_8, sR_7_9, sR_7_10, sR_7_11, sR_0_1, sR_0_2, sR_14_7, sR_14_8, sR_14_9, sR_14_10, sR_14_11, sR_13_0, sR_20_7, sR_20_8, sR_20_9, sR_20_10, sR_20_11, sR_13_1, sR_0_3, sR_0_4, sR_27_0, sR_0_5, sR_29_0, sR_29_3, sR_0_6, sR_33_1, sR_33_2, sR_0_7, sR_36_2, sR_36_3, sR_36_4, sR_36_5, sR_36_6, sR_36_7, sR_36_8, sR_0_8, sR_44_0, sR_44_1, sR_44_2, em, nIlt0 (show p < 2 ^ 31 by omega), nI_clamp (show p < 2 ^ 31 by omega), show p < 3 by omega, v5, v6, show 1 < xe_S by decide, rf_some, xc_int, xc_ref, xc_ret, xc_long, xw_nil, xw_int, xw_ref, xw_long, tl_some, tl_none, true_and, and_true, Nat.zero_le, Nat.reduceAdd, Nat.reduceMul, Nat.reduceLeDiff, Nat.reduceLT, Nat.reduceEqDiff, Nat.reducePow, Int32.reduceAdd, Int32.reduceMul, Int32.reduceSub, Int32.reduceLT, Int32.reduceLE, Int32.reduceToNatClampNeg, litE, ixU, not_false_eq_true, not_true_eq_false, ↓reduceIte, eq_self, true_or, or_true, false_and, and_false, or_false, false_or, i10, i01, in10, i1n, xbT, xbF, r_lt, hI_sI, hL_sI, hR_sI, hT_sI, hN_sI, hn_sI, ho_sI, hia_sI, hba_sI, hal_sI, hix_sI, hI_aI, hL_aI, hR_aI, hT_aI, hN_aI, hn_aI, ho_aI, hia_aI, hal_aI, hix_aI, sh_sI, sh_aI, sh_sL, sh_aL, hI_sR, hR_sR]
  generalize hh1 : xe_sI (xe_sI (xe_sI (xe_sR h 29 4 (some 1)) 29 5 0) 29 6 (nI (g (26 + 2 * p)))) 29 7 0 = h1
  have H1 : sh h1 := by rw [← hh1, sh_sI, sh_sI, sh_sI]; exact H'
  have R1 : rm h1 := by rw [← hh1, rm_sI, rm_sI, rm_sI]; exact rm_w4 R
  have W1 : wq sY h h1 := by
    rw [← hh1]
    exact wq_sI (wq_sI (wq_sI ⟨fun _ => H', fun _ _ => ⟨rfl, rfl⟩, fun _ _ _ _ => rfl⟩ (Or.inl rfl)) (Or.inl rfl)) (Or.inl rfl)
  have tv1 := tv_wq tv W1 (fun a j z => by unfold sY at z; omega)
  have i6 : xe_I h1 29 6 = nI (g (26 + 2 * p)) := by rw [← hh1, hI_sI, if_neg (by omega), hI_sI, if_pos ⟨rfl, rfl⟩]
  have gc : gC false (g (26 + 2 * p)) h1 := fun w hw => by
    have hw : w < 5 := hw
    rw [i6, show we false w = w from rfl, nIe (show w < 2 ^ 31 by omega) (show g (26 + 2 * p) < 2 ^ 31 by omega)]
    exact ⟨fun z => z.1, fun z => ⟨z, Or.inl rfl⟩⟩
  have cs := cl_search (d := d) (t := false) (w0 := g (25 + 2 * p)) (G := g (26 + 2 * p)) hg (show g (25 + 2 * p) < 5 by omega) hli H1 R1 tv1 (by rw [← hh1, hR_sI, hR_sI, hR_sI, hR_sR, if_pos ⟨rfl, rfl⟩]) (by rw [← hh1, hI_sI, if_neg (by omega), hI_sI, if_neg (by omega), hI_sI, if_pos ⟨rfl, rfl⟩]; rfl) gc
  rw [show nI (we false (g (25 + 2 * p))) = nI (g (25 + 2 * p)) from rfl, show nI (wl false (g (25 + 2 * p))) = (0 : Int32) from rfl] at cs
  refine xe_C_mono cs ?_
  rintro r h2 ⟨rfl, S⟩
  simp only [xs_71_91, rf_some, xc_int, xc_ref, xc_ret, xc_long, xw_nil, xw_int, xw_ref, xw_long, tl_some, tl_none, true_and, and_true, Nat.zero_le, Nat.reduceAdd, Nat.reduceMul, Nat.reduceLeDiff, Nat.reduceLT, Nat.reduceEqDiff, Nat.reducePow, Int32.reduceAdd, Int32.reduceMul, Int32.reduceSub, Int32.reduceLT, Int32.reduceLE, Int32.reduceToNatClampNeg, litE, ixU, not_false_eq_true, not_true_eq_false, ↓reduceIte, eq_self, true_or, or_true, false_and, and_false, or_false, false_or, i10, i01, in10, i1n, xbT, xbF, r_lt]
  exact ⟨h1, W1, S⟩
end WX
