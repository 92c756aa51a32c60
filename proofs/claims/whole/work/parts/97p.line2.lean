/-! text: the reference reads the kinds of line -/
def msS (a j : Nat) : Prop := (a = 48 ∧ ((3 ≤ j ∧ j ≤ 8) ∨ (14 ≤ j ∧ j ≤ 19))) ∨ (50 ≤ a ∧ a ≤ 52)
theorem bit_0 : ∀ v, v < 7 → ((0 : Int32) >>> (nI v &&& 31)) &&& 1 = nI 0 := by decide +kernel
theorem bit_a : ∀ a, a < 7 → ∀ v, v < 7 → (((1 : Int32) <<< (nI a &&& 31)) >>> (nI v &&& 31)) &&& 1 = nI (if v = a then 1 else 0) := by decide +kernel
theorem oC_0 {T : Nat → Nat} {n j lo hi : Nat} : oC T n j lo hi (fun _ => 0) = nC T n j lo hi := by
  unfold oC
  by_cases z : nC T n j lo hi = 0
  · rw [if_pos z, z]; exact if_neg (show ¬ (0 : Nat) = 1 by decide)
  · rw [if_neg z]
theorem oC_b {T : Nat → Nat} {n j lo hi : Nat} {bit : Nat → Nat} : oC T n j lo hi bit ≤ 4 := by
  have := nC_b T n j lo hi
  unfold oC
  repeat' split
  all_goals omega
theorem oC_nC {T : Nat → Nat} {n j lo hi : Nat} {bit : Nat → Nat} (h : oC T n j lo hi bit = 0) : nC T n j lo hi = 0 ∧ ¬ bit (eV T n j) = 1 := by
  unfold oC at h
  by_cases z : nC T n j lo hi = 0
  · rw [if_pos z] at h
    by_cases y : bit (eV T n j) = 1
    · rw [if_pos y] at h; omega
    · exact ⟨z, y⟩
  · rw [if_neg z] at h; exact absurd h z
section TM
variable {d : Nat} {h h1 : xe_H} {g : Nat → Nat} {Q : Option Value → xe_H → Prop} {T : Nat → Nat} {n : Nat}
theorem ldT_c {j : Nat} (L : ldT T n j h) (e : ∀ k, 14 ≤ k → k ≤ 19 → xe_I h1 48 k = xe_I h 48 k) : ldT T n j h1 := by
  unfold ldT
  rw [e 14 (by omega) (by omega), e 15 (by omega) (by omega), e 16 (by omega) (by omega), e 17 (by omega) (by omega), e 18 (by omega) (by omega), e 19 (by omega) (by omega)]
  exact L
theorem tm_ms (W : wr tmS h h1) : wr msS h h1 := wr_sub W (fun a j z => by unfold tmS at z; unfold msS; omega)
theorem tp_ms {f : Nat} (hf : 3 ≤ f ∧ f ≤ 8) (W : wr (tmP f) h h1) : wr msS h h1 := wr_sub W (fun a j z => by unfold tmP at z; unfold msS; omega)
theorem mTp'_m (C : mTp' T n h) (W : wr msS h h1) : mTp' T n h1 := mTp'_w C W (fun a j z => by unfold msS at z; omega)
/-- a name is loaded -/
def ldN (T : Nat → Nat) (n j : Nat) (h : xe_H) : Prop := xe_I h 48 14 = 0 ∧ xe_I h 48 17 = nI j ∧ xe_I h 48 16 = nI (eE T n j)
theorem md_readBridge {j : Nat} (hn : n ≤ 320) (hT : ∀ k, T k < 256) (hj : j ≤ n) (G : gq g) (H : sh h) (C : mTp' T n h) (M : msQ g h) (L : ldN T n j h)
    (K5 : ∀ h', g 24 = 6 → wr msS h h' → BR 5 j h' → Q none h')
    (K1 : ∀ h', ¬ g 24 = 6 → ¬ nC T n (tkS T n (eE T n j)) 0 4 = 0 → wr msS h h' → BR (nC T n (tkS T n (eE T n j)) 0 4) (tkS T n (eE T n j)) h' → Q none h')
    (K2 : ∀ h' c, ¬ g 24 = 6 → nC T n (tkS T n (eE T n j)) 0 4 = 0 → c = oC T n (tkS T n (eE T n (tkS T n (eE T n j)))) 0 4 (fun v => if v = eV T n (tkS T n (eE T n j)) then 1 else 0) → ¬ c = 0 → wr msS h h' → BR c (tkS T n (eE T n (tkS T n (eE T n j)))) h' → Q none h')
    (K0 : ∀ h', ¬ g 24 = 6 → nC T n (tkS T n (eE T n j)) 0 4 = 0 → oC T n (tkS T n (eE T n (tkS T n (eE T n j)))) 0 4 (fun v => if v = eV T n (tkS T n (eE T n j)) then 1 else 0) = 0 → wr msS h h' → msQ (tlg 3 (eV T n (tkS T n (eE T n j))) (eV T n (tkS T n (eE T n (tkS T n (eE T n j))))) g) h' → ldT T n (tkS T n (eE T n (tkS T n (eE T n (tkS T n (eE T n j)))))) h' → Q none h') : xe_C (d + 5) 130 [.ref 48] h Q := by
  have q24 := G.1.1
  have q36 := G.1.2.2.2.2.2.2.1
  obtain ⟨⟨a1, a2, a3, a4, a5, a6⟩, bb, cc, pp, told, ⟨t1, t2⟩, shutm, hungm⟩ := id M
  obtain ⟨l14, l17, l16⟩ := L
  have hE := eE_b (T := T) hj
  have hS1 := tkS_b (T := T) hE.2.1
  have hE1 := eE_b (T := T) hS1.2
  have hS2 := tkS_b (T := T) hE1.2.1
  have e6 : (nI (g 24) = 6) = (g 24 = 6) := nIe6 (by omega)
  by_cases z6 : g 24 = 6
  · have fl := fun d Q => md_fails (d := d) (c := 5) (Q := Q) H l14 l17
    have k := K5 (xe_sI (xe_sI h 48 14 5) 48 15 (nI j)) z6 (wr_sI (wr_sI (wr_rf _ _) (by unfold msS; omega)) (by unfold msS; omega)) ⟨by rw [hI_sI, if_neg (by omega), hI_sI, if_pos ⟨rfl, rfl⟩]; rfl, by rw [hI_sI, if_pos ⟨rfl, rfl⟩]⟩
    simp only [xs_130, xs_130_0, xs_130_1, xs_130_4, xs_130_6, xs_130_7, xs_130_8, xs_130_9, xs_130_11, xs_130_14, xs_130_15, xs_130_16, xs_130_19, H, sT_48, sT_49, sN_49, sA_49, sT_50, sN_50, sA_50, sT_51, sN_51, sA_51, sT_52, sN_52, sA_52, sT_53, sN_53, sA_53, sT_54, sN_54, sA_54, sT_55, sN_55, sA_55, sT_56, sN_56, sA_56, sT_57, sN_57, sA_57, sT_58, sN_58, sA_58, sT_59, sN_59, sA_59, sT_60, sN_60, sA_60, sT_61, sN_61, sA_61, sT_62, sN_62, sA_62, sT_63, sN_63, sA_63, sT_64, sN_64, sA_64, sT_65, sN_65, sA_65, sT_66, sN_66, sA_66, sT_67, sN_67, sA_67, sT_68, sN_68, sB_68, sT_69, sN_69, sA_69, sT_70, sN_70, sA_70, sT_71, sN_71, sA_71, sR_48_0, sR_48_2, sR_48_9, sR_48_10, sR_48_11, sR_48_20, sR_48_21, sR_48_22, sR_48_23, sR_48_24, sR_48_26, sR_48_27, sR_48_28, sR_48_29, sR_48_30, sR_48_31, sR_48_33, sR_48_34, sR_48_35, sR_48_36, sR_48_37, sR_48_38, sR_48_39, a2, e6, eq_true z6, fl, rf_some, xc_int, xc_ref, xc_ret, xc_long, xw_nil, xw_int, xw_ref, xw_long, tl_some, tl_none, true_and, and_true, Nat.zero_le, Nat.reduceAdd, Nat.reduceMul, Nat.reduceLeDiff, Nat.reduceLT, Nat.reduceEqDiff, Nat.reducePow, Int32.reduceAdd, Int32.reduceMul, Int32.reduceSub, Int32.reduceLT, Int32.reduceLE, Int32.reduceToNatClampNeg, litE, ixU, not_false_eq_true, not_true_eq_false, ↓reduceIte, eq_self, true_or, or_true, false_and, and_false, or_false, false_or, i10, i01, in10, i1n, xbT, xbF, r_lt]
    exact k
  · have K1 := fun h' => K1 h' z6
    have K2 := fun h' c => K2 h' c z6
    have K0 := fun h' => K0 h' z6
    have st := md_step (d := d + 2) hn hT hE.2.1 H C l14 l16
    have e4 : (4 : Int32) * nI (g 24) = nI (4 * g 24) := by rw [show (4 : Int32) = nI 4 from rfl, pk_mul]
    simp only [xs_130, xs_130_0, xs_130_1, xs_130_4, xs_130_6, xs_130_7, xs_130_8, xs_130_9, xs_130_11, xs_130_14, xs_130_15, xs_130_16, xs_130_19, xs_130_20, xs_130_21, H, sT_48, sT_49, sN_49, sA_49, sT_50, sN_50, sA_50, sT_51, sN_51, sA_51, sT_52, sN_52, sA_52, sT_53, sN_53, sA_53, sT_54, sN_54, sA_54, sT_55, sN_55, sA_55, sT_56, sN_56, sA_56, sT_57, sN_57, sA_57, sT_58, sN_58, sA_58, sT_59, sN_59, sA_59, sT_60, sN_60, sA_60, sT_61, sN_61, sA_61, sT_62, sN_62, sA_62, sT_63, sN_63, sA_63, sT_64, sN_64, sA_64, sT_65, sN_65, sA_65, sT_66, sN_66, sA_66, sT_67, sN_67, sA_67, sT_68, sN_68, sB_68, sT_69, sN_69, sA_69, sT_70, sN_70, sA_70, sT_71, sN_71, sA_71, sR_48_0, sR_48_2, sR_48_9, sR_48_10, sR_48_11, sR_48_20, sR_48_21, sR_48_22, sR_48_23, sR_48_24, sR_48_26, sR_48_27, sR_48_28, sR_48_29, sR_48_30, sR_48_31, sR_48_33, sR_48_34, sR_48_35, sR_48_36, sR_48_37, sR_48_38, sR_48_39, a2, e6, eq_false z6, rf_some, xc_int, xc_ref, xc_ret, xc_long, xw_nil, xw_int, xw_ref, xw_long, tl_some, tl_none, true_and, and_true, Nat.zero_le, Nat.reduceAdd, Nat.reduceMul, Nat.reduceLeDiff, Nat.reduceLT, Nat.reduceEqDiff, Nat.reducePow, Int32.reduceAdd, Int32.reduceMul, Int32.reduceSub, Int32.reduceLT, Int32.reduceLE, Int32.reduceToNatClampNeg, litE, ixU, not_false_eq_true, not_true_eq_false, ↓reduceIte, eq_self, true_or, or_true, false_and, and_false, or_false, false_or, i10, i01, in10, i1n, xbT, xbF, r_lt]
    refine xe_C_mono st ?_
    rintro r h2 ⟨rfl, W2, L2⟩
    have H2 := wr_sh W2 H
    have C2 := mTp'_t C W2
    have f5 : xe_I h2 48 5 = nI (g 36) - 1 := by rw [W2.2 48 5 (by unfold tmS; omega)]; exact t1
    generalize tkS T n (eE T n j) = k1 at *
    simp only [xs_130_24, xs_130_25, xs_130_28, xs_130_29, xs_130_30, xs_130_31, xs_130_32, xs_130_33, H2, sT_48, sT_49, sN_49, sA_49, sT_50, sN_50, sA_50, sT_51, sN_51, sA_51, sT_52, sN_52, sA_52, sT_53, sN_53, sA_53, sT_54, sN_54, sA_54, sT_55, sN_55, sA_55, sT_56, sN_56, sA_56, sT_57, sN_57, sA_57, sT_58, sN_58, sA_58, sT_59, sN_59, sA_59, sT_60, sN_60, sA_60, sT_61, sN_61, sA_61, sT_62, sN_62, sA_62, sT_63, sN_63, sA_63, sT_64, sN_64, sA_64, sT_65, sN_65, sA_65, sT_66, sN_66, sA_66, sT_67, sN_67, sA_67, sT_68, sN_68, sB_68, sT_69, sN_69, sA_69, sT_70, sN_70, sA_70, sT_71, sN_71, sA_71, sR_48_0, sR_48_2, sR_48_9, sR_48_10, sR_48_11, sR_48_20, sR_48_21, sR_48_22, sR_48_23, sR_48_24, sR_48_26, sR_48_27, sR_48_28, sR_48_29, sR_48_30, sR_48_31, sR_48_33, sR_48_34, sR_48_35, sR_48_36, sR_48_37, sR_48_38, sR_48_39, e4, rf_some, xc_int, xc_ref, xc_ret, xc_long, xw_nil, xw_int, xw_ref, xw_long, tl_some, tl_none, true_and, and_true, Nat.zero_le, Nat.reduceAdd, Nat.reduceMul, Nat.reduceLeDiff, Nat.reduceLT, Nat.reduceEqDiff, Nat.reducePow, Int32.reduceAdd, Int32.reduceMul, Int32.reduceSub, Int32.reduceLT, Int32.reduceLE, Int32.reduceToNatClampNeg, litE, ixU, not_false_eq_true, not_true_eq_false, ↓reduceIte, eq_self, true_or, or_true, false_and, and_false, or_false, false_or, i10, i01, in10, i1n, xbT, xbF, r_lt]
    refine md_place (d := d) (p := g 36) (bit := fun _ => 0) hn hT hS1.2 (fun v hv => ⟨bit_0 v (by omega), by omega⟩) (by omega) H2 C2 L2 f5 (fun h3 o0 W3 L3 f5 => ?_) (fun h3 o0 W3 B3 => ?_)
    · rw [oC_0] at o0
      have K2 := fun h' c => K2 h' c o0
      have K0 := fun h' => K0 h' o0
      have cn := nC_0 o0
      have H3 := wr_sh W3 H2
      generalize hk2 : tkS T n (eE T n k1) = k2 at *
      generalize ha : eV T n k1 = a at *
      generalize hh4 : xe_sI h3 50 (4 * g 24) (nI a) = h4
      have W4 : wr msS h h4 := by rw [← hh4]; exact wr_sI (wr_tr (tm_ms W2) (tp_ms (by omega) W3)) (by unfold msS; omega)
      have H4 := wr_sh W4 H
      have L4 : ldT T n k2 h4 := ldT_c L3 (fun k _ _ => by rw [← hh4, hI_sI, if_neg (by omega)])
      have f5' : xe_I h4 48 5 = nI (mx (g 36) (a + 1)) - 1 := by rw [← hh4, hI_sI, if_neg (by omega)]; exact f5
      have v1 : xe_I h4 50 (4 * g 24) = nI a := by rw [← hh4, hI_sI, if_pos ⟨rfl, rfl⟩]
      have mm := mx_b (g 36) (a + 1)
      simp only [xs_130_36, xs_130_37, xs_130_38, xs_130_41, xs_130_42, xs_130_43, xs_130_44, xs_130_45, xs_130_46, xs_130_47, xs_130_48, xs_130_49, xs_130_52, xs_130_53, xs_130_54, xs_130_55, xs_130_56, xs_130_57, H3, sT_48, sT_49, sN_49, sA_49, sT_50, sN_50, sA_50, sT_51, sN_51, sA_51, sT_52, sN_52, sA_52, sT_53, sN_53, sA_53, sT_54, sN_54, sA_54, sT_55, sN_55, sA_55, sT_56, sN_56, sA_56, sT_57, sN_57, sA_57, sT_58, sN_58, sA_58, sT_59, sN_59, sA_59, sT_60, sN_60, sA_60, sT_61, sN_61, sA_61, sT_62, sN_62, sA_62, sT_63, sN_63, sA_63, sT_64, sN_64, sA_64, sT_65, sN_65, sA_65, sT_66, sN_66, sA_66, sT_67, sN_67, sA_67, sT_68, sN_68, sB_68, sT_69, sN_69, sA_69, sT_70, sN_70, sA_70, sT_71, sN_71, sA_71, sR_48_0, sR_48_2, sR_48_9, sR_48_10, sR_48_11, sR_48_20, sR_48_21, sR_48_22, sR_48_23, sR_48_24, sR_48_26, sR_48_27, sR_48_28, sR_48_29, sR_48_30, sR_48_31, sR_48_33, sR_48_34, sR_48_35, sR_48_36, sR_48_37, sR_48_38, sR_48_39, nIlt0 (show 4 * g 24 < 2 ^ 31 by omega), nI_clamp (show 4 * g 24 < 2 ^ 31 by omega), show 4 * g 24 < 35 by omega, hh4, H4, e4, v1, nI_1, rf_some, xc_int, xc_ref, xc_ret, xc_long, xw_nil, xw_int, xw_ref, xw_long, tl_some, tl_none, true_and, and_true, Nat.zero_le, Nat.reduceAdd, Nat.reduceMul, Nat.reduceLeDiff, Nat.reduceLT, Nat.reduceEqDiff, Nat.reducePow, Int32.reduceAdd, Int32.reduceMul, Int32.reduceSub, Int32.reduceLT, Int32.reduceLE, Int32.reduceToNatClampNeg, litE, ixU, not_false_eq_true, not_true_eq_false, ↓reduceIte, eq_self, true_or, or_true, false_and, and_false, or_false, false_or, i10, i01, in10, i1n, xbT, xbF, r_lt]
      refine md_place (d := d) (p := mx (g 36) (a + 1)) (bit := fun v => if v = a then 1 else 0) hn hT hS2.2 (fun v hv => ⟨bit_a a (by omega) v (by omega), by split <;> omega⟩) (by omega) H4 (mTp'_m C W4) L4 f5' (fun h5 o1 W5 L5 f5 => ?_) (fun h5 o1 W5 B5 => ?_)
      · have H5 := wr_sh W5 H4
        have W6 := wr_tr W4 (tp_ms (by omega) W5)
        have u24 : xe_I h5 50 24 = nI (g 24) := by rw [W5.2 50 24 (by unfold tmP; omega), ← hh4, hI_sI, if_neg (by omega), W3.2 50 24 (by unfold tmP; omega), W2.2 50 24 (by unfold tmS; omega)]; exact a2
        have cn1 := nC_0 (oC_nC o1).1
        have nab := (oC_nC o1).2
        have nab : ¬ a = eV T n k2 := fun y => nab (if_pos y.symm)
        generalize hb : eV T n k2 = b at *
        have k := K0 (xe_sI (xe_sI h5 50 (4 * g 24 + 1) (nI b)) 50 24 (nI (g 24 + 1))) o1 (wr_sI (wr_sI W6 (by unfold msS; omega)) (by unfold msS; omega)) (ms_3 G ⟨by omega, by omega, by omega, fun _ => ⟨by omega, by omega, by omega, nab⟩, by omega, by omega, by omega⟩ M (fun c j z => by
          rw [hI_sI, if_neg (by omega), hI_sI, if_neg (by omega), W5.2 c j (by unfold tmP; omega), ← hh4, hI_sI, if_neg (by omega), W3.2 c j (by unfold tmP; omega), W2.2 c j (by unfold tmS; omega)]) (by rw [hI_sI, if_neg (by omega), hI_sI, if_neg (by omega), W5.2 50 _ (by unfold tmP; omega)]; exact v1) (by rw [hI_sI, if_neg (by omega), hI_sI, if_pos ⟨rfl, rfl⟩]) (by rw [hI_sI, if_pos ⟨rfl, rfl⟩]) (by rw [hI_sI, if_neg (by omega), hI_sI, if_neg (by omega)]; exact f5)) (ldT_c L5 (fun k _ _ => by rw [hI_sI, if_neg (by omega), hI_sI, if_neg (by omega)]))
        have n24 : ¬ (24 = 4 * g 24 + 1) := by omega
        simp only [xs_130_60, xs_130_61, xs_130_62, xs_130_65, xs_130_67, xs_130_68, xs_130_69, xs_130_70, xs_130_71, xs_130_72, H5, sT_48, sT_49, sN_49, sA_49, sT_50, sN_50, sA_50, sT_51, sN_51, sA_51, sT_52, sN_52, sA_52, sT_53, sN_53, sA_53, sT_54, sN_54, sA_54, sT_55, sN_55, sA_55, sT_56, sN_56, sA_56, sT_57, sN_57, sA_57, sT_58, sN_58, sA_58, sT_59, sN_59, sA_59, sT_60, sN_60, sA_60, sT_61, sN_61, sA_61, sT_62, sN_62, sA_62, sT_63, sN_63, sA_63, sT_64, sN_64, sA_64, sT_65, sN_65, sA_65, sT_66, sN_66, sA_66, sT_67, sN_67, sA_67, sT_68, sN_68, sB_68, sT_69, sN_69, sA_69, sT_70, sN_70, sA_70, sT_71, sN_71, sA_71, sR_48_0, sR_48_2, sR_48_9, sR_48_10, sR_48_11, sR_48_20, sR_48_21, sR_48_22, sR_48_23, sR_48_24, sR_48_26, sR_48_27, sR_48_28, sR_48_29, sR_48_30, sR_48_31, sR_48_33, sR_48_34, sR_48_35, sR_48_36, sR_48_37, sR_48_38, sR_48_39, nIlt0 (show 4 * g 24 + 1 < 2 ^ 31 by omega), nI_clamp (show 4 * g 24 + 1 < 2 ^ 31 by omega), show 4 * g 24 + 1 < 35 by omega, u24, eq_false n24, nI_1, rf_some, xc_int, xc_ref, xc_ret, xc_long, xw_nil, xw_int, xw_ref, xw_long, tl_some, tl_none, true_and, and_true, Nat.zero_le, Nat.reduceAdd, Nat.reduceMul, Nat.reduceLeDiff, Nat.reduceLT, Nat.reduceEqDiff, Nat.reducePow, Int32.reduceAdd, Int32.reduceMul, Int32.reduceSub, Int32.reduceLT, Int32.reduceLE, Int32.reduceToNatClampNeg, litE, ixU, not_false_eq_true, not_true_eq_false, ↓reduceIte, eq_self, true_or, or_true, false_and, and_false, or_false, false_or, i10, i01, in10, i1n, xbT, xbF, r_lt, hI_sI, hL_sI, hR_sI, hT_sI, hN_sI, hn_sI, ho_sI, hia_sI, hba_sI, hal_sI, hix_sI, hI_aI, hL_aI, hR_aI, hT_aI, hN_aI, hn_aI, ho_aI, hia_aI, hal_aI, hix_aI, sh_sI, sh_aI, sh_sL, sh_aL]
        exact k
      · have H5 := wr_sh W5 H4
        have W6 := wr_tr W4 (tp_ms (by omega) W5)
        have kk : ∀ v, Q none (xe_sI (xe_sI h5 50 (4 * g 24 + 1) 0) 50 24 v) := fun v => K2 _ _ rfl o1 (wr_sI (wr_sI W6 (by unfold msS; omega)) (by unfold msS; omega)) (BR_w B5 (wr_sI (S := fun a _ => a = 50) (wr_sI (wr_rf _ _) rfl) rfl) (fun a j z => by omega))
        have n24 : ¬ (24 = 4 * g 24 + 1) := by omega
        simp only [xs_130_60, xs_130_61, xs_130_62, xs_130_65, xs_130_67, xs_130_68, xs_130_69, xs_130_70, xs_130_71, xs_130_72, H5, sT_48, sT_49, sN_49, sA_49, sT_50, sN_50, sA_50, sT_51, sN_51, sA_51, sT_52, sN_52, sA_52, sT_53, sN_53, sA_53, sT_54, sN_54, sA_54, sT_55, sN_55, sA_55, sT_56, sN_56, sA_56, sT_57, sN_57, sA_57, sT_58, sN_58, sA_58, sT_59, sN_59, sA_59, sT_60, sN_60, sA_60, sT_61, sN_61, sA_61, sT_62, sN_62, sA_62, sT_63, sN_63, sA_63, sT_64, sN_64, sA_64, sT_65, sN_65, sA_65, sT_66, sN_66, sA_66, sT_67, sN_67, sA_67, sT_68, sN_68, sB_68, sT_69, sN_69, sA_69, sT_70, sN_70, sA_70, sT_71, sN_71, sA_71, sR_48_0, sR_48_2, sR_48_9, sR_48_10, sR_48_11, sR_48_20, sR_48_21, sR_48_22, sR_48_23, sR_48_24, sR_48_26, sR_48_27, sR_48_28, sR_48_29, sR_48_30, sR_48_31, sR_48_33, sR_48_34, sR_48_35, sR_48_36, sR_48_37, sR_48_38, sR_48_39, nIlt0 (show 4 * g 24 + 1 < 2 ^ 31 by omega), nI_clamp (show 4 * g 24 + 1 < 2 ^ 31 by omega), show 4 * g 24 + 1 < 35 by omega, eq_false n24, rf_some, xc_int, xc_ref, xc_ret, xc_long, xw_nil, xw_int, xw_ref, xw_long, tl_some, tl_none, true_and, and_true, Nat.zero_le, Nat.reduceAdd, Nat.reduceMul, Nat.reduceLeDiff, Nat.reduceLT, Nat.reduceEqDiff, Nat.reducePow, Int32.reduceAdd, Int32.reduceMul, Int32.reduceSub, Int32.reduceLT, Int32.reduceLE, Int32.reduceToNatClampNeg, litE, ixU, not_false_eq_true, not_true_eq_false, ↓reduceIte, eq_self, true_or, or_true, false_and, and_false, or_false, false_or, i10, i01, in10, i1n, xbT, xbF, r_lt, hI_sI, hL_sI, hR_sI, hT_sI, hN_sI, hn_sI, ho_sI, hia_sI, hba_sI, hal_sI, hix_sI, hI_aI, hL_aI, hR_aI, hT_aI, hN_aI, hn_aI, ho_aI, hia_aI, hal_aI, hix_aI, sh_sI, sh_aI, sh_sL, sh_aL]
        exact kk _
    · rw [oC_0] at o0 B3
      have H3 := wr_sh W3 H2
      have nb := nC_b T n k1 0 4
      generalize hh4 : xe_sI h3 50 (4 * g 24) 0 = h4
      have W4 : wr msS h h4 := by rw [← hh4]; exact wr_sI (wr_tr (tm_ms W2) (tp_ms (by omega) W3)) (by unfold msS; omega)
      have H4 := wr_sh W4 H
      have B4 : BR (nC T n k1 0 4) k1 h4 := by rw [← hh4]; exact BR_w B3 (wr_sI (S := fun a _ => a = 50) (wr_rf _ _) rfl) (fun a j z => by omega)
      have v1 : xe_I h4 50 (4 * g 24) = 0 := by rw [← hh4, hI_sI, if_pos ⟨rfl, rfl⟩]
      simp only [xs_130_36, xs_130_37, xs_130_38, xs_130_41, xs_130_42, xs_130_43, xs_130_44, xs_130_45, xs_130_46, xs_130_47, xs_130_48, xs_130_49, xs_130_52, xs_130_53, xs_130_54, xs_130_55, xs_130_56, xs_130_57, H3, sT_48, sT_49, sN_49, sA_49, sT_50, sN_50, sA_50, sT_51, sN_51, sA_51, sT_52, sN_52, sA_52, sT_53, sN_53, sA_53, sT_54, sN_54, sA_54, sT_55, sN_55, sA_55, sT_56, sN_56, sA_56, sT_57, sN_57, sA_57, sT_58, sN_58, sA_58, sT_59, sN_59, sA_59, sT_60, sN_60, sA_60, sT_61, sN_61, sA_61, sT_62, sN_62, sA_62, sT_63, sN_63, sA_63, sT_64, sN_64, sA_64, sT_65, sN_65, sA_65, sT_66, sN_66, sA_66, sT_67, sN_67, sA_67, sT_68, sN_68, sB_68, sT_69, sN_69, sA_69, sT_70, sN_70, sA_70, sT_71, sN_71, sA_71, sR_48_0, sR_48_2, sR_48_9, sR_48_10, sR_48_11, sR_48_20, sR_48_21, sR_48_22, sR_48_23, sR_48_24, sR_48_26, sR_48_27, sR_48_28, sR_48_29, sR_48_30, sR_48_31, sR_48_33, sR_48_34, sR_48_35, sR_48_36, sR_48_37, sR_48_38, sR_48_39, nIlt0 (show 4 * g 24 < 2 ^ 31 by omega), nI_clamp (show 4 * g 24 < 2 ^ 31 by omega), show 4 * g 24 < 35 by omega, hh4, H4, e4, v1, nI_1, rf_some, xc_int, xc_ref, xc_ret, xc_long, xw_nil, xw_int, xw_ref, xw_long, tl_some, tl_none, true_and, and_true, Nat.zero_le, Nat.reduceAdd, Nat.reduceMul, Nat.reduceLeDiff, Nat.reduceLT, Nat.reduceEqDiff, Nat.reducePow, Int32.reduceAdd, Int32.reduceMul, Int32.reduceSub, Int32.reduceLT, Int32.reduceLE, Int32.reduceToNatClampNeg, litE, ixU, not_false_eq_true, not_true_eq_false, ↓reduceIte, eq_self, true_or, or_true, false_and, and_false, or_false, false_or, i10, i01, in10, i1n, xbT, xbF, r_lt]
      refine md_placeB (d := d) H4 (by omega) (by omega) B4 (fun h5 W5 B5 => ?_)
      have H5 := wr_sh W5 H4
      have W6 := wr_tr W4 (tp_ms (by omega) W5)
      have kk : ∀ v, Q none (xe_sI (xe_sI h5 50 (4 * g 24 + 1) 0) 50 24 v) := fun v => K1 _ o0 (wr_sI (wr_sI W6 (by unfold msS; omega)) (by unfold msS; omega)) (BR_w B5 (wr_sI (S := fun a _ => a = 50) (wr_sI (wr_rf _ _) rfl) rfl) (fun a j z => by omega))
      have n24 : ¬ (24 = 4 * g 24 + 1) := by omega
      simp only [xs_130_60, xs_130_61, xs_130_62, xs_130_65, xs_130_67, xs_130_68, xs_130_69, xs_130_70, xs_130_71, xs_130_72, H5, sT_48, sT_49, sN_49, sA_49, sT_50, sN_50, sA_50, sT_51, sN_51, sA_51, sT_52, sN_52, sA_52, sT_53, sN_53, sA_53, sT_54, sN_54, sA_54, sT_55, sN_55, sA_55, sT_56, sN_56, sA_56, sT_57, sN_57, sA_57, sT_58, sN_58, sA_58, sT_59, sN_59, sA_59, sT_60, sN_60, sA_60, sT_61, sN_61, sA_61, sT_62, sN_62, sA_62, sT_63, sN_63, sA_63, sT_64, sN_64, sA_64, sT_65, sN_65, sA_65, sT_66, sN_66, sA_66, sT_67, sN_67, sA_67, sT_68, sN_68, sB_68, sT_69, sN_69, sA_69, sT_70, sN_70, sA_70, sT_71, sN_71, sA_71, sR_48_0, sR_48_2, sR_48_9, sR_48_10, sR_48_11, sR_48_20, sR_48_21, sR_48_22, sR_48_23, sR_48_24, sR_48_26, sR_48_27, sR_48_28, sR_48_29, sR_48_30, sR_48_31, sR_48_33, sR_48_34, sR_48_35, sR_48_36, sR_48_37, sR_48_38, sR_48_39, nIlt0 (show 4 * g 24 + 1 < 2 ^ 31 by omega), nI_clamp (show 4 * g 24 + 1 < 2 ^ 31 by omega), show 4 * g 24 + 1 < 35 by omega, eq_false n24, rf_some, xc_int, xc_ref, xc_ret, xc_long, xw_nil, xw_int, xw_ref, xw_long, tl_some, tl_none, true_and, and_true, Nat.zero_le, Nat.reduceAdd, Nat.reduceMul, Nat.reduceLeDiff, Nat.reduceLT, Nat.reduceEqDiff, Nat.reducePow, Int32.reduceAdd, Int32.reduceMul, Int32.reduceSub, Int32.reduceLT, Int32.reduceLE, Int32.reduceToNatClampNeg, litE, ixU, not_false_eq_true, not_true_eq_false, ↓reduceIte, eq_self, true_or, or_true, false_and, and_false, or_false, false_or, i10, i01, in10, i1n, xbT, xbF, r_lt, hI_sI, hL_sI, hR_sI, hT_sI, hN_sI, hn_sI, ho_sI, hia_sI, hba_sI, hal_sI, hix_sI, hI_aI, hL_aI, hR_aI, hT_aI, hN_aI, hn_aI, ho_aI, hia_aI, hal_aI, hix_aI, sh_sI, sh_aI, sh_sL, sh_aL]
      exact kk _
end TM
