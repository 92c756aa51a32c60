/-! relay: the class -/
def sZ (b a j : Nat) : Prop := a = 29 ∨ a = 32 ∨ (a = 4 ∧ j = b)
section RB
variable {d : Nat} {h : xe_H} {g : Nat → Nat} {p : Nat}
theorem cl_seekN {li : Nat} (hg : pg_ok g) (hp : p < g 31) (hli : li < 2 ^ 31) (H : sh h) (R : rm h) (tv : tn_v h 1 g) : xe_C (d + 7) 71 [.ref 29, .ref 1, .int (nI p), .int (-1), .int (nI li)] h (fun r h' => r = none ∧ wq sY h h' ∧ rm h' ∧ ((wyN g p ≤ 100 ∧ wyN g p ≤ li ∧ (∃ K, K < 102400 ∧ xe_I h' 29 8 = nI K) ∧ xe_I h' 29 9 = nI (wyN g p)) ∨ ((wyN g p ≤ 100 → li < wyN g p) ∧ xe_I h' 29 8 = -1))) := by
  refine xe_C_mono (cl_seek1 (d := d) hg hp hli H R tv) ?_
  rintro r h2 ⟨rfl, h1, W1, S⟩
  have W2 : wq sY h h2 := wq_tr W1 (wq_sub S.1 (fun a j z => by unfold sW at z; unfold sY; omega))
  refine ⟨rfl, W2, srR_rm S, ?_⟩
  have e100 := ry_100 hg hp
  obtain ⟨E1, -, -⟩ := bend_ok (M := mxt false g) (show 4096 * g (25 + 2 * p) + rc (gr g) < 4096 * 25 by have := (ry_s0 hg hp).1; omega) (nxt_B (t := false) hg)
  obtain ⟨-, ⟨k1, k2, k3, k4, -⟩ | ⟨k1, k2, -⟩⟩ := S
  · have eN : wyN g p = bD (bZ (nxt false g) (mxt false g) (4096 * g (25 + 2 * p) + rc (gr g))) (bK (nxt false g) (mxt false g) (4096 * g (25 + 2 * p) + rc (gr g)) (g (26 + 2 * p))) := if_pos k1
    rw [eN]
    exact Or.inl ⟨e100 k1, k2, ⟨_, Nat.lt_of_lt_of_le k1 E1, k3⟩, k4⟩
  · refine Or.inr ⟨fun y => ?_, k2⟩
    by_cases z : bK (nxt false g) (mxt false g) (4096 * g (25 + 2 * p) + rc (gr g)) (g (26 + 2 * p)) < bend (nxt false g) (mxt false g) (4096 * g (25 + 2 * p) + rc (gr g))
    · have eN : wyN g p = bD (bZ (nxt false g) (mxt false g) (4096 * g (25 + 2 * p) + rc (gr g))) (bK (nxt false g) (mxt false g) (4096 * g (25 + 2 * p) + rc (gr g)) (g (26 + 2 * p))) := if_pos z
      rw [eN]; exact k1 z
    · have eN : wyN g p = 1000000 := if_neg z
      omega
theorem up_same {q : Nat} : up g q (g q) = g := by
  funext j
  by_cases z : j = q
  · rw [z, up_eq]
  · rw [up_ne z]
/-- the inner loop: what is tried on bridge b -/
theorem cl_inner {b : Nat} {z : Int32} {Q : Option Value → xe_H → Prop} (hg : pg_ok g) (hp : p < g 31) (hw : 0 < wyN g p) (hb : b < g 24) (H : sh h) (tv : tn_v h 1 g) (OUT : ∀ h2 l8, wq (sZ b) h h2 → rm h2 → xe_P (d + 7) 74 161 [.ref 29, .ref 1, .int (nI p), .int z, .int (nI (rkn g p (10 * b + 7)).1), .int (rkn g p (10 * b + 7)).2, .int (nI b), .int (nI (g (4 * b + 2))), l8] [] h2 Q) : ∀ t c h1, c + t = 7 → wq (sZ b) h h1 → rm h1 → xe_P (d + 7) 74 72 [.ref 29, .ref 1, .int (nI p), .int z, .int (nI (rkn g p (10 * b + c)).1), .int (rkn g p (10 * b + c)).2, .int (nI b), .int (nI (g (4 * b + 2))), .int (nI c)] [] h1 Q := by
  have h24 : g 24 ≤ 6 := hg.1
  have h31 : g 31 ≤ 3 := hg.2.1
  intro t
  induction t with
  | zero =>
    intro c h1 hc W R
    have hc : c = 7 := by omega
    subst hc
    have o := OUT h1 (.int (nI 7)) W R
    simp only [xs_74_72, xs_74_74, xs_74_76, show ((6 : Int32) < nI 7) = True from eq_true (by decide), rf_some, xc_int, xc_ref, xc_ret, xc_long, xw_nil, xw_int, xw_ref, xw_long, tl_some, tl_none, true_and, and_true, Nat.zero_le, Nat.reduceAdd, Nat.reduceMul, Nat.reduceLeDiff, Nat.reduceLT, Nat.reduceEqDiff, Nat.reducePow, Int32.reduceAdd, Int32.reduceMul, Int32.reduceSub, Int32.reduceLT, Int32.reduceLE, Int32.reduceToNatClampNeg, litE, ixU, not_false_eq_true, not_true_eq_false, ↓reduceIte, eq_self, true_or, or_true, false_and, and_false, or_false, false_or, i10, i01, in10, i1n, xbT, xbF, r_lt]
    exact o
  | succ t ih =>
    intro c h1 hc W R
    have H1 := W.1 H
    have e6 : ((6 : Int32) < nI c) = False := by rw [show (6 : Int32) = nI 6 from rfl, nIlt (by decide) (by omega)]; exact eq_false (by omega)
    have eb : (nI c = nI b) = (c = b) := nIe (by omega) (by omega)
    obtain ⟨b1, b2, -, b4⟩ := hg.2.2.2.2.2.2.2.2.1 b hb
    have ew : (nI c = nI (g (4 * b + 2))) = (c = g (4 * b + 2)) := nIe (by omega) (by omega)
    have ec : (nI c = 6) = (c = 6) := nIe6 (by omega)
    have k1 : (10 * b + c) % 10 = c := by omega
    have k2 : (10 * b + c) / 10 = b := by omega
    obtain ⟨i1, i2, -, i4, -⟩ := rkn_ok hg hp (10 * b + c) (by omega)
    have i4 := i4 hw
    have next : ∀ h2 l4 l5, (l4, l5) = (rkn g p (10 * b + c + 1)) → wq (sZ b) h h2 → rm h2 → xe_P (d + 7) 74 155 [.ref 29, .ref 1, .int (nI p), .int z, .int (nI l4), .int l5, .int (nI b), .int (nI (g (4 * b + 2))), .int (nI c)] [] h2 Q := by
      intro h2 l4 l5 e W2 R2
      have o := ih (c + 1) h2 (by omega) W2 R2
      rw [← Nat.add_assoc, ← e] at o
      simp only [xs_74_155, xs_74_158, nI_1, rf_some, xc_int, xc_ref, xc_ret, xc_long, xw_nil, xw_int, xw_ref, xw_long, tl_some, tl_none, true_and, and_true, Nat.zero_le, Nat.reduceAdd, Nat.reduceMul, Nat.reduceLeDiff, Nat.reduceLT, Nat.reduceEqDiff, Nat.reducePow, Int32.reduceAdd, Int32.reduceMul, Int32.reduceSub, Int32.reduceLT, Int32.reduceLE, Int32.reduceToNatClampNeg, litE, ixU, not_false_eq_true, not_true_eq_false, ↓reduceIte, eq_self, true_or, or_true, false_and, and_false, or_false, false_or, i10, i01, in10, i1n, xbT, xbF, r_lt]
      exact o
    have skip : rkn g p (10 * b + c + 1) = rkn g p (10 * b + c) → xe_P (d + 7) 74 155 [.ref 29, .ref 1, .int (nI p), .int z, .int (nI (rkn g p (10 * b + c)).1), .int (rkn g p (10 * b + c)).2, .int (nI b), .int (nI (g (4 * b + 2))), .int (nI c)] [] h1 Q := fun e => next h1 _ _ (by rw [e]) W R
    have v1 : xe_I h1 1 1 = nI (g 24) := by rw [W.2.2 1 1 (by unfold sZ; omega) (by omega)]; exact tv.1.2.1
    rw [xs_74_72]
    by_cases c1 : c = b
    · have s := skip (rkn_no (fun y => y.1.1 (by rw [k1, k2]; exact c1)))
      simp only [xs_74_74, xs_74_76, xs_74_79, xs_74_81, xs_74_83, e6, eb, eq_true c1, rf_some, xc_int, xc_ref, xc_ret, xc_long, xw_nil, xw_int, xw_ref, xw_long, tl_some, tl_none, true_and, and_true, Nat.zero_le, Nat.reduceAdd, Nat.reduceMul, Nat.reduceLeDiff, Nat.reduceLT, Nat.reduceEqDiff, Nat.reducePow, Int32.reduceAdd, Int32.reduceMul, Int32.reduceSub, Int32.reduceLT, Int32.reduceLE, Int32.reduceToNatClampNeg, litE, ixU, not_false_eq_true, not_true_eq_false, ↓reduceIte, eq_self, true_or, or_true, false_and, and_false, or_false, false_or, i10, i01, in10, i1n, xbT, xbF, r_lt]
      exact s
    · by_cases c2 : c = g (4 * b + 2)
      · have s := skip (rkn_no (fun y => by
          have y2 := y.2
          rw [k1, k2, c2, up_same, ← c2] at y2
          omega))
        simp only [xs_74_74, xs_74_76, xs_74_79, xs_74_81, xs_74_83, xs_74_86, xs_74_88, xs_74_90, e6, eb, eq_false c1, ew, eq_true c2, rf_some, xc_int, xc_ref, xc_ret, xc_long, xw_nil, xw_int, xw_ref, xw_long, tl_some, tl_none, true_and, and_true, Nat.zero_le, Nat.reduceAdd, Nat.reduceMul, Nat.reduceLeDiff, Nat.reduceLT, Nat.reduceEqDiff, Nat.reducePow, Int32.reduceAdd, Int32.reduceMul, Int32.reduceSub, Int32.reduceLT, Int32.reduceLE, Int32.reduceToNatClampNeg, litE, ixU, not_false_eq_true, not_true_eq_false, ↓reduceIte, eq_self, true_or, or_true, false_and, and_false, or_false, false_or, i10, i01, in10, i1n, xbT, xbF, r_lt]
        exact s
      · have go : (c < g 24 ∨ c = 6) → xe_P (d + 7) 74 112 [.ref 29, .ref 1, .int (nI p), .int z, .int (nI (rkn g p (10 * b + c)).1), .int (rkn g p (10 * b + c)).2, .int (nI b), .int (nI (g (4 * b + 2))), .int (nI c)] [] h1 Q := by
          intro c3
          have hv : c = 6 ∨ (c < g 24 ∧ c ≠ b) := c3.elim (fun y => Or.inr ⟨y, c1⟩) Or.inl
          have g' := pg_hang hg hb hv
          have u31 : p < up g (4 * b + 2) c 31 := by rw [up_ne (by omega)]; exact hp
          have tv1 : tn_v (xe_sI h1 4 b (nI c)) 1 (up g (4 * b + 2) c) := by
            refine tn_v_c (tn_up_hang (v := c) h24 h31 (show b < 6 by omega) tv) (fun a j x1 x2 => ?_)
            rw [hI_sI, hI_sI]
            by_cases y : a = 4 ∧ j = b
            · rw [if_pos y, if_pos (by exact y)]
            · rw [if_neg y, if_neg (by exact y)]
              exact W.2.2 a j (by unfold sZ; omega) (by omega)
          have W1 : wq (sZ b) h (xe_sI h1 4 b (nI c)) := wq_sI W (Or.inr (Or.inr ⟨rfl, rfl⟩))
          have eli : nI (rkn g p (10 * b + c)).1 - 1 = nI ((rkn g p (10 * b + c)).1 - 1) := by rw [show (1 : Int32) = nI 1 from rfl, pk_sub (by omega)]
          have wc := wyN_c g' u31
          have sk := cl_seekN (d := d) (li := (rkn g p (10 * b + c)).1 - 1) g' u31 (by omega) (show sh (xe_sI h1 4 b (nI c)) by rw [sh_sI]; exact H1) (show rm (xe_sI h1 4 b (nI c)) by rw [rm_sI]; exact R) tv1
          simp only [xs_74_112, xs_74_113, xs_74_116, xs_74_118, xs_74_120, xs_74_121, xs_74_122, xs_74_123, xs_74_124, xs_74_125, xs_74_127, xs_74_128, xs_74_129, H1, sT_0, sT_1, sT_2, sN_2, sA_2, sT_3, sN_3, sA_3, sT_4, sN_4, sA_4, sT_5, sN_5, sA_5, sT_6, sN_6, sA_6, sT_7, sT_8, sN_8, sA_8, sT_9, sN_9, sA_9, sT_10, sN_10, sA_10, sT_11, sN_11, sA_11, sT_12, sN_12, sA_12, sT_13, sN_13, sT_14, sT_15, sN_15, sA_15, sT_16, sN_16, sA_16, sT_17, sN_17, sA_17, sT_18, sN_18, sA_18, sT_19, sN_19, sA_19, sT_20, sT_21, sN_21, sA_21, sT_22, sN_22, sA_22, sT_23, sN_23, sA_23, sT_24, sN_24, sA_24, sT_25, sN_25, sA_25, sT_26, sN_26, sB_26, sT_27, sT_28, sN_28, sB_28, sT_29, sT_30, sN_30, sT_32, sN_32, sA_32, sT_33, sT_34, sN_34, sA_34, sT_35, sN_35, sA_35, sT_36, sT_37, sN_37, sA_37, sT_38, sN_38, sA_38, sT_39, sN_39, sA_39, sT_40, sN_40, sB_40, sT_41, sN_41, sA_41, sT_42, sN_42, sA_42, sT_43, sN_43, sA_43, sT_44, sT_45, sN_45, sA_45, sT_46, sN_46, sA_46, sT_47, sN_47, sA_47, sR_1_7, sR_1_8, sR_1_9, sR_1_10, sR_1_11, sR_0_0, sR_7_7, sR_7_8, sR_7_9, sR_7_10, sR_7_11, sR_0_1, sR_0_2, sR_14_7, sR_14_8, sR_14_9, sR_14_10, sR_14_11, sR_13_0, sR_20_7, sR_20_8, sR_20_9, sR_20_10, sR_20_11, sR_13_1, sR_0_3, sR_0_4, sR_27_0, sR_0_5, sR_29_0, sR_29_3, sR_0_6, sR_33_1, sR_33_2, sR_0_7, sR_36_2, sR_36_3, sR_36_4, sR_36_5, sR_36_6, sR_36_7, sR_36_8, sR_0_8, sR_44_0, sR_44_1, sR_44_2, nIlt0 (show b < 2 ^ 31 by omega), nI_clamp (show b < 2 ^ 31 by omega), show b < 6 by omega, eli, rf_some, xc_int, xc_ref, xc_ret, xc_long, xw_nil, xw_int, xw_ref, xw_long, tl_some, tl_none, true_and, and_true, Nat.zero_le, Nat.reduceAdd, Nat.reduceMul, Nat.reduceLeDiff, Nat.reduceLT, Nat.reduceEqDiff, Nat.reducePow, Int32.reduceAdd, Int32.reduceMul, Int32.reduceSub, Int32.reduceLT, Int32.reduceLE, Int32.reduceToNatClampNeg, litE, ixU, not_false_eq_true, not_true_eq_false, ↓reduceIte, eq_self, true_or, or_true, false_and, and_false, or_false, false_or, i10, i01, in10, i1n, xbT, xbF, r_lt, hI_sI, hL_sI, hR_sI, hT_sI, hN_sI, hn_sI, ho_sI, hia_sI, hba_sI, hal_sI, hix_sI, hI_aI, hL_aI, hR_aI, hT_aI, hN_aI, hn_aI, ho_aI, hia_aI, hal_aI, hix_aI, sh_sI, sh_aI, sh_sL, sh_aL]
          refine xe_C_mono sk ?_
          rintro r h3 ⟨rfl, W3, R3, S⟩
          have W4 : wq (sZ b) h h3 := wq_tr W1 (wq_sub W3 (fun a j z => by unfold sY at z; unfold sZ; omega))
          have H3 := W4.1 H
          rcases S with ⟨j1, j2, ⟨K, hK, j3⟩, j4⟩ | ⟨j1, j2⟩
          · have n := next h3 _ _ (rkn_yes (k := 10 * b + c) ⟨by rw [k1, k2]; exact ⟨c1, c3⟩, by rw [k1, k2]; omega⟩).symm W4 R3
            rw [k1, k2] at n
            have ek : (10 : Int32) * nI b + nI c = nI (10 * b + c) := by rw [show (10 : Int32) = nI 10 from rfl, pk_mul, nI_add]
            simp only [xs_74_132, xs_74_133, xs_74_136, xs_74_139, xs_74_140, xs_74_143, xs_74_145, xs_74_147, xs_74_149, xs_74_150, xs_74_152, xs_74_153, H3, sT_0, sT_1, sT_2, sN_2, sA_2, sT_3, sN_3, sA_3, sT_4, sN_4, sA_4, sT_5, sN_5, sA_5, sT_6, sN_6, sA_6, sT_7, sT_8, sN_8, sA_8, sT_9, sN_9, sA_9, sT_10, sN_10, sA_10, sT_11, sN_11, sA_11, sT_12, sN_12, sA_12, sT_13, sN_13, sT_14, sT_15, sN_15, sA_15, sT_16, sN_16, sA_16, sT_17, sN_17, sA_17, sT_18, sN_18, sA_18, sT_19, sN_19, sA_19, sT_20, sT_21, sN_21, sA_21, sT_22, sN_22, sA_22, sT_23, sN_23, sA_23, sT_24, sN_24, sA_24, sT_25, sN_25, sA_25, sT_26, sN_26, sB_26, sT_27, sT_28, sN_28, sB_28, sT_29, sT_30, sN_30, sT_32, sN_32, sA_32, sT_33, sT_34, sN_34, sA_34, sT_35, sN_35, sA_35, sT_36, sT_37, sN_37, sA_37, sT_38, sN_38, sA_38, sT_39, sN_39, sA_39, sT_40, sN_40, sB_40, sT_41, sN_41, sA_41, sT_42, sN_42, sA_42, sT_43, sN_43, sA_43, sT_44, sT_45, sN_45, sA_45, sT_46, sN_46, sA_46, sT_47, sN_47, sA_47, sR_1_7, sR_1_8, sR_1_9, sR_1_10, sR_1_11, sR_0_0, sR_7_7, sR_7_8, sR_7_9, sR_7_10, sR_7_11, sR_0_1, sR_0_2, sR_14_7, sR_14_8, sR_14_9, sR_14_10, sR_14_11, sR_13_0, sR_20_7, sR_20_8, sR_20_9, sR_20_10, sR_20_11, sR_13_1, sR_0_3, sR_0_4, sR_27_0, sR_0_5, sR_29_0, sR_29_3, sR_0_6, sR_33_1, sR_33_2, sR_0_7, sR_36_2, sR_36_3, sR_36_4, sR_36_5, sR_36_6, sR_36_7, sR_36_8, sR_0_8, sR_44_0, sR_44_1, sR_44_2, j3, j4, nIlt0 (show K < 2 ^ 31 by omega), ek, rf_some, xc_int, xc_ref, xc_ret, xc_long, xw_nil, xw_int, xw_ref, xw_long, tl_some, tl_none, true_and, and_true, Nat.zero_le, Nat.reduceAdd, Nat.reduceMul, Nat.reduceLeDiff, Nat.reduceLT, Nat.reduceEqDiff, Nat.reducePow, Int32.reduceAdd, Int32.reduceMul, Int32.reduceSub, Int32.reduceLT, Int32.reduceLE, Int32.reduceToNatClampNeg, litE, ixU, not_false_eq_true, not_true_eq_false, ↓reduceIte, eq_self, true_or, or_true, false_and, and_false, or_false, false_or, i10, i01, in10, i1n, xbT, xbF, r_lt]
            exact n
          · have n := next h3 _ _ (rkn_no (k := 10 * b + c) (fun y => by
              have y2 := y.2
              rw [k1, k2] at y2
              omega)).symm W4 R3
            simp only [xs_74_132, xs_74_133, xs_74_136, H3, sT_0, sT_1, sT_2, sN_2, sA_2, sT_3, sN_3, sA_3, sT_4, sN_4, sA_4, sT_5, sN_5, sA_5, sT_6, sN_6, sA_6, sT_7, sT_8, sN_8, sA_8, sT_9, sN_9, sA_9, sT_10, sN_10, sA_10, sT_11, sN_11, sA_11, sT_12, sN_12, sA_12, sT_13, sN_13, sT_14, sT_15, sN_15, sA_15, sT_16, sN_16, sA_16, sT_17, sN_17, sA_17, sT_18, sN_18, sA_18, sT_19, sN_19, sA_19, sT_20, sT_21, sN_21, sA_21, sT_22, sN_22, sA_22, sT_23, sN_23, sA_23, sT_24, sN_24, sA_24, sT_25, sN_25, sA_25, sT_26, sN_26, sB_26, sT_27, sT_28, sN_28, sB_28, sT_29, sT_30, sN_30, sT_32, sN_32, sA_32, sT_33, sT_34, sN_34, sA_34, sT_35, sN_35, sA_35, sT_36, sT_37, sN_37, sA_37, sT_38, sN_38, sA_38, sT_39, sN_39, sA_39, sT_40, sN_40, sB_40, sT_41, sN_41, sA_41, sT_42, sN_42, sA_42, sT_43, sN_43, sA_43, sT_44, sT_45, sN_45, sA_45, sT_46, sN_46, sA_46, sT_47, sN_47, sA_47, sR_1_7, sR_1_8, sR_1_9, sR_1_10, sR_1_11, sR_0_0, sR_7_7, sR_7_8, sR_7_9, sR_7_10, sR_7_11, sR_0_1, sR_0_2, sR_14_7, sR_14_8, sR_14_9, sR_14_10, sR_14_11, sR_13_0, sR_20_7, sR_20_8, sR_20_9, sR_20_10, sR_20_11, sR_13_1, sR_0_3, sR_0_4, sR_27_0, sR_0_5, sR_29_0, sR_29_3, sR_0_6, sR_33_1, sR_33_2, sR_0_7, sR_36_2, sR_36_3, sR_36_4, sR_36_5, sR_36_6, sR_36_7, sR_36_8, sR_0_8, sR_44_0, sR_44_1, sR_44_2, j2, show ((-1 : Int32) < 0) = True from eq_true (by decide), rf_some, xc_int, xc_ref, xc_ret, xc_long, xw_nil, xw_int, xw_ref, xw_long, tl_some, tl_none, true_and, and_true, Nat.zero_le, Nat.reduceAdd, Nat.reduceMul, Nat.reduceLeDiff, Nat.reduceLT, Nat.reduceEqDiff, Nat.reducePow, Int32.reduceAdd, Int32.reduceMul, Int32.reduceSub, Int32.reduceLT, Int32.reduceLE, Int32.reduceToNatClampNeg, litE, ixU, not_false_eq_true, not_true_eq_false, ↓reduceIte, eq_self, true_or, or_true, false_and, and_false, or_false, false_or, i10, i01, in10, i1n, xbT, xbF, r_lt]
            exact n
        by_cases c3 : c = 6
        · have g6 := go (Or.inr c3)
          simp only [xs_74_74, xs_74_76, xs_74_79, xs_74_81, xs_74_83, xs_74_86, xs_74_88, xs_74_90, xs_74_93, xs_74_95, xs_74_97, e6, eb, eq_false c1, ew, eq_false c2, ec, eq_true c3, rf_some, xc_int, xc_ref, xc_ret, xc_long, xw_nil, xw_int, xw_ref, xw_long, tl_some, tl_none, true_and, and_true, Nat.zero_le, Nat.reduceAdd, Nat.reduceMul, Nat.reduceLeDiff, Nat.reduceLT, Nat.reduceEqDiff, Nat.reducePow, Int32.reduceAdd, Int32.reduceMul, Int32.reduceSub, Int32.reduceLT, Int32.reduceLE, Int32.reduceToNatClampNeg, litE, ixU, not_false_eq_true, not_true_eq_false, ↓reduceIte, eq_self, true_or, or_true, false_and, and_false, or_false, false_or, i10, i01, in10, i1n, xbT, xbF, r_lt]
          exact g6
        · by_cases c4 : c < g 24
          · have g6 := go (Or.inl c4)
            simp only [xs_74_74, xs_74_76, xs_74_79, xs_74_81, xs_74_83, xs_74_86, xs_74_88, xs_74_90, xs_74_93, xs_74_95, xs_74_97, xs_74_100, xs_74_101, xs_74_103, xs_74_106, e6, eb, eq_false c1, ew, eq_false c2, ec, eq_false c3, tw_isBridge (sT_1 H1) v1, nIge0 (show c < 2 ^ 31 by omega), nIlt (show c < 2 ^ 31 by omega) (show g 24 < 2 ^ 31 by omega), eq_true c4, rf_some, xc_int, xc_ref, xc_ret, xc_long, xw_nil, xw_int, xw_ref, xw_long, tl_some, tl_none, true_and, and_true, Nat.zero_le, Nat.reduceAdd, Nat.reduceMul, Nat.reduceLeDiff, Nat.reduceLT, Nat.reduceEqDiff, Nat.reducePow, Int32.reduceAdd, Int32.reduceMul, Int32.reduceSub, Int32.reduceLT, Int32.reduceLE, Int32.reduceToNatClampNeg, litE, ixU, not_false_eq_true, not_true_eq_false, ↓reduceIte, eq_self, true_or, or_true, false_and, and_false, or_false, false_or, i10, i01, in10, i1n, xbT, xbF, r_lt]
            exact ⟨sT_1 H1, g6⟩
          · have s := skip (rkn_no (fun y => by
              have y1 := y.1.2
              rw [k1] at y1
              exact y1.elim c4 c3))
            simp only [xs_74_74, xs_74_76, xs_74_79, xs_74_81, xs_74_83, xs_74_86, xs_74_88, xs_74_90, xs_74_93, xs_74_95, xs_74_97, xs_74_100, xs_74_101, xs_74_103, xs_74_106, xs_74_109, e6, eb, eq_false c1, ew, eq_false c2, ec, eq_false c3, tw_isBridge (sT_1 H1) v1, nIge0 (show c < 2 ^ 31 by omega), nIlt (show c < 2 ^ 31 by omega) (show g 24 < 2 ^ 31 by omega), eq_false c4, rf_some, xc_int, xc_ref, xc_ret, xc_long, xw_nil, xw_int, xw_ref, xw_long, tl_some, tl_none, true_and, and_true, Nat.zero_le, Nat.reduceAdd, Nat.reduceMul, Nat.reduceLeDiff, Nat.reduceLT, Nat.reduceEqDiff, Nat.reducePow, Int32.reduceAdd, Int32.reduceMul, Int32.reduceSub, Int32.reduceLT, Int32.reduceLE, Int32.reduceToNatClampNeg, litE, ixU, not_false_eq_true, not_true_eq_false, ↓reduceIte, eq_self, true_or, or_true, false_and, and_false, or_false, false_or, i10, i01, in10, i1n, xbT, xbF, r_lt]
            exact ⟨sT_1 H1, s⟩
end RB
