/-! ways: what a head adds; the known wiped -/
theorem bX_new {nx : Nat → Nat → Option Nat} {k : Nat} {b : bL} (hk : k < b.1) : ∀ m i, b.1 ≤ i → i < (bX nx k m b).1 → bD (bX nx k m b) i = bD b k + 1
  | 0, i, h1, h2 => absurd h2 (by show ¬ i < b.1; omega)
  | m + 1, i, h1, h2 => by
    have P := bX_P nx k b m
    rw [bX] at h2 ⊢
    cases e : nx (bS b k) m with
    | none =>
      rw [e] at h2
      exact bX_new hk m i h1 h2
    | some s =>
      rw [e] at h2
      have h2 : i < (bA (bX nx k m b) s k m).1 := h2
      show bD (bA (bX nx k m b) s k m) i = bD b k + 1
      cases hkn : kn (bX nx k m b) s with
      | true =>
        rw [bA_old hkn] at h2 ⊢
        exact bX_new hk m i h1 h2
      | false =>
        rw [bA_new hkn] at h2 ⊢
        have h2 : i < (bX nx k m b).1 + 1 := h2
        show (if i = (bX nx k m b).1 then ((s, k, m, bD (bX nx k m b) k + 1) : bE4) else (bX nx k m b).2 i).2.2.2 = bD b k + 1
        by_cases q : i = (bX nx k m b).1
        · rw [if_pos q]
          show bD (bX nx k m b) k + 1 = bD b k + 1
          rw [(bP_S P hk).2.1]
        · rw [if_neg q]
          exact bX_new hk m i h1 (by omega)
/-- what is found from head k on lies deeper than k -/
theorem bB_deep {nx : Nat → Nat → Option Nat} {S M s0 k : Nat} (h0 : s0 < S) (hn : ∀ x m s, x < S → nx x m = some s → s < S) (hk : k < (bB nx M s0 k).1) : ∀ n i, (bB nx M s0 k).1 ≤ i → i < (bB nx M s0 (k + n)).1 → bD (bB nx M s0 k) k + 1 ≤ bD (bB nx M s0 (k + n)) i
  | 0, i, h1, h2 => absurd h2 (by show ¬ i < (bB nx M s0 k).1; omega)
  | n + 1, i, h1, h2 => by
    have ih := bB_deep h0 hn hk n i h1
    have P := bB_P nx M s0 k n
    have h2 : i < (bB nx M s0 (k + n + 1)).1 := h2
    show bD (bB nx M s0 k) k + 1 ≤ bD (bB nx M s0 (k + n + 1)) i
    rw [bB] at h2 ⊢
    by_cases q : k + n < (bB nx M s0 (k + n)).1
    · rw [if_pos q] at h2 ⊢
      by_cases z : i < (bB nx M s0 (k + n)).1
      · rw [(bP_S (bX_P nx (k + n) (bB nx M s0 (k + n)) M) z).2.1]
        exact ih z
      · rw [bX_new q M i (by omega) h2]
        have := (bB_G (M := M) h0 hn (k + n)).1.2.2.2.2.2 k (k + n) (by omega) q
        rw [(bP_S P hk).2.1] at this
        omega
    · rw [if_neg q] at h2 ⊢
      exact ih h2
theorem bD_le {S : Nat} {b : bL} (H : bG S b) : ∀ k, k < b.1 → bD b k ≤ k := by
  intro k
  induction k using Nat.strongRecOn with
  | _ k ih =>
    intro hk
    by_cases q : k = 0
    · rw [q, H.2.2.2.1]; omega
    · obtain ⟨f1, f2⟩ := H.2.2.2.2.1 k (by omega) hk
      have := ih _ f1 (by omega)
      omega
/-- longs of row 30 wiped, up to i -/
def wL (i : Nat) (h h1 : xe_H) : Prop := xe_n h1 = xe_n h ∧ xe_z h1 = xe_z h ∧ xe_R h1 = xe_R h ∧ (∀ a, xe_T h1 a = xe_T h a ∧ xe_N h1 a = xe_N h a) ∧ (∀ a j, xe_I h1 a j = xe_I h a j) ∧ ∀ a j, xe_L h1 a j = if a = 30 ∧ j < i then 0 else xe_L h a j
theorem wL_sh {i : Nat} {h h1 : xe_H} (W : wL i h h1) (H : sh h) : sh h1 := by
  refine ⟨by rw [W.1]; exact H.1, fun e he => ?_, fun e he => ?_⟩
  · rw [(W.2.2.2.1 e.1).1, (W.2.2.2.1 e.1).2]; exact H.2.1 e he
  · rw [W.2.2.1]; exact H.2.2 e he
section WF
variable {d : Nat} {h : xe_H}
theorem cl_range {N n : Nat} {Q : Option Value → xe_H → Prop} (hN : N < 2 ^ 31) (hn : n ≤ N) : xe_C (d + 1) 213 [.int (nI N), .int 0, .int (nI n)] h Q = Q none h := j_range (x := 0) (Nat.zero_le _) hn hN
theorem cl_fill {n : Nat} (hn : n ≤ 1600) (H : sh h) : xe_C (d + 2) 214 [.ref 30, .int 0, .int (nI n), .long 0] h (fun r h' => r = none ∧ wL n h h') := by
  have lp : ∀ t i h1, i + t = n → wL i h h1 → xe_P (d + 1) 214 10 [.ref 30, .int 0, .int (nI n), .long 0, .retAddr 0, .int (nI i)] [] h1 (fun r h' => r = none ∧ wL n h h') := by
    intro t
    induction t with
    | zero =>
      intro i h1 hi W
      have hi : i = n := by omega
      subst hi
      simp only [xs_214_10, xs_214_12, xs_214_13, xs_214_27, le_t, rf_some, xc_int, xc_ref, xc_ret, xc_long, xw_nil, xw_int, xw_ref, xw_long, tl_some, tl_none, true_and, and_true, Nat.zero_le, Nat.reduceAdd, Nat.reduceMul, Nat.reduceLeDiff, Nat.reduceLT, Nat.reduceEqDiff, Nat.reducePow, Int32.reduceAdd, Int32.reduceMul, Int32.reduceSub, Int32.reduceLT, Int32.reduceLE, Int32.reduceToNatClampNeg, litE, ixU, not_false_eq_true, not_true_eq_false, ↓reduceIte, eq_self, true_or, or_true, false_and, and_false, or_false, false_or, i10, i01, in10, i1n, xbT, xbF, r_lt]
      exact W
    | succ t ih =>
      intro i h1 hi W
      have H1 := wL_sh W H
      have fin := ih (i + 1) (xe_sL2 h1 30 i 0) (by omega) ⟨W.1, W.2.1, W.2.2.1, W.2.2.2.1, W.2.2.2.2.1, fun a j => by
        rw [hL_sL, W.2.2.2.2.2 a j]
        by_cases q : a = 30 ∧ j = i
        · rw [if_pos q, if_pos ⟨q.1, by omega⟩]
        · rw [if_neg q]
          by_cases q2 : a = 30 ∧ j < i
          · rw [if_pos q2, if_pos ⟨q2.1, by omega⟩]
          · rw [if_neg q2, if_neg (fun z => by
              have : ¬ j = i := fun y => q ⟨z.1, y⟩
              exact q2 ⟨z.1, by omega⟩)]⟩
      rw [xs_214_10]
      simp only [xs_214_12, xs_214_13, xs_214_16, xs_214_17, xs_214_19, xs_214_20, xs_214_21, xs_214_24, H1, sT_0, sT_1, sT_2, sN_2, sA_2, sT_3, sN_3, sA_3, sT_4, sN_4, sA_4, sT_5, sN_5, sA_5, sT_6, sN_6, sA_6, sT_7, sT_8, sN_8, sA_8, sT_9, sN_9, sA_9, sT_10, sN_10, sA_10, sT_11, sN_11, sA_11, sT_12, sN_12, sA_12, sT_13, sN_13, sT_14, sT_15, sN_15, sA_15, sT_16, sN_16, sA_16, sT_17, sN_17, sA_17, sT_18, sN_18, sA_18, sT_19, sN_19, sA_19, sT_20, sT_21, sN_21, sA_21, sT_22, sN_22, sA_22, sT_23, sN_23, sA_23, sT_24, sN_24, sA_24, sT_25, sN_25, sA_25, sT_26, sN_26, sB_26, sT_27, sT_28, sN_28, sB_28, sT_29, sT_30, sN_30, sT_32, sN_32, sA_32, sT_33, sT_34, sN_34, sA_34, sT_35, sN_35, sA_35, sT_36, sT_37, sN_37, sA_37, sT_38, sN_38, sA_38, sT_39, sN_39, sA_39, sT_40, sN_40, sB_40, sT_41, sN_41, sA_41, sT_42, sN_42, sA_42, sT_43, sN_43, sA_43, sT_44, sT_45, sN_45, sA_45, sT_46, sN_46, sA_46, sT_47, sN_47, sA_47, sR_1_7, sR_1_8, sR_1_9, sR_1_10, sR_1_11, sR_0_0, sR_7_7, sR_7_8, sR_7_9, sR_7_10, sR_7_11, sR_0_1, sR_0_2, sR_14_7, sR_14_8, sR_14_9, sR_14_10, sR_14_11, sR_13_0, sR_20_7, sR_20_8, sR_20_9, sR_20_10, sR_20_11, sR_13_1, sR_0_3, sR_0_4, sR_27_0, sR_0_5, sR_29_0, sR_29_3, sR_0_6, sR_33_1, sR_33_2, sR_0_7, sR_36_2, sR_36_3, sR_36_4, sR_36_5, sR_36_6, sR_36_7, sR_36_8, sR_0_8, sR_44_0, sR_44_1, sR_44_2, lt_f (show i < n by omega) (show n < 2 ^ 31 by omega), nIlt0 (show i < 2 ^ 31 by omega), nI_clamp (show i < 2 ^ 31 by omega), show i < 1600 by omega, nI_1, rf_some, xc_int, xc_ref, xc_ret, xc_long, xw_nil, xw_int, xw_ref, xw_long, tl_some, tl_none, true_and, and_true, Nat.zero_le, Nat.reduceAdd, Nat.reduceMul, Nat.reduceLeDiff, Nat.reduceLT, Nat.reduceEqDiff, Nat.reducePow, Int32.reduceAdd, Int32.reduceMul, Int32.reduceSub, Int32.reduceLT, Int32.reduceLE, Int32.reduceToNatClampNeg, litE, ixU, not_false_eq_true, not_true_eq_false, ↓reduceIte, eq_self, true_or, or_true, false_and, and_false, or_false, false_or, i10, i01, in10, i1n, xbT, xbF, r_lt]
      exact fin
  have al30 : xe_al h 30 := ⟨by rw [(sT_30 H).2]; decide, by rw [(sT_30 H).2]; decide, Or.inl (sT_30 H).1⟩
  have n30 : Int32.ofNat 1600 = nI 1600 := rfl
  have l0 := lp n 0 h (by omega) ⟨rfl, rfl, rfl, fun _ => ⟨rfl, rfl⟩, fun _ _ => rfl, fun a j => by rw [if_neg (fun z => by omega)]⟩
  rw [show nI 0 = (0 : Int32) from rfl] at l0
  simp only [xs_214, xs_214_0, xs_214_1, xs_214_2, xs_214_3, xs_214_4, xs_214_7, xs_214_8, H, sT_0, sT_1, sT_2, sN_2, sA_2, sT_3, sN_3, sA_3, sT_4, sN_4, sA_4, sT_5, sN_5, sA_5, sT_6, sN_6, sA_6, sT_7, sT_8, sN_8, sA_8, sT_9, sN_9, sA_9, sT_10, sN_10, sA_10, sT_11, sN_11, sA_11, sT_12, sN_12, sA_12, sT_13, sN_13, sT_14, sT_15, sN_15, sA_15, sT_16, sN_16, sA_16, sT_17, sN_17, sA_17, sT_18, sN_18, sA_18, sT_19, sN_19, sA_19, sT_20, sT_21, sN_21, sA_21, sT_22, sN_22, sA_22, sT_23, sN_23, sA_23, sT_24, sN_24, sA_24, sT_25, sN_25, sA_25, sT_26, sN_26, sB_26, sT_27, sT_28, sN_28, sB_28, sT_29, sT_30, sN_30, sT_32, sN_32, sA_32, sT_33, sT_34, sN_34, sA_34, sT_35, sN_35, sA_35, sT_36, sT_37, sN_37, sA_37, sT_38, sN_38, sA_38, sT_39, sN_39, sA_39, sT_40, sN_40, sB_40, sT_41, sN_41, sA_41, sT_42, sN_42, sA_42, sT_43, sN_43, sA_43, sT_44, sT_45, sN_45, sA_45, sT_46, sN_46, sA_46, sT_47, sN_47, sA_47, sR_1_7, sR_1_8, sR_1_9, sR_1_10, sR_1_11, sR_0_0, sR_7_7, sR_7_8, sR_7_9, sR_7_10, sR_7_11, sR_0_1, sR_0_2, sR_14_7, sR_14_8, sR_14_9, sR_14_10, sR_14_11, sR_13_0, sR_20_7, sR_20_8, sR_20_9, sR_20_10, sR_20_11, sR_13_1, sR_0_3, sR_0_4, sR_27_0, sR_0_5, sR_29_0, sR_29_3, sR_0_6, sR_33_1, sR_33_2, sR_0_7, sR_36_2, sR_36_3, sR_36_4, sR_36_5, sR_36_6, sR_36_7, sR_36_8, sR_0_8, sR_44_0, sR_44_1, sR_44_2, al30, n30, cl_range (show 1600 < 2 ^ 31 by omega) hn, rf_some, xc_int, xc_ref, xc_ret, xc_long, xw_nil, xw_int, xw_ref, xw_long, tl_some, tl_none, true_and, and_true, Nat.zero_le, Nat.reduceAdd, Nat.reduceMul, Nat.reduceLeDiff, Nat.reduceLT, Nat.reduceEqDiff, Nat.reducePow, Int32.reduceAdd, Int32.reduceMul, Int32.reduceSub, Int32.reduceLT, Int32.reduceLE, Int32.reduceToNatClampNeg, litE, ixU, not_false_eq_true, not_true_eq_false, ↓reduceIte, eq_self, true_or, or_true, false_and, and_false, or_false, false_or, i10, i01, in10, i1n, xbT, xbF, r_lt]
  exact l0
end WF
