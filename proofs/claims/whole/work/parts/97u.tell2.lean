/-! text: the class, the whole text -/
def pg0 : Nat → Nat := fun k => if k = 35 then 2 else if k = 33 then 2 else if k < 24 ∧ k % 4 = 2 then 6 else 0
theorem pg0_v : (∀ b, b < 6 → pg0 (4 * b + 2) = 6 ∧ pg0 (4 * b + 3) = 0) ∧ pg0 24 = 0 ∧ pg0 31 = 0 ∧ pg0 32 = 0 ∧ pg0 33 = 2 ∧ pg0 34 = 0 ∧ pg0 35 = 2 ∧ pg0 36 = 0 ∧ pg0 37 = 0 ∧ pg0 38 = 0 ∧ pg0 39 = 0 ∧ pg0 40 = 0 := by decide +kernel
theorem gq_0 : gq pg0 := by
  obtain ⟨hb, h24, h31, h32, h33, h34, h35, h36, h37, h38, h39, h40⟩ := pg0_v
  refine ⟨by omega, fun b hb' => ?_, fun p hp hp2 => by omega⟩
  have := hb b hb'
  omega
def txR (T : Nat → Nat) (n : Nat) : Nat × Nat × Nat × (Nat → Nat) := if (txL T n 321 0 0 pg0).1 = 0 ∧ ((txL T n 321 0 0 pg0).2.2.2 35 < (txL T n 321 0 0 pg0).2.2.2 36 ∨ (txL T n 321 0 0 pg0).2.2.2 24 < (txL T n 321 0 0 pg0).2.2.2 37) then (6, n, (txL T n 321 0 0 pg0).2.2.1, (txL T n 321 0 0 pg0).2.2.2) else txL T n 321 0 0 pg0
def txA (T : Nat → Nat) (n : Nat) : Int32 := if (txR T n).1 = 0 then nI (txR T n).2.2.1 else -10 - nI (txR T n).2.1
/-- scratch of the class while it reads a text -/
def ttS (a j : Nat) : Prop := (a = 27 ∧ ((1 ≤ j ∧ j ≤ 3) ∨ (5 ≤ j ∧ j ≤ 11))) ∨ (7 ≤ a ∧ a ≤ 12)
section TR
variable {d : Nat} {h h1 : xe_H} {g : Nat → Nat} {Q : Option Value → xe_H → Prop} {T : Nat → Nat} {n : Nat}
theorem txL_ok : ∀ t l i (g : Nat → Nat), i ≤ n → gq g → ((txL T n t l i g).1 = 0 → gq (txL T n t l i g).2.2.2) ∧ (¬ (txL T n t l i g).1 = 0 → True)
  | 0, l, i, g, _, G => ⟨fun _ => by rw [txL]; exact G, fun _ => trivial⟩
  | t + 1, l, i, g, hi, G => by
    refine ⟨fun e => ?_, fun _ => trivial⟩
    rw [txL] at e ⊢
    by_cases z : eK T n (tkS T n i) = 0
    · rw [if_pos z]; exact G
    · rw [if_neg z] at e ⊢
      by_cases y : (lin0 T n (tkS T n i) g).1 = 0
      · rw [if_pos y] at e ⊢
        have := lin0_ok (tkS_b (T := T) hi).2 G y
        exact (txL_ok t (l + 1) _ _ this.2.2 this.1).1 e
      · rw [if_neg y] at e; exact absurd e y
theorem linF_b {w a b i : Nat} (hi : i ≤ n) : (linF T n w a b i g).1 ≤ 6 ∧ (linF T n w a b i g).2.1 ≤ n := by
  have hS := tkS_b (T := T) hi
  have hE := eE_b (T := T) hS.2
  unfold linF
  by_cases z1 : eK T n (tkS T n i) = 4
  · rw [if_pos z1]; exact ⟨show 1 ≤ 6 by omega, hS.2⟩
  · rw [if_neg z1]
    by_cases z2 : eK T n (tkS T n i) = 3
    · rw [if_neg (fun y => y z2)]; exact ⟨show 0 ≤ 6 by omega, hE.2.1⟩
    · rw [if_pos z2]; exact ⟨show 2 ≤ 6 by omega, hS.2⟩
theorem lin2_b {w a i : Nat} (hi : i ≤ n) : (lin2 T n w a i g).1 ≤ 6 ∧ (lin2 T n w a i g).2.1 ≤ n := by
  have hS := tkS_b (T := T) hi
  have hE := eE_b (T := T) hS.2
  have c := nC_b T n (tkS T n i) (lo2 w) (hi2 w)
  unfold lin2
  by_cases z1 : nC T n (tkS T n i) (lo2 w) (hi2 w) = 0
  · rw [if_neg (fun y => y z1)]
    by_cases z2 : (w = 3 ∨ w = 4) ∧ a = eV T n (tkS T n i)
    · rw [if_pos z2]; exact ⟨show 4 ≤ 6 by omega, hS.2⟩
    · rw [if_neg z2]; exact linF_b hE.2.1
  · rw [if_pos z1]; exact ⟨Nat.le_trans c (by omega), hS.2⟩
theorem lin1_b {w i : Nat} (hi : i ≤ n) : (lin1 T n w i g).1 ≤ 6 ∧ (lin1 T n w i g).2.1 ≤ n := by
  have hS := tkS_b (T := T) hi
  have hE := eE_b (T := T) hS.2
  have c := nC_b T n (tkS T n i) (lo1 w) (hi1 w)
  unfold lin1
  by_cases z1 : nC T n (tkS T n i) (lo1 w) (hi1 w) = 0
  · rw [if_neg (fun y => y z1)]
    by_cases z2 : tkn w g (eV T n (tkS T n i)) = true
    · rw [if_pos z2]; exact ⟨show 4 ≤ 6 by omega, hS.2⟩
    · rw [if_neg z2]
      by_cases z3 : w < 3
      · rw [if_pos z3]; exact linF_b hE.2.1
      · rw [if_neg z3]; exact lin2_b hE.2.1
  · rw [if_pos z1]; exact ⟨Nat.le_trans c (by omega), hS.2⟩
theorem lin0_b {j : Nat} (hj : j ≤ n) : (lin0 T n j g).1 ≤ 6 ∧ (lin0 T n j g).2.1 ≤ n := by
  have hE := eE_b (T := T) hj
  unfold lin0
  by_cases z1 : eK T n j = 4
  · rw [if_pos z1]; exact ⟨show 1 ≤ 6 by omega, hj⟩
  · rw [if_neg z1]
    by_cases z2 : eK T n j = 1
    · rw [if_neg (fun y => y z2)]
      generalize wdO T j (eE T n j) = w
      unfold linW
      by_cases z3 : w = 7
      · rw [if_pos z3]; exact ⟨show 2 ≤ 6 by omega, hj⟩
      · rw [if_neg z3]
        by_cases z4 : w < 3 ∧ g (38 + w) = 1
        · rw [if_pos z4]; exact ⟨show 4 ≤ 6 by omega, hj⟩
        · rw [if_neg z4]
          by_cases z5 : (w = 3 ∧ g 24 = 6) ∨ (w = 6 ∧ g 31 = 3)
          · rw [if_pos z5]; exact ⟨show 5 ≤ 6 by omega, hj⟩
          · rw [if_neg z5]; exact lin1_b hE.2.1
    · rw [if_pos z2]; exact ⟨show 2 ≤ 6 by omega, hj⟩
theorem txL_b : ∀ t l i (g : Nat → Nat), i ≤ n → gq g → (txL T n t l i g).1 ≤ 6 ∧ (txL T n t l i g).2.1 ≤ n ∧ (txL T n t l i g).2.2.1 ≤ l + t
  | 0, l, i, g, hi, _ => by rw [txL]; exact ⟨Nat.zero_le _, hi, Nat.le_refl _⟩
  | t + 1, l, i, g, hi, G => by
    rw [txL]
    by_cases z : eK T n (tkS T n i) = 0
    · rw [if_pos z]; exact ⟨Nat.zero_le _, hi, by dsimp only; omega⟩
    · rw [if_neg z]
      by_cases y : (lin0 T n (tkS T n i) g).1 = 0
      · rw [if_pos y]
        have := lin0_ok (tkS_b (T := T) hi).2 G y
        have := txL_b t (l + 1) _ _ this.2.2 this.1
        omega
      · rw [if_neg y]
        have := lin0_b (g := g) (T := T) (tkS_b (T := T) hi).2
        exact ⟨this.1, this.2, by dsimp only; omega⟩
theorem cl_clear (H : sh h) (K : ∀ h', wr (fun a _ => 7 ≤ a ∧ a ≤ 12) h h' → tn_v h' 7 pg0 → Q none h') : xe_C (d + 2) 38 [.ref 7] h Q := by
  obtain ⟨hb, h24, h31, h32, h33, h34, h35, -⟩ := pg0_v
  generalize hh1 : xe_sI (xe_sI (xe_sI (xe_sI (xe_sI (xe_sI (xe_sI h 7 0 2) 7 1 0) 7 2 0) 7 3 0) 7 4 2) 7 5 0) 7 6 0 = h1
  have W1 : wr (fun a _ => 7 ≤ a ∧ a ≤ 12) h h1 := by
    rw [← hh1]
    exact wr_sI (wr_sI (wr_sI (wr_sI (wr_sI (wr_sI (wr_sI (wr_rf _ _) (by omega)) (by omega)) (by omega)) (by omega)) (by omega)) (by omega)) (by omega)
  have H1 := wr_sh W1 H
  have fa := fun d Q => j_fillA (d := d) (h := h1) (Q := Q) (a := 10) 6 (sT_10 H1) (sN_10 H1) (by decide)
  have k := K (xe_aI h1 10 (fl (xe_I h1 10) 0 6 6)) ⟨stq_aI W1.1, fun a j q => by rw [hI_aI, if_neg (by omega)]; exact W1.2 a j q⟩ (by
    refine ⟨⟨?_, ?_, ?_, ?_, ?_, ?_, ?_⟩, fun b hb' => by omega, fun b hb' => ?_, fun p hp => by omega⟩
    · rw [hI_aI, if_neg (by omega), ← hh1, h35]; simp only [hI_sI, rf_some, xc_int, xc_ref, xc_ret, xc_long, xw_nil, xw_int, xw_ref, xw_long, tl_some, tl_none, true_and, and_true, Nat.zero_le, Nat.reduceAdd, Nat.reduceMul, Nat.reduceLeDiff, Nat.reduceLT, Nat.reduceEqDiff, Nat.reducePow, Int32.reduceAdd, Int32.reduceMul, Int32.reduceSub, Int32.reduceLT, Int32.reduceLE, Int32.reduceToNatClampNeg, litE, ixU, not_false_eq_true, not_true_eq_false, ↓reduceIte, eq_self, true_or, or_true, false_and, and_false, or_false, false_or, i10, i01, in10, i1n, xbT, xbF, r_lt]; rfl
    · rw [hI_aI, if_neg (by omega), ← hh1, h24]; simp only [hI_sI, rf_some, xc_int, xc_ref, xc_ret, xc_long, xw_nil, xw_int, xw_ref, xw_long, tl_some, tl_none, true_and, and_true, Nat.zero_le, Nat.reduceAdd, Nat.reduceMul, Nat.reduceLeDiff, Nat.reduceLT, Nat.reduceEqDiff, Nat.reducePow, Int32.reduceAdd, Int32.reduceMul, Int32.reduceSub, Int32.reduceLT, Int32.reduceLE, Int32.reduceToNatClampNeg, litE, ixU, not_false_eq_true, not_true_eq_false, ↓reduceIte, eq_self, true_or, or_true, false_and, and_false, or_false, false_or, i10, i01, in10, i1n, xbT, xbF, r_lt]; rfl
    · rw [hI_aI, if_neg (by omega), ← hh1, h31]; simp only [hI_sI, rf_some, xc_int, xc_ref, xc_ret, xc_long, xw_nil, xw_int, xw_ref, xw_long, tl_some, tl_none, true_and, and_true, Nat.zero_le, Nat.reduceAdd, Nat.reduceMul, Nat.reduceLeDiff, Nat.reduceLT, Nat.reduceEqDiff, Nat.reducePow, Int32.reduceAdd, Int32.reduceMul, Int32.reduceSub, Int32.reduceLT, Int32.reduceLE, Int32.reduceToNatClampNeg, litE, ixU, not_false_eq_true, not_true_eq_false, ↓reduceIte, eq_self, true_or, or_true, false_and, and_false, or_false, false_or, i10, i01, in10, i1n, xbT, xbF, r_lt]; rfl
    · rw [hI_aI, if_neg (by omega), ← hh1, h32]; simp only [hI_sI, rf_some, xc_int, xc_ref, xc_ret, xc_long, xw_nil, xw_int, xw_ref, xw_long, tl_some, tl_none, true_and, and_true, Nat.zero_le, Nat.reduceAdd, Nat.reduceMul, Nat.reduceLeDiff, Nat.reduceLT, Nat.reduceEqDiff, Nat.reducePow, Int32.reduceAdd, Int32.reduceMul, Int32.reduceSub, Int32.reduceLT, Int32.reduceLE, Int32.reduceToNatClampNeg, litE, ixU, not_false_eq_true, not_true_eq_false, ↓reduceIte, eq_self, true_or, or_true, false_and, and_false, or_false, false_or, i10, i01, in10, i1n, xbT, xbF, r_lt]; rfl
    · rw [hI_aI, if_neg (by omega), ← hh1, h33]; simp only [hI_sI, rf_some, xc_int, xc_ref, xc_ret, xc_long, xw_nil, xw_int, xw_ref, xw_long, tl_some, tl_none, true_and, and_true, Nat.zero_le, Nat.reduceAdd, Nat.reduceMul, Nat.reduceLeDiff, Nat.reduceLT, Nat.reduceEqDiff, Nat.reducePow, Int32.reduceAdd, Int32.reduceMul, Int32.reduceSub, Int32.reduceLT, Int32.reduceLE, Int32.reduceToNatClampNeg, litE, ixU, not_false_eq_true, not_true_eq_false, ↓reduceIte, eq_self, true_or, or_true, false_and, and_false, or_false, false_or, i10, i01, in10, i1n, xbT, xbF, r_lt]; rfl
    · rw [hI_aI, if_neg (by omega), ← hh1, h34]; simp only [hI_sI, rf_some, xc_int, xc_ref, xc_ret, xc_long, xw_nil, xw_int, xw_ref, xw_long, tl_some, tl_none, true_and, and_true, Nat.zero_le, Nat.reduceAdd, Nat.reduceMul, Nat.reduceLeDiff, Nat.reduceLT, Nat.reduceEqDiff, Nat.reducePow, Int32.reduceAdd, Int32.reduceMul, Int32.reduceSub, Int32.reduceLT, Int32.reduceLE, Int32.reduceToNatClampNeg, litE, ixU, not_false_eq_true, not_true_eq_false, ↓reduceIte, eq_self, true_or, or_true, false_and, and_false, or_false, false_or, i10, i01, in10, i1n, xbT, xbF, r_lt]; rfl
    · rw [hI_aI, if_neg (by omega), ← hh1, show rp (gr pg0) = 0 by decide +kernel]; simp only [hI_sI, rf_some, xc_int, xc_ref, xc_ret, xc_long, xw_nil, xw_int, xw_ref, xw_long, tl_some, tl_none, true_and, and_true, Nat.zero_le, Nat.reduceAdd, Nat.reduceMul, Nat.reduceLeDiff, Nat.reduceLT, Nat.reduceEqDiff, Nat.reducePow, Int32.reduceAdd, Int32.reduceMul, Int32.reduceSub, Int32.reduceLT, Int32.reduceLE, Int32.reduceToNatClampNeg, litE, ixU, not_false_eq_true, not_true_eq_false, ↓reduceIte, eq_self, true_or, or_true, false_and, and_false, or_false, false_or, i10, i01, in10, i1n, xbT, xbF, r_lt]; rfl
    · rw [hI_aI, if_pos rfl, (hb b hb').1]; unfold fl; rw [if_pos (by omega)]; rfl)
  simp only [xs_38, xs_38_0, xs_38_1, xs_38_2, xs_38_5, xs_38_6, xs_38_7, xs_38_10, xs_38_11, xs_38_12, xs_38_15, xs_38_16, xs_38_17, xs_38_20, xs_38_21, xs_38_22, xs_38_25, xs_38_26, xs_38_27, xs_38_30, xs_38_31, xs_38_32, xs_38_35, xs_38_36, xs_38_39, xs_38_41, xs_38_44, H, sT_0, sT_1, sT_2, sN_2, sA_2, sT_3, sN_3, sA_3, sT_4, sN_4, sA_4, sT_5, sN_5, sA_5, sT_6, sN_6, sA_6, sT_7, sT_8, sN_8, sA_8, sT_9, sN_9, sA_9, sT_10, sN_10, sA_10, sT_11, sN_11, sA_11, sT_12, sN_12, sA_12, sT_13, sN_13, sT_14, sT_15, sN_15, sA_15, sT_16, sN_16, sA_16, sT_17, sN_17, sA_17, sT_18, sN_18, sA_18, sT_19, sN_19, sA_19, sT_20, sT_21, sN_21, sA_21, sT_22, sN_22, sA_22, sT_23, sN_23, sA_23, sT_24, sN_24, sA_24, sT_25, sN_25, sA_25, sT_26, sN_26, sB_26, sT_27, sT_28, sN_28, sB_28, sT_29, sT_30, sN_30, sT_32, sN_32, sA_32, sT_33, sT_34, sN_34, sA_34, sT_35, sN_35, sA_35, sT_36, sT_37, sN_37, sA_37, sT_38, sN_38, sA_38, sT_39, sN_39, sA_39, sT_40, sN_40, sB_40, sT_41, sN_41, sA_41, sT_42, sN_42, sA_42, sT_43, sN_43, sA_43, sT_44, sT_45, sN_45, sA_45, sT_46, sN_46, sA_46, sT_47, sN_47, sA_47, sR_1_7, sR_1_8, sR_1_9, sR_1_10, sR_1_11, sR_0_0, sR_7_7, sR_7_8, sR_7_9, sR_7_10, sR_7_11, sR_0_1, sR_0_2, sR_14_7, sR_14_8, sR_14_9, sR_14_10, sR_14_11, sR_13_0, sR_20_7, sR_20_8, sR_20_9, sR_20_10, sR_20_11, sR_13_1, sR_0_3, sR_0_4, sR_27_0, sR_0_5, sR_29_0, sR_29_3, sR_0_6, sR_33_1, sR_33_2, sR_0_7, sR_36_2, sR_36_3, sR_36_4, sR_36_5, sR_36_6, sR_36_7, sR_36_8, sR_0_8, sR_44_0, sR_44_1, sR_44_2, hh1, H1, fa, rf_some, xc_int, xc_ref, xc_ret, xc_long, xw_nil, xw_int, xw_ref, xw_long, tl_some, tl_none, true_and, and_true, Nat.zero_le, Nat.reduceAdd, Nat.reduceMul, Nat.reduceLeDiff, Nat.reduceLT, Nat.reduceEqDiff, Nat.reducePow, Int32.reduceAdd, Int32.reduceMul, Int32.reduceSub, Int32.reduceLT, Int32.reduceLE, Int32.reduceToNatClampNeg, litE, ixU, not_false_eq_true, not_true_eq_false, ↓reduceIte, eq_self, true_or, or_true, false_and, and_false, or_false, false_or, i10, i01, in10, i1n, xbT, xbF, r_lt, hI_sI, hL_sI, hR_sI, hT_sI, hN_sI, hn_sI, ho_sI, hia_sI, hba_sI, hal_sI, hix_sI, hI_aI, hL_aI, hR_aI, hT_aI, hN_aI, hn_aI, ho_aI, hia_aI, hal_aI, hix_aI, sh_sI, sh_aI, sh_sL, sh_aL]
  exact k
/-- the class's loop over the lines -/
theorem cl_tloop (hn : n ≤ 320) (hT : ∀ k, T k < 256) (H : sh h) (S : stS h) (C : cTp' T n h) : ∀ t l i (g : Nat → Nat) h1, l + t = 321 → i ≤ n → gq g → wr tlS h h1 → csQ g h1 → xe_I h1 27 5 = nI i → xe_I h1 27 2 = 0 → (∀ h2 l3, (txL T n t l i g).1 = 0 → wr tlS h h2 → csQ (txL T n t l i g).2.2.2 h2 → xe_I h2 27 2 = 0 → xe_P (d + 7) 23 78 [.ref 27, .ref 7, .int (nI (txL T n t l i g).2.2.1), l3] [] h2 Q) → (∀ h2 l3 x, ¬ (txL T n t l i g).1 = 0 → wr tlS h h2 → xe_I h2 27 2 = nI (txL T n t l i g).1 → xe_I h2 27 3 = nI (txL T n t l i g).2.1 → xe_P (d + 7) 23 78 [.ref 27, .ref 7, .int x, l3] [] h2 Q) → xe_P (d + 7) 23 41 [.ref 27, .ref 7, .int (nI l), .int (nI l)] [] h1 Q := by
  intro t
  induction t with
  | zero =>
    intro l i g h1 hl hi G W cs e5 e2 K0 K1
    have hl : l = 321 := by omega
    subst hl
    rw [txL] at K0
    have k := K0 h1 (.int (nI 321)) rfl W cs e2
    simp only [xs_23_41, xs_23_42, xs_23_45, show ((320 : Int32) < nI 321) = True from eq_true (by decide), rf_some, xc_int, xc_ref, xc_ret, xc_long, xw_nil, xw_int, xw_ref, xw_long, tl_some, tl_none, true_and, and_true, Nat.zero_le, Nat.reduceAdd, Nat.reduceMul, Nat.reduceLeDiff, Nat.reduceLT, Nat.reduceEqDiff, Nat.reducePow, Int32.reduceAdd, Int32.reduceMul, Int32.reduceSub, Int32.reduceLT, Int32.reduceLE, Int32.reduceToNatClampNeg, litE, ixU, not_false_eq_true, not_true_eq_false, ↓reduceIte, eq_self, true_or, or_true, false_and, and_false, or_false, false_or, i10, i01, in10, i1n, xbT, xbF, r_lt]
    exact k
  | succ t ih =>
    intro l i g h1 hl hi G W cs e5 e2 K0 K1
    have H1 := wr_sh W H
    have C1 : cTp' T n h1 := cTp'_w C W (fun a j z => by unfold tlS at z; omega)
    have S1 : stS h1 := stS_w S W (fun a j z => by unfold tlS at z; unfold xe_S; omega)
    have hS := tkS_b (T := T) hi
    have e320 : ((320 : Int32) < nI l) = False := by rw [show (320 : Int32) = nI 320 from rfl, nIlt (by decide) (by omega)]; exact eq_false (by omega)
    have rt := cl_readToken (d := d + 4) hn hT hi H1 C1 e5
    rw [txL] at K0 K1
    have lok := fun y => lin0_ok (T := T) hS.2 G y
    have k4 := eK_4 T n (tkS T n i)
    generalize tkS T n i = j at *
    rw [xs_23_41]
    simp only [xs_23_42, xs_23_45, xs_23_48, xs_23_49, e320, H1, sT_0, sT_1, sT_2, sN_2, sA_2, sT_3, sN_3, sA_3, sT_4, sN_4, sA_4, sT_5, sN_5, sA_5, sT_6, sN_6, sA_6, sT_7, sT_8, sN_8, sA_8, sT_9, sN_9, sA_9, sT_10, sN_10, sA_10, sT_11, sN_11, sA_11, sT_12, sN_12, sA_12, sT_13, sN_13, sT_14, sT_15, sN_15, sA_15, sT_16, sN_16, sA_16, sT_17, sN_17, sA_17, sT_18, sN_18, sA_18, sT_19, sN_19, sA_19, sT_20, sT_21, sN_21, sA_21, sT_22, sN_22, sA_22, sT_23, sN_23, sA_23, sT_24, sN_24, sA_24, sT_25, sN_25, sA_25, sT_26, sN_26, sB_26, sT_27, sT_28, sN_28, sB_28, sT_29, sT_30, sN_30, sT_32, sN_32, sA_32, sT_33, sT_34, sN_34, sA_34, sT_35, sN_35, sA_35, sT_36, sT_37, sN_37, sA_37, sT_38, sN_38, sA_38, sT_39, sN_39, sA_39, sT_40, sN_40, sB_40, sT_41, sN_41, sA_41, sT_42, sN_42, sA_42, sT_43, sN_43, sA_43, sT_44, sT_45, sN_45, sA_45, sT_46, sN_46, sA_46, sT_47, sN_47, sA_47, sR_1_7, sR_1_8, sR_1_9, sR_1_10, sR_1_11, sR_0_0, sR_7_7, sR_7_8, sR_7_9, sR_7_10, sR_7_11, sR_0_1, sR_0_2, sR_14_7, sR_14_8, sR_14_9, sR_14_10, sR_14_11, sR_13_0, sR_20_7, sR_20_8, sR_20_9, sR_20_10, sR_20_11, sR_13_1, sR_0_3, sR_0_4, sR_27_0, sR_0_5, sR_29_0, sR_29_3, sR_0_6, sR_33_1, sR_33_2, sR_0_7, sR_36_2, sR_36_3, sR_36_4, sR_36_5, sR_36_6, sR_36_7, sR_36_8, sR_0_8, sR_44_0, sR_44_1, sR_44_2, rf_some, xc_int, xc_ref, xc_ret, xc_long, xw_nil, xw_int, xw_ref, xw_long, tl_some, tl_none, true_and, and_true, Nat.zero_le, Nat.reduceAdd, Nat.reduceMul, Nat.reduceLeDiff, Nat.reduceLT, Nat.reduceEqDiff, Nat.reducePow, Int32.reduceAdd, Int32.reduceMul, Int32.reduceSub, Int32.reduceLT, Int32.reduceLE, Int32.reduceToNatClampNeg, litE, ixU, not_false_eq_true, not_true_eq_false, ↓reduceIte, eq_self, true_or, or_true, false_and, and_false, or_false, false_or, i10, i01, in10, i1n, xbT, xbF, r_lt]
    refine xe_C_mono rt ?_
    rintro r h2 ⟨rfl, W2, t7, t6, t5, t8⟩
    have H2 := wr_sh W2 H1
    have W3 : wr tlS h h2 := wr_tr W (tcS_tlS W2)
    have f2 : xe_I h2 27 2 = 0 := by rw [W2.2 27 2 (by unfold tcS; omega)]; exact e2
    have cs2 := csQ_t cs W2
    by_cases z : eK T n j = 0
    · rw [if_pos z] at K0
      have k := K0 h2 (.int (nI l)) rfl W3 cs2 f2
      rw [z] at t6
      simp only [xs_23_52, xs_23_53, xs_23_56, H2, sT_0, sT_1, sT_2, sN_2, sA_2, sT_3, sN_3, sA_3, sT_4, sN_4, sA_4, sT_5, sN_5, sA_5, sT_6, sN_6, sA_6, sT_7, sT_8, sN_8, sA_8, sT_9, sN_9, sA_9, sT_10, sN_10, sA_10, sT_11, sN_11, sA_11, sT_12, sN_12, sA_12, sT_13, sN_13, sT_14, sT_15, sN_15, sA_15, sT_16, sN_16, sA_16, sT_17, sN_17, sA_17, sT_18, sN_18, sA_18, sT_19, sN_19, sA_19, sT_20, sT_21, sN_21, sA_21, sT_22, sN_22, sA_22, sT_23, sN_23, sA_23, sT_24, sN_24, sA_24, sT_25, sN_25, sA_25, sT_26, sN_26, sB_26, sT_27, sT_28, sN_28, sB_28, sT_29, sT_30, sN_30, sT_32, sN_32, sA_32, sT_33, sT_34, sN_34, sA_34, sT_35, sN_35, sA_35, sT_36, sT_37, sN_37, sA_37, sT_38, sN_38, sA_38, sT_39, sN_39, sA_39, sT_40, sN_40, sB_40, sT_41, sN_41, sA_41, sT_42, sN_42, sA_42, sT_43, sN_43, sA_43, sT_44, sT_45, sN_45, sA_45, sT_46, sN_46, sA_46, sT_47, sN_47, sA_47, sR_1_7, sR_1_8, sR_1_9, sR_1_10, sR_1_11, sR_0_0, sR_7_7, sR_7_8, sR_7_9, sR_7_10, sR_7_11, sR_0_1, sR_0_2, sR_14_7, sR_14_8, sR_14_9, sR_14_10, sR_14_11, sR_13_0, sR_20_7, sR_20_8, sR_20_9, sR_20_10, sR_20_11, sR_13_1, sR_0_3, sR_0_4, sR_27_0, sR_0_5, sR_29_0, sR_29_3, sR_0_6, sR_33_1, sR_33_2, sR_0_7, sR_36_2, sR_36_3, sR_36_4, sR_36_5, sR_36_6, sR_36_7, sR_36_8, sR_0_8, sR_44_0, sR_44_1, sR_44_2, t6, show (nI 0 = 0) = True from eq_true rfl, rf_some, xc_int, xc_ref, xc_ret, xc_long, xw_nil, xw_int, xw_ref, xw_long, tl_some, tl_none, true_and, and_true, Nat.zero_le, Nat.reduceAdd, Nat.reduceMul, Nat.reduceLeDiff, Nat.reduceLT, Nat.reduceEqDiff, Nat.reducePow, Int32.reduceAdd, Int32.reduceMul, Int32.reduceSub, Int32.reduceLT, Int32.reduceLE, Int32.reduceToNatClampNeg, litE, ixU, not_false_eq_true, not_true_eq_false, ↓reduceIte, eq_self, true_or, or_true, false_and, and_false, or_false, false_or, i10, i01, in10, i1n, xbT, xbF, r_lt]
      exact k
    · rw [if_neg z] at K0 K1
      have kz : (nI (eK T n j) = 0) = False := by rw [nIe0 (by omega)]; exact eq_false z
      simp only [xs_23_52, xs_23_53, xs_23_56, xs_23_59, xs_23_60, H2, sT_0, sT_1, sT_2, sN_2, sA_2, sT_3, sN_3, sA_3, sT_4, sN_4, sA_4, sT_5, sN_5, sA_5, sT_6, sN_6, sA_6, sT_7, sT_8, sN_8, sA_8, sT_9, sN_9, sA_9, sT_10, sN_10, sA_10, sT_11, sN_11, sA_11, sT_12, sN_12, sA_12, sT_13, sN_13, sT_14, sT_15, sN_15, sA_15, sT_16, sN_16, sA_16, sT_17, sN_17, sA_17, sT_18, sN_18, sA_18, sT_19, sN_19, sA_19, sT_20, sT_21, sN_21, sA_21, sT_22, sN_22, sA_22, sT_23, sN_23, sA_23, sT_24, sN_24, sA_24, sT_25, sN_25, sA_25, sT_26, sN_26, sB_26, sT_27, sT_28, sN_28, sB_28, sT_29, sT_30, sN_30, sT_32, sN_32, sA_32, sT_33, sT_34, sN_34, sA_34, sT_35, sN_35, sA_35, sT_36, sT_37, sN_37, sA_37, sT_38, sN_38, sA_38, sT_39, sN_39, sA_39, sT_40, sN_40, sB_40, sT_41, sN_41, sA_41, sT_42, sN_42, sA_42, sT_43, sN_43, sA_43, sT_44, sT_45, sN_45, sA_45, sT_46, sN_46, sA_46, sT_47, sN_47, sA_47, sR_1_7, sR_1_8, sR_1_9, sR_1_10, sR_1_11, sR_0_0, sR_7_7, sR_7_8, sR_7_9, sR_7_10, sR_7_11, sR_0_1, sR_0_2, sR_14_7, sR_14_8, sR_14_9, sR_14_10, sR_14_11, sR_13_0, sR_20_7, sR_20_8, sR_20_9, sR_20_10, sR_20_11, sR_13_1, sR_0_3, sR_0_4, sR_27_0, sR_0_5, sR_29_0, sR_29_3, sR_0_6, sR_33_1, sR_33_2, sR_0_7, sR_36_2, sR_36_3, sR_36_4, sR_36_5, sR_36_6, sR_36_7, sR_36_8, sR_0_8, sR_44_0, sR_44_1, sR_44_2, t6, kz, rf_some, xc_int, xc_ref, xc_ret, xc_long, xw_nil, xw_int, xw_ref, xw_long, tl_some, tl_none, true_and, and_true, Nat.zero_le, Nat.reduceAdd, Nat.reduceMul, Nat.reduceLeDiff, Nat.reduceLT, Nat.reduceEqDiff, Nat.reducePow, Int32.reduceAdd, Int32.reduceMul, Int32.reduceSub, Int32.reduceLT, Int32.reduceLE, Int32.reduceToNatClampNeg, litE, ixU, not_false_eq_true, not_true_eq_false, ↓reduceIte, eq_self, true_or, or_true, false_and, and_false, or_false, false_or, i10, i01, in10, i1n, xbT, xbF, r_lt]
      refine cl_takeLine (d := d) hn hT hS.2 G H2 (stS_w S1 W2 (fun a j z => by unfold tcS at z; unfold xe_S; omega)) (cTp'_t C1 W2) cs2 t7 t6 t5 (fun r h3 q => ?_)
      obtain ⟨W4, ⟨y, rfl, c3, g5, g2⟩ | ⟨y, rfl, g2, g3⟩⟩ := q
      · rw [if_pos y] at K0 K1
        have lk := lok y
        have o := ih (l + 1) (lin0 T n j g).2.1 (lin0 T n j g).2.2 h3 (by omega) lk.2.2 lk.1 (wr_tr W3 W4) c3 g5 (by rw [g2]; exact f2) K0 K1
        simp only [xs_23_63, xs_23_69, xs_23_72, xs_23_75, nI_1, rf_some, xc_int, xc_ref, xc_ret, xc_long, xw_nil, xw_int, xw_ref, xw_long, tl_some, tl_none, true_and, and_true, Nat.zero_le, Nat.reduceAdd, Nat.reduceMul, Nat.reduceLeDiff, Nat.reduceLT, Nat.reduceEqDiff, Nat.reducePow, Int32.reduceAdd, Int32.reduceMul, Int32.reduceSub, Int32.reduceLT, Int32.reduceLE, Int32.reduceToNatClampNeg, litE, ixU, not_false_eq_true, not_true_eq_false, ↓reduceIte, eq_self, true_or, or_true, false_and, and_false, or_false, false_or, i10, i01, in10, i1n, xbT, xbF, r_lt]
        exact o
      · rw [if_neg y] at K1
        have k := K1 h3 (.int (nI l)) (nI l) y (wr_tr W3 W4) g2 g3
        simp only [xs_23_63, xs_23_66, rf_some, xc_int, xc_ref, xc_ret, xc_long, xw_nil, xw_int, xw_ref, xw_long, tl_some, tl_none, true_and, and_true, Nat.zero_le, Nat.reduceAdd, Nat.reduceMul, Nat.reduceLeDiff, Nat.reduceLT, Nat.reduceEqDiff, Nat.reducePow, Int32.reduceAdd, Int32.reduceMul, Int32.reduceSub, Int32.reduceLT, Int32.reduceLE, Int32.reduceToNatClampNeg, litE, ixU, not_false_eq_true, not_true_eq_false, ↓reduceIte, eq_self, true_or, or_true, false_and, and_false, or_false, false_or, i10, i01, in10, i1n, xbT, xbF, r_lt]
        exact k
end TR
