/-! text: the reference, the whole text -/
section TT
variable {d : Nat} {h h1 : xe_H} {g : Nat → Nat} {Q : Option Value → xe_H → Prop} {T : Nat → Nat} {n : Nat}
theorem mt_clr {l1 : Int32} (H : sh h) : ∀ t k h1, k + t = 35 → wr (fun a _ => 50 ≤ a ∧ a ≤ 52) h h1 → (∀ j, j < k → xe_I h1 50 j = 0) → (∀ j, j < 6 → j < k → xe_I h1 51 j = -4 ∧ xe_I h1 52 j = 0) → (∀ h2 l2, wr (fun a _ => 50 ≤ a ∧ a ≤ 52) h h2 → (∀ j, j < 35 → xe_I h2 50 j = 0) → (∀ j, j < 6 → xe_I h2 51 j = -4 ∧ xe_I h2 52 j = 0) → xe_P (d + 6) 134 84 [.ref 48, .int l1, l2] [] h2 Q) → xe_P (d + 6) 134 44 [.ref 48, .int l1, .int (nI k)] [] h1 Q := by
  intro t
  induction t with
  | zero =>
    intro k h1 hk W a b K
    have hk : k = 35 := by omega
    subst hk
    have k := K h1 (.int (nI 35)) W a (fun j hj => b j hj (by omega))
    simp only [xs_134_44, xs_134_45, xs_134_47, show ((35 : Int32) ≤ nI 35) = True from eq_true (by decide), rf_some, xc_int, xc_ref, xc_ret, xc_long, xw_nil, xw_int, xw_ref, xw_long, tl_some, tl_none, true_and, and_true, Nat.zero_le, Nat.reduceAdd, Nat.reduceMul, Nat.reduceLeDiff, Nat.reduceLT, Nat.reduceEqDiff, Nat.reducePow, Int32.reduceAdd, Int32.reduceMul, Int32.reduceSub, Int32.reduceLT, Int32.reduceLE, Int32.reduceToNatClampNeg, litE, ixU, not_false_eq_true, not_true_eq_false, ↓reduceIte, eq_self, true_or, or_true, false_and, and_false, or_false, false_or, i10, i01, in10, i1n, xbT, xbF, r_lt]
    exact k
  | succ t ih =>
    intro k h1 hk W a b K
    have H1 := wr_sh W H
    have e35 : ((35 : Int32) ≤ nI k) = False := lt_f (i := k) (n := 35) (by omega) (by decide)
    have e1 : nI k / 6 = nI (k / 6) := pk_div (d := 6) (by omega) (by omega) (by omega)
    have e2 : nI k - nI (k / 6) * 6 = nI (k % 6) := by
      have := pk_rem (a := k) (d := 6) (by omega) (by omega) (by omega)
      rw [show nI 6 = (6 : Int32) from rfl, e1] at this
      exact this
    have hm : k % 6 < 6 := Nat.mod_lt _ (by decide)
    have o := ih (k + 1) (xe_sI (xe_sI (xe_sI h1 50 k 0) 51 (k % 6) (-4)) 52 (k % 6) 0) (by omega) (wr_sI (wr_sI (wr_sI W (by omega)) (by omega)) (by omega)) (fun j hj => by
      rw [hI_sI, if_neg (by omega), hI_sI, if_neg (by omega), hI_sI]
      by_cases z : j = k
      · rw [if_pos ⟨rfl, z⟩]
      · rw [if_neg (by omega)]; exact a j (by omega)) (fun j h6 hj => by
      by_cases z : j = k % 6
      · rw [z]
        refine ⟨?_, ?_⟩
        · rw [hI_sI, if_neg (by omega), hI_sI, if_pos ⟨rfl, rfl⟩]
        · rw [hI_sI, if_pos ⟨rfl, rfl⟩]
      · rw [hI_sI, if_neg (by omega), hI_sI, if_neg (by omega), hI_sI, if_neg (by omega), hI_sI, if_neg (by omega), hI_sI, if_neg (by omega), hI_sI, if_neg (by omega)]
        exact b j h6 (by omega)) K
    rw [xs_134_44]
    simp only [xs_134_45, xs_134_47, xs_134_50, xs_134_51, xs_134_54, xs_134_55, xs_134_56, xs_134_57, xs_134_58, xs_134_61, xs_134_62, xs_134_64, xs_134_65, xs_134_67, xs_134_68, xs_134_69, xs_134_72, xs_134_73, xs_134_75, xs_134_76, xs_134_77, xs_134_78, xs_134_81, e35, H1, sT_48, sT_49, sN_49, sA_49, sT_50, sN_50, sA_50, sT_51, sN_51, sA_51, sT_52, sN_52, sA_52, sT_53, sN_53, sA_53, sT_54, sN_54, sA_54, sT_55, sN_55, sA_55, sT_56, sN_56, sA_56, sT_57, sN_57, sA_57, sT_58, sN_58, sA_58, sT_59, sN_59, sA_59, sT_60, sN_60, sA_60, sT_61, sN_61, sA_61, sT_62, sN_62, sA_62, sT_63, sN_63, sA_63, sT_64, sN_64, sA_64, sT_65, sN_65, sA_65, sT_66, sN_66, sA_66, sT_67, sN_67, sA_67, sT_68, sN_68, sB_68, sT_69, sN_69, sA_69, sT_70, sN_70, sA_70, sT_71, sN_71, sA_71, sR_48_0, sR_48_2, sR_48_9, sR_48_10, sR_48_11, sR_48_20, sR_48_21, sR_48_22, sR_48_23, sR_48_24, sR_48_26, sR_48_27, sR_48_28, sR_48_29, sR_48_30, sR_48_31, sR_48_33, sR_48_34, sR_48_35, sR_48_36, sR_48_37, sR_48_38, sR_48_39, nIlt0 (show k < 2 ^ 31 by omega), nI_clamp (show k < 2 ^ 31 by omega), show k < 35 by omega, e1, e2, nIlt0 (show k % 6 < 2 ^ 31 by omega), nI_clamp (show k % 6 < 2 ^ 31 by omega), show k % 6 < 6 by omega, show ((6 : Int32) = 0) = False from eq_false (by decide), nI_1, rf_some, xc_int, xc_ref, xc_ret, xc_long, xw_nil, xw_int, xw_ref, xw_long, tl_some, tl_none, true_and, and_true, Nat.zero_le, Nat.reduceAdd, Nat.reduceMul, Nat.reduceLeDiff, Nat.reduceLT, Nat.reduceEqDiff, Nat.reducePow, Int32.reduceAdd, Int32.reduceMul, Int32.reduceSub, Int32.reduceLT, Int32.reduceLE, Int32.reduceToNatClampNeg, litE, ixU, not_false_eq_true, not_true_eq_false, ↓reduceIte, eq_self, true_or, or_true, false_and, and_false, or_false, false_or, i10, i01, in10, i1n, xbT, xbF, r_lt, hI_sI, hL_sI, hR_sI, hT_sI, hN_sI, hn_sI, ho_sI, hia_sI, hba_sI, hal_sI, hix_sI, hI_aI, hL_aI, hR_aI, hT_aI, hN_aI, hn_aI, ho_aI, hia_aI, hal_aI, hix_aI, sh_sI, sh_aI, sh_sL, sh_aL]
    exact o
theorem mt_cpA {l1 : Int32} (H : sh h) : ∀ t k h1, k + t = 35 → wr (fun a j => a = 49 ∧ j < 35) h h1 → (∀ j, j < k → xe_I h1 49 j = xe_I h 50 j) → (∀ h2 l2, wr (fun a j => a = 49 ∧ j < 35) h h2 → (∀ j, j < 35 → xe_I h2 49 j = xe_I h 50 j) → xe_P (d + 6) 134 204 [.ref 48, .int l1, l2] [] h2 Q) → xe_P (d + 6) 134 180 [.ref 48, .int l1, .int (nI k)] [] h1 Q := by
  intro t
  induction t with
  | zero =>
    intro k h1 hk W a K
    have hk : k = 35 := by omega
    subst hk
    have k := K h1 (.int (nI 35)) W a
    simp only [xs_134_180, xs_134_181, xs_134_183, show ((35 : Int32) ≤ nI 35) = True from eq_true (by decide), rf_some, xc_int, xc_ref, xc_ret, xc_long, xw_nil, xw_int, xw_ref, xw_long, tl_some, tl_none, true_and, and_true, Nat.zero_le, Nat.reduceAdd, Nat.reduceMul, Nat.reduceLeDiff, Nat.reduceLT, Nat.reduceEqDiff, Nat.reducePow, Int32.reduceAdd, Int32.reduceMul, Int32.reduceSub, Int32.reduceLT, Int32.reduceLE, Int32.reduceToNatClampNeg, litE, ixU, not_false_eq_true, not_true_eq_false, ↓reduceIte, eq_self, true_or, or_true, false_and, and_false, or_false, false_or, i10, i01, in10, i1n, xbT, xbF, r_lt]
    exact k
  | succ t ih =>
    intro k h1 hk W a K
    have H1 := wr_sh W H
    have e35 : ((35 : Int32) ≤ nI k) = False := lt_f (i := k) (n := 35) (by omega) (by decide)
    have v : xe_I h1 50 k = xe_I h 50 k := W.2 50 k (by omega)
    have o := ih (k + 1) (xe_sI h1 49 k (xe_I h 50 k)) (by omega) (wr_sI W (by omega)) (fun j hj => by
      rw [hI_sI]
      by_cases z : j = k
      · rw [if_pos ⟨rfl, z⟩, z]
      · rw [if_neg (by omega)]; exact a j (by omega)) K
    rw [xs_134_180]
    simp only [xs_134_181, xs_134_183, xs_134_186, xs_134_187, xs_134_190, xs_134_191, xs_134_192, xs_134_195, xs_134_196, xs_134_197, xs_134_198, xs_134_201, e35, H1, sT_48, sT_49, sN_49, sA_49, sT_50, sN_50, sA_50, sT_51, sN_51, sA_51, sT_52, sN_52, sA_52, sT_53, sN_53, sA_53, sT_54, sN_54, sA_54, sT_55, sN_55, sA_55, sT_56, sN_56, sA_56, sT_57, sN_57, sA_57, sT_58, sN_58, sA_58, sT_59, sN_59, sA_59, sT_60, sN_60, sA_60, sT_61, sN_61, sA_61, sT_62, sN_62, sA_62, sT_63, sN_63, sA_63, sT_64, sN_64, sA_64, sT_65, sN_65, sA_65, sT_66, sN_66, sA_66, sT_67, sN_67, sA_67, sT_68, sN_68, sB_68, sT_69, sN_69, sA_69, sT_70, sN_70, sA_70, sT_71, sN_71, sA_71, sR_48_0, sR_48_2, sR_48_9, sR_48_10, sR_48_11, sR_48_20, sR_48_21, sR_48_22, sR_48_23, sR_48_24, sR_48_26, sR_48_27, sR_48_28, sR_48_29, sR_48_30, sR_48_31, sR_48_33, sR_48_34, sR_48_35, sR_48_36, sR_48_37, sR_48_38, sR_48_39, nIlt0 (show k < 2 ^ 31 by omega), nI_clamp (show k < 2 ^ 31 by omega), show k < 35 by omega, show k < 140 by omega, v, nI_1, rf_some, xc_int, xc_ref, xc_ret, xc_long, xw_nil, xw_int, xw_ref, xw_long, tl_some, tl_none, true_and, and_true, Nat.zero_le, Nat.reduceAdd, Nat.reduceMul, Nat.reduceLeDiff, Nat.reduceLT, Nat.reduceEqDiff, Nat.reducePow, Int32.reduceAdd, Int32.reduceMul, Int32.reduceSub, Int32.reduceLT, Int32.reduceLE, Int32.reduceToNatClampNeg, litE, ixU, not_false_eq_true, not_true_eq_false, ↓reduceIte, eq_self, true_or, or_true, false_and, and_false, or_false, false_or, i10, i01, in10, i1n, xbT, xbF, r_lt, hI_sI, hL_sI, hR_sI, hT_sI, hN_sI, hn_sI, ho_sI, hia_sI, hba_sI, hal_sI, hix_sI, hI_aI, hL_aI, hR_aI, hT_aI, hN_aI, hn_aI, ho_aI, hia_aI, hal_aI, hix_aI, sh_sI, sh_aI, sh_sL, sh_aL]
    exact o
theorem mt_cpB {l1 : Int32} (H : sh h) : ∀ t b h1, b + t = 6 → wr (fun a j => a = 49 ∧ j < 35) h h1 → (∀ j, j < b → xe_I h1 49 (4 * j + 2) = xe_I h 51 j ∧ xe_I h1 49 (4 * j + 3) = xe_I h 52 j) → (∀ j, 24 ≤ j ∨ j % 4 < 2 → xe_I h1 49 j = xe_I h 49 j) → (∀ h2 l2, wr (fun a j => a = 49 ∧ j < 35) h h2 → (∀ j, j < 6 → xe_I h2 49 (4 * j + 2) = xe_I h 51 j ∧ xe_I h2 49 (4 * j + 3) = xe_I h 52 j) → (∀ j, 24 ≤ j ∨ j % 4 < 2 → xe_I h2 49 j = xe_I h 49 j) → xe_P (d + 6) 134 250 [.ref 48, .int l1, l2] [] h2 Q) → xe_P (d + 6) 134 206 [.ref 48, .int l1, .int (nI b)] [] h1 Q := by
  intro t
  induction t with
  | zero =>
    intro b h1 hb W a c K
    have hb : b = 6 := by omega
    subst hb
    have k := K h1 (.int (nI 6)) W a c
    simp only [xs_134_206, xs_134_207, xs_134_209, show ((6 : Int32) ≤ nI 6) = True from eq_true (by decide), rf_some, xc_int, xc_ref, xc_ret, xc_long, xw_nil, xw_int, xw_ref, xw_long, tl_some, tl_none, true_and, and_true, Nat.zero_le, Nat.reduceAdd, Nat.reduceMul, Nat.reduceLeDiff, Nat.reduceLT, Nat.reduceEqDiff, Nat.reducePow, Int32.reduceAdd, Int32.reduceMul, Int32.reduceSub, Int32.reduceLT, Int32.reduceLE, Int32.reduceToNatClampNeg, litE, ixU, not_false_eq_true, not_true_eq_false, ↓reduceIte, eq_self, true_or, or_true, false_and, and_false, or_false, false_or, i10, i01, in10, i1n, xbT, xbF, r_lt]
    exact k
  | succ t ih =>
    intro b h1 hb W a c K
    have H1 := wr_sh W H
    have e6 : ((6 : Int32) ≤ nI b) = False := lt_f (i := b) (n := 6) (by omega) (by decide)
    have v1 : xe_I h1 51 b = xe_I h 51 b := W.2 51 b (by omega)
    have v2 : xe_I h1 52 b = xe_I h 52 b := W.2 52 b (by omega)
    have i2 : (4 : Int32) * nI b + 2 = nI (4 * b + 2) := by rw [show (4 : Int32) = nI 4 from rfl, show (2 : Int32) = nI 2 from rfl, pk_mul, nI_add]
    have i3 : (4 : Int32) * nI b + 3 = nI (4 * b + 3) := by rw [show (4 : Int32) = nI 4 from rfl, show (3 : Int32) = nI 3 from rfl, pk_mul, nI_add]
    have o := ih (b + 1) (xe_sI (xe_sI h1 49 (4 * b + 2) (xe_I h 51 b)) 49 (4 * b + 3) (xe_I h 52 b)) (by omega) (wr_sI (wr_sI W (by omega)) (by omega)) (fun j hj => by
      by_cases z : j = b
      · rw [z]
        refine ⟨?_, ?_⟩
        · rw [hI_sI, if_neg (by omega), hI_sI, if_pos ⟨rfl, rfl⟩]
        · rw [hI_sI, if_pos ⟨rfl, rfl⟩]
      · rw [hI_sI, if_neg (by omega), hI_sI, if_neg (by omega), hI_sI, if_neg (by omega), hI_sI, if_neg (by omega)]
        exact a j (by omega)) (fun j hj => by
      rw [hI_sI, if_neg (by omega), hI_sI, if_neg (by omega)]
      exact c j hj) K
    rw [xs_134_206]
    simp only [xs_134_207, xs_134_209, xs_134_212, xs_134_213, xs_134_216, xs_134_217, xs_134_218, xs_134_219, xs_134_220, xs_134_221, xs_134_222, xs_134_225, xs_134_226, xs_134_227, xs_134_228, xs_134_229, xs_134_232, xs_134_233, xs_134_234, xs_134_235, xs_134_236, xs_134_237, xs_134_238, xs_134_241, xs_134_242, xs_134_243, xs_134_244, xs_134_247, e6, H1, sT_48, sT_49, sN_49, sA_49, sT_50, sN_50, sA_50, sT_51, sN_51, sA_51, sT_52, sN_52, sA_52, sT_53, sN_53, sA_53, sT_54, sN_54, sA_54, sT_55, sN_55, sA_55, sT_56, sN_56, sA_56, sT_57, sN_57, sA_57, sT_58, sN_58, sA_58, sT_59, sN_59, sA_59, sT_60, sN_60, sA_60, sT_61, sN_61, sA_61, sT_62, sN_62, sA_62, sT_63, sN_63, sA_63, sT_64, sN_64, sA_64, sT_65, sN_65, sA_65, sT_66, sN_66, sA_66, sT_67, sN_67, sA_67, sT_68, sN_68, sB_68, sT_69, sN_69, sA_69, sT_70, sN_70, sA_70, sT_71, sN_71, sA_71, sR_48_0, sR_48_2, sR_48_9, sR_48_10, sR_48_11, sR_48_20, sR_48_21, sR_48_22, sR_48_23, sR_48_24, sR_48_26, sR_48_27, sR_48_28, sR_48_29, sR_48_30, sR_48_31, sR_48_33, sR_48_34, sR_48_35, sR_48_36, sR_48_37, sR_48_38, sR_48_39, i2, i3, nIlt0 (show 4 * b + 2 < 2 ^ 31 by omega), nI_clamp (show 4 * b + 2 < 2 ^ 31 by omega), show 4 * b + 2 < 140 by omega, nIlt0 (show 4 * b + 3 < 2 ^ 31 by omega), nI_clamp (show 4 * b + 3 < 2 ^ 31 by omega), show 4 * b + 3 < 140 by omega, nIlt0 (show b < 2 ^ 31 by omega), nI_clamp (show b < 2 ^ 31 by omega), show b < 6 by omega, v1, v2, nI_1, rf_some, xc_int, xc_ref, xc_ret, xc_long, xw_nil, xw_int, xw_ref, xw_long, tl_some, tl_none, true_and, and_true, Nat.zero_le, Nat.reduceAdd, Nat.reduceMul, Nat.reduceLeDiff, Nat.reduceLT, Nat.reduceEqDiff, Nat.reducePow, Int32.reduceAdd, Int32.reduceMul, Int32.reduceSub, Int32.reduceLT, Int32.reduceLE, Int32.reduceToNatClampNeg, litE, ixU, not_false_eq_true, not_true_eq_false, ↓reduceIte, eq_self, true_or, or_true, false_and, and_false, or_false, false_or, i10, i01, in10, i1n, xbT, xbF, r_lt, hI_sI, hL_sI, hR_sI, hT_sI, hN_sI, hn_sI, ho_sI, hia_sI, hba_sI, hal_sI, hix_sI, hI_aI, hL_aI, hR_aI, hT_aI, hN_aI, hn_aI, ho_aI, hia_aI, hal_aI, hix_aI, sh_sI, sh_aI, sh_sL, sh_aL, show (51 = 49) = False from eq_false (by decide), show (52 = 49) = False from eq_false (by decide)]
    exact o
/-- the reference's loop over the lines -/
theorem md_tloop (hn : n ≤ 320) (hT : ∀ k, T k < 256) (H : sh h) (C : mTp' T n h) (Wd : mWd h) : ∀ t l i (g : Nat → Nat) h1 l2, l + t = 321 → l ≤ i → i ≤ n → gq g → wr msS h h1 → msQ g h1 → ldT T n (tkS T n i) h1 → (∀ h2 l2, (txL T n t l i g).1 = 0 → wr msS h h2 → msQ (txL T n t l i g).2.2.2 h2 → xe_I h2 48 14 = 0 → xe_I h2 48 17 = nI n → xe_P (d + 6) 134 112 [.ref 48, .int (nI (txL T n t l i g).2.2.1), l2] [] h2 Q) → (∀ h2 l2 x, ¬ (txL T n t l i g).1 = 0 → wr msS h h2 → BR (txL T n t l i g).1 (txL T n t l i g).2.1 h2 → xe_P (d + 6) 134 112 [.ref 48, .int x, l2] [] h2 Q) → xe_P (d + 6) 134 88 [.ref 48, .int (nI l), l2] [] h1 Q := by
  intro t
  induction t with
  | zero => intro l i g h1 l2 hl hli hi; omega
  | succ t ih =>
    intro l i g h1 l2 hl hli hi G W M L K0 K1
    have H1 := wr_sh W H
    have C1 := mTp'_m C W
    have Wd1 : mWd h1 := mWd_c Wd (fun j => W.2 54 j (by unfold msS; omega)) (fun j => W.2 55 j (by unfold msS; omega))
    have hS := tkS_b (T := T) hi
    have lok := fun y => lin0_ok (T := T) hS.2 G y
    have lb := lin0_b (g := g) (T := T) hS.2
    have k4 := eK_4 T n (tkS T n i)
    rw [txL] at K0 K1
    generalize tkS T n i = j at *
    rw [xs_134_88]
    by_cases z4 : eK T n j = 4
    · rcases L with ⟨y, -⟩ | ⟨-, e14, e15⟩
      · exact absurd z4 y
      · have l1 : lin0 T n j g = (1, j, g) := by unfold lin0; rw [if_pos z4]
        rw [if_neg (by omega), l1] at K1
        have k := K1 h1 l2 (nI l) (by show ¬ (1 : Nat) = 0; decide) W ⟨e14, e15⟩
        simp only [xs_134_89, xs_134_92, H1, sT_48, sT_49, sN_49, sA_49, sT_50, sN_50, sA_50, sT_51, sN_51, sA_51, sT_52, sN_52, sA_52, sT_53, sN_53, sA_53, sT_54, sN_54, sA_54, sT_55, sN_55, sA_55, sT_56, sN_56, sA_56, sT_57, sN_57, sA_57, sT_58, sN_58, sA_58, sT_59, sN_59, sA_59, sT_60, sN_60, sA_60, sT_61, sN_61, sA_61, sT_62, sN_62, sA_62, sT_63, sN_63, sA_63, sT_64, sN_64, sA_64, sT_65, sN_65, sA_65, sT_66, sN_66, sA_66, sT_67, sN_67, sA_67, sT_68, sN_68, sB_68, sT_69, sN_69, sA_69, sT_70, sN_70, sA_70, sT_71, sN_71, sA_71, sR_48_0, sR_48_2, sR_48_9, sR_48_10, sR_48_11, sR_48_20, sR_48_21, sR_48_22, sR_48_23, sR_48_24, sR_48_26, sR_48_27, sR_48_28, sR_48_29, sR_48_30, sR_48_31, sR_48_33, sR_48_34, sR_48_35, sR_48_36, sR_48_37, sR_48_38, sR_48_39, e14, show ((1 : Int32) = 0) = False from eq_false (by decide), rf_some, xc_int, xc_ref, xc_ret, xc_long, xw_nil, xw_int, xw_ref, xw_long, tl_some, tl_none, true_and, and_true, Nat.zero_le, Nat.reduceAdd, Nat.reduceMul, Nat.reduceLeDiff, Nat.reduceLT, Nat.reduceEqDiff, Nat.reducePow, Int32.reduceAdd, Int32.reduceMul, Int32.reduceSub, Int32.reduceLT, Int32.reduceLE, Int32.reduceToNatClampNeg, litE, ixU, not_false_eq_true, not_true_eq_false, ↓reduceIte, eq_self, true_or, or_true, false_and, and_false, or_false, false_or, i10, i01, in10, i1n, xbT, xbF, r_lt]
        exact k
    · rcases id L with ⟨-, e14, e17, e18, e16, e19⟩ | ⟨y, -⟩
      · by_cases z : eK T n j = 0
        · rw [if_pos z] at K0
          have jn : j = n := eK_0.mp z
          rw [jn] at e17
          have k := K0 h1 l2 rfl W M e14 e17
          rw [z] at e18
          simp only [xs_134_89, xs_134_92, xs_134_95, xs_134_96, xs_134_99, H1, sT_48, sT_49, sN_49, sA_49, sT_50, sN_50, sA_50, sT_51, sN_51, sA_51, sT_52, sN_52, sA_52, sT_53, sN_53, sA_53, sT_54, sN_54, sA_54, sT_55, sN_55, sA_55, sT_56, sN_56, sA_56, sT_57, sN_57, sA_57, sT_58, sN_58, sA_58, sT_59, sN_59, sA_59, sT_60, sN_60, sA_60, sT_61, sN_61, sA_61, sT_62, sN_62, sA_62, sT_63, sN_63, sA_63, sT_64, sN_64, sA_64, sT_65, sN_65, sA_65, sT_66, sN_66, sA_66, sT_67, sN_67, sA_67, sT_68, sN_68, sB_68, sT_69, sN_69, sA_69, sT_70, sN_70, sA_70, sT_71, sN_71, sA_71, sR_48_0, sR_48_2, sR_48_9, sR_48_10, sR_48_11, sR_48_20, sR_48_21, sR_48_22, sR_48_23, sR_48_24, sR_48_26, sR_48_27, sR_48_28, sR_48_29, sR_48_30, sR_48_31, sR_48_33, sR_48_34, sR_48_35, sR_48_36, sR_48_37, sR_48_38, sR_48_39, e14, e18, show (nI 0 = 0) = True from eq_true rfl, rf_some, xc_int, xc_ref, xc_ret, xc_long, xw_nil, xw_int, xw_ref, xw_long, tl_some, tl_none, true_and, and_true, Nat.zero_le, Nat.reduceAdd, Nat.reduceMul, Nat.reduceLeDiff, Nat.reduceLT, Nat.reduceEqDiff, Nat.reducePow, Int32.reduceAdd, Int32.reduceMul, Int32.reduceSub, Int32.reduceLT, Int32.reduceLE, Int32.reduceToNatClampNeg, litE, ixU, not_false_eq_true, not_true_eq_false, ↓reduceIte, eq_self, true_or, or_true, false_and, and_false, or_false, false_or, i10, i01, in10, i1n, xbT, xbF, r_lt]
          exact k
        · rw [if_neg z] at K0 K1
          have kz : (nI (eK T n j) = 0) = False := by rw [nIe0 (by omega)]; exact eq_false z
          simp only [xs_134_89, xs_134_92, xs_134_95, xs_134_96, xs_134_99, xs_134_102, xs_134_103, H1, sT_48, sT_49, sN_49, sA_49, sT_50, sN_50, sA_50, sT_51, sN_51, sA_51, sT_52, sN_52, sA_52, sT_53, sN_53, sA_53, sT_54, sN_54, sA_54, sT_55, sN_55, sA_55, sT_56, sN_56, sA_56, sT_57, sN_57, sA_57, sT_58, sN_58, sA_58, sT_59, sN_59, sA_59, sT_60, sN_60, sA_60, sT_61, sN_61, sA_61, sT_62, sN_62, sA_62, sT_63, sN_63, sA_63, sT_64, sN_64, sA_64, sT_65, sN_65, sA_65, sT_66, sN_66, sA_66, sT_67, sN_67, sA_67, sT_68, sN_68, sB_68, sT_69, sN_69, sA_69, sT_70, sN_70, sA_70, sT_71, sN_71, sA_71, sR_48_0, sR_48_2, sR_48_9, sR_48_10, sR_48_11, sR_48_20, sR_48_21, sR_48_22, sR_48_23, sR_48_24, sR_48_26, sR_48_27, sR_48_28, sR_48_29, sR_48_30, sR_48_31, sR_48_33, sR_48_34, sR_48_35, sR_48_36, sR_48_37, sR_48_38, sR_48_39, e14, e18, kz, rf_some, xc_int, xc_ref, xc_ret, xc_long, xw_nil, xw_int, xw_ref, xw_long, tl_some, tl_none, true_and, and_true, Nat.zero_le, Nat.reduceAdd, Nat.reduceMul, Nat.reduceLeDiff, Nat.reduceLT, Nat.reduceEqDiff, Nat.reducePow, Int32.reduceAdd, Int32.reduceMul, Int32.reduceSub, Int32.reduceLT, Int32.reduceLE, Int32.reduceToNatClampNeg, litE, ixU, not_false_eq_true, not_true_eq_false, ↓reduceIte, eq_self, true_or, or_true, false_and, and_false, or_false, false_or, i10, i01, in10, i1n, xbT, xbF, r_lt]
          refine md_readLine (d := d) hn hT hS.2 G H1 C1 Wd1 M L z4 (fun h2 q => ?_)
          obtain ⟨W2, ⟨y, M2, L2⟩ | ⟨y, B2⟩⟩ := q
          · rw [if_pos y] at K0 K1
            have lk := lok y
            have o := ih (l + 1) (lin0 T n j g).2.1 (lin0 T n j g).2.2 h2 l2 (by omega) (by omega) lk.2.2 lk.1 (wr_tr W W2) M2 L2 K0 K1
            simp only [xs_134_106, xs_134_109, nI_1, rf_some, xc_int, xc_ref, xc_ret, xc_long, xw_nil, xw_int, xw_ref, xw_long, tl_some, tl_none, true_and, and_true, Nat.zero_le, Nat.reduceAdd, Nat.reduceMul, Nat.reduceLeDiff, Nat.reduceLT, Nat.reduceEqDiff, Nat.reducePow, Int32.reduceAdd, Int32.reduceMul, Int32.reduceSub, Int32.reduceLT, Int32.reduceLE, Int32.reduceToNatClampNeg, litE, ixU, not_false_eq_true, not_true_eq_false, ↓reduceIte, eq_self, true_or, or_true, false_and, and_false, or_false, false_or, i10, i01, in10, i1n, xbT, xbF, r_lt]
            exact o
          · rw [if_neg y] at K1
            have k := K1 h2 l2 (nI (l + 1)) y (wr_tr W W2) B2
            have H2 := wr_sh W2 H1
            have cz : (nI (lin0 T n j g).1 = 0) = False := by rw [nIe0 (by omega)]; exact eq_false y
            simp only [xs_134_106, xs_134_109, nI_1, rf_some, xc_int, xc_ref, xc_ret, xc_long, xw_nil, xw_int, xw_ref, xw_long, tl_some, tl_none, true_and, and_true, Nat.zero_le, Nat.reduceAdd, Nat.reduceMul, Nat.reduceLeDiff, Nat.reduceLT, Nat.reduceEqDiff, Nat.reducePow, Int32.reduceAdd, Int32.reduceMul, Int32.reduceSub, Int32.reduceLT, Int32.reduceLE, Int32.reduceToNatClampNeg, litE, ixU, not_false_eq_true, not_true_eq_false, ↓reduceIte, eq_self, true_or, or_true, false_and, and_false, or_false, false_or, i10, i01, in10, i1n, xbT, xbF, r_lt]
            rw [xs_134_88]
            simp only [xs_134_89, xs_134_92, H2, sT_48, sT_49, sN_49, sA_49, sT_50, sN_50, sA_50, sT_51, sN_51, sA_51, sT_52, sN_52, sA_52, sT_53, sN_53, sA_53, sT_54, sN_54, sA_54, sT_55, sN_55, sA_55, sT_56, sN_56, sA_56, sT_57, sN_57, sA_57, sT_58, sN_58, sA_58, sT_59, sN_59, sA_59, sT_60, sN_60, sA_60, sT_61, sN_61, sA_61, sT_62, sN_62, sA_62, sT_63, sN_63, sA_63, sT_64, sN_64, sA_64, sT_65, sN_65, sA_65, sT_66, sN_66, sA_66, sT_67, sN_67, sA_67, sT_68, sN_68, sB_68, sT_69, sN_69, sA_69, sT_70, sN_70, sA_70, sT_71, sN_71, sA_71, sR_48_0, sR_48_2, sR_48_9, sR_48_10, sR_48_11, sR_48_20, sR_48_21, sR_48_22, sR_48_23, sR_48_24, sR_48_26, sR_48_27, sR_48_28, sR_48_29, sR_48_30, sR_48_31, sR_48_33, sR_48_34, sR_48_35, sR_48_36, sR_48_37, sR_48_38, sR_48_39, B2.1, cz, rf_some, xc_int, xc_ref, xc_ret, xc_long, xw_nil, xw_int, xw_ref, xw_long, tl_some, tl_none, true_and, and_true, Nat.zero_le, Nat.reduceAdd, Nat.reduceMul, Nat.reduceLeDiff, Nat.reduceLT, Nat.reduceEqDiff, Nat.reducePow, Int32.reduceAdd, Int32.reduceMul, Int32.reduceSub, Int32.reduceLT, Int32.reduceLE, Int32.reduceToNatClampNeg, litE, ixU, not_false_eq_true, not_true_eq_false, ↓reduceIte, eq_self, true_or, or_true, false_and, and_false, or_false, false_or, i10, i01, in10, i1n, xbT, xbF, r_lt]
            exact k
      · exact absurd y z4
end TT
