/-! can, both: the reference's answers -/
def orP (b : bL) : Nat → Int32
  | 0 => 0
  | n + 1 => orP b n ||| 1 <<< (nI (bS b n / 4096) &&& 31)
theorem bK_hit {nx : Nat → Nat → Option Nat} {M s0 G : Nat} (h : bK nx M s0 G < bend nx M s0) : bS (bZ nx M s0) (bK nx M s0 G) / 4096 = G := by
  exact of_decide_eq_true (fa_first_yes (fun i => decide (bS (bZ nx M s0) i / 4096 = G)) (bend nx M s0) h)
section WP
variable {d : Nat} {h : xe_H} {g : Nat → Nat}
theorem gH_no : gH 100 (-4) := fun w hw => by
  rw [nI_ne4 (show w < 2 ^ 31 by omega)]
  exact (eq_false (by omega)).symm
theorem md_can {p : Nat} (hg : pg_ok g) (hp1 : p < g 31) (H : sh h) (hp : mp h 0 g) : xe_C (d + 7) 167 [.ref 48, .int (nI p)] h (fun r h' => r = some (.int (orP (bZ (nx1 g) (g 24 + 1) (4096 * g (25 + 2 * p) + rc (gr g))) (bend (nx1 g) (g 24 + 1) (4096 * g (25 + 2 * p) + rc (gr g))))) ∧ wr vS h h') := by
  have h24 : g 24 ≤ 6 := hg.1
  have h31 : g 31 ≤ 3 := hg.2.1
  have h35 : g 35 ≤ 5 := hg.2.2.2.2.2.2.2.1
  obtain ⟨hpl, hgo⟩ := hg.2.2.2.2.2.2.2.2.2.2.2 p hp1
  have hrc := rc_lt (f := gr g) hg.2.2.2.2.2.2.2.2.2.1
  have q1 : (0 ≤ nI p ∧ nI p < nI (g 31)) := ⟨nI_pos' (by omega), in_lt (by omega) hp1⟩
  have h0 : 4096 * g (25 + 2 * p) + rc (gr g) < 4096 * 25 := by omega
  obtain ⟨E1, E2, E3⟩ := bend_ok (M := g 24 + 1) h0 (nx1_b hg)
  have gZ := (bB_G (M := g 24 + 1) h0 (nx1_b hg) (bend (nx1 g) (g 24 + 1) (4096 * g (25 + 2 * p) + rc (gr g)))).1
  simp only [xs_167, xs_167_0, xs_167_1, xs_167_2, xs_167_5, xs_167_8, xs_167_9, xs_167_10, xs_167_11, xs_167_12, xs_167_14, H, sT_48, sT_49, sN_49, sA_49, sT_50, sN_50, sA_50, sT_51, sN_51, sA_51, sT_52, sN_52, sA_52, sT_53, sN_53, sA_53, sT_54, sN_54, sA_54, sT_55, sN_55, sA_55, sT_56, sN_56, sA_56, sT_57, sN_57, sA_57, sT_58, sN_58, sA_58, sT_59, sN_59, sA_59, sT_60, sN_60, sA_60, sT_61, sN_61, sA_61, sT_62, sN_62, sA_62, sT_63, sN_63, sA_63, sT_64, sN_64, sA_64, sT_65, sN_65, sA_65, sT_66, sN_66, sA_66, sT_67, sN_67, sA_67, sT_68, sN_68, sB_68, sT_69, sN_69, sA_69, sT_70, sN_70, sA_70, sT_71, sN_71, sA_71, sR_48_0, sR_48_2, sR_48_9, sR_48_10, sR_48_11, sR_48_20, sR_48_21, sR_48_22, sR_48_23, sR_48_24, sR_48_26, sR_48_27, sR_48_28, sR_48_29, sR_48_30, sR_48_31, sR_48_33, sR_48_34, sR_48_35, sR_48_36, sR_48_37, sR_48_38, sR_48_39, md_isOne H hp hg, q1, and_self, rf_some, xc_int, xc_ref, xc_ret, xc_long, xw_nil, xw_int, xw_ref, xw_long, tl_some, tl_none, true_and, and_true, Nat.zero_le, Nat.reduceAdd, Nat.reduceMul, Nat.reduceLeDiff, Nat.reduceLT, Nat.reduceEqDiff, Nat.reducePow, Int32.reduceAdd, Int32.reduceMul, Int32.reduceSub, Int32.reduceLT, Int32.reduceLE, Int32.reduceToNatClampNeg, litE, ixU, not_false_eq_true, not_true_eq_false, ↓reduceIte, eq_self, true_or, or_true, false_and, and_false, or_false, false_or, i10, i01, in10, i1n, xbT, xbF, r_lt]
  refine xe_C_mono (md_searchesOne (d := d) (G := 100) hg hp1 gH_no H hp) ?_
  rintro v h1 ⟨W, R⟩
  have H1 := wr_sh W H
  rcases R with ⟨hK, -, -⟩ | ⟨-, rfl, J⟩
  · exfalso
    have e := bK_hit hK
    have := gZ.2.1 _ (show bK (nx1 g) (g 24 + 1) (4096 * g (25 + 2 * p) + rc (gr g)) 100 < _ from by rw [show bB (nx1 g) (g 24 + 1) _ _ = bZ (nx1 g) (g 24 + 1) (4096 * g (25 + 2 * p) + rc (gr g)) from rfl, E2]; exact hK)
    rw [show bB (nx1 g) (g 24 + 1) _ _ = bZ (nx1 g) (g 24 + 1) (4096 * g (25 + 2 * p) + rc (gr g)) from rfl] at this
    omega
  · rw [show bB (nx1 g) (g 24 + 1) _ _ = bZ (nx1 g) (g 24 + 1) (4096 * g (25 + 2 * p) + rc (gr g)) from rfl] at gZ
    generalize bZ (nx1 g) (g 24 + 1) (4096 * g (25 + 2 * p) + rc (gr g)) = b at *
    generalize bend (nx1 g) (g 24 + 1) (4096 * g (25 + 2 * p) + rc (gr g)) = n at *
    have j1 := J.1
    rw [E2] at j1
    have e4 : ((4096 : Int32) = 0) = False := eq_false (by decide)
    have lp : ∀ t k, k + t = n → xe_P (d + 6) 167 22 [.ref 48, .int (nI p), .int (orP b k), .int (nI k)] [] h1 (fun r h' => r = some (.int (orP b n)) ∧ wr vS h h') := by
      intro t
      induction t with
      | zero =>
        intro k hk
        have hk : k = n := by omega
        subst hk
        simp only [xs_167_22, xs_167_23, xs_167_24, xs_167_27, xs_167_51, xs_167_52, H1, sT_48, sT_49, sN_49, sA_49, sT_50, sN_50, sA_50, sT_51, sN_51, sA_51, sT_52, sN_52, sA_52, sT_53, sN_53, sA_53, sT_54, sN_54, sA_54, sT_55, sN_55, sA_55, sT_56, sN_56, sA_56, sT_57, sN_57, sA_57, sT_58, sN_58, sA_58, sT_59, sN_59, sA_59, sT_60, sN_60, sA_60, sT_61, sN_61, sA_61, sT_62, sN_62, sA_62, sT_63, sN_63, sA_63, sT_64, sN_64, sA_64, sT_65, sN_65, sA_65, sT_66, sN_66, sA_66, sT_67, sN_67, sA_67, sT_68, sN_68, sB_68, sT_69, sN_69, sA_69, sT_70, sN_70, sA_70, sT_71, sN_71, sA_71, sR_48_0, sR_48_2, sR_48_9, sR_48_10, sR_48_11, sR_48_20, sR_48_21, sR_48_22, sR_48_23, sR_48_24, sR_48_26, sR_48_27, sR_48_28, sR_48_29, sR_48_30, sR_48_31, sR_48_33, sR_48_34, sR_48_35, sR_48_36, sR_48_37, sR_48_38, sR_48_39, j1, le_t, rf_some, xc_int, xc_ref, xc_ret, xc_long, xw_nil, xw_int, xw_ref, xw_long, tl_some, tl_none, true_and, and_true, Nat.zero_le, Nat.reduceAdd, Nat.reduceMul, Nat.reduceLeDiff, Nat.reduceLT, Nat.reduceEqDiff, Nat.reducePow, Int32.reduceAdd, Int32.reduceMul, Int32.reduceSub, Int32.reduceLT, Int32.reduceLE, Int32.reduceToNatClampNeg, litE, ixU, not_false_eq_true, not_true_eq_false, ↓reduceIte, eq_self, true_or, or_true, false_and, and_false, or_false, false_or, i10, i01, in10, i1n, xbT, xbF, r_lt]
        exact W
      | succ t ih =>
        intro k hk
        have hS := gZ.2.1 k (by omega)
        have e58 := (J.2.1 k (by omega)).1
        have e1 : nI (bS b k) / 4096 = nI (bS b k / 4096) := pk_div (d := 4096) (by omega) (by omega) (by omega)
        have fin := ih (k + 1) (by omega)
        rw [orP] at fin
        rw [xs_167_22]
        simp only [xs_167_23, xs_167_24, xs_167_27, xs_167_30, xs_167_31, xs_167_32, xs_167_33, xs_167_36, xs_167_37, xs_167_38, xs_167_41, xs_167_42, xs_167_43, xs_167_44, xs_167_45, xs_167_48, H1, sT_48, sT_49, sN_49, sA_49, sT_50, sN_50, sA_50, sT_51, sN_51, sA_51, sT_52, sN_52, sA_52, sT_53, sN_53, sA_53, sT_54, sN_54, sA_54, sT_55, sN_55, sA_55, sT_56, sN_56, sA_56, sT_57, sN_57, sA_57, sT_58, sN_58, sA_58, sT_59, sN_59, sA_59, sT_60, sN_60, sA_60, sT_61, sN_61, sA_61, sT_62, sN_62, sA_62, sT_63, sN_63, sA_63, sT_64, sN_64, sA_64, sT_65, sN_65, sA_65, sT_66, sN_66, sA_66, sT_67, sN_67, sA_67, sT_68, sN_68, sB_68, sT_69, sN_69, sA_69, sT_70, sN_70, sA_70, sT_71, sN_71, sA_71, sR_48_0, sR_48_2, sR_48_9, sR_48_10, sR_48_11, sR_48_20, sR_48_21, sR_48_22, sR_48_23, sR_48_24, sR_48_26, sR_48_27, sR_48_28, sR_48_29, sR_48_30, sR_48_31, sR_48_33, sR_48_34, sR_48_35, sR_48_36, sR_48_37, sR_48_38, sR_48_39, j1, lt_f (show k < n by omega) (show n < 2 ^ 31 by omega), nIlt0 (show k < 2 ^ 31 by omega), nI_clamp (show k < 2 ^ 31 by omega), show k < 102400 by omega, e58, e1, e4, nI_1, rf_some, xc_int, xc_ref, xc_ret, xc_long, xw_nil, xw_int, xw_ref, xw_long, tl_some, tl_none, true_and, and_true, Nat.zero_le, Nat.reduceAdd, Nat.reduceMul, Nat.reduceLeDiff, Nat.reduceLT, Nat.reduceEqDiff, Nat.reducePow, Int32.reduceAdd, Int32.reduceMul, Int32.reduceSub, Int32.reduceLT, Int32.reduceLE, Int32.reduceToNatClampNeg, litE, ixU, not_false_eq_true, not_true_eq_false, ↓reduceIte, eq_self, true_or, or_true, false_and, and_false, or_false, false_or, i10, i01, in10, i1n, xbT, xbF, r_lt]
        exact fin
    have l0 := lp n 0 (by omega)
    rw [show nI 0 = (0 : Int32) from rfl, show orP b 0 = 0 from rfl] at l0
    simp only [xs_167_17, xs_167_18, xs_167_19, xs_167_20, xs_167_21, rf_some, xc_int, xc_ref, xc_ret, xc_long, xw_nil, xw_int, xw_ref, xw_long, tl_some, tl_none, true_and, and_true, Nat.zero_le, Nat.reduceAdd, Nat.reduceMul, Nat.reduceLeDiff, Nat.reduceLT, Nat.reduceEqDiff, Nat.reducePow, Int32.reduceAdd, Int32.reduceMul, Int32.reduceSub, Int32.reduceLT, Int32.reduceLE, Int32.reduceToNatClampNeg, litE, ixU, not_false_eq_true, not_true_eq_false, ↓reduceIte, eq_self, true_or, or_true, false_and, and_false, or_false, false_or, i10, i01, in10, i1n, xbT, xbF, r_lt]
    exact l0
/-- both, from where the two are in order -/
theorem md_both45 {a b : Nat} {x y z : Int32} {l6 l7 l8 l9 l10 l11 : Value} (hg : pg_ok g) (ha : a < g 31) (hb : b < g 31) (hx : rowQ z) (H : sh h) (hp : mp h 0 g) : xe_P (d + 5) 168 45 [.ref 48, .int x, .int y, .int z, .int (nI a), .int (nI b), l6, l7, l8, l9, l10, l11] [] h (fun r h' => r = some (.int (wyA (nx2 g) 64 (4096 * (5 * g (25 + 2 * a) + g (25 + 2 * b)) + rc (gr g)) (5 * g (26 + 2 * a) + g (26 + 2 * b)) z)) ∧ wr vS h h') := by
  have h24 : g 24 ≤ 6 := hg.1
  have h31 : g 31 ≤ 3 := hg.2.1
  have h35 : g 35 ≤ 5 := hg.2.2.2.2.2.2.2.1
  obtain ⟨hpa, hga⟩ := hg.2.2.2.2.2.2.2.2.2.2.2 a ha
  obtain ⟨hpb, hgb⟩ := hg.2.2.2.2.2.2.2.2.2.2.2 b hb
  have gr3 : ∀ b, b < 6 → gr g b ≤ 3 := hg.2.2.2.2.2.2.2.2.2.1
  have hrc := rc_lt gr3
  have h0 : 4096 * (5 * g (25 + 2 * a) + g (25 + 2 * b)) + rc (gr g) < 4096 * 25 := by omega
  have hn := nx2_b hg
  have ei : (4096 : Int32) * (5 * nI (g (25 + 2 * a)) + nI (g (25 + 2 * b))) + nI (rc (gr g)) = nI (4096 * (5 * g (25 + 2 * a) + g (25 + 2 * b)) + rc (gr g)) := by rw [show (4096 : Int32) = nI 4096 from rfl, show (5 : Int32) = nI 5 from rfl, pk_mul, nI_add, pk_mul, nI_add]
  have eg : (5 : Int32) * nI (g (26 + 2 * a)) + nI (g (26 + 2 * b)) = nI (5 * g (26 + 2 * a) + g (26 + 2 * b)) := by rw [show (5 : Int32) = nI 5 from rfl, pk_mul, nI_add]
  have hG31 : 5 * g (26 + 2 * a) + g (26 + 2 * b) < 2 ^ 31 := by omega
  have st := fun x (_ : x < 4096 * 25) => stay3 (fun w f hf => stay_2 (g := g) hf) x
  have wk := weak_2 hg
  obtain ⟨E1, E2, E3⟩ := bend_ok (M := 64) h0 hn
  have HW : ∀ f, sh (mW h f) := fun f => by rw [mW_sh]; exact H
  generalize hs0 : 4096 * (5 * g (25 + 2 * a) + g (25 + 2 * b)) + rc (gr g) = s0 at *
  generalize hG0 : 5 * g (26 + 2 * a) + g (26 + 2 * b) = G at *
  have lp : ∀ j k h1 l7 l8 l9 l10 l11, k + j = bend (nx2 g) 64 s0 → wr vS h h1 → MI (bB (nx2 g) 64 s0 k) h1 → (∀ i, i < k → ¬ bS (bZ (nx2 g) 64 s0) i / 4096 = G) → xe_P (d + 5) 168 80 [.ref 48, .int x, .int y, .int z, .int (nI a), .int (nI b), .int (nI k), l7, l8, l9, l10, l11] [] h1 (fun r h' => r = some (.int (wyA (nx2 g) 64 s0 G z)) ∧ wr vS h h') := by
    intro j
    induction j with
    | zero =>
      intro k h1 l7 l8 l9 l10 l11 hk W J hno
      have hk : k = bend (nx2 g) 64 s0 := by omega
      have H1 := wr_sh W H
      have j1 := J.1
      have e2 : (bB (nx2 g) 64 s0 k).1 = k := by rw [hk]; exact E2
      rw [e2] at j1
      simp only [xs_168_80, xs_168_82, xs_168_83, xs_168_86, xs_168_272, xs_168_274, H1, sT_48, sT_49, sN_49, sA_49, sT_50, sN_50, sA_50, sT_51, sN_51, sA_51, sT_52, sN_52, sA_52, sT_53, sN_53, sA_53, sT_54, sN_54, sA_54, sT_55, sN_55, sA_55, sT_56, sN_56, sA_56, sT_57, sN_57, sA_57, sT_58, sN_58, sA_58, sT_59, sN_59, sA_59, sT_60, sN_60, sA_60, sT_61, sN_61, sA_61, sT_62, sN_62, sA_62, sT_63, sN_63, sA_63, sT_64, sN_64, sA_64, sT_65, sN_65, sA_65, sT_66, sN_66, sA_66, sT_67, sN_67, sA_67, sT_68, sN_68, sB_68, sT_69, sN_69, sA_69, sT_70, sN_70, sA_70, sT_71, sN_71, sA_71, sR_48_0, sR_48_2, sR_48_9, sR_48_10, sR_48_11, sR_48_20, sR_48_21, sR_48_22, sR_48_23, sR_48_24, sR_48_26, sR_48_27, sR_48_28, sR_48_29, sR_48_30, sR_48_31, sR_48_33, sR_48_34, sR_48_35, sR_48_36, sR_48_37, sR_48_38, sR_48_39, j1, le_t, rf_some, xc_int, xc_ref, xc_ret, xc_long, xw_nil, xw_int, xw_ref, xw_long, tl_some, tl_none, true_and, and_true, Nat.zero_le, Nat.reduceAdd, Nat.reduceMul, Nat.reduceLeDiff, Nat.reduceLT, Nat.reduceEqDiff, Nat.reducePow, Int32.reduceAdd, Int32.reduceMul, Int32.reduceSub, Int32.reduceLT, Int32.reduceLE, Int32.reduceToNatClampNeg, litE, ixU, not_false_eq_true, not_true_eq_false, ↓reduceIte, eq_self, true_or, or_true, false_and, and_false, or_false, false_or, i10, i01, in10, i1n, xbT, xbF, r_lt]
      refine ⟨?_, W⟩
      have eK : bK (nx2 g) 64 s0 G = bend (nx2 g) 64 s0 := ff_no (fun i hi => decide_eq_false (hno i (by omega)))
      unfold wyA
      rw [if_neg (by omega)]
    | succ j ih =>
      intro k h1 l7 l8 l9 l10 l11 hk W J hno
      have hkE : k < bend (nx2 g) 64 s0 := by omega
      have hkc := E3 k hkE
      have H1 := wr_sh W H
      have m1 : mp h1 0 g := mp_c hg hp (fun j _ _ => W.2 49 j (by unfold vS; omega))
      obtain ⟨g1, g2⟩ := bB_G (M := 64) h0 hn k
      have hle := bG_le g1
      have j1 := J.1
      have e58 := (J.2.1 k hkc).1
      have hX := g1.2.1 k hkc
      have P := bB_P (nx2 g) 64 s0 k (bend (nx2 g) 64 s0 - k)
      rw [show k + (bend (nx2 g) 64 s0 - k) = bend (nx2 g) 64 s0 by omega] at P
      have eZ : bS (bZ (nx2 g) 64 s0) k = bS (bB (nx2 g) 64 s0 k) k := (bP_S P hkc).1
      have e4 : ((4096 : Int32) = 0) = False := eq_false (by decide)
      have e1 : nI (bS (bB (nx2 g) 64 s0 k) k) / 4096 = nI (bS (bB (nx2 g) 64 s0 k) k / 4096) := pk_div (d := 4096) (by omega) (by omega) (by omega)
      rw [xs_168_80]
      simp only [xs_168_82, xs_168_83, xs_168_86, xs_168_89, xs_168_90, xs_168_93, xs_168_95, xs_168_96, xs_168_98, xs_168_100, xs_168_103, xs_168_104, xs_168_106, xs_168_108, xs_168_109, xs_168_110, xs_168_112, xs_168_115, xs_168_116, xs_168_117, xs_168_119, xs_168_122, xs_168_123, H1, sT_48, sT_49, sN_49, sA_49, sT_50, sN_50, sA_50, sT_51, sN_51, sA_51, sT_52, sN_52, sA_52, sT_53, sN_53, sA_53, sT_54, sN_54, sA_54, sT_55, sN_55, sA_55, sT_56, sN_56, sA_56, sT_57, sN_57, sA_57, sT_58, sN_58, sA_58, sT_59, sN_59, sA_59, sT_60, sN_60, sA_60, sT_61, sN_61, sA_61, sT_62, sN_62, sA_62, sT_63, sN_63, sA_63, sT_64, sN_64, sA_64, sT_65, sN_65, sA_65, sT_66, sN_66, sA_66, sT_67, sN_67, sA_67, sT_68, sN_68, sB_68, sT_69, sN_69, sA_69, sT_70, sN_70, sA_70, sT_71, sN_71, sA_71, sR_48_0, sR_48_2, sR_48_9, sR_48_10, sR_48_11, sR_48_20, sR_48_21, sR_48_22, sR_48_23, sR_48_24, sR_48_26, sR_48_27, sR_48_28, sR_48_29, sR_48_30, sR_48_31, sR_48_33, sR_48_34, sR_48_35, sR_48_36, sR_48_37, sR_48_38, sR_48_39, j1, lt_f hkc (show (bB (nx2 g) 64 s0 k).1 < 2 ^ 31 by omega), nIlt0 (show k < 2 ^ 31 by omega), nI_clamp (show k < 2 ^ 31 by omega), show k < 102400 by omega, e58, e1, e4, md_goalG H1 m1 ha (show a < 3 by omega), md_goalG H1 m1 hb (show b < 3 by omega), eg, nIe (show bS (bB (nx2 g) 64 s0 k) k / 4096 < 2 ^ 31 by omega) hG31, rf_some, xc_int, xc_ref, xc_ret, xc_long, xw_nil, xw_int, xw_ref, xw_long, tl_some, tl_none, true_and, and_true, Nat.zero_le, Nat.reduceAdd, Nat.reduceMul, Nat.reduceLeDiff, Nat.reduceLT, Nat.reduceEqDiff, Nat.reducePow, Int32.reduceAdd, Int32.reduceMul, Int32.reduceSub, Int32.reduceLT, Int32.reduceLE, Int32.reduceToNatClampNeg, litE, ixU, not_false_eq_true, not_true_eq_false, ↓reduceIte, eq_self, true_or, or_true, false_and, and_false, or_false, false_or, i10, i01, in10, i1n, xbT, xbF, r_lt]
      by_cases zz : bS (bB (nx2 g) 64 s0 k) k / 4096 = G
      · have eK : bK (nx2 g) 64 s0 G = k := ff_at (fun i hi => decide_eq_false (hno i hi)) hkE (decide_eq_true (by rw [eZ]; exact zz))
        simp only [eq_true zz, ↓reduceIte, xs_168_126, xs_168_127, xs_168_129, xs_168_130, H1, sT_48, sT_49, sN_49, sA_49, sT_50, sN_50, sA_50, sT_51, sN_51, sA_51, sT_52, sN_52, sA_52, sT_53, sN_53, sA_53, sT_54, sN_54, sA_54, sT_55, sN_55, sA_55, sT_56, sN_56, sA_56, sT_57, sN_57, sA_57, sT_58, sN_58, sA_58, sT_59, sN_59, sA_59, sT_60, sN_60, sA_60, sT_61, sN_61, sA_61, sT_62, sN_62, sA_62, sT_63, sN_63, sA_63, sT_64, sN_64, sA_64, sT_65, sN_65, sA_65, sT_66, sN_66, sA_66, sT_67, sN_67, sA_67, sT_68, sN_68, sB_68, sT_69, sN_69, sA_69, sT_70, sN_70, sA_70, sT_71, sN_71, sA_71, sR_48_0, sR_48_2, sR_48_9, sR_48_10, sR_48_11, sR_48_20, sR_48_21, sR_48_22, sR_48_23, sR_48_24, sR_48_26, sR_48_27, sR_48_28, sR_48_29, sR_48_30, sR_48_31, sR_48_33, sR_48_34, sR_48_35, sR_48_36, sR_48_37, sR_48_38, sR_48_39, rf_some, xc_int, xc_ref, xc_ret, xc_long, xw_nil, xw_int, xw_ref, xw_long, tl_some, tl_none, true_and, and_true, Nat.zero_le, Nat.reduceAdd, Nat.reduceMul, Nat.reduceLeDiff, Nat.reduceLT, Nat.reduceEqDiff, Nat.reducePow, Int32.reduceAdd, Int32.reduceMul, Int32.reduceSub, Int32.reduceLT, Int32.reduceLE, Int32.reduceToNatClampNeg, litE, ixU, not_false_eq_true, not_true_eq_false, ↓reduceIte, eq_self, true_or, or_true, false_and, and_false, or_false, false_or, i10, i01, in10, i1n, xbT, xbF, r_lt]
        have tk := md_toldK (d := d + 3) (h := h1) (nx := nx2 g) (M := 64) (G := G) (by omega) (by omega) h0 hn st wk hx (by rw [eK]; exact hkE) H1 (by rw [eK]; exact J)
        rw [eK] at tk
        refine xe_C_mono tk ?_
        rintro r h2 ⟨rfl, W2⟩
        simp only [xs_168_133, rf_some, xc_int, xc_ref, xc_ret, xc_long, xw_nil, xw_int, xw_ref, xw_long, tl_some, tl_none, true_and, and_true, Nat.zero_le, Nat.reduceAdd, Nat.reduceMul, Nat.reduceLeDiff, Nat.reduceLT, Nat.reduceEqDiff, Nat.reducePow, Int32.reduceAdd, Int32.reduceMul, Int32.reduceSub, Int32.reduceLT, Int32.reduceLE, Int32.reduceToNatClampNeg, litE, ixU, not_false_eq_true, not_true_eq_false, ↓reduceIte, eq_self, true_or, or_true, false_and, and_false, or_false, false_or, i10, i01, in10, i1n, xbT, xbF, r_lt]
        exact wr_tr W W2
      · simp only [eq_false zz, ↓reduceIte, xs_168_134, xs_168_135, rf_some, xc_int, xc_ref, xc_ret, xc_long, xw_nil, xw_int, xw_ref, xw_long, tl_some, tl_none, true_and, and_true, Nat.zero_le, Nat.reduceAdd, Nat.reduceMul, Nat.reduceLeDiff, Nat.reduceLT, Nat.reduceEqDiff, Nat.reducePow, Int32.reduceAdd, Int32.reduceMul, Int32.reduceSub, Int32.reduceLT, Int32.reduceLE, Int32.reduceToNatClampNeg, litE, ixU, not_false_eq_true, not_true_eq_false, ↓reduceIte, eq_self, true_or, or_true, false_and, and_false, or_false, false_or, i10, i01, in10, i1n, xbT, xbF, r_lt]
        have lq : ∀ t m h2 l10 l11, m + t = 64 → wr vS h h2 → MI (bX (nx2 g) k m (bB (nx2 g) 64 s0 k)) h2 → xe_P (d + 5) 168 137 [.ref 48, .int x, .int y, .int z, .int (nI a), .int (nI b), .int (nI k), .int (nI (bS (bB (nx2 g) 64 s0 k) k)), .int (nI (bS (bB (nx2 g) 64 s0 k) k / 4096)), .int (nI m), l10, l11] [] h2 (fun r h' => r = some (.int (wyA (nx2 g) 64 s0 G z)) ∧ wr vS h h') := by
          intro t
          induction t with
          | zero =>
            intro m h2 l10 l11 hm W2 J2
            have hm : m = 64 := by omega
            have e3 : ((64 : Int32) ≤ nI 64) = True := eq_true (by decide)
            have fin := ih (k + 1) h2 (.int (nI (bS (bB (nx2 g) 64 s0 k) k))) (.int (nI (bS (bB (nx2 g) 64 s0 k) k / 4096))) (.int (nI m)) l10 l11 (by omega) W2 (by rw [bB, if_pos hkc]; rw [hm] at J2; exact J2) (fun i hi => by
              by_cases q : i = k
              · rw [q, eZ]; exact zz
              · exact hno i (by omega))
            rw [hm] at fin ⊢
            simp only [xs_168_137, xs_168_139, xs_168_141, xs_168_266, xs_168_269, e3, nI_1, rf_some, xc_int, xc_ref, xc_ret, xc_long, xw_nil, xw_int, xw_ref, xw_long, tl_some, tl_none, true_and, and_true, Nat.zero_le, Nat.reduceAdd, Nat.reduceMul, Nat.reduceLeDiff, Nat.reduceLT, Nat.reduceEqDiff, Nat.reducePow, Int32.reduceAdd, Int32.reduceMul, Int32.reduceSub, Int32.reduceLT, Int32.reduceLE, Int32.reduceToNatClampNeg, litE, ixU, not_false_eq_true, not_true_eq_false, ↓reduceIte, eq_self, true_or, or_true, false_and, and_false, or_false, false_or, i10, i01, in10, i1n, xbT, xbF, r_lt]
            exact fin
          | succ t iht =>
            intro m h2 l10 l11 hm W2 J2
            have H2 := wr_sh W2 H
            have m2 : mp h2 0 g := mp_c hg hp (fun j _ _ => W2.2 49 j (by unfold vS; omega))
            have e3 : ((64 : Int32) ≤ nI m) = False := eq_false (by rw [show (64 : Int32) = nI 64 from rfl, nI_leI (by omega) (by omega)]; omega)
            obtain ⟨b1, b2, b3, b4⟩ := bX_all (M := 64) (by omega) h0 hn hkc m (by omega)
            obtain ⟨c1, -⟩ := bX_all (M := 64) (by omega) h0 hn hkc (m + 1) (by omega)
            rw [xs_168_137]
            simp only [xs_168_139, xs_168_141, e3, rf_some, xc_int, xc_ref, xc_ret, xc_long, xw_nil, xw_int, xw_ref, xw_long, tl_some, tl_none, true_and, and_true, Nat.zero_le, Nat.reduceAdd, Nat.reduceMul, Nat.reduceLeDiff, Nat.reduceLT, Nat.reduceEqDiff, Nat.reducePow, Int32.reduceAdd, Int32.reduceMul, Int32.reduceSub, Int32.reduceLT, Int32.reduceLE, Int32.reduceToNatClampNeg, litE, ixU, not_false_eq_true, not_true_eq_false, ↓reduceIte, eq_self, true_or, or_true, false_and, and_false, or_false, false_or, i10, i01, in10, i1n, xbT, xbF, r_lt]
            refine md_tryTwo hg (show m < 64 by omega) hX b3 b1 b2 (fun s es => ?_) H2 m2 J2 (fun h3 l10' l11' W3 J3 => ?_)
            · rw [bX, es] at c1
              exact c1
            · have fin := iht (m + 1) h3 (.int l10') (.int l11') (by omega) (wr_tr W2 W3) (by rw [bX]; exact J3)
              simp only [xs_168_260, xs_168_263, nI_1, rf_some, xc_int, xc_ref, xc_ret, xc_long, xw_nil, xw_int, xw_ref, xw_long, tl_some, tl_none, true_and, and_true, Nat.zero_le, Nat.reduceAdd, Nat.reduceMul, Nat.reduceLeDiff, Nat.reduceLT, Nat.reduceEqDiff, Nat.reducePow, Int32.reduceAdd, Int32.reduceMul, Int32.reduceSub, Int32.reduceLT, Int32.reduceLE, Int32.reduceToNatClampNeg, litE, ixU, not_false_eq_true, not_true_eq_false, ↓reduceIte, eq_self, true_or, or_true, false_and, and_false, or_false, false_or, i10, i01, in10, i1n, xbT, xbF, r_lt]
              exact fin
        have l0 := lq 64 0 h1 l10 l11 (by omega) W J
        rw [show nI 0 = (0 : Int32) from rfl] at l0
        exact l0
  simp only [xs_168_45, xs_168_46, xs_168_49, xs_168_50, xs_168_53, xs_168_54, xs_168_55, xs_168_57, xs_168_60, xs_168_61, xs_168_62, xs_168_64, xs_168_67, xs_168_68, xs_168_69, xs_168_70, xs_168_73, xs_168_74, H, HW, sT_48, sT_49, sN_49, sA_49, sT_50, sN_50, sA_50, sT_51, sN_51, sA_51, sT_52, sN_52, sA_52, sT_53, sN_53, sA_53, sT_54, sN_54, sA_54, sT_55, sN_55, sA_55, sT_56, sN_56, sA_56, sT_57, sN_57, sA_57, sT_58, sN_58, sA_58, sT_59, sN_59, sA_59, sT_60, sN_60, sA_60, sT_61, sN_61, sA_61, sT_62, sN_62, sA_62, sT_63, sN_63, sA_63, sT_64, sN_64, sA_64, sT_65, sN_65, sA_65, sT_66, sN_66, sA_66, sT_67, sN_67, sA_67, sT_68, sN_68, sB_68, sT_69, sN_69, sA_69, sT_70, sN_70, sA_70, sT_71, sN_71, sA_71, sR_48_0, sR_48_2, sR_48_9, sR_48_10, sR_48_11, sR_48_20, sR_48_21, sR_48_22, sR_48_23, sR_48_24, sR_48_26, sR_48_27, sR_48_28, sR_48_29, sR_48_30, sR_48_31, sR_48_33, sR_48_34, sR_48_35, sR_48_36, sR_48_37, sR_48_38, sR_48_39, md_now H hp, md_placeW H hp ha (show a < 3 by omega), md_placeW H hp hb (show b < 3 by omega), md_codeNow H gr3, ei, rf_some, xc_int, xc_ref, xc_ret, xc_long, xw_nil, xw_int, xw_ref, xw_long, tl_some, tl_none, true_and, and_true, Nat.zero_le, Nat.reduceAdd, Nat.reduceMul, Nat.reduceLeDiff, Nat.reduceLT, Nat.reduceEqDiff, Nat.reducePow, Int32.reduceAdd, Int32.reduceMul, Int32.reduceSub, Int32.reduceLT, Int32.reduceLE, Int32.reduceToNatClampNeg, litE, ixU, not_false_eq_true, not_true_eq_false, ↓reduceIte, eq_self, true_or, or_true, false_and, and_false, or_false, false_or, i10, i01, in10, i1n, xbT, xbF, r_lt]
  refine xe_C_mono (md_begins (d := d + 4) (show s0 < 102400 by omega) (HW _)) ?_
  rintro r h1 ⟨rfl, W, J⟩
  have l0 := lp (bend (nx2 g) 64 s0) 0 h1 l7 l8 l9 l10 l11 (by omega) (wr_tr (wr_sub (mW_wr h _) (fun a j q => Or.inl q)) W) J (fun i hi => absurd hi (by omega))
  rw [show nI 0 = (0 : Int32) from rfl] at l0
  simp only [xs_168_77, xs_168_78, rf_some, xc_int, xc_ref, xc_ret, xc_long, xw_nil, xw_int, xw_ref, xw_long, tl_some, tl_none, true_and, and_true, Nat.zero_le, Nat.reduceAdd, Nat.reduceMul, Nat.reduceLeDiff, Nat.reduceLT, Nat.reduceEqDiff, Nat.reducePow, Int32.reduceAdd, Int32.reduceMul, Int32.reduceSub, Int32.reduceLT, Int32.reduceLE, Int32.reduceToNatClampNeg, litE, ixU, not_false_eq_true, not_true_eq_false, ↓reduceIte, eq_self, true_or, or_true, false_and, and_false, or_false, false_or, i10, i01, in10, i1n, xbT, xbF, r_lt]
  exact l0
theorem md_both {x y : Nat} {z : Int32} (hg : pg_ok g) (ha : x < g 31) (hb : y < g 31) (hxy : ¬ x = y) (hx : rowQ z) (H : sh h) (hp : mp h 0 g) : xe_C (d + 6) 168 [.ref 48, .int (nI x), .int (nI y), .int z] h (fun r h' => r = some (.int (wyA (nx2 g) 64 (4096 * (5 * g (25 + 2 * min x y) + g (25 + 2 * max x y)) + rc (gr g)) (5 * g (26 + 2 * min x y) + g (26 + 2 * max x y)) z)) ∧ wr vS h h') := by
  have h31 : g 31 ≤ 3 := hg.2.1
  have q : (0 ≤ nI x ∧ nI x < nI (g 31)) ∧ (0 ≤ nI y ∧ nI y < nI (g 31)) ∧ ¬ nI x = nI y := ⟨⟨nI_pos' (by omega), in_lt (by omega) ha⟩, ⟨nI_pos' (by omega), in_lt (by omega) hb⟩, fun e => hxy ((nI_eq (by omega) (by omega)).mp e)⟩
  have beg : ∀ Q, xe_C (d + 6) 168 [.ref 48, .int (nI x), .int (nI y), .int z] h Q = xe_P (d + 5) 168 21 [.ref 48, .int (nI x), .int (nI y), .int z, .retAddr 0, .retAddr 0, .retAddr 0, .retAddr 0, .retAddr 0, .retAddr 0, .retAddr 0, .retAddr 0] [] h Q := by
    intro Q
    by_cases x0 : z = 0
    · simp only [xs_168, xs_168_0, xs_168_1, xs_168_2, xs_168_3, xs_168_6, xs_168_9, xs_168_10, xs_168_13, xs_168_14, xs_168_16, md_areTwo H hp hg, xb_t q, eq_true x0, H, sT_48, sT_49, sN_49, sA_49, sT_50, sN_50, sA_50, sT_51, sN_51, sA_51, sT_52, sN_52, sA_52, sT_53, sN_53, sA_53, sT_54, sN_54, sA_54, sT_55, sN_55, sA_55, sT_56, sN_56, sA_56, sT_57, sN_57, sA_57, sT_58, sN_58, sA_58, sT_59, sN_59, sA_59, sT_60, sN_60, sA_60, sT_61, sN_61, sA_61, sT_62, sN_62, sA_62, sT_63, sN_63, sA_63, sT_64, sN_64, sA_64, sT_65, sN_65, sA_65, sT_66, sN_66, sA_66, sT_67, sN_67, sA_67, sT_68, sN_68, sB_68, sT_69, sN_69, sA_69, sT_70, sN_70, sA_70, sT_71, sN_71, sA_71, sR_48_0, sR_48_2, sR_48_9, sR_48_10, sR_48_11, sR_48_20, sR_48_21, sR_48_22, sR_48_23, sR_48_24, sR_48_26, sR_48_27, sR_48_28, sR_48_29, sR_48_30, sR_48_31, sR_48_33, sR_48_34, sR_48_35, sR_48_36, sR_48_37, sR_48_38, sR_48_39, rf_some, xc_int, xc_ref, xc_ret, xc_long, xw_nil, xw_int, xw_ref, xw_long, tl_some, tl_none, true_and, and_true, Nat.zero_le, Nat.reduceAdd, Nat.reduceMul, Nat.reduceLeDiff, Nat.reduceLT, Nat.reduceEqDiff, Nat.reducePow, Int32.reduceAdd, Int32.reduceMul, Int32.reduceSub, Int32.reduceLT, Int32.reduceLE, Int32.reduceToNatClampNeg, litE, ixU, not_false_eq_true, not_true_eq_false, ↓reduceIte, eq_self, true_or, or_true, false_and, and_false, or_false, false_or, i10, i01, in10, i1n, xbT, xbF, r_lt]
    · have ex : (10 ≤ z) = True := eq_true (hx.resolve_left x0)
      simp only [xs_168, xs_168_0, xs_168_1, xs_168_2, xs_168_3, xs_168_6, xs_168_9, xs_168_10, xs_168_13, xs_168_14, xs_168_16, md_areTwo H hp hg, xb_t q, eq_false x0, ex, H, sT_48, sT_49, sN_49, sA_49, sT_50, sN_50, sA_50, sT_51, sN_51, sA_51, sT_52, sN_52, sA_52, sT_53, sN_53, sA_53, sT_54, sN_54, sA_54, sT_55, sN_55, sA_55, sT_56, sN_56, sA_56, sT_57, sN_57, sA_57, sT_58, sN_58, sA_58, sT_59, sN_59, sA_59, sT_60, sN_60, sA_60, sT_61, sN_61, sA_61, sT_62, sN_62, sA_62, sT_63, sN_63, sA_63, sT_64, sN_64, sA_64, sT_65, sN_65, sA_65, sT_66, sN_66, sA_66, sT_67, sN_67, sA_67, sT_68, sN_68, sB_68, sT_69, sN_69, sA_69, sT_70, sN_70, sA_70, sT_71, sN_71, sA_71, sR_48_0, sR_48_2, sR_48_9, sR_48_10, sR_48_11, sR_48_20, sR_48_21, sR_48_22, sR_48_23, sR_48_24, sR_48_26, sR_48_27, sR_48_28, sR_48_29, sR_48_30, sR_48_31, sR_48_33, sR_48_34, sR_48_35, sR_48_36, sR_48_37, sR_48_38, sR_48_39, rf_some, xc_int, xc_ref, xc_ret, xc_long, xw_nil, xw_int, xw_ref, xw_long, tl_some, tl_none, true_and, and_true, Nat.zero_le, Nat.reduceAdd, Nat.reduceMul, Nat.reduceLeDiff, Nat.reduceLT, Nat.reduceEqDiff, Nat.reducePow, Int32.reduceAdd, Int32.reduceMul, Int32.reduceSub, Int32.reduceLT, Int32.reduceLE, Int32.reduceToNatClampNeg, litE, ixU, not_false_eq_true, not_true_eq_false, ↓reduceIte, eq_self, true_or, or_true, false_and, and_false, or_false, false_or, i10, i01, in10, i1n, xbT, xbF, r_lt]
  rw [beg]
  by_cases lt : x < y
  · have e1 : (nI y ≤ nI x) = False := lt_f lt (by omega)
    rw [show min x y = x by omega, show max x y = y by omega]
    simp only [xs_168_21, xs_168_22, xs_168_23, xs_168_26, xs_168_27, xs_168_30, xs_168_31, xs_168_33, xs_168_34, xs_168_35, xs_168_38, xs_168_39, xs_168_42, xs_168_43, e1, rf_some, xc_int, xc_ref, xc_ret, xc_long, xw_nil, xw_int, xw_ref, xw_long, tl_some, tl_none, true_and, and_true, Nat.zero_le, Nat.reduceAdd, Nat.reduceMul, Nat.reduceLeDiff, Nat.reduceLT, Nat.reduceEqDiff, Nat.reducePow, Int32.reduceAdd, Int32.reduceMul, Int32.reduceSub, Int32.reduceLT, Int32.reduceLE, Int32.reduceToNatClampNeg, litE, ixU, not_false_eq_true, not_true_eq_false, ↓reduceIte, eq_self, true_or, or_true, false_and, and_false, or_false, false_or, i10, i01, in10, i1n, xbT, xbF, r_lt]
    exact md_both45 hg ha hb hx H hp
  · have e1 : (nI y ≤ nI x) = True := eq_true (by rw [nI_leI (by omega) (by omega)]; omega)
    rw [show min x y = y by omega, show max x y = x by omega]
    simp only [xs_168_21, xs_168_22, xs_168_23, xs_168_26, xs_168_27, xs_168_30, xs_168_31, xs_168_33, xs_168_34, xs_168_35, xs_168_38, xs_168_39, xs_168_42, xs_168_43, e1, rf_some, xc_int, xc_ref, xc_ret, xc_long, xw_nil, xw_int, xw_ref, xw_long, tl_some, tl_none, true_and, and_true, Nat.zero_le, Nat.reduceAdd, Nat.reduceMul, Nat.reduceLeDiff, Nat.reduceLT, Nat.reduceEqDiff, Nat.reducePow, Int32.reduceAdd, Int32.reduceMul, Int32.reduceSub, Int32.reduceLT, Int32.reduceLE, Int32.reduceToNatClampNeg, litE, ixU, not_false_eq_true, not_true_eq_false, ↓reduceIte, eq_self, true_or, or_true, false_and, and_false, or_false, false_or, i10, i01, in10, i1n, xbT, xbF, r_lt]
    exact md_both45 hg hb ha hx H hp
end WP
