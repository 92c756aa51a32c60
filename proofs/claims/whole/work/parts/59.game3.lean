/-! the game, the reference's nodes -/
def ndH (g : Nat → Nat) (G fi last d l : Nat) : Prop := ∀ (k w o : Nat) (f : Nat → Nat) (t : Nat) (h : xe_H) (won back : Int32) (l7 : Value) (Q : Option Value → xe_H → Prop), k + 2 * l = last → k % 2 = 0 → fi ≤ k → ro g f → w < g 35 → o < g 35 → sh h → mp h 0 g → pos k w o f h → xe_I h 63 k = nI t - 1 → t ≤ g 24 + 1 → (∀ j, j < t → 1 ≤ l → gwp (gw g G (l - 1)) g G w o f j = false) → (back = 0 ∨ (back = 1 ∧ won = 0)) →
  (∀ h' l7', wr (wS k) h h' → xe_P (d + 6) 175 9 [.ref 48, .int (nI fi), .int (nI last), .int (nI G), .int (nI k - 1), .int (xb (gw g G l w o f ≤ g 24)), .int 1, l7'] [] h' Q) → xe_P (d + 6) 175 9 [.ref 48, .int (nI fi), .int (nI last), .int (nI G), .int (nI k), .int won, .int back, l7] [] h Q
def ndO (g : Nat → Nat) (G fi last d l : Nat) : Prop := ∀ (k w o : Nat) (f : Nat → Nat) (t : Nat) (h : xe_H) (won back : Int32) (l7 : Value) (Q : Option Value → xe_H → Prop), k + 2 * l + 1 = last → k % 2 = 1 → fi ≤ k → ro g f → w < g 35 → o < g 35 → sh h → mp h 0 g → pos k w o f h → xe_I h 63 k = nI t - 1 → t ≤ g 24 + 1 → (∀ j, j < t → ghp (gw g G l) g w o f j = false) → (back = 0 ∨ (back = 1 ∧ won = 1)) →
  (∀ h' l7', wr (wS k) h h' → xe_P (d + 6) 175 9 [.ref 48, .int (nI fi), .int (nI last), .int (nI G), .int (nI k - 1), .int (xb (ghF (gw g G l) g w o f = false)), .int 1, l7'] [] h' Q) → xe_P (d + 6) 175 9 [.ref 48, .int (nI fi), .int (nI last), .int (nI G), .int (nI k), .int won, .int back, l7] [] h Q
theorem wS_up {k : Nat} {h h' : xe_H} (W : wr (wS (k + 1)) h h') : wr (wS k) h h' := wr_sub W (fun a j q => by unfold wS at q ⊢; omega)
theorem i63_up {k : Nat} {x : Int32} {h h' : xe_H} (W : wr (wS (k + 1)) h h') (e : xe_I h 63 k = x) : xe_I h' 63 k = x := by
  rw [W.2 63 k (by unfold wS; omega)]; exact e
theorem i01z : ((1 : Int32) = 0) = False := i10
section GT
variable {g : Nat → Nat} {G fi last d : Nat}
theorem par2 {k r : Nat} (hk : k < 100) (h : k % 2 = r) : nI k - nI k / 2 * 2 = nI r := by
  have := pk_rem (a := k) (d := 2) (by omega) (by omega) (by omega)
  rw [h] at this
  exact this
theorem nd_H0 (hl : last ≤ 6) : ndH g G fi last d 0 := by
  intro k w o f t h won back l7 Q hk hk2 hfi hf hw ho H hm hpos hmv ht hn hb cont
  have e1 : (nI k < nI fi) = False := eq_false (by rw [nI_ltI (by omega) (by omega)]; omega)
  have e2 : nI k = nI last := by congr 1
  have par := par2 (show k < 100 by omega) hk2
  rw [show nI 0 = (0 : Int32) from rfl] at par
  have c0 := cont h (.int 1) (wr_rf _ h)
  rw [xb_f (show ¬ gw g G 0 w o f ≤ g 24 by rw [gw]; omega)] at c0
  rcases hb with rfl | ⟨rfl, rfl⟩
  · rw [xs_175_9]
    simp only [xs_175_11, xs_175_12, xs_175_15, xs_175_17, xs_175_18, xs_175_19, xs_175_22, xs_175_23, xs_175_26, xs_175_27, xs_175_29, xs_175_31, xs_175_34, xs_175_36, xs_175_38, xs_175_41, xs_175_44, xs_175_47, xs_175_49, xs_175_50, xs_175_53, xs_175_54, xs_175_56, xs_175_57, xs_175_59, xs_175_62, xs_175_139, e1, par, i20, eq_true e2, ng1, rf_some, xc_int, xc_ref, xc_ret, xc_long, xw_nil, xw_int, xw_ref, xw_long, tl_some, tl_none, true_and, and_true, Nat.zero_le, Nat.reduceAdd, Nat.reduceMul, Nat.reduceLeDiff, Nat.reduceLT, Nat.reduceEqDiff, Nat.reducePow, Int32.reduceAdd, Int32.reduceMul, Int32.reduceSub, Int32.reduceLT, Int32.reduceLE, Int32.reduceToNatClampNeg, litE, ixU, not_false_eq_true, not_true_eq_false, ↓reduceIte, eq_self, true_or, or_true, false_and, and_false, or_false, false_or, i10, i01, in10, i1n, xbT, xbF, r_lt]
    exact c0
  · rw [xs_175_9]
    simp only [xs_175_11, xs_175_12, xs_175_15, xs_175_17, xs_175_18, xs_175_19, xs_175_22, xs_175_23, xs_175_26, xs_175_27, xs_175_29, xs_175_31, xs_175_34, xs_175_36, xs_175_38, xs_175_41, xs_175_44, xs_175_47, xs_175_49, xs_175_50, xs_175_53, xs_175_54, xs_175_56, xs_175_57, xs_175_59, xs_175_62, xs_175_139, e1, par, i20, eq_true e2, ng1, rf_some, xc_int, xc_ref, xc_ret, xc_long, xw_nil, xw_int, xw_ref, xw_long, tl_some, tl_none, true_and, and_true, Nat.zero_le, Nat.reduceAdd, Nat.reduceMul, Nat.reduceLeDiff, Nat.reduceLT, Nat.reduceEqDiff, Nat.reducePow, Int32.reduceAdd, Int32.reduceMul, Int32.reduceSub, Int32.reduceLT, Int32.reduceLE, Int32.reduceToNatClampNeg, litE, ixU, not_false_eq_true, not_true_eq_false, ↓reduceIte, eq_self, true_or, or_true, false_and, and_false, or_false, false_or, i10, i01, in10, i1n, xbT, xbF, r_lt]
    exact c0
theorem nd_O (hg : pg_ok g) (hG : G < g 35) (hl : last ≤ 6) {l : Nat} (HH : ndH g G fi last d l) : ndO g G fi last d l := by
  have h24 : g 24 ≤ 6 := hg.1
  have h35 : g 35 ≤ 5 := hg.2.2.2.2.2.2.2.1
  intro k w o f t h won back l7 Q hk hk2 hfi hf hw ho H hm hpos hmv ht hn hb cont
  obtain ⟨n, hn1⟩ : ∃ n, t + n = g 24 + 1 := ⟨g 24 + 1 - t, by omega⟩
  induction n using Nat.strongRecOn generalizing t h won back l7 with
  | _ n ih =>
    have e1 : (nI k < nI fi) = False := eq_false (by rw [nI_ltI (by omega) (by omega)]; omega)
    have e2 : (nI k = nI last) = False := eq_false (by rw [nI_eq (by omega) (by omega)]; omega)
    have par := par2 (show k < 100 by omega) hk2
    rw [show nI 1 = (1 : Int32) from rfl] at par
    have no : ∀ j, ¬ cm g f o j → ghp (gw g G l) g w o f j = false := fun j z => by unfold ghp; rw [cb_f z, Bool.false_and]
    have mid : xe_P (d + 6) 175 9 [.ref 48, .int (nI fi), .int (nI last), .int (nI G), .int (nI k), .int won, .int back, l7] [] h Q = xe_C (d + 6) 176 [.ref 48, .int (nI k), .int (nI G)] h (fun r h' => xe_P (d + 6) 175 72 [.ref 48, .int (nI fi), .int (nI last), .int (nI G), .int (nI k), .int won, .int back, .int 0] (r.toList ++ []) h' Q) := by
      rcases hb with rfl | ⟨rfl, rfl⟩
      · rw [xs_175_9]
        simp only [xs_175_11, xs_175_12, xs_175_15, xs_175_17, xs_175_18, xs_175_19, xs_175_22, xs_175_23, xs_175_26, xs_175_27, xs_175_29, xs_175_31, xs_175_34, xs_175_36, xs_175_38, xs_175_41, xs_175_44, xs_175_47, xs_175_49, xs_175_50, xs_175_53, xs_175_54, xs_175_56, xs_175_57, xs_175_59, xs_175_62, xs_175_65, xs_175_66, xs_175_68, xs_175_69, e1, par, i20, e2, H, sT_48, sT_49, sN_49, sA_49, sT_50, sN_50, sA_50, sT_51, sN_51, sA_51, sT_52, sN_52, sA_52, sT_53, sN_53, sA_53, sT_54, sN_54, sA_54, sT_55, sN_55, sA_55, sT_56, sN_56, sA_56, sT_57, sN_57, sA_57, sT_58, sN_58, sA_58, sT_59, sN_59, sA_59, sT_60, sN_60, sA_60, sT_61, sN_61, sA_61, sT_62, sN_62, sA_62, sT_63, sN_63, sA_63, sT_64, sN_64, sA_64, sT_65, sN_65, sA_65, sT_66, sN_66, sA_66, sT_67, sN_67, sA_67, sT_68, sN_68, sB_68, sT_69, sN_69, sA_69, sT_70, sN_70, sA_70, sT_71, sN_71, sA_71, sR_48_0, sR_48_2, sR_48_9, sR_48_10, sR_48_11, sR_48_20, sR_48_21, sR_48_22, sR_48_23, sR_48_24, sR_48_26, sR_48_27, sR_48_28, sR_48_29, sR_48_30, sR_48_31, sR_48_33, sR_48_34, sR_48_35, sR_48_36, sR_48_37, sR_48_38, sR_48_39, rf_some, xc_int, xc_ref, xc_ret, xc_long, xw_nil, xw_int, xw_ref, xw_long, tl_some, tl_none, true_and, and_true, Nat.zero_le, Nat.reduceAdd, Nat.reduceMul, Nat.reduceLeDiff, Nat.reduceLT, Nat.reduceEqDiff, Nat.reducePow, Int32.reduceAdd, Int32.reduceMul, Int32.reduceSub, Int32.reduceLT, Int32.reduceLE, Int32.reduceToNatClampNeg, litE, ixU, not_false_eq_true, not_true_eq_false, ↓reduceIte, eq_self, true_or, or_true, false_and, and_false, or_false, false_or, i10, i01, in10, i1n, xbT, xbF, r_lt]
      · rw [xs_175_9]
        simp only [xs_175_11, xs_175_12, xs_175_15, xs_175_17, xs_175_18, xs_175_19, xs_175_22, xs_175_23, xs_175_26, xs_175_27, xs_175_29, xs_175_31, xs_175_34, xs_175_36, xs_175_38, xs_175_41, xs_175_44, xs_175_47, xs_175_49, xs_175_50, xs_175_53, xs_175_54, xs_175_56, xs_175_57, xs_175_59, xs_175_62, xs_175_65, xs_175_66, xs_175_68, xs_175_69, e1, par, i20, e2, H, sT_48, sT_49, sN_49, sA_49, sT_50, sN_50, sA_50, sT_51, sN_51, sA_51, sT_52, sN_52, sA_52, sT_53, sN_53, sA_53, sT_54, sN_54, sA_54, sT_55, sN_55, sA_55, sT_56, sN_56, sA_56, sT_57, sN_57, sA_57, sT_58, sN_58, sA_58, sT_59, sN_59, sA_59, sT_60, sN_60, sA_60, sT_61, sN_61, sA_61, sT_62, sN_62, sA_62, sT_63, sN_63, sA_63, sT_64, sN_64, sA_64, sT_65, sN_65, sA_65, sT_66, sN_66, sA_66, sT_67, sN_67, sA_67, sT_68, sN_68, sB_68, sT_69, sN_69, sA_69, sT_70, sN_70, sA_70, sT_71, sN_71, sA_71, sR_48_0, sR_48_2, sR_48_9, sR_48_10, sR_48_11, sR_48_20, sR_48_21, sR_48_22, sR_48_23, sR_48_24, sR_48_26, sR_48_27, sR_48_28, sR_48_29, sR_48_30, sR_48_31, sR_48_33, sR_48_34, sR_48_35, sR_48_36, sR_48_37, sR_48_38, sR_48_39, rf_some, xc_int, xc_ref, xc_ret, xc_long, xw_nil, xw_int, xw_ref, xw_long, tl_some, tl_none, true_and, and_true, Nat.zero_le, Nat.reduceAdd, Nat.reduceMul, Nat.reduceLeDiff, Nat.reduceLT, Nat.reduceEqDiff, Nat.reducePow, Int32.reduceAdd, Int32.reduceMul, Int32.reduceSub, Int32.reduceLT, Int32.reduceLE, Int32.reduceToNatClampNeg, litE, ixU, not_false_eq_true, not_true_eq_false, ↓reduceIte, eq_self, true_or, or_true, false_and, and_false, or_false, false_or, i10, i01, in10, i1n, xbT, xbF, r_lt]
    rw [mid]
    have out : ∀ h' w' l7, w' = (0 : Int32) → wr (wS k) h h' → (∀ h' l7', wr (wS k) h h' → xe_P (d + 6) 175 9 [.ref 48, .int (nI fi), .int (nI last), .int (nI G), .int (nI k - 1), .int w', .int 1, l7'] [] h' Q) → xe_P (d + 6) 175 9 [.ref 48, .int (nI fi), .int (nI last), .int (nI G), .int (nI k), .int w', .int 1, l7] [] h' Q := by
      rintro h' w' l7 rfl W c
      rw [xs_175_9]
      simp only [xs_175_11, xs_175_12, xs_175_15, xs_175_17, xs_175_18, xs_175_19, xs_175_22, xs_175_23, xs_175_26, xs_175_27, xs_175_29, xs_175_31, xs_175_34, xs_175_36, xs_175_38, xs_175_41, xs_175_44, xs_175_139, e1, par, i20, ng1, rf_some, xc_int, xc_ref, xc_ret, xc_long, xw_nil, xw_int, xw_ref, xw_long, tl_some, tl_none, true_and, and_true, Nat.zero_le, Nat.reduceAdd, Nat.reduceMul, Nat.reduceLeDiff, Nat.reduceLT, Nat.reduceEqDiff, Nat.reducePow, Int32.reduceAdd, Int32.reduceMul, Int32.reduceSub, Int32.reduceLT, Int32.reduceLE, Int32.reduceToNatClampNeg, litE, ixU, not_false_eq_true, not_true_eq_false, ↓reduceIte, eq_self, true_or, or_true, false_and, and_false, or_false, false_or, i10, i01, in10, i1n, xbT, xbF, r_lt]
      exact c h' _ W
    have e3 : (nI (g 24) < nI (g 24 + 1)) = True := eq_true (nI_lt (by omega) (by omega))
    refine md_triesO (d := d) hg hf hw ho hG (show k < 9 by omega) hk2 n t h hn1 H hm hpos hmv ?_ ?_
    · intro h' W P1 E hno
      have H1 := wr_sh W H
      have m1 := mpw hg hm W
      have c0 := cont h' (.int 0) W
      have gn : ghF (gw g G l) g w o f = false := by
        unfold ghF
        rw [ff_no (fun j hj => ?_)]
        · exact decide_eq_false (by omega)
        · by_cases z : j < t
          · exact hn j z
          · exact no j (hno j (by omega) (by omega))
      rw [xb_t gn] at c0
      simp only [xs_175_72, xs_175_74, xs_175_76, xs_175_79, xs_175_80, xs_175_83, xs_175_85, xs_175_86, xs_175_87, xs_175_90, xs_175_93, xs_175_94, xs_175_97, xs_175_99, xs_175_102, xs_175_103, xs_175_106, xs_175_107, xs_175_109, xs_175_111, xs_175_112, xs_175_115, xs_175_117, xs_175_118, xs_175_119, xs_175_122, xs_175_125, xs_175_126, xs_175_129, xs_175_130, xs_175_131, xs_175_133, xs_175_136, xs_175_139, H1, sT_48, sT_49, sN_49, sA_49, sT_50, sN_50, sA_50, sT_51, sN_51, sA_51, sT_52, sN_52, sA_52, sT_53, sN_53, sA_53, sT_54, sN_54, sA_54, sT_55, sN_55, sA_55, sT_56, sN_56, sA_56, sT_57, sN_57, sA_57, sT_58, sN_58, sA_58, sT_59, sN_59, sA_59, sT_60, sN_60, sA_60, sT_61, sN_61, sA_61, sT_62, sN_62, sA_62, sT_63, sN_63, sA_63, sT_64, sN_64, sA_64, sT_65, sN_65, sA_65, sT_66, sN_66, sA_66, sT_67, sN_67, sA_67, sT_68, sN_68, sB_68, sT_69, sN_69, sA_69, sT_70, sN_70, sA_70, sT_71, sN_71, sA_71, sR_48_0, sR_48_2, sR_48_9, sR_48_10, sR_48_11, sR_48_20, sR_48_21, sR_48_22, sR_48_23, sR_48_24, sR_48_26, sR_48_27, sR_48_28, sR_48_29, sR_48_30, sR_48_31, sR_48_33, sR_48_34, sR_48_35, sR_48_36, sR_48_37, sR_48_38, sR_48_39, md_bridgesG H1 m1, nIlt0 (show k < 2 ^ 31 by omega), nI_clamp (show k < 2 ^ 31 by omega), show k < 10 by omega, E, e3, rf_some, xc_int, xc_ref, xc_ret, xc_long, xw_nil, xw_int, xw_ref, xw_long, tl_some, tl_none, true_and, and_true, Nat.zero_le, Nat.reduceAdd, Nat.reduceMul, Nat.reduceLeDiff, Nat.reduceLT, Nat.reduceEqDiff, Nat.reducePow, Int32.reduceAdd, Int32.reduceMul, Int32.reduceSub, Int32.reduceLT, Int32.reduceLE, Int32.reduceToNatClampNeg, litE, ixU, not_false_eq_true, not_true_eq_false, ↓reduceIte, eq_self, true_or, or_true, false_and, and_false, or_false, false_or, i10, i01, in10, i1n, xbT, xbF, r_lt]
      exact c0
    · intro m h' h1 h2 hno y W P1 E P2 E2
      have H1 := wr_sh W H
      have m1 := mpw hg hm W
      simp only [xs_175_72, xs_175_74, xs_175_76, xs_175_136, xs_175_139, nI_1, rf_some, xc_int, xc_ref, xc_ret, xc_long, xw_nil, xw_int, xw_ref, xw_long, tl_some, tl_none, true_and, and_true, Nat.zero_le, Nat.reduceAdd, Nat.reduceMul, Nat.reduceLeDiff, Nat.reduceLT, Nat.reduceEqDiff, Nat.reducePow, Int32.reduceAdd, Int32.reduceMul, Int32.reduceSub, Int32.reduceLT, Int32.reduceLE, Int32.reduceToNatClampNeg, litE, ixU, not_false_eq_true, not_true_eq_false, ↓reduceIte, eq_self, true_or, or_true, false_and, and_false, or_false, false_or, i10, i01, in10, i1n, xbT, xbF, r_lt]
      refine HH (k + 1) w (pa g o m) (gnf g f m) 0 h' _ 0 _ Q (by omega) (by omega) (by omega) (ro_gn hg hf (cm_le y)) hw (pa_lt hg ho y) H1 m1 P2 E2 (by omega) (fun j hj => absurd hj (by omega)) (Or.inl rfl) ?_
      intro h2' l7' W2
      rw [show nI (k + 1) - 1 = nI k from nI_pred k]
      have W3 := wr_tr W (wS_up W2)
      by_cases u : gw g G l w (pa g o m) (gnf g f m) ≤ g 24
      · rw [xb_t u]
        refine ih (n - (m + 1 - t)) (by omega) (m + 1) h2' 1 1 l7' (wr_sh W3 H) (mpw hg hm W3) (pos_w P1 W2 (by omega)) ?_ (by omega) (fun j hj => ?_) (Or.inr ⟨rfl, rfl⟩) (fun h'' l7'' W4 => cont h'' l7'' (wr_tr W3 W4)) (by omega)
        · rw [i63_up W2 E, nI_pred]
        · by_cases z : j < t
          · exact hn j z
          · by_cases z2 : j = m
            · subst z2
              unfold ghp
              rw [cb_t y, Bool.true_and]
              exact decide_eq_false (by omega)
            · exact no j (hno j (by omega) (by omega))
      · rw [xb_f u]
        have gn : ghF (gw g G l) g w o f = true := by
          unfold ghF
          rw [ff_at (m := m) (fun j hj => ?_) (by omega) (by
            unfold ghp
            rw [cb_t y, Bool.true_and]
            exact decide_eq_true (by omega))]
          · exact decide_eq_true (by omega)
          · by_cases z : j < t
            · exact hn j z
            · exact no j (hno j (by omega) (by omega))
        rw [xb_f (show ¬ ghF (gw g G l) g w o f = false by rw [gn]; decide)] at cont
        exact out h2' 0 _ rfl W3 cont
theorem nd_H (hg : pg_ok g) (hG : G < g 35) (hl : last ≤ 6) {l : Nat} (HO : ndO g G fi last d l) : ndH g G fi last d (l + 1) := by
  have h24 : g 24 ≤ 6 := hg.1
  have h35 : g 35 ≤ 5 := hg.2.2.2.2.2.2.2.1
  intro k w o f t h won back l7 Q hk hk2 hfi hf hw ho H hm hpos hmv ht hn hb cont
  obtain ⟨n, hn1⟩ : ∃ n, t + n = g 24 + 1 := ⟨g 24 + 1 - t, by omega⟩
  induction n using Nat.strongRecOn generalizing t h won back l7 with
  | _ n ih =>
    have e1 : (nI k < nI fi) = False := eq_false (by rw [nI_ltI (by omega) (by omega)]; omega)
    have e2 : (nI k = nI last) = False := eq_false (by rw [nI_eq (by omega) (by omega)]; omega)
    have par := par2 (show k < 100 by omega) hk2
    rw [show nI 0 = (0 : Int32) from rfl] at par
    have hn0 : ∀ j, j < t → gwp (gw g G l) g G w o f j = false := fun j hj => hn j hj (by omega)
    have no : ∀ j, ¬ cm g f w j → gwp (gw g G l) g G w o f j = false := fun j z => by unfold gwp; rw [cb_f z, Bool.false_and]
    have mid : xe_P (d + 6) 175 9 [.ref 48, .int (nI fi), .int (nI last), .int (nI G), .int (nI k), .int won, .int back, l7] [] h Q = xe_C (d + 6) 176 [.ref 48, .int (nI k), .int (nI G)] h (fun r h' => xe_P (d + 6) 175 72 [.ref 48, .int (nI fi), .int (nI last), .int (nI G), .int (nI k), .int won, .int back, .int 1] (r.toList ++ []) h' Q) := by
      rcases hb with rfl | ⟨rfl, rfl⟩
      · rw [xs_175_9]
        simp only [xs_175_11, xs_175_12, xs_175_15, xs_175_17, xs_175_18, xs_175_19, xs_175_22, xs_175_23, xs_175_26, xs_175_27, xs_175_29, xs_175_31, xs_175_34, xs_175_36, xs_175_38, xs_175_41, xs_175_44, xs_175_47, xs_175_49, xs_175_50, xs_175_53, xs_175_54, xs_175_56, xs_175_57, xs_175_59, xs_175_62, xs_175_65, xs_175_66, xs_175_68, xs_175_69, e1, par, i20, e2, H, sT_48, sT_49, sN_49, sA_49, sT_50, sN_50, sA_50, sT_51, sN_51, sA_51, sT_52, sN_52, sA_52, sT_53, sN_53, sA_53, sT_54, sN_54, sA_54, sT_55, sN_55, sA_55, sT_56, sN_56, sA_56, sT_57, sN_57, sA_57, sT_58, sN_58, sA_58, sT_59, sN_59, sA_59, sT_60, sN_60, sA_60, sT_61, sN_61, sA_61, sT_62, sN_62, sA_62, sT_63, sN_63, sA_63, sT_64, sN_64, sA_64, sT_65, sN_65, sA_65, sT_66, sN_66, sA_66, sT_67, sN_67, sA_67, sT_68, sN_68, sB_68, sT_69, sN_69, sA_69, sT_70, sN_70, sA_70, sT_71, sN_71, sA_71, sR_48_0, sR_48_2, sR_48_9, sR_48_10, sR_48_11, sR_48_20, sR_48_21, sR_48_22, sR_48_23, sR_48_24, sR_48_26, sR_48_27, sR_48_28, sR_48_29, sR_48_30, sR_48_31, sR_48_33, sR_48_34, sR_48_35, sR_48_36, sR_48_37, sR_48_38, sR_48_39, rf_some, xc_int, xc_ref, xc_ret, xc_long, xw_nil, xw_int, xw_ref, xw_long, tl_some, tl_none, true_and, and_true, Nat.zero_le, Nat.reduceAdd, Nat.reduceMul, Nat.reduceLeDiff, Nat.reduceLT, Nat.reduceEqDiff, Nat.reducePow, Int32.reduceAdd, Int32.reduceMul, Int32.reduceSub, Int32.reduceLT, Int32.reduceLE, Int32.reduceToNatClampNeg, litE, ixU, not_false_eq_true, not_true_eq_false, ↓reduceIte, eq_self, true_or, or_true, false_and, and_false, or_false, false_or, i10, i01, in10, i1n, xbT, xbF, r_lt]
      · rw [xs_175_9]
        simp only [xs_175_11, xs_175_12, xs_175_15, xs_175_17, xs_175_18, xs_175_19, xs_175_22, xs_175_23, xs_175_26, xs_175_27, xs_175_29, xs_175_31, xs_175_34, xs_175_36, xs_175_38, xs_175_41, xs_175_44, xs_175_47, xs_175_49, xs_175_50, xs_175_53, xs_175_54, xs_175_56, xs_175_57, xs_175_59, xs_175_62, xs_175_65, xs_175_66, xs_175_68, xs_175_69, e1, par, i20, e2, H, sT_48, sT_49, sN_49, sA_49, sT_50, sN_50, sA_50, sT_51, sN_51, sA_51, sT_52, sN_52, sA_52, sT_53, sN_53, sA_53, sT_54, sN_54, sA_54, sT_55, sN_55, sA_55, sT_56, sN_56, sA_56, sT_57, sN_57, sA_57, sT_58, sN_58, sA_58, sT_59, sN_59, sA_59, sT_60, sN_60, sA_60, sT_61, sN_61, sA_61, sT_62, sN_62, sA_62, sT_63, sN_63, sA_63, sT_64, sN_64, sA_64, sT_65, sN_65, sA_65, sT_66, sN_66, sA_66, sT_67, sN_67, sA_67, sT_68, sN_68, sB_68, sT_69, sN_69, sA_69, sT_70, sN_70, sA_70, sT_71, sN_71, sA_71, sR_48_0, sR_48_2, sR_48_9, sR_48_10, sR_48_11, sR_48_20, sR_48_21, sR_48_22, sR_48_23, sR_48_24, sR_48_26, sR_48_27, sR_48_28, sR_48_29, sR_48_30, sR_48_31, sR_48_33, sR_48_34, sR_48_35, sR_48_36, sR_48_37, sR_48_38, sR_48_39, rf_some, xc_int, xc_ref, xc_ret, xc_long, xw_nil, xw_int, xw_ref, xw_long, tl_some, tl_none, true_and, and_true, Nat.zero_le, Nat.reduceAdd, Nat.reduceMul, Nat.reduceLeDiff, Nat.reduceLT, Nat.reduceEqDiff, Nat.reducePow, Int32.reduceAdd, Int32.reduceMul, Int32.reduceSub, Int32.reduceLT, Int32.reduceLE, Int32.reduceToNatClampNeg, litE, ixU, not_false_eq_true, not_true_eq_false, ↓reduceIte, eq_self, true_or, or_true, false_and, and_false, or_false, false_or, i10, i01, in10, i1n, xbT, xbF, r_lt]
    rw [mid]
    have out : ∀ h' w' l7, w' = (1 : Int32) → wr (wS k) h h' → (∀ h' l7', wr (wS k) h h' → xe_P (d + 6) 175 9 [.ref 48, .int (nI fi), .int (nI last), .int (nI G), .int (nI k - 1), .int w', .int 1, l7'] [] h' Q) → xe_P (d + 6) 175 9 [.ref 48, .int (nI fi), .int (nI last), .int (nI G), .int (nI k), .int w', .int 1, l7] [] h' Q := by
      rintro h' w' l7 rfl W c
      rw [xs_175_9]
      simp only [xs_175_11, xs_175_12, xs_175_15, xs_175_17, xs_175_18, xs_175_19, xs_175_22, xs_175_23, xs_175_26, xs_175_27, xs_175_29, xs_175_31, xs_175_34, xs_175_36, xs_175_38, xs_175_41, xs_175_44, xs_175_139, e1, par, i20, ng1, rf_some, xc_int, xc_ref, xc_ret, xc_long, xw_nil, xw_int, xw_ref, xw_long, tl_some, tl_none, true_and, and_true, Nat.zero_le, Nat.reduceAdd, Nat.reduceMul, Nat.reduceLeDiff, Nat.reduceLT, Nat.reduceEqDiff, Nat.reducePow, Int32.reduceAdd, Int32.reduceMul, Int32.reduceSub, Int32.reduceLT, Int32.reduceLE, Int32.reduceToNatClampNeg, litE, ixU, not_false_eq_true, not_true_eq_false, ↓reduceIte, eq_self, true_or, or_true, false_and, and_false, or_false, false_or, i10, i01, in10, i1n, xbT, xbF, r_lt]
      exact c h' _ W
    have e3 : (nI (g 24) < nI (g 24 + 1)) = True := eq_true (nI_lt (by omega) (by omega))
    refine md_triesH (d := d) hg hf hw ho hG (show k < 9 by omega) hk2 n t h hn1 H hm hpos hmv ?_ ?_ ?_
    · intro h' W P1 E hno
      have H1 := wr_sh W H
      have m1 := mpw hg hm W
      have c0 := cont h' (.int 1) W
      have gn : gw g G (l + 1) w o f = g 24 + 1 := by
        rw [gw]
        refine ff_no (fun j hj => ?_)
        by_cases z : j < t
        · exact hn0 j z
        · exact no j (hno j (by omega) (by omega))
      rw [gn, xb_f (show ¬ g 24 + 1 ≤ g 24 by omega)] at c0
      simp only [xs_175_72, xs_175_74, xs_175_76, xs_175_79, xs_175_80, xs_175_83, xs_175_85, xs_175_86, xs_175_87, xs_175_90, xs_175_93, xs_175_94, xs_175_97, xs_175_99, xs_175_102, xs_175_103, xs_175_106, xs_175_107, xs_175_109, xs_175_111, xs_175_112, xs_175_115, xs_175_117, xs_175_118, xs_175_119, xs_175_122, xs_175_125, xs_175_126, xs_175_129, xs_175_130, xs_175_131, xs_175_133, xs_175_136, xs_175_139, H1, sT_48, sT_49, sN_49, sA_49, sT_50, sN_50, sA_50, sT_51, sN_51, sA_51, sT_52, sN_52, sA_52, sT_53, sN_53, sA_53, sT_54, sN_54, sA_54, sT_55, sN_55, sA_55, sT_56, sN_56, sA_56, sT_57, sN_57, sA_57, sT_58, sN_58, sA_58, sT_59, sN_59, sA_59, sT_60, sN_60, sA_60, sT_61, sN_61, sA_61, sT_62, sN_62, sA_62, sT_63, sN_63, sA_63, sT_64, sN_64, sA_64, sT_65, sN_65, sA_65, sT_66, sN_66, sA_66, sT_67, sN_67, sA_67, sT_68, sN_68, sB_68, sT_69, sN_69, sA_69, sT_70, sN_70, sA_70, sT_71, sN_71, sA_71, sR_48_0, sR_48_2, sR_48_9, sR_48_10, sR_48_11, sR_48_20, sR_48_21, sR_48_22, sR_48_23, sR_48_24, sR_48_26, sR_48_27, sR_48_28, sR_48_29, sR_48_30, sR_48_31, sR_48_33, sR_48_34, sR_48_35, sR_48_36, sR_48_37, sR_48_38, sR_48_39, md_bridgesG H1 m1, nIlt0 (show k < 2 ^ 31 by omega), nI_clamp (show k < 2 ^ 31 by omega), show k < 10 by omega, E, e3, rf_some, xc_int, xc_ref, xc_ret, xc_long, xw_nil, xw_int, xw_ref, xw_long, tl_some, tl_none, true_and, and_true, Nat.zero_le, Nat.reduceAdd, Nat.reduceMul, Nat.reduceLeDiff, Nat.reduceLT, Nat.reduceEqDiff, Nat.reducePow, Int32.reduceAdd, Int32.reduceMul, Int32.reduceSub, Int32.reduceLT, Int32.reduceLE, Int32.reduceToNatClampNeg, litE, ixU, not_false_eq_true, not_true_eq_false, ↓reduceIte, eq_self, true_or, or_true, false_and, and_false, or_false, false_or, i10, i01, in10, i1n, xbT, xbF, r_lt]
      exact c0
    · intro m h' h1 h2 hno y x W P1 E
      have H1 := wr_sh W H
      have m1 := mpw hg hm W
      have e4 : (nI (g 24) < nI m) = False := eq_false (by rw [nI_ltI (by omega) (by omega)]; omega)
      have e5 : nI k - 0 = nI k := Int32.sub_zero _
      have gn : gw g G (l + 1) w o f = m := by
        rw [gw]
        refine ff_at (fun j hj => ?_) (by omega) (by unfold gwp; rw [cb_t y, Bool.true_and, decide_eq_true x, Bool.true_or])
        by_cases z : j < t
        · exact hn0 j z
        · exact no j (hno j (by omega) (by omega))
      rw [gn, xb_t (show m ≤ g 24 by omega)] at cont
      simp only [xs_175_72, xs_175_74, xs_175_76, xs_175_79, xs_175_80, xs_175_83, xs_175_85, xs_175_86, xs_175_87, xs_175_90, xs_175_93, xs_175_94, xs_175_97, xs_175_99, xs_175_102, xs_175_103, xs_175_106, xs_175_107, xs_175_109, xs_175_111, xs_175_112, xs_175_115, xs_175_117, xs_175_118, xs_175_119, xs_175_122, xs_175_125, xs_175_126, xs_175_129, xs_175_130, xs_175_131, xs_175_133, xs_175_136, xs_175_139, H1, sT_48, sT_49, sN_49, sA_49, sT_50, sN_50, sA_50, sT_51, sN_51, sA_51, sT_52, sN_52, sA_52, sT_53, sN_53, sA_53, sT_54, sN_54, sA_54, sT_55, sN_55, sA_55, sT_56, sN_56, sA_56, sT_57, sN_57, sA_57, sT_58, sN_58, sA_58, sT_59, sN_59, sA_59, sT_60, sN_60, sA_60, sT_61, sN_61, sA_61, sT_62, sN_62, sA_62, sT_63, sN_63, sA_63, sT_64, sN_64, sA_64, sT_65, sN_65, sA_65, sT_66, sN_66, sA_66, sT_67, sN_67, sA_67, sT_68, sN_68, sB_68, sT_69, sN_69, sA_69, sT_70, sN_70, sA_70, sT_71, sN_71, sA_71, sR_48_0, sR_48_2, sR_48_9, sR_48_10, sR_48_11, sR_48_20, sR_48_21, sR_48_22, sR_48_23, sR_48_24, sR_48_26, sR_48_27, sR_48_28, sR_48_29, sR_48_30, sR_48_31, sR_48_33, sR_48_34, sR_48_35, sR_48_36, sR_48_37, sR_48_38, sR_48_39, md_bridgesG H1 m1, nIlt0 (show k < 2 ^ 31 by omega), nI_clamp (show k < 2 ^ 31 by omega), show k < 10 by omega, E, e4, e5, rf_some, xc_int, xc_ref, xc_ret, xc_long, xw_nil, xw_int, xw_ref, xw_long, tl_some, tl_none, true_and, and_true, Nat.zero_le, Nat.reduceAdd, Nat.reduceMul, Nat.reduceLeDiff, Nat.reduceLT, Nat.reduceEqDiff, Nat.reducePow, Int32.reduceAdd, Int32.reduceMul, Int32.reduceSub, Int32.reduceLT, Int32.reduceLE, Int32.reduceToNatClampNeg, litE, ixU, not_false_eq_true, not_true_eq_false, ↓reduceIte, eq_self, true_or, or_true, false_and, and_false, or_false, false_or, i10, i01, in10, i1n, xbT, xbF, r_lt]
      exact out h' 1 _ rfl W cont
    · intro m h' h1 h2 hno y x W P1 E P2 E2
      have H1 := wr_sh W H
      have m1 := mpw hg hm W
      simp only [xs_175_72, xs_175_74, xs_175_76, xs_175_136, xs_175_139, nI_1, rf_some, xc_int, xc_ref, xc_ret, xc_long, xw_nil, xw_int, xw_ref, xw_long, tl_some, tl_none, true_and, and_true, Nat.zero_le, Nat.reduceAdd, Nat.reduceMul, Nat.reduceLeDiff, Nat.reduceLT, Nat.reduceEqDiff, Nat.reducePow, Int32.reduceAdd, Int32.reduceMul, Int32.reduceSub, Int32.reduceLT, Int32.reduceLE, Int32.reduceToNatClampNeg, litE, ixU, not_false_eq_true, not_true_eq_false, ↓reduceIte, eq_self, true_or, or_true, false_and, and_false, or_false, false_or, i10, i01, in10, i1n, xbT, xbF, r_lt]
      refine HO (k + 1) (pa g w m) o (ra g f m) 0 h' _ 0 _ Q (by omega) (by omega) (by omega) (ro_ra hg hf (cm_le y)) (pa_lt hg hw y) ho H1 m1 P2 E2 (by omega) (fun j hj => absurd hj (by omega)) (Or.inl rfl) ?_
      intro h2' l7' W2
      rw [show nI (k + 1) - 1 = nI k from nI_pred k]
      have W3 := wr_tr W (wS_up W2)
      by_cases u : ghF (gw g G l) g (pa g w m) o (ra g f m) = false
      · rw [xb_t u]
        have gn : gw g G (l + 1) w o f = m := by
          rw [gw]
          refine ff_at (fun j hj => ?_) (by omega) (by unfold gwp; rw [cb_t y, Bool.true_and, u]; simp)
          by_cases z : j < t
          · exact hn0 j z
          · exact no j (hno j (by omega) (by omega))
        rw [gn, xb_t (show m ≤ g 24 by omega)] at cont
        exact out h2' 1 _ rfl W3 cont
      · rw [xb_f u]
        have u' : ghF (gw g G l) g (pa g w m) o (ra g f m) = true := by
          cases e : ghF (gw g G l) g (pa g w m) o (ra g f m) with
          | true => rfl
          | false => exact absurd e u
        refine ih (n - (m + 1 - t)) (by omega) (m + 1) h2' 0 1 l7' (wr_sh W3 H) (mpw hg hm W3) (pos_w P1 W2 (by omega)) ?_ (by omega) (fun j hj _ => ?_) (Or.inr ⟨rfl, rfl⟩) (fun h'' l7'' W4 => cont h'' l7'' (wr_tr W3 W4)) (by omega)
        · rw [i63_up W2 E, nI_pred]
        · by_cases z : j < t
          · exact hn0 j z
          · by_cases z2 : j = m
            · subst z2
              show gwp (gw g G l) g G w o f j = false
              unfold gwp
              rw [u', decide_eq_false x]
              simp
            · exact no j (hno j (by omega) (by omega))
theorem nd_all (hg : pg_ok g) (hG : G < g 35) (hl : last ≤ 6) : ∀ l, ndH g G fi last d l
  | 0 => nd_H0 hl
  | l + 1 => nd_H hg hG hl (nd_O hg hG hl (nd_all hg hG hl l))
theorem fi_lt (k : Nat) (hk : k < 100) : (nI k - 1 < nI k) = True := eq_true (by rw [fa_lt, nI1, pk_sub_toInt (by omega) (by decide), nI_toInt (by omega)]; omega)
theorem md_winsH {w o l : Nat} {f : Nat → Nat} {h : xe_H} (hg : pg_ok g) (hG : G < g 35) (hl : l ≤ 3) (hf : ro g f) (hw : w < g 35) (ho : o < g 35) (H : sh h) (hm : mp h 0 g) (hpos : pos 0 w o f h) (hmv : xe_I h 63 0 = nI 0 - 1) : xe_C (d + 7) 175 [.ref 48, .int 0, .int (nI (2 * l)), .int (nI G)] h (fun v h' => v = some (.int (xb (gw g G l w o f ≤ g 24))) ∧ wr (wS 0) h h') := by
  have N := nd_all (g := g) (G := G) (fi := 0) (last := 2 * l) (d := d) hg hG (by omega) l 0 w o f 0 h 0 0 (.retAddr 0) (fun v h' => v = some (.int (xb (gw g G l w o f ≤ g 24))) ∧ wr (wS 0) h h') (by omega) (by omega) (by omega) hf hw ho H hm hpos hmv (by omega) (fun j hj => absurd hj (by omega)) (Or.inl rfl) (by
    intro h' l7' W
    simp only [xs_175_9, xs_175_11, xs_175_12, xs_175_142, xs_175_144, fi_lt 0 (by decide), xb_01, rf_some, xc_int, xc_ref, xc_ret, xc_long, xw_nil, xw_int, xw_ref, xw_long, tl_some, tl_none, true_and, and_true, Nat.zero_le, Nat.reduceAdd, Nat.reduceMul, Nat.reduceLeDiff, Nat.reduceLT, Nat.reduceEqDiff, Nat.reducePow, Int32.reduceAdd, Int32.reduceMul, Int32.reduceSub, Int32.reduceLT, Int32.reduceLE, Int32.reduceToNatClampNeg, litE, ixU, not_false_eq_true, not_true_eq_false, ↓reduceIte, eq_self, true_or, or_true, false_and, and_false, or_false, false_or, i10, i01, in10, i1n, xbT, xbF, r_lt]
    exact W)
  simp only [xs_175, xs_175_0, xs_175_1, xs_175_3, xs_175_4, xs_175_6, xs_175_7, rf_some, xc_int, xc_ref, xc_ret, xc_long, xw_nil, xw_int, xw_ref, xw_long, tl_some, tl_none, true_and, and_true, Nat.zero_le, Nat.reduceAdd, Nat.reduceMul, Nat.reduceLeDiff, Nat.reduceLT, Nat.reduceEqDiff, Nat.reducePow, Int32.reduceAdd, Int32.reduceMul, Int32.reduceSub, Int32.reduceLT, Int32.reduceLE, Int32.reduceToNatClampNeg, litE, ixU, not_false_eq_true, not_true_eq_false, ↓reduceIte, eq_self, true_or, or_true, false_and, and_false, or_false, false_or, i10, i01, in10, i1n, xbT, xbF, r_lt]
  exact N
theorem md_winsO {w o l : Nat} {f : Nat → Nat} {h : xe_H} (hg : pg_ok g) (hG : G < g 35) (hl : l ≤ 2) (hf : ro g f) (hw : w < g 35) (ho : o < g 35) (H : sh h) (hm : mp h 0 g) (hpos : pos 1 w o f h) (hmv : xe_I h 63 1 = nI 0 - 1) : xe_C (d + 7) 175 [.ref 48, .int 1, .int (nI (2 * (l + 1))), .int (nI G)] h (fun v h' => v = some (.int (xb (ghF (gw g G l) g w o f = false))) ∧ wr (wS 0) h h') := by
  have N := nd_O (g := g) (G := G) (fi := 1) (last := 2 * (l + 1)) (d := d) hg hG (by omega) (nd_all hg hG (by omega) l) 1 w o f 0 h 0 0 (.retAddr 0) (fun v h' => v = some (.int (xb (ghF (gw g G l) g w o f = false))) ∧ wr (wS 0) h h') (by omega) (by omega) (by omega) hf hw ho H hm hpos hmv (by omega) (fun j hj => absurd hj (by omega)) (Or.inl rfl) (by
    intro h' l7' W
    simp only [xs_175_9, xs_175_11, xs_175_12, xs_175_142, xs_175_144, fi_lt 1 (by decide), xb_01, rf_some, xc_int, xc_ref, xc_ret, xc_long, xw_nil, xw_int, xw_ref, xw_long, tl_some, tl_none, true_and, and_true, Nat.zero_le, Nat.reduceAdd, Nat.reduceMul, Nat.reduceLeDiff, Nat.reduceLT, Nat.reduceEqDiff, Nat.reducePow, Int32.reduceAdd, Int32.reduceMul, Int32.reduceSub, Int32.reduceLT, Int32.reduceLE, Int32.reduceToNatClampNeg, litE, ixU, not_false_eq_true, not_true_eq_false, ↓reduceIte, eq_self, true_or, or_true, false_and, and_false, or_false, false_or, i10, i01, in10, i1n, xbT, xbF, r_lt]
    exact wS_up W)
  simp only [xs_175, xs_175_0, xs_175_1, xs_175_3, xs_175_4, xs_175_6, xs_175_7, rf_some, xc_int, xc_ref, xc_ret, xc_long, xw_nil, xw_int, xw_ref, xw_long, tl_some, tl_none, true_and, and_true, Nat.zero_le, Nat.reduceAdd, Nat.reduceMul, Nat.reduceLeDiff, Nat.reduceLT, Nat.reduceEqDiff, Nat.reducePow, Int32.reduceAdd, Int32.reduceMul, Int32.reduceSub, Int32.reduceLT, Int32.reduceLE, Int32.reduceToNatClampNeg, litE, ixU, not_false_eq_true, not_true_eq_false, ↓reduceIte, eq_self, true_or, or_true, false_and, and_false, or_false, false_or, i10, i01, in10, i1n, xbT, xbF, r_lt]
  exact N
/-- he wins in l minutes -/
theorem md_winsIn {p q l : Nat} {h : xe_H} (hg : pg_ok g) (hp : p < g 31) (hq : q < g 31) (hl : l ≤ 3) (H : sh h) (hm : mp h 0 g) : xe_C (d + 8) 177 [.ref 48, .int (nI p), .int (nI q), .int (nI l), .int (-1)] h (fun v h' => v = some (.int (xb (gw g (g (26 + 2 * p)) l (g (25 + 2 * p)) (g (25 + 2 * q)) (gr g) ≤ g 24))) ∧ wr (wS 0) h h') := by
  have h31 : g 31 ≤ 3 := hg.2.1
  obtain ⟨hpl, hgo⟩ := hg.2.2.2.2.2.2.2.2.2.2.2 p hp
  obtain ⟨hql, -⟩ := hg.2.2.2.2.2.2.2.2.2.2.2 q hq
  have HW : ∀ f, sh (mW h f) := fun f => by rw [mW_sh]; exact H
  obtain ⟨q1, q2, q3⟩ := lays_p (k := 0) (w := g (25 + 2 * p)) (o := g (25 + 2 * q)) (f := gr g) (wS_W (k := 0) h (gr g)) (Nat.le_refl 0)
  have ml := fun Q => md_lays (d := d + 6) (Q := Q) (HW (gr g)) (k := 0) (by omega) (nI (g (25 + 2 * p))) (nI (g (25 + 2 * q))) (nI (rp (gr g)))
  have e2 : (2 : Int32) * nI l = nI (2 * l) := by rw [nI2, pk_mul]
  have e1 : ((0 : Int32) ≤ -1) = False := eq_false (by decide)
  rw [show nI 0 = (0 : Int32) from rfl] at ml
  simp only [xs_177, xs_177_0, xs_177_1, xs_177_4, xs_177_6, xs_177_9, xs_177_10, xs_177_11, xs_177_12, xs_177_13, xs_177_16, xs_177_17, xs_177_18, xs_177_21, xs_177_22, xs_177_25, H, HW, sT_48, sT_49, sN_49, sA_49, sT_50, sN_50, sA_50, sT_51, sN_51, sA_51, sT_52, sN_52, sA_52, sT_53, sN_53, sA_53, sT_54, sN_54, sA_54, sT_55, sN_55, sA_55, sT_56, sN_56, sA_56, sT_57, sN_57, sA_57, sT_58, sN_58, sA_58, sT_59, sN_59, sA_59, sT_60, sN_60, sA_60, sT_61, sN_61, sA_61, sT_62, sN_62, sA_62, sT_63, sN_63, sA_63, sT_64, sN_64, sA_64, sT_65, sN_65, sA_65, sT_66, sN_66, sA_66, sT_67, sN_67, sA_67, sT_68, sN_68, sB_68, sT_69, sN_69, sA_69, sT_70, sN_70, sA_70, sT_71, sN_71, sA_71, sR_48_0, sR_48_2, sR_48_9, sR_48_10, sR_48_11, sR_48_20, sR_48_21, sR_48_22, sR_48_23, sR_48_24, sR_48_26, sR_48_27, sR_48_28, sR_48_29, sR_48_30, sR_48_31, sR_48_33, sR_48_34, sR_48_35, sR_48_36, sR_48_37, sR_48_38, sR_48_39, md_now H hm, e1, md_placeW H hm hp (show p < 3 by omega), md_placeW H hm hq (show q < 3 by omega), md_wideNow H (pg_rp hg), rf_some, xc_int, xc_ref, xc_ret, xc_long, xw_nil, xw_int, xw_ref, xw_long, tl_some, tl_none, true_and, and_true, Nat.zero_le, Nat.reduceAdd, Nat.reduceMul, Nat.reduceLeDiff, Nat.reduceLT, Nat.reduceEqDiff, Nat.reducePow, Int32.reduceAdd, Int32.reduceMul, Int32.reduceSub, Int32.reduceLT, Int32.reduceLE, Int32.reduceToNatClampNeg, litE, ixU, not_false_eq_true, not_true_eq_false, ↓reduceIte, eq_self, true_or, or_true, false_and, and_false, or_false, false_or, i10, i01, in10, i1n, xbT, xbF, r_lt, ml]
  generalize hh : xe_sI (xe_sI (xe_sI (xe_sI (mW h (gr g)) 60 0 (nI (g (25 + 2 * p)))) 61 0 (nI (g (25 + 2 * q)))) 62 0 (nI (rp (gr g)))) 63 0 (-1) = h2 at q1 q2 q3 ⊢
  have H2 := wr_sh q1 H
  have m2 := mpw hg hm q1
  simp only [xs_177_28, xs_177_29, xs_177_30, xs_177_31, xs_177_32, xs_177_33, xs_177_34, xs_177_35, xs_177_38, H2, sT_48, sT_49, sN_49, sA_49, sT_50, sN_50, sA_50, sT_51, sN_51, sA_51, sT_52, sN_52, sA_52, sT_53, sN_53, sA_53, sT_54, sN_54, sA_54, sT_55, sN_55, sA_55, sT_56, sN_56, sA_56, sT_57, sN_57, sA_57, sT_58, sN_58, sA_58, sT_59, sN_59, sA_59, sT_60, sN_60, sA_60, sT_61, sN_61, sA_61, sT_62, sN_62, sA_62, sT_63, sN_63, sA_63, sT_64, sN_64, sA_64, sT_65, sN_65, sA_65, sT_66, sN_66, sA_66, sT_67, sN_67, sA_67, sT_68, sN_68, sB_68, sT_69, sN_69, sA_69, sT_70, sN_70, sA_70, sT_71, sN_71, sA_71, sR_48_0, sR_48_2, sR_48_9, sR_48_10, sR_48_11, sR_48_20, sR_48_21, sR_48_22, sR_48_23, sR_48_24, sR_48_26, sR_48_27, sR_48_28, sR_48_29, sR_48_30, sR_48_31, sR_48_33, sR_48_34, sR_48_35, sR_48_36, sR_48_37, sR_48_38, sR_48_39, md_goalG H2 m2 hp (show p < 3 by omega), e2, rf_some, xc_int, xc_ref, xc_ret, xc_long, xw_nil, xw_int, xw_ref, xw_long, tl_some, tl_none, true_and, and_true, Nat.zero_le, Nat.reduceAdd, Nat.reduceMul, Nat.reduceLeDiff, Nat.reduceLT, Nat.reduceEqDiff, Nat.reducePow, Int32.reduceAdd, Int32.reduceMul, Int32.reduceSub, Int32.reduceLT, Int32.reduceLE, Int32.reduceToNatClampNeg, litE, ixU, not_false_eq_true, not_true_eq_false, ↓reduceIte, eq_self, true_or, or_true, false_and, and_false, or_false, false_or, i10, i01, in10, i1n, xbT, xbF, r_lt]
  refine xe_C_mono (md_winsH (d := d) hg hgo hl (ro_g hg) hpl hql H2 m2 q2 q3) ?_
  rintro v h3 ⟨rfl, W⟩
  simp only [xs_177_41, xb_01, rf_some, xc_int, xc_ref, xc_ret, xc_long, xw_nil, xw_int, xw_ref, xw_long, tl_some, tl_none, true_and, and_true, Nat.zero_le, Nat.reduceAdd, Nat.reduceMul, Nat.reduceLeDiff, Nat.reduceLT, Nat.reduceEqDiff, Nat.reducePow, Int32.reduceAdd, Int32.reduceMul, Int32.reduceSub, Int32.reduceLT, Int32.reduceLE, Int32.reduceToNatClampNeg, litE, ixU, not_false_eq_true, not_true_eq_false, ↓reduceIte, eq_self, true_or, or_true, false_and, and_false, or_false, false_or, i10, i01, in10, i1n, xbT, xbF, r_lt]
  exact wr_tr q1 W
/-- he wins in l + 1 minutes by this move -/
theorem md_winsBy {p q l m : Nat} {h : xe_H} (hg : pg_ok g) (hp : p < g 31) (hq : q < g 31) (hl : l ≤ 2) (hmm : m < 2 ^ 31) (H : sh h) (hm : mp h 0 g) : xe_C (d + 8) 177 [.ref 48, .int (nI p), .int (nI q), .int (nI (l + 1)), .int (nI m)] h (fun v h' => v = some (.int (xb (gwp (gw g (g (26 + 2 * p)) l) g (g (26 + 2 * p)) (g (25 + 2 * p)) (g (25 + 2 * q)) (gr g) m = true))) ∧ wr (wS 0) h h') := by
  have h31 : g 31 ≤ 3 := hg.2.1
  have h35 : g 35 ≤ 5 := hg.2.2.2.2.2.2.2.1
  obtain ⟨hpl, hgo⟩ := hg.2.2.2.2.2.2.2.2.2.2.2 p hp
  obtain ⟨hql, -⟩ := hg.2.2.2.2.2.2.2.2.2.2.2 q hq
  have HW : ∀ f, sh (mW h f) := fun f => by rw [mW_sh]; exact H
  have e2 : (2 : Int32) * nI (l + 1) = nI (2 * (l + 1)) := by rw [nI2, pk_mul]
  simp only [xs_177, xs_177_0, xs_177_1, xs_177_4, xs_177_6, xs_177_42, xs_177_43, xs_177_45, xs_177_46, xs_177_47, xs_177_50, H, HW, sT_48, sT_49, sN_49, sA_49, sT_50, sN_50, sA_50, sT_51, sN_51, sA_51, sT_52, sN_52, sA_52, sT_53, sN_53, sA_53, sT_54, sN_54, sA_54, sT_55, sN_55, sA_55, sT_56, sN_56, sA_56, sT_57, sN_57, sA_57, sT_58, sN_58, sA_58, sT_59, sN_59, sA_59, sT_60, sN_60, sA_60, sT_61, sN_61, sA_61, sT_62, sN_62, sA_62, sT_63, sN_63, sA_63, sT_64, sN_64, sA_64, sT_65, sN_65, sA_65, sT_66, sN_66, sA_66, sT_67, sN_67, sA_67, sT_68, sN_68, sB_68, sT_69, sN_69, sA_69, sT_70, sN_70, sA_70, sT_71, sN_71, sA_71, sR_48_0, sR_48_2, sR_48_9, sR_48_10, sR_48_11, sR_48_20, sR_48_21, sR_48_22, sR_48_23, sR_48_24, sR_48_26, sR_48_27, sR_48_28, sR_48_29, sR_48_30, sR_48_31, sR_48_33, sR_48_34, sR_48_35, sR_48_36, sR_48_37, sR_48_38, sR_48_39, md_now H hm, nIge0 hmm, md_placeW H hm hp (show p < 3 by omega), rf_some, xc_int, xc_ref, xc_ret, xc_long, xw_nil, xw_int, xw_ref, xw_long, tl_some, tl_none, true_and, and_true, Nat.zero_le, Nat.reduceAdd, Nat.reduceMul, Nat.reduceLeDiff, Nat.reduceLT, Nat.reduceEqDiff, Nat.reducePow, Int32.reduceAdd, Int32.reduceMul, Int32.reduceSub, Int32.reduceLT, Int32.reduceLE, Int32.reduceToNatClampNeg, litE, ixU, not_false_eq_true, not_true_eq_false, ↓reduceIte, eq_self, true_or, or_true, false_and, and_false, or_false, false_or, i10, i01, in10, i1n, xbT, xbF, r_lt]
  by_cases y : cm g (gr g) (g (25 + 2 * p)) m
  · rw [md_moves (d := d + 2) H hm hg (pg_rp hg) hmm (show g (25 + 2 * p) < 2 ^ 31 by omega) y]
    have hpa := pa_lt hg hpl y
    by_cases x : pa g (g (25 + 2 * p)) m = g (26 + 2 * p)
    · have e5 : (nI (pa g (g (25 + 2 * p)) m) = nI (g (26 + 2 * p))) = True := eq_true (by rw [x])
      have gn : gwp (gw g (g (26 + 2 * p)) l) g (g (26 + 2 * p)) (g (25 + 2 * p)) (g (25 + 2 * q)) (gr g) m = true := by unfold gwp; rw [cb_t y, Bool.true_and, decide_eq_true x, Bool.true_or]
      rw [xb_t gn]
      simp only [xs_177_53, xs_177_55, xs_177_57, xs_177_59, xs_177_62, xs_177_64, xs_177_65, xs_177_66, xs_177_69, xs_177_72, xs_177_74, xs_177_76, xs_177_79, xs_177_80, xs_177_83, xs_177_84, HW, sT_48, sT_49, sN_49, sA_49, sT_50, sN_50, sA_50, sT_51, sN_51, sA_51, sT_52, sN_52, sA_52, sT_53, sN_53, sA_53, sT_54, sN_54, sA_54, sT_55, sN_55, sA_55, sT_56, sN_56, sA_56, sT_57, sN_57, sA_57, sT_58, sN_58, sA_58, sT_59, sN_59, sA_59, sT_60, sN_60, sA_60, sT_61, sN_61, sA_61, sT_62, sN_62, sA_62, sT_63, sN_63, sA_63, sT_64, sN_64, sA_64, sT_65, sN_65, sA_65, sT_66, sN_66, sA_66, sT_67, sN_67, sA_67, sT_68, sN_68, sB_68, sT_69, sN_69, sA_69, sT_70, sN_70, sA_70, sT_71, sN_71, sA_71, sR_48_0, sR_48_2, sR_48_9, sR_48_10, sR_48_11, sR_48_20, sR_48_21, sR_48_22, sR_48_23, sR_48_24, sR_48_26, sR_48_27, sR_48_28, sR_48_29, sR_48_30, sR_48_31, sR_48_33, sR_48_34, sR_48_35, sR_48_36, sR_48_37, sR_48_38, sR_48_39, nI_ne4 (show pa g (g (25 + 2 * p)) m < 2 ^ 31 by omega), md_goalW H hm hp (show p < 3 by omega), e5, rf_some, xc_int, xc_ref, xc_ret, xc_long, xw_nil, xw_int, xw_ref, xw_long, tl_some, tl_none, true_and, and_true, Nat.zero_le, Nat.reduceAdd, Nat.reduceMul, Nat.reduceLeDiff, Nat.reduceLT, Nat.reduceEqDiff, Nat.reducePow, Int32.reduceAdd, Int32.reduceMul, Int32.reduceSub, Int32.reduceLT, Int32.reduceLE, Int32.reduceToNatClampNeg, litE, ixU, not_false_eq_true, not_true_eq_false, ↓reduceIte, eq_self, true_or, or_true, false_and, and_false, or_false, false_or, i10, i01, in10, i1n, xbT, xbF, r_lt]
      exact wS_W h _
    · have e5 : (nI (pa g (g (25 + 2 * p)) m) = nI (g (26 + 2 * p))) = False := eq_false (by rw [nI_eq (by omega) (by omega)]; exact x)
      obtain ⟨q1, q2, q3⟩ := lays_p (k := 1) (w := pa g (g (25 + 2 * p)) m) (o := g (25 + 2 * q)) (f := ra g (gr g) m) (wS_W (k := 0) h (ra g (gr g) m)) (Nat.zero_le 1)
      have ml := fun Q => md_lays (d := d + 6) (Q := Q) (HW (ra g (gr g) m)) (k := 1) (by omega) (nI (pa g (g (25 + 2 * p)) m)) (nI (g (25 + 2 * q))) (nI (rp (ra g (gr g) m)))
      rw [show nI 1 = (1 : Int32) from rfl] at ml
      simp only [xs_177_53, xs_177_55, xs_177_57, xs_177_59, xs_177_62, xs_177_64, xs_177_65, xs_177_66, xs_177_69, xs_177_85, xs_177_86, xs_177_87, xs_177_89, xs_177_90, xs_177_91, xs_177_94, xs_177_95, xs_177_98, HW, sT_48, sT_49, sN_49, sA_49, sT_50, sN_50, sA_50, sT_51, sN_51, sA_51, sT_52, sN_52, sA_52, sT_53, sN_53, sA_53, sT_54, sN_54, sA_54, sT_55, sN_55, sA_55, sT_56, sN_56, sA_56, sT_57, sN_57, sA_57, sT_58, sN_58, sA_58, sT_59, sN_59, sA_59, sT_60, sN_60, sA_60, sT_61, sN_61, sA_61, sT_62, sN_62, sA_62, sT_63, sN_63, sA_63, sT_64, sN_64, sA_64, sT_65, sN_65, sA_65, sT_66, sN_66, sA_66, sT_67, sN_67, sA_67, sT_68, sN_68, sB_68, sT_69, sN_69, sA_69, sT_70, sN_70, sA_70, sT_71, sN_71, sA_71, sR_48_0, sR_48_2, sR_48_9, sR_48_10, sR_48_11, sR_48_20, sR_48_21, sR_48_22, sR_48_23, sR_48_24, sR_48_26, sR_48_27, sR_48_28, sR_48_29, sR_48_30, sR_48_31, sR_48_33, sR_48_34, sR_48_35, sR_48_36, sR_48_37, sR_48_38, sR_48_39, nI_ne4 (show pa g (g (25 + 2 * p)) m < 2 ^ 31 by omega), md_goalW H hm hp (show p < 3 by omega), e5, md_placeW H hm hq (show q < 3 by omega), md_wideNow H (ra_ok hg (pg_rp hg) m), rf_some, xc_int, xc_ref, xc_ret, xc_long, xw_nil, xw_int, xw_ref, xw_long, tl_some, tl_none, true_and, and_true, Nat.zero_le, Nat.reduceAdd, Nat.reduceMul, Nat.reduceLeDiff, Nat.reduceLT, Nat.reduceEqDiff, Nat.reducePow, Int32.reduceAdd, Int32.reduceMul, Int32.reduceSub, Int32.reduceLT, Int32.reduceLE, Int32.reduceToNatClampNeg, litE, ixU, not_false_eq_true, not_true_eq_false, ↓reduceIte, eq_self, true_or, or_true, false_and, and_false, or_false, false_or, i10, i01, in10, i1n, xbT, xbF, r_lt, ml]
      generalize hh : xe_sI (xe_sI (xe_sI (xe_sI (mW h (ra g (gr g) m)) 60 1 (nI (pa g (g (25 + 2 * p)) m))) 61 1 (nI (g (25 + 2 * q)))) 62 1 (nI (rp (ra g (gr g) m)))) 63 1 (-1) = h2 at q1 q2 q3 ⊢
      have H2 := wr_sh q1 H
      have m2 := mpw hg hm q1
      simp only [xs_177_101, xs_177_102, xs_177_103, xs_177_104, xs_177_105, xs_177_106, xs_177_107, xs_177_108, xs_177_111, H2, sT_48, sT_49, sN_49, sA_49, sT_50, sN_50, sA_50, sT_51, sN_51, sA_51, sT_52, sN_52, sA_52, sT_53, sN_53, sA_53, sT_54, sN_54, sA_54, sT_55, sN_55, sA_55, sT_56, sN_56, sA_56, sT_57, sN_57, sA_57, sT_58, sN_58, sA_58, sT_59, sN_59, sA_59, sT_60, sN_60, sA_60, sT_61, sN_61, sA_61, sT_62, sN_62, sA_62, sT_63, sN_63, sA_63, sT_64, sN_64, sA_64, sT_65, sN_65, sA_65, sT_66, sN_66, sA_66, sT_67, sN_67, sA_67, sT_68, sN_68, sB_68, sT_69, sN_69, sA_69, sT_70, sN_70, sA_70, sT_71, sN_71, sA_71, sR_48_0, sR_48_2, sR_48_9, sR_48_10, sR_48_11, sR_48_20, sR_48_21, sR_48_22, sR_48_23, sR_48_24, sR_48_26, sR_48_27, sR_48_28, sR_48_29, sR_48_30, sR_48_31, sR_48_33, sR_48_34, sR_48_35, sR_48_36, sR_48_37, sR_48_38, sR_48_39, md_goalG H2 m2 hp (show p < 3 by omega), e2, rf_some, xc_int, xc_ref, xc_ret, xc_long, xw_nil, xw_int, xw_ref, xw_long, tl_some, tl_none, true_and, and_true, Nat.zero_le, Nat.reduceAdd, Nat.reduceMul, Nat.reduceLeDiff, Nat.reduceLT, Nat.reduceEqDiff, Nat.reducePow, Int32.reduceAdd, Int32.reduceMul, Int32.reduceSub, Int32.reduceLT, Int32.reduceLE, Int32.reduceToNatClampNeg, litE, ixU, not_false_eq_true, not_true_eq_false, ↓reduceIte, eq_self, true_or, or_true, false_and, and_false, or_false, false_or, i10, i01, in10, i1n, xbT, xbF, r_lt]
      refine xe_C_mono (md_winsO (d := d) hg hgo hl (ro_ra hg (ro_g hg) (cm_le y)) hpa hql H2 m2 q2 q3) ?_
      rintro v h3 ⟨rfl, W⟩
      simp only [xs_177_114, xb_01, rf_some, xc_int, xc_ref, xc_ret, xc_long, xw_nil, xw_int, xw_ref, xw_long, tl_some, tl_none, true_and, and_true, Nat.zero_le, Nat.reduceAdd, Nat.reduceMul, Nat.reduceLeDiff, Nat.reduceLT, Nat.reduceEqDiff, Nat.reducePow, Int32.reduceAdd, Int32.reduceMul, Int32.reduceSub, Int32.reduceLT, Int32.reduceLE, Int32.reduceToNatClampNeg, litE, ixU, not_false_eq_true, not_true_eq_false, ↓reduceIte, eq_self, true_or, or_true, false_and, and_false, or_false, false_or, i10, i01, in10, i1n, xbT, xbF, r_lt]
      refine ⟨?_, wr_tr q1 W⟩
      have gn : (gwp (gw g (g (26 + 2 * p)) l) g (g (26 + 2 * p)) (g (25 + 2 * p)) (g (25 + 2 * q)) (gr g) m = true) ↔ (ghF (gw g (g (26 + 2 * p)) l) g (pa g (g (25 + 2 * p)) m) (g (25 + 2 * q)) (ra g (gr g) m) = false) := by
        unfold gwp
        rw [cb_t y, Bool.true_and, decide_eq_false x, Bool.false_or]
        cases ghF (gw g (g (26 + 2 * p)) l) g (pa g (g (25 + 2 * p)) m) (g (25 + 2 * q)) (ra g (gr g) m) <;> simp
      rw [xb_c gn]
  · rw [md_movesN (d := d + 2) H hm hg (pg_rp hg) hmm (show g (25 + 2 * p) < 2 ^ 31 by omega) y]
    have e44 : ((-4 : Int32) = -4) = True := eq_true rfl
    have gn : ¬ gwp (gw g (g (26 + 2 * p)) l) g (g (26 + 2 * p)) (g (25 + 2 * p)) (g (25 + 2 * q)) (gr g) m = true := by unfold gwp; rw [cb_f y, Bool.false_and]; decide
    rw [xb_f gn]
    simp only [xs_177_53, xs_177_55, xs_177_57, xs_177_59, xs_177_62, xs_177_64, xs_177_65, xs_177_66, xs_177_69, xs_177_72, xs_177_74, xs_177_76, xs_177_79, xs_177_80, xs_177_83, xs_177_84, e44, rf_some, xc_int, xc_ref, xc_ret, xc_long, xw_nil, xw_int, xw_ref, xw_long, tl_some, tl_none, true_and, and_true, Nat.zero_le, Nat.reduceAdd, Nat.reduceMul, Nat.reduceLeDiff, Nat.reduceLT, Nat.reduceEqDiff, Nat.reducePow, Int32.reduceAdd, Int32.reduceMul, Int32.reduceSub, Int32.reduceLT, Int32.reduceLE, Int32.reduceToNatClampNeg, litE, ixU, not_false_eq_true, not_true_eq_false, ↓reduceIte, eq_self, true_or, or_true, false_and, and_false, or_false, false_or, i10, i01, in10, i1n, xbT, xbF, r_lt]
    exact wS_W h _
end GT
