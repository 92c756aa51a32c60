/-! look: both sides -/
def oct (o : Bool) (hd : Nat) (sn : Nat → Nat) (n m x y v : Nat) : Nat := fb_ct (fun u => fts hd sn n m u && opn o hd sn n m x y u) v
def kS (a : Nat) (_ : Nat) : Prop := a = 56 ∨ a = 65 ∨ a = 66 ∨ a = 67
section LN
variable {d : Nat} {h : xe_H} {g sn : Nat → Nat} {m : Nat}
/-- the answer of look -/
def loA (g sn : Nat → Nat) (m : Nat) (x : Int32) : Int32 := lkR (bl (g 24) (fun a b => oct true (g 33) sn (g 24) m a b (g 24 ^ g 24)) (fun a b => oct false (g 33) sn (g 24) m a b (g 24 ^ g 24)) (fb_ct (fts (g 33) sn (g 24) m) (g 24 ^ g 24)) 70) x
theorem md_look {x : Int32} (hg : pg_ok g) (hs : snk (g 24) m sn) (R : RH g sn m h) (hx : x = 0 ∨ x = 1) : xe_C (d + 6) 194 [.ref 48, .int x] h (fun r h' => r = some (.int (loA g sn m x)) ∧ wr kS h h') := by
  have h24 : g 24 ≤ 6 := hg.1
  have hN := pow_nn h24
  have q4 := pair_in.mpr hx
  have kR : ∀ h1, wr kS h h1 → RH g sn m h1 := fun h1 W => RH_w hg R W (fun a j q => by unfold kS at q; omega)
  have lp : ∀ k v h1 l4 l5 l6 l7, v + k = g 24 ^ g 24 → wr kS h h1 → (∀ a b, (a = 6 ∨ a < g 24) → b < g 24 → xe_I h1 66 (10 * a + b) = nI (oct true (g 33) sn (g 24) m a b v) ∧ xe_I h1 67 (10 * a + b) = nI (oct false (g 33) sn (g 24) m a b v)) → xe_P (d + 5) 194 44 [.ref 48, .int x, .int (nI (fb_ct (fts (g 33) sn (g 24) m) v)), .int (nI v), l4, l5, l6, l7] [] h1 (fun r h' => r = some (.int (loA g sn m x)) ∧ wr kS h h') := by
    intro k
    induction k with
    | zero =>
      intro v h1 l4 l5 l6 l7 hv W P
      have hv : v = g 24 ^ g 24 := by omega
      have R1 := kR h1 W
      have rm := fun d Q => md_rigMany (d := d) (Q := Q) hg R1.1 R1.2.1
      rw [hv] at P ⊢
      have hc := fb_ct_le (fts (g 33) sn (g 24) m) (g 24 ^ g 24)
      have mb := md_best (d := d + 4) (many := nI (fb_ct (fts (g 33) sn (g 24) m) (g 24 ^ g 24))) (l6 := .retAddr 0) (l7 := .retAddr 0) (x := x) (A := fun a b => oct true (g 33) sn (g 24) m a b (g 24 ^ g 24)) (B := fun a b => oct false (g 33) sn (g 24) m a b (g 24 ^ g 24)) (T := fb_ct (fts (g 33) sn (g 24) m) (g 24 ^ g 24)) (Q := fun r h' => r = some (.int (loA g sn m x)) ∧ wr kS h h') hg (by omega) R1.1 R1.2.1 hx (fun a b ha hb => ⟨(P a b ha hb).1, (P a b ha hb).2, by
          have := fb_ct_le (fun u => fts (g 33) sn (g 24) m u && opn true (g 33) sn (g 24) m a b u) (g 24 ^ g 24)
          show fb_ct _ _ < _; omega, by
          have := fb_ct_le (fun u => fts (g 33) sn (g 24) m u && opn false (g 33) sn (g 24) m a b u) (g 24 ^ g 24)
          show fb_ct _ _ < _; omega⟩) 70 0 l6 l7 (by omega)
      rw [show nI 0 = (0 : Int32) from rfl] at mb
      simp only [xs_194_44, xs_194_45, xs_194_46, xs_194_49, xs_194_77, xs_194_79, xs_194_80, xs_194_81, xs_194_83, xs_194_84, R1.1, sT_48, sT_49, sN_49, sA_49, sT_50, sN_50, sA_50, sT_51, sN_51, sA_51, sT_52, sN_52, sA_52, sT_53, sN_53, sA_53, sT_54, sN_54, sA_54, sT_55, sN_55, sA_55, sT_56, sN_56, sA_56, sT_57, sN_57, sA_57, sT_58, sN_58, sA_58, sT_59, sN_59, sA_59, sT_60, sN_60, sA_60, sT_61, sN_61, sA_61, sT_62, sN_62, sA_62, sT_63, sN_63, sA_63, sT_64, sN_64, sA_64, sT_65, sN_65, sA_65, sT_66, sN_66, sA_66, sT_67, sN_67, sA_67, sT_68, sN_68, sB_68, sT_69, sN_69, sA_69, sT_70, sN_70, sA_70, sT_71, sN_71, sA_71, sR_48_0, sR_48_2, sR_48_9, sR_48_10, sR_48_11, sR_48_20, sR_48_21, sR_48_22, sR_48_23, sR_48_24, sR_48_26, sR_48_27, sR_48_28, sR_48_29, sR_48_30, sR_48_31, sR_48_33, sR_48_34, sR_48_35, sR_48_36, sR_48_37, sR_48_38, sR_48_39, rm, le_t, rf_some, xc_int, xc_ref, xc_ret, xc_long, xw_nil, xw_int, xw_ref, xw_long, tl_some, tl_none, true_and, and_true, Nat.zero_le, Nat.reduceAdd, Nat.reduceMul, Nat.reduceLeDiff, Nat.reduceLT, Nat.reduceEqDiff, Nat.reducePow, Int32.reduceAdd, Int32.reduceMul, Int32.reduceSub, Int32.reduceLT, Int32.reduceLE, Int32.reduceToNatClampNeg, litE, ixU, not_false_eq_true, not_true_eq_false, ↓reduceIte, eq_self, true_or, or_true, false_and, and_false, or_false, false_or, i10, i01, in10, i1n, xbT, xbF, r_lt]
      refine (Eq.mpr mb ?_)
      exact ⟨rfl, W⟩
    | succ k ih =>
      intro v h1 l4 l5 l6 l7 hv W P
      have R1 := kR h1 W
      have rm := fun d Q => md_rigMany (d := d) (Q := Q) hg R1.1 R1.2.1
      have hv' : v < g 24 ^ g 24 := by omega
      rw [xs_194_44]
      simp only [xs_194_45, xs_194_46, xs_194_49, xs_194_52, xs_194_53, xs_194_54, R1.1, sT_48, sT_49, sN_49, sA_49, sT_50, sN_50, sA_50, sT_51, sN_51, sA_51, sT_52, sN_52, sA_52, sT_53, sN_53, sA_53, sT_54, sN_54, sA_54, sT_55, sN_55, sA_55, sT_56, sN_56, sA_56, sT_57, sN_57, sA_57, sT_58, sN_58, sA_58, sT_59, sN_59, sA_59, sT_60, sN_60, sA_60, sT_61, sN_61, sA_61, sT_62, sN_62, sA_62, sT_63, sN_63, sA_63, sT_64, sN_64, sA_64, sT_65, sN_65, sA_65, sT_66, sN_66, sA_66, sT_67, sN_67, sA_67, sT_68, sN_68, sB_68, sT_69, sN_69, sA_69, sT_70, sN_70, sA_70, sT_71, sN_71, sA_71, sR_48_0, sR_48_2, sR_48_9, sR_48_10, sR_48_11, sR_48_20, sR_48_21, sR_48_22, sR_48_23, sR_48_24, sR_48_26, sR_48_27, sR_48_28, sR_48_29, sR_48_30, sR_48_31, sR_48_33, sR_48_34, sR_48_35, sR_48_36, sR_48_37, sR_48_38, sR_48_39, rm, lt_f hv' (show g 24 ^ g 24 < 2 ^ 31 by omega), rf_some, xc_int, xc_ref, xc_ret, xc_long, xw_nil, xw_int, xw_ref, xw_long, tl_some, tl_none, true_and, and_true, Nat.zero_le, Nat.reduceAdd, Nat.reduceMul, Nat.reduceLeDiff, Nat.reduceLT, Nat.reduceEqDiff, Nat.reducePow, Int32.reduceAdd, Int32.reduceMul, Int32.reduceSub, Int32.reduceLT, Int32.reduceLE, Int32.reduceToNatClampNeg, litE, ixU, not_false_eq_true, not_true_eq_false, ↓reduceIte, eq_self, true_or, or_true, false_and, and_false, or_false, false_or, i10, i01, in10, i1n, xbT, xbF, r_lt]
      refine xe_C_mono (md_try (d := d + 3) hg hs hv' R1 (K := fun h2 => wr (fun a _ => a = 65) h1 h2 ∧ (∀ c, c < g 24 → xe_I h2 65 c = no4 (rv (g 24) v c)) ∧ RH g sn m h2) (fun h2 w1 w2 w3 => ⟨w1, w2, w3⟩)) ?_
      rintro r h2 ⟨rfl, W2, E2, R2⟩
      simp only [xs_194_57, xs_194_58, R2.1, sT_48, sT_49, sN_49, sA_49, sT_50, sN_50, sA_50, sT_51, sN_51, sA_51, sT_52, sN_52, sA_52, sT_53, sN_53, sA_53, sT_54, sN_54, sA_54, sT_55, sN_55, sA_55, sT_56, sN_56, sA_56, sT_57, sN_57, sA_57, sT_58, sN_58, sA_58, sT_59, sN_59, sA_59, sT_60, sN_60, sA_60, sT_61, sN_61, sA_61, sT_62, sN_62, sA_62, sT_63, sN_63, sA_63, sT_64, sN_64, sA_64, sT_65, sN_65, sA_65, sT_66, sN_66, sA_66, sT_67, sN_67, sA_67, sT_68, sN_68, sB_68, sT_69, sN_69, sA_69, sT_70, sN_70, sA_70, sT_71, sN_71, sA_71, sR_48_0, sR_48_2, sR_48_9, sR_48_10, sR_48_11, sR_48_20, sR_48_21, sR_48_22, sR_48_23, sR_48_24, sR_48_26, sR_48_27, sR_48_28, sR_48_29, sR_48_30, sR_48_31, sR_48_33, sR_48_34, sR_48_35, sR_48_36, sR_48_37, sR_48_38, sR_48_39, rf_some, xc_int, xc_ref, xc_ret, xc_long, xw_nil, xw_int, xw_ref, xw_long, tl_some, tl_none, true_and, and_true, Nat.zero_le, Nat.reduceAdd, Nat.reduceMul, Nat.reduceLeDiff, Nat.reduceLT, Nat.reduceEqDiff, Nat.reducePow, Int32.reduceAdd, Int32.reduceMul, Int32.reduceSub, Int32.reduceLT, Int32.reduceLE, Int32.reduceToNatClampNeg, litE, ixU, not_false_eq_true, not_true_eq_false, ↓reduceIte, eq_self, true_or, or_true, false_and, and_false, or_false, false_or, i10, i01, in10, i1n, xbT, xbF, r_lt]
      refine xe_C_mono (md_fitv (d := d + 2) hg hs R2 E2) ?_
      rintro r h3 ⟨rfl, f', rfl, hf', hu⟩
      have W3 : wr kS h h2 := wr_tr W (wr_sub W2 (fun a j q => Or.inr (Or.inl q)))
      have H3 : sh (mW h2 f') := by rw [mW_sh]; exact R2.1
      have es : ∀ o a b, oct o (g 33) sn (g 24) m a b (v + 1) = oct o (g 33) sn (g 24) m a b v + (if fts (g 33) sn (g 24) m v && opn o (g 33) sn (g 24) m a b v then 1 else 0) := fun o a b => fb_ct_succ _ v
      have P2 : ∀ a b, (a = 6 ∨ a < g 24) → b < g 24 → xe_I h2 66 (10 * a + b) = nI (oct true (g 33) sn (g 24) m a b v) ∧ xe_I h2 67 (10 * a + b) = nI (oct false (g 33) sn (g 24) m a b v) := fun a b ha hb => by
        rw [W2.2 66 _ (show ¬ 66 = 65 by decide), W2.2 67 _ (show ¬ 67 = 65 by decide)]; exact P a b ha hb
      by_cases z : fts (g 33) sn (g 24) m v = true
      · rw [xb_t z]
        have ec : fb_ct (fts (g 33) sn (g 24) m) (v + 1) = fb_ct (fts (g 33) sn (g 24) m) v + 1 := by rw [fb_ct_succ, if_pos z]
        obtain ⟨f2, hf2⟩ := Option.isSome_iff_exists.mp z
        have ef := hu f2 hf2
        subst ef
        simp only [xs_194_61, xs_194_64, xs_194_67, xs_194_68, H3, sT_48, sT_49, sN_49, sA_49, sT_50, sN_50, sA_50, sT_51, sN_51, sA_51, sT_52, sN_52, sA_52, sT_53, sN_53, sA_53, sT_54, sN_54, sA_54, sT_55, sN_55, sA_55, sT_56, sN_56, sA_56, sT_57, sN_57, sA_57, sT_58, sN_58, sA_58, sT_59, sN_59, sA_59, sT_60, sN_60, sA_60, sT_61, sN_61, sA_61, sT_62, sN_62, sA_62, sT_63, sN_63, sA_63, sT_64, sN_64, sA_64, sT_65, sN_65, sA_65, sT_66, sN_66, sA_66, sT_67, sN_67, sA_67, sT_68, sN_68, sB_68, sT_69, sN_69, sA_69, sT_70, sN_70, sA_70, sT_71, sN_71, sA_71, sR_48_0, sR_48_2, sR_48_9, sR_48_10, sR_48_11, sR_48_20, sR_48_21, sR_48_22, sR_48_23, sR_48_24, sR_48_26, sR_48_27, sR_48_28, sR_48_29, sR_48_30, sR_48_31, sR_48_33, sR_48_34, sR_48_35, sR_48_36, sR_48_37, sR_48_38, sR_48_39, nI_1, rf_some, xc_int, xc_ref, xc_ret, xc_long, xw_nil, xw_int, xw_ref, xw_long, tl_some, tl_none, true_and, and_true, Nat.zero_le, Nat.reduceAdd, Nat.reduceMul, Nat.reduceLeDiff, Nat.reduceLT, Nat.reduceEqDiff, Nat.reducePow, Int32.reduceAdd, Int32.reduceMul, Int32.reduceSub, Int32.reduceLT, Int32.reduceLE, Int32.reduceToNatClampNeg, litE, ixU, not_false_eq_true, not_true_eq_false, ↓reduceIte, eq_self, true_or, or_true, false_and, and_false, or_false, false_or, i10, i01, in10, i1n, xbT, xbF, r_lt]
        refine xe_C_mono (md_laysLooks (d := d + 1) (r := rv (g 24) v) hg hf' (fun b hb => rv_6 h24 hb) R2.1 R2.2.1 E2) ?_
        rintro r h4 ⟨rfl, W4, P4⟩
        have lt : ∀ o a b, lt1 o (g 33) f' (rv (g 24) v) a b = if fts (g 33) sn (g 24) m v && opn o (g 33) sn (g 24) m a b v then 1 else 0 := fun o a b => by
          unfold lt1 opn
          rw [hf2, z, Bool.true_and]
        have fin := ih (v + 1) h4 l4 l5 l6 l7 (by omega) (wr_tr W3 (wr_sub W4 (fun a j q => by unfold lS at q; unfold kS; omega))) (fun a b ha hb => by
          obtain ⟨p1, p2⟩ := P4 a b ha hb
          obtain ⟨p3, p4⟩ := P2 a b ha hb
          rw [if_pos (by omega)] at p1 p2
          rw [p1, p2, p3, p4, es, es, lt, lt, nI_add, nI_add]
          exact ⟨rfl, rfl⟩)
        rw [ec] at fin
        simp only [xs_194_71, xs_194_74, nI_1, rf_some, xc_int, xc_ref, xc_ret, xc_long, xw_nil, xw_int, xw_ref, xw_long, tl_some, tl_none, true_and, and_true, Nat.zero_le, Nat.reduceAdd, Nat.reduceMul, Nat.reduceLeDiff, Nat.reduceLT, Nat.reduceEqDiff, Nat.reducePow, Int32.reduceAdd, Int32.reduceMul, Int32.reduceSub, Int32.reduceLT, Int32.reduceLE, Int32.reduceToNatClampNeg, litE, ixU, not_false_eq_true, not_true_eq_false, ↓reduceIte, eq_self, true_or, or_true, false_and, and_false, or_false, false_or, i10, i01, in10, i1n, xbT, xbF, r_lt]
        exact fin
      · rw [xb_f z]
        have ec : fb_ct (fts (g 33) sn (g 24) m) (v + 1) = fb_ct (fts (g 33) sn (g 24) m) v := by rw [fb_ct_succ, if_neg z, Nat.add_zero]
        have z' : fts (g 33) sn (g 24) m v = false := by cases e : fts (g 33) sn (g 24) m v with
          | true => exact absurd e z
          | false => rfl
        have fin := ih (v + 1) (mW h2 f') l4 l5 l6 l7 (by omega) (wr_tr W3 (wr_sub (mW_wr h2 f') (fun a j q => Or.inl q))) (fun a b ha hb => by
          rw [mW_o (by decide), mW_o (by decide), es, es, z', Bool.false_and, Bool.false_and]
          exact P2 a b ha hb)
        rw [ec] at fin
        simp only [xs_194_61, xs_194_71, xs_194_74, nI_1, rf_some, xc_int, xc_ref, xc_ret, xc_long, xw_nil, xw_int, xw_ref, xw_long, tl_some, tl_none, true_and, and_true, Nat.zero_le, Nat.reduceAdd, Nat.reduceMul, Nat.reduceLeDiff, Nat.reduceLT, Nat.reduceEqDiff, Nat.reducePow, Int32.reduceAdd, Int32.reduceMul, Int32.reduceSub, Int32.reduceLT, Int32.reduceLE, Int32.reduceToNatClampNeg, litE, ixU, not_false_eq_true, not_true_eq_false, ↓reduceIte, eq_self, true_or, or_true, false_and, and_false, or_false, false_or, i10, i01, in10, i1n, xbT, xbF, r_lt]
        exact fin
  have lz : ∀ k j h1, j + k = 70 → wr kS h h1 → (∀ i, i < j → xe_I h1 66 i = 0 ∧ xe_I h1 67 i = 0) → xe_P (d + 5) 194 16 [.ref 48, .int x, .int 0, .int (nI j), .retAddr 0, .retAddr 0, .retAddr 0, .retAddr 0] [] h1 (fun r h' => r = some (.int (loA g sn m x)) ∧ wr kS h h') := by
    intro k
    induction k with
    | zero =>
      intro j h1 hj W Z
      have : j = 70 := by omega
      subst this
      have e1 : (70 ≤ nI 70) = True := eq_true (by decide)
      have l0 := lp (g 24 ^ g 24) 0 h1 (.retAddr 0) (.retAddr 0) (.retAddr 0) (.retAddr 0) (by omega) W (fun a b ha hb => Z (10 * a + b) (by omega))
      rw [show nI (fb_ct (fts (g 33) sn (g 24) m) 0) = (0 : Int32) from rfl, show nI 0 = (0 : Int32) from rfl] at l0
      simp only [xs_194_16, xs_194_17, xs_194_19, xs_194_42, xs_194_43, e1, rf_some, xc_int, xc_ref, xc_ret, xc_long, xw_nil, xw_int, xw_ref, xw_long, tl_some, tl_none, true_and, and_true, Nat.zero_le, Nat.reduceAdd, Nat.reduceMul, Nat.reduceLeDiff, Nat.reduceLT, Nat.reduceEqDiff, Nat.reducePow, Int32.reduceAdd, Int32.reduceMul, Int32.reduceSub, Int32.reduceLT, Int32.reduceLE, Int32.reduceToNatClampNeg, litE, ixU, not_false_eq_true, not_true_eq_false, ↓reduceIte, eq_self, true_or, or_true, false_and, and_false, or_false, false_or, i10, i01, in10, i1n, xbT, xbF, r_lt]
      exact l0
    | succ k ih =>
      intro j h1 hj W Z
      have H1 := wr_sh W R.1
      have e1 : (70 ≤ nI j) = False := eq_false (by rw [show (70 : Int32) = nI 70 from rfl, nI_leI (by decide) (by omega)]; omega)
      rw [xs_194_16]
      simp only [xs_194_17, xs_194_19, xs_194_22, xs_194_23, xs_194_26, xs_194_27, xs_194_28, xs_194_29, xs_194_30, xs_194_33, xs_194_34, xs_194_35, xs_194_36, xs_194_39, e1, H1, sT_48, sT_49, sN_49, sA_49, sT_50, sN_50, sA_50, sT_51, sN_51, sA_51, sT_52, sN_52, sA_52, sT_53, sN_53, sA_53, sT_54, sN_54, sA_54, sT_55, sN_55, sA_55, sT_56, sN_56, sA_56, sT_57, sN_57, sA_57, sT_58, sN_58, sA_58, sT_59, sN_59, sA_59, sT_60, sN_60, sA_60, sT_61, sN_61, sA_61, sT_62, sN_62, sA_62, sT_63, sN_63, sA_63, sT_64, sN_64, sA_64, sT_65, sN_65, sA_65, sT_66, sN_66, sA_66, sT_67, sN_67, sA_67, sT_68, sN_68, sB_68, sT_69, sN_69, sA_69, sT_70, sN_70, sA_70, sT_71, sN_71, sA_71, sR_48_0, sR_48_2, sR_48_9, sR_48_10, sR_48_11, sR_48_20, sR_48_21, sR_48_22, sR_48_23, sR_48_24, sR_48_26, sR_48_27, sR_48_28, sR_48_29, sR_48_30, sR_48_31, sR_48_33, sR_48_34, sR_48_35, sR_48_36, sR_48_37, sR_48_38, sR_48_39, nIlt0 (show j < 2 ^ 31 by omega), nI_clamp (show j < 2 ^ 31 by omega), show j < 70 by omega, nI_1, rf_some, xc_int, xc_ref, xc_ret, xc_long, xw_nil, xw_int, xw_ref, xw_long, tl_some, tl_none, true_and, and_true, Nat.zero_le, Nat.reduceAdd, Nat.reduceMul, Nat.reduceLeDiff, Nat.reduceLT, Nat.reduceEqDiff, Nat.reducePow, Int32.reduceAdd, Int32.reduceMul, Int32.reduceSub, Int32.reduceLT, Int32.reduceLE, Int32.reduceToNatClampNeg, litE, ixU, not_false_eq_true, not_true_eq_false, ↓reduceIte, eq_self, true_or, or_true, false_and, and_false, or_false, false_or, i10, i01, in10, i1n, xbT, xbF, r_lt, hI_sI, hL_sI, hR_sI, hT_sI, hN_sI, hn_sI, ho_sI, hia_sI, hba_sI, hal_sI, hix_sI, hI_aI, hL_aI, hR_aI, hT_aI, hN_aI, hn_aI, ho_aI, hia_aI, hal_aI, hix_aI, sh_sI, sh_aI, sh_sL, sh_aL]
      refine ih (j + 1) _ (by omega) (wr_sI (wr_sI W (by unfold kS; omega)) (by unfold kS; omega)) (fun i hi => ?_)
      refine ⟨?_, ?_⟩
      · rw [hI_sI, if_neg (by omega), hI_sI]
        by_cases e : i = j
        · rw [if_pos ⟨rfl, e⟩]
        · rw [if_neg (fun w => e w.2)]; exact (Z i (by omega)).1
      · rw [hI_sI]
        by_cases e : i = j
        · rw [if_pos ⟨rfl, e⟩]
        · rw [if_neg (fun w => e w.2), hI_sI, if_neg (by omega)]; exact (Z i (by omega)).2
  have l0 := lz 70 0 h (by omega) (wr_rf _ h) (fun i hi => absurd hi (by omega))
  rw [show nI 0 = (0 : Int32) from rfl] at l0
  simp only [xs_194, xs_194_0, xs_194_1, xs_194_2, xs_194_3, xs_194_4, xs_194_7, xs_194_10, xs_194_11, xs_194_12, xs_194_13, xs_194_14, xs_194_15, md_in01, q4, and_self, rf_some, xc_int, xc_ref, xc_ret, xc_long, xw_nil, xw_int, xw_ref, xw_long, tl_some, tl_none, true_and, and_true, Nat.zero_le, Nat.reduceAdd, Nat.reduceMul, Nat.reduceLeDiff, Nat.reduceLT, Nat.reduceEqDiff, Nat.reducePow, Int32.reduceAdd, Int32.reduceMul, Int32.reduceSub, Int32.reduceLT, Int32.reduceLE, Int32.reduceToNatClampNeg, litE, ixU, not_false_eq_true, not_true_eq_false, ↓reduceIte, eq_self, true_or, or_true, false_and, and_false, or_false, false_or, i10, i01, in10, i1n, xbT, xbF, r_lt]
  exact l0
theorem cl_best {A B : Nat → Nat → Nat} {n T : Nat} {x : Int32} (hn : n ≤ 6) (hT : T < 2 ^ 31) (H : sh h) (h9 : xe_I h 36 9 = nI n) (h1 : xe_I h 36 1 = nI T) (hx : x = 0 ∨ x = 1) (hA : ∀ x y, (x = 6 ∨ x < n) → y < n → xe_I h 42 (6 * x + y) = nI (A x y) ∧ xe_I h 43 (6 * x + y) = nI (B x y) ∧ A x y < 2 ^ 31 ∧ B x y < 2 ^ 31) {Q : Option Value → xe_H → Prop} : xe_C (d + 1) 69 [.ref 36, .int x] h Q = Q (some (.int (lkR (bl n A B T 70) x))) h := by
  have lp : ∀ k a l5 l6 l7, a + k = 7 → xe_P d 69 11 [.ref 36, .int x, .int (nI (bl n A B T (10 * a)).2), .int (wO (bl n A B T (10 * a)).1), .int (nI a), l5, l6, l7] [] h Q = Q (some (.int (lkR (bl n A B T 70) x))) h := by
    intro k
    induction k with
    | zero =>
      intro a l5 l6 l7 ha
      have : a = 7 := by omega
      subst this
      have e1 : (6 < nI 7) = True := eq_true (by decide)
      obtain ⟨b1, b2⟩ := bl_le n A B T 70
      unfold lkR
      rw [show 10 * 7 = 70 from rfl]
      cases e : (bl n A B T 70).1 with
      | none =>
        rw [show wO none = (-4 : Int32) from rfl]
        simp only [xs_69_11, xs_69_13, xs_69_15, xs_69_108, xs_69_109, xs_69_111, xs_69_114, xs_69_115, xs_69_118, xs_69_119, xs_69_122, xs_69_123, e1, e44t, rf_some, xc_int, xc_ref, xc_ret, xc_long, xw_nil, xw_int, xw_ref, xw_long, tl_some, tl_none, true_and, and_true, Nat.zero_le, Nat.reduceAdd, Nat.reduceMul, Nat.reduceLeDiff, Nat.reduceLT, Nat.reduceEqDiff, Nat.reducePow, Int32.reduceAdd, Int32.reduceMul, Int32.reduceSub, Int32.reduceLT, Int32.reduceLE, Int32.reduceToNatClampNeg, litE, ixU, not_false_eq_true, not_true_eq_false, ↓reduceIte, eq_self, true_or, or_true, false_and, and_false, or_false, false_or, i10, i01, in10, i1n, xbT, xbF, r_lt]
      | some q =>
        have := b2 q e
        rw [show wO (some q) = nI q from rfl]
        rcases hx with rfl | rfl
        · simp only [xs_69_11, xs_69_13, xs_69_15, xs_69_108, xs_69_109, xs_69_111, xs_69_114, xs_69_115, xs_69_118, xs_69_119, xs_69_122, xs_69_123, e1, nI_ne4 (show q < 2 ^ 31 by omega), rf_some, xc_int, xc_ref, xc_ret, xc_long, xw_nil, xw_int, xw_ref, xw_long, tl_some, tl_none, true_and, and_true, Nat.zero_le, Nat.reduceAdd, Nat.reduceMul, Nat.reduceLeDiff, Nat.reduceLT, Nat.reduceEqDiff, Nat.reducePow, Int32.reduceAdd, Int32.reduceMul, Int32.reduceSub, Int32.reduceLT, Int32.reduceLE, Int32.reduceToNatClampNeg, litE, ixU, not_false_eq_true, not_true_eq_false, ↓reduceIte, eq_self, true_or, or_true, false_and, and_false, or_false, false_or, i10, i01, in10, i1n, xbT, xbF, r_lt]
        · simp only [xs_69_11, xs_69_13, xs_69_15, xs_69_108, xs_69_109, xs_69_111, xs_69_114, xs_69_115, xs_69_118, xs_69_119, xs_69_122, xs_69_123, e1, nI_ne4 (show q < 2 ^ 31 by omega), rf_some, xc_int, xc_ref, xc_ret, xc_long, xw_nil, xw_int, xw_ref, xw_long, tl_some, tl_none, true_and, and_true, Nat.zero_le, Nat.reduceAdd, Nat.reduceMul, Nat.reduceLeDiff, Nat.reduceLT, Nat.reduceEqDiff, Nat.reducePow, Int32.reduceAdd, Int32.reduceMul, Int32.reduceSub, Int32.reduceLT, Int32.reduceLE, Int32.reduceToNatClampNeg, litE, ixU, not_false_eq_true, not_true_eq_false, ↓reduceIte, eq_self, true_or, or_true, false_and, and_false, or_false, false_or, i10, i01, in10, i1n, xbT, xbF, r_lt]
    | succ k ih =>
      intro a l5 l6 l7 ha
      have e1 : (6 < nI a) = False := eq_false (by rw [nI6, nI_ltI (by decide) (by omega)]; omega)
      have e10 : 10 * (a + 1) = 10 * a + 10 := by omega
      by_cases may' : a = 6 ∨ a < n
      · have lq : ∀ j y l6 l7, y + j = n → xe_P d 69 40 [.ref 36, .int x, .int (nI (bl n A B T (10 * a + y)).2), .int (wO (bl n A B T (10 * a + y)).1), .int (nI a), .int (nI y), l6, l7] [] h Q = Q (some (.int (lkR (bl n A B T 70) x))) h := by
          intro j
          induction j with
          | zero =>
            intro y l6 l7 hy
            have : y = n := by omega
            subst this
            have eb : bl y A B T (10 * (a + 1)) = bl y A B T (10 * a + y) := by
              rw [show 10 * (a + 1) = (10 * a + y) + (10 - y) by omega]
              exact bl_no (fun j h1 h2 => decide_eq_false (by omega))
            have fin := ih (a + 1) (.int (nI y)) l6 l7 (by omega)
            rw [eb] at fin
            simp only [xs_69_40, xs_69_42, xs_69_43, xs_69_46, xs_69_102, xs_69_105, H, sT_0, sT_1, sT_2, sN_2, sA_2, sT_3, sN_3, sA_3, sT_4, sN_4, sA_4, sT_5, sN_5, sA_5, sT_6, sN_6, sA_6, sT_7, sT_8, sN_8, sA_8, sT_9, sN_9, sA_9, sT_10, sN_10, sA_10, sT_11, sN_11, sA_11, sT_12, sN_12, sA_12, sT_13, sN_13, sT_14, sT_15, sN_15, sA_15, sT_16, sN_16, sA_16, sT_17, sN_17, sA_17, sT_18, sN_18, sA_18, sT_19, sN_19, sA_19, sT_20, sT_21, sN_21, sA_21, sT_22, sN_22, sA_22, sT_23, sN_23, sA_23, sT_24, sN_24, sA_24, sT_25, sN_25, sA_25, sT_26, sN_26, sB_26, sT_27, sT_28, sN_28, sB_28, sT_29, sT_30, sN_30, sT_32, sN_32, sA_32, sT_33, sT_34, sN_34, sA_34, sT_35, sN_35, sA_35, sT_36, sT_37, sN_37, sA_37, sT_38, sN_38, sA_38, sT_39, sN_39, sA_39, sT_40, sN_40, sB_40, sT_41, sN_41, sA_41, sT_42, sN_42, sA_42, sT_43, sN_43, sA_43, sT_44, sT_45, sN_45, sA_45, sT_46, sN_46, sA_46, sT_47, sN_47, sA_47, sR_1_7, sR_1_8, sR_1_9, sR_1_10, sR_1_11, sR_0_0, sR_7_7, sR_7_8, sR_7_9, sR_7_10, sR_7_11, sR_0_1, sR_0_2, sR_14_7, sR_14_8, sR_14_9, sR_14_10, sR_14_11, sR_13_0, sR_20_7, sR_20_8, sR_20_9, sR_20_10, sR_20_11, sR_13_1, sR_0_3, sR_0_4, sR_27_0, sR_0_5, sR_29_0, sR_29_3, sR_0_6, sR_33_1, sR_33_2, sR_0_7, sR_36_2, sR_36_3, sR_36_4, sR_36_5, sR_36_6, sR_36_7, sR_36_8, sR_0_8, sR_44_0, sR_44_1, sR_44_2, h9, le_t, nI_1, rf_some, xc_int, xc_ref, xc_ret, xc_long, xw_nil, xw_int, xw_ref, xw_long, tl_some, tl_none, true_and, and_true, Nat.zero_le, Nat.reduceAdd, Nat.reduceMul, Nat.reduceLeDiff, Nat.reduceLT, Nat.reduceEqDiff, Nat.reducePow, Int32.reduceAdd, Int32.reduceMul, Int32.reduceSub, Int32.reduceLT, Int32.reduceLE, Int32.reduceToNatClampNeg, litE, ixU, not_false_eq_true, not_true_eq_false, ↓reduceIte, eq_self, true_or, or_true, false_and, and_false, or_false, false_or, i10, i01, in10, i1n, xbT, xbF, r_lt]
            exact fin
          | succ j ihj =>
            intro y l6 l7 hy
            have hy' : y < n := by omega
            have ei : (6 : Int32) * nI a + nI y = nI (6 * a + y) := by rw [nI6, pk_mul, nI_add]
            have ei2 : (10 : Int32) * nI a + nI y = nI (10 * a + y) := by rw [show (10 : Int32) = nI 10 from rfl, pk_mul, nI_add]
            obtain ⟨a1, a2, a3, a4⟩ := hA a y may' hy'
            have ed : (10 * a + y) / 10 = a := by omega
            have em : (10 * a + y) % 10 = y := by omega
            have ey : may n (10 * a + y) = true := decide_eq_true (by rw [ed, em]; omega)
            have ew : (if nI (A a y) < nI (B a y) then nI (B a y) else nI (A a y)) = nI (wst A B (10 * a + y)) := by
              unfold wst
              rw [ed, em]
              by_cases c : A a y < B a y
              · rw [if_pos c, if_pos (nI_lt c a4)]
              · rw [if_neg c, if_neg (by rw [nI_ltI a3 a4]; exact c)]
            have hw : wst A B (10 * a + y) < 2 ^ 31 := by unfold wst; rw [ed, em]; split <;> omega
            obtain ⟨b1, -⟩ := bl_le n A B T (10 * a + y)
            rw [xs_69_40]
            have fin := ihj (y + 1) (.int (nI (6 * a + y))) (.int (nI (wst A B (10 * a + y)))) (by omega)
            rw [show 10 * a + (y + 1) = 10 * a + y + 1 by omega, bl, ey, Bool.true_and] at fin
            by_cases c : wst A B (10 * a + y) < (bl n A B T (10 * a + y)).2
            · have q5 : (nI (bl n A B T (10 * a + y)).2 ≤ nI (wst A B (10 * a + y))) = False := lt_f c (by omega)
              rw [decide_eq_true c, if_pos rfl] at fin
              simp only [xs_69_42, xs_69_43, xs_69_46, xs_69_49, xs_69_51, xs_69_53, xs_69_54, xs_69_56, xs_69_57, xs_69_59, xs_69_60, xs_69_63, xs_69_65, xs_69_66, xs_69_67, xs_69_70, xs_69_72, xs_69_73, xs_69_76, xs_69_78, xs_69_80, xs_69_81, xs_69_84, xs_69_86, xs_69_87, xs_69_89, xs_69_91, xs_69_92, xs_69_94, xs_69_95, xs_69_96, xs_69_99, lt_f hy' (show n < 2 ^ 31 by omega), H, sT_0, sT_1, sT_2, sN_2, sA_2, sT_3, sN_3, sA_3, sT_4, sN_4, sA_4, sT_5, sN_5, sA_5, sT_6, sN_6, sA_6, sT_7, sT_8, sN_8, sA_8, sT_9, sN_9, sA_9, sT_10, sN_10, sA_10, sT_11, sN_11, sA_11, sT_12, sN_12, sA_12, sT_13, sN_13, sT_14, sT_15, sN_15, sA_15, sT_16, sN_16, sA_16, sT_17, sN_17, sA_17, sT_18, sN_18, sA_18, sT_19, sN_19, sA_19, sT_20, sT_21, sN_21, sA_21, sT_22, sN_22, sA_22, sT_23, sN_23, sA_23, sT_24, sN_24, sA_24, sT_25, sN_25, sA_25, sT_26, sN_26, sB_26, sT_27, sT_28, sN_28, sB_28, sT_29, sT_30, sN_30, sT_32, sN_32, sA_32, sT_33, sT_34, sN_34, sA_34, sT_35, sN_35, sA_35, sT_36, sT_37, sN_37, sA_37, sT_38, sN_38, sA_38, sT_39, sN_39, sA_39, sT_40, sN_40, sB_40, sT_41, sN_41, sA_41, sT_42, sN_42, sA_42, sT_43, sN_43, sA_43, sT_44, sT_45, sN_45, sA_45, sT_46, sN_46, sA_46, sT_47, sN_47, sA_47, sR_1_7, sR_1_8, sR_1_9, sR_1_10, sR_1_11, sR_0_0, sR_7_7, sR_7_8, sR_7_9, sR_7_10, sR_7_11, sR_0_1, sR_0_2, sR_14_7, sR_14_8, sR_14_9, sR_14_10, sR_14_11, sR_13_0, sR_20_7, sR_20_8, sR_20_9, sR_20_10, sR_20_11, sR_13_1, sR_0_3, sR_0_4, sR_27_0, sR_0_5, sR_29_0, sR_29_3, sR_0_6, sR_33_1, sR_33_2, sR_0_7, sR_36_2, sR_36_3, sR_36_4, sR_36_5, sR_36_6, sR_36_7, sR_36_8, sR_0_8, sR_44_0, sR_44_1, sR_44_2, h9, ei, ei2, nIlt0 (show 6 * a + y < 2 ^ 31 by omega), nI_clamp (show 6 * a + y < 2 ^ 31 by omega), show 6 * a + y < 42 by omega, a1, a2, ew, q5, nI_1, rf_some, xc_int, xc_ref, xc_ret, xc_long, xw_nil, xw_int, xw_ref, xw_long, tl_some, tl_none, true_and, and_true, Nat.zero_le, Nat.reduceAdd, Nat.reduceMul, Nat.reduceLeDiff, Nat.reduceLT, Nat.reduceEqDiff, Nat.reducePow, Int32.reduceAdd, Int32.reduceMul, Int32.reduceSub, Int32.reduceLT, Int32.reduceLE, Int32.reduceToNatClampNeg, litE, ixU, not_false_eq_true, not_true_eq_false, ↓reduceIte, eq_self, true_or, or_true, false_and, and_false, or_false, false_or, i10, i01, in10, i1n, xbT, xbF, r_lt]
              exact fin
            · have q5 : (nI (bl n A B T (10 * a + y)).2 ≤ nI (wst A B (10 * a + y))) = True := eq_true (by rw [nI_leI (by omega) hw]; omega)
              rw [decide_eq_false c, if_neg (by decide)] at fin
              simp only [xs_69_42, xs_69_43, xs_69_46, xs_69_49, xs_69_51, xs_69_53, xs_69_54, xs_69_56, xs_69_57, xs_69_59, xs_69_60, xs_69_63, xs_69_65, xs_69_66, xs_69_67, xs_69_70, xs_69_72, xs_69_73, xs_69_76, xs_69_78, xs_69_80, xs_69_81, xs_69_84, xs_69_86, xs_69_87, xs_69_89, xs_69_91, xs_69_92, xs_69_94, xs_69_95, xs_69_96, xs_69_99, lt_f hy' (show n < 2 ^ 31 by omega), H, sT_0, sT_1, sT_2, sN_2, sA_2, sT_3, sN_3, sA_3, sT_4, sN_4, sA_4, sT_5, sN_5, sA_5, sT_6, sN_6, sA_6, sT_7, sT_8, sN_8, sA_8, sT_9, sN_9, sA_9, sT_10, sN_10, sA_10, sT_11, sN_11, sA_11, sT_12, sN_12, sA_12, sT_13, sN_13, sT_14, sT_15, sN_15, sA_15, sT_16, sN_16, sA_16, sT_17, sN_17, sA_17, sT_18, sN_18, sA_18, sT_19, sN_19, sA_19, sT_20, sT_21, sN_21, sA_21, sT_22, sN_22, sA_22, sT_23, sN_23, sA_23, sT_24, sN_24, sA_24, sT_25, sN_25, sA_25, sT_26, sN_26, sB_26, sT_27, sT_28, sN_28, sB_28, sT_29, sT_30, sN_30, sT_32, sN_32, sA_32, sT_33, sT_34, sN_34, sA_34, sT_35, sN_35, sA_35, sT_36, sT_37, sN_37, sA_37, sT_38, sN_38, sA_38, sT_39, sN_39, sA_39, sT_40, sN_40, sB_40, sT_41, sN_41, sA_41, sT_42, sN_42, sA_42, sT_43, sN_43, sA_43, sT_44, sT_45, sN_45, sA_45, sT_46, sN_46, sA_46, sT_47, sN_47, sA_47, sR_1_7, sR_1_8, sR_1_9, sR_1_10, sR_1_11, sR_0_0, sR_7_7, sR_7_8, sR_7_9, sR_7_10, sR_7_11, sR_0_1, sR_0_2, sR_14_7, sR_14_8, sR_14_9, sR_14_10, sR_14_11, sR_13_0, sR_20_7, sR_20_8, sR_20_9, sR_20_10, sR_20_11, sR_13_1, sR_0_3, sR_0_4, sR_27_0, sR_0_5, sR_29_0, sR_29_3, sR_0_6, sR_33_1, sR_33_2, sR_0_7, sR_36_2, sR_36_3, sR_36_4, sR_36_5, sR_36_6, sR_36_7, sR_36_8, sR_0_8, sR_44_0, sR_44_1, sR_44_2, h9, ei, nIlt0 (show 6 * a + y < 2 ^ 31 by omega), nI_clamp (show 6 * a + y < 2 ^ 31 by omega), show 6 * a + y < 42 by omega, a1, a2, ew, q5, nI_1, rf_some, xc_int, xc_ref, xc_ret, xc_long, xw_nil, xw_int, xw_ref, xw_long, tl_some, tl_none, true_and, and_true, Nat.zero_le, Nat.reduceAdd, Nat.reduceMul, Nat.reduceLeDiff, Nat.reduceLT, Nat.reduceEqDiff, Nat.reducePow, Int32.reduceAdd, Int32.reduceMul, Int32.reduceSub, Int32.reduceLT, Int32.reduceLE, Int32.reduceToNatClampNeg, litE, ixU, not_false_eq_true, not_true_eq_false, ↓reduceIte, eq_self, true_or, or_true, false_and, and_false, or_false, false_or, i10, i01, in10, i1n, xbT, xbF, r_lt]
              exact fin
        have l0 := lq n 0 l6 l7 (by omega)
        rw [show nI 0 = (0 : Int32) from rfl, Nat.add_zero] at l0
        rw [xs_69_11]
        by_cases c : a < n
        · have q2 : (nI a < nI n) = True := eq_true (in_lt (by omega) c)
          simp only [xs_69_13, xs_69_15, xs_69_18, xs_69_20, xs_69_21, xs_69_24, xs_69_27, xs_69_29, xs_69_31, xs_69_34, xs_69_37, xs_69_38, e1, q2, H, sT_0, sT_1, sT_2, sN_2, sA_2, sT_3, sN_3, sA_3, sT_4, sN_4, sA_4, sT_5, sN_5, sA_5, sT_6, sN_6, sA_6, sT_7, sT_8, sN_8, sA_8, sT_9, sN_9, sA_9, sT_10, sN_10, sA_10, sT_11, sN_11, sA_11, sT_12, sN_12, sA_12, sT_13, sN_13, sT_14, sT_15, sN_15, sA_15, sT_16, sN_16, sA_16, sT_17, sN_17, sA_17, sT_18, sN_18, sA_18, sT_19, sN_19, sA_19, sT_20, sT_21, sN_21, sA_21, sT_22, sN_22, sA_22, sT_23, sN_23, sA_23, sT_24, sN_24, sA_24, sT_25, sN_25, sA_25, sT_26, sN_26, sB_26, sT_27, sT_28, sN_28, sB_28, sT_29, sT_30, sN_30, sT_32, sN_32, sA_32, sT_33, sT_34, sN_34, sA_34, sT_35, sN_35, sA_35, sT_36, sT_37, sN_37, sA_37, sT_38, sN_38, sA_38, sT_39, sN_39, sA_39, sT_40, sN_40, sB_40, sT_41, sN_41, sA_41, sT_42, sN_42, sA_42, sT_43, sN_43, sA_43, sT_44, sT_45, sN_45, sA_45, sT_46, sN_46, sA_46, sT_47, sN_47, sA_47, sR_1_7, sR_1_8, sR_1_9, sR_1_10, sR_1_11, sR_0_0, sR_7_7, sR_7_8, sR_7_9, sR_7_10, sR_7_11, sR_0_1, sR_0_2, sR_14_7, sR_14_8, sR_14_9, sR_14_10, sR_14_11, sR_13_0, sR_20_7, sR_20_8, sR_20_9, sR_20_10, sR_20_11, sR_13_1, sR_0_3, sR_0_4, sR_27_0, sR_0_5, sR_29_0, sR_29_3, sR_0_6, sR_33_1, sR_33_2, sR_0_7, sR_36_2, sR_36_3, sR_36_4, sR_36_5, sR_36_6, sR_36_7, sR_36_8, sR_0_8, sR_44_0, sR_44_1, sR_44_2, h9, rf_some, xc_int, xc_ref, xc_ret, xc_long, xw_nil, xw_int, xw_ref, xw_long, tl_some, tl_none, true_and, and_true, Nat.zero_le, Nat.reduceAdd, Nat.reduceMul, Nat.reduceLeDiff, Nat.reduceLT, Nat.reduceEqDiff, Nat.reducePow, Int32.reduceAdd, Int32.reduceMul, Int32.reduceSub, Int32.reduceLT, Int32.reduceLE, Int32.reduceToNatClampNeg, litE, ixU, not_false_eq_true, not_true_eq_false, ↓reduceIte, eq_self, true_or, or_true, false_and, and_false, or_false, false_or, i10, i01, in10, i1n, xbT, xbF, r_lt]
          exact l0
        · have q2 : (nI a < nI n) = False := eq_false (by rw [nI_ltI (by omega) (by omega)]; exact c)
          have q4 : (nI a = 6) = True := by rw [nIe6 (by omega)]; exact eq_true (by omega)
          simp only [xs_69_13, xs_69_15, xs_69_18, xs_69_20, xs_69_21, xs_69_24, xs_69_27, xs_69_29, xs_69_31, xs_69_34, xs_69_37, xs_69_38, e1, q2, q4, H, sT_0, sT_1, sT_2, sN_2, sA_2, sT_3, sN_3, sA_3, sT_4, sN_4, sA_4, sT_5, sN_5, sA_5, sT_6, sN_6, sA_6, sT_7, sT_8, sN_8, sA_8, sT_9, sN_9, sA_9, sT_10, sN_10, sA_10, sT_11, sN_11, sA_11, sT_12, sN_12, sA_12, sT_13, sN_13, sT_14, sT_15, sN_15, sA_15, sT_16, sN_16, sA_16, sT_17, sN_17, sA_17, sT_18, sN_18, sA_18, sT_19, sN_19, sA_19, sT_20, sT_21, sN_21, sA_21, sT_22, sN_22, sA_22, sT_23, sN_23, sA_23, sT_24, sN_24, sA_24, sT_25, sN_25, sA_25, sT_26, sN_26, sB_26, sT_27, sT_28, sN_28, sB_28, sT_29, sT_30, sN_30, sT_32, sN_32, sA_32, sT_33, sT_34, sN_34, sA_34, sT_35, sN_35, sA_35, sT_36, sT_37, sN_37, sA_37, sT_38, sN_38, sA_38, sT_39, sN_39, sA_39, sT_40, sN_40, sB_40, sT_41, sN_41, sA_41, sT_42, sN_42, sA_42, sT_43, sN_43, sA_43, sT_44, sT_45, sN_45, sA_45, sT_46, sN_46, sA_46, sT_47, sN_47, sA_47, sR_1_7, sR_1_8, sR_1_9, sR_1_10, sR_1_11, sR_0_0, sR_7_7, sR_7_8, sR_7_9, sR_7_10, sR_7_11, sR_0_1, sR_0_2, sR_14_7, sR_14_8, sR_14_9, sR_14_10, sR_14_11, sR_13_0, sR_20_7, sR_20_8, sR_20_9, sR_20_10, sR_20_11, sR_13_1, sR_0_3, sR_0_4, sR_27_0, sR_0_5, sR_29_0, sR_29_3, sR_0_6, sR_33_1, sR_33_2, sR_0_7, sR_36_2, sR_36_3, sR_36_4, sR_36_5, sR_36_6, sR_36_7, sR_36_8, sR_0_8, sR_44_0, sR_44_1, sR_44_2, h9, rf_some, xc_int, xc_ref, xc_ret, xc_long, xw_nil, xw_int, xw_ref, xw_long, tl_some, tl_none, true_and, and_true, Nat.zero_le, Nat.reduceAdd, Nat.reduceMul, Nat.reduceLeDiff, Nat.reduceLT, Nat.reduceEqDiff, Nat.reducePow, Int32.reduceAdd, Int32.reduceMul, Int32.reduceSub, Int32.reduceLT, Int32.reduceLE, Int32.reduceToNatClampNeg, litE, ixU, not_false_eq_true, not_true_eq_false, ↓reduceIte, eq_self, true_or, or_true, false_and, and_false, or_false, false_or, i10, i01, in10, i1n, xbT, xbF, r_lt]
          exact l0
      · have q2 : (nI a < nI n) = False := eq_false (by rw [nI_ltI (by omega) (by omega)]; omega)
        have q4 : (nI a = 6) = False := by rw [nIe6 (by omega)]; exact eq_false (by omega)
        have eb : bl n A B T (10 * (a + 1)) = bl n A B T (10 * a) := by
          rw [e10]
          exact bl_no (fun j h1 h2 => decide_eq_false (by omega))
        have fin := ih (a + 1) l5 l6 l7 (by omega)
        rw [eb] at fin
        rw [xs_69_11]
        simp only [xs_69_13, xs_69_15, xs_69_18, xs_69_20, xs_69_21, xs_69_24, xs_69_27, xs_69_29, xs_69_31, xs_69_34, xs_69_102, xs_69_105, e1, q2, q4, H, sT_0, sT_1, sT_2, sN_2, sA_2, sT_3, sN_3, sA_3, sT_4, sN_4, sA_4, sT_5, sN_5, sA_5, sT_6, sN_6, sA_6, sT_7, sT_8, sN_8, sA_8, sT_9, sN_9, sA_9, sT_10, sN_10, sA_10, sT_11, sN_11, sA_11, sT_12, sN_12, sA_12, sT_13, sN_13, sT_14, sT_15, sN_15, sA_15, sT_16, sN_16, sA_16, sT_17, sN_17, sA_17, sT_18, sN_18, sA_18, sT_19, sN_19, sA_19, sT_20, sT_21, sN_21, sA_21, sT_22, sN_22, sA_22, sT_23, sN_23, sA_23, sT_24, sN_24, sA_24, sT_25, sN_25, sA_25, sT_26, sN_26, sB_26, sT_27, sT_28, sN_28, sB_28, sT_29, sT_30, sN_30, sT_32, sN_32, sA_32, sT_33, sT_34, sN_34, sA_34, sT_35, sN_35, sA_35, sT_36, sT_37, sN_37, sA_37, sT_38, sN_38, sA_38, sT_39, sN_39, sA_39, sT_40, sN_40, sB_40, sT_41, sN_41, sA_41, sT_42, sN_42, sA_42, sT_43, sN_43, sA_43, sT_44, sT_45, sN_45, sA_45, sT_46, sN_46, sA_46, sT_47, sN_47, sA_47, sR_1_7, sR_1_8, sR_1_9, sR_1_10, sR_1_11, sR_0_0, sR_7_7, sR_7_8, sR_7_9, sR_7_10, sR_7_11, sR_0_1, sR_0_2, sR_14_7, sR_14_8, sR_14_9, sR_14_10, sR_14_11, sR_13_0, sR_20_7, sR_20_8, sR_20_9, sR_20_10, sR_20_11, sR_13_1, sR_0_3, sR_0_4, sR_27_0, sR_0_5, sR_29_0, sR_29_3, sR_0_6, sR_33_1, sR_33_2, sR_0_7, sR_36_2, sR_36_3, sR_36_4, sR_36_5, sR_36_6, sR_36_7, sR_36_8, sR_0_8, sR_44_0, sR_44_1, sR_44_2, h9, nI_1, rf_some, xc_int, xc_ref, xc_ret, xc_long, xw_nil, xw_int, xw_ref, xw_long, tl_some, tl_none, true_and, and_true, Nat.zero_le, Nat.reduceAdd, Nat.reduceMul, Nat.reduceLeDiff, Nat.reduceLT, Nat.reduceEqDiff, Nat.reducePow, Int32.reduceAdd, Int32.reduceMul, Int32.reduceSub, Int32.reduceLT, Int32.reduceLE, Int32.reduceToNatClampNeg, litE, ixU, not_false_eq_true, not_true_eq_false, ↓reduceIte, eq_self, true_or, or_true, false_and, and_false, or_false, false_or, i10, i01, in10, i1n, xbT, xbF, r_lt]
        exact fin
  have l0 := lp 7 0 (.retAddr 0) (.retAddr 0) (.retAddr 0) (by omega)
  rw [show nI (bl n A B T (10 * 0)).2 = nI T from rfl, show wO (bl n A B T (10 * 0)).1 = (-4 : Int32) from rfl, show nI 0 = (0 : Int32) from rfl] at l0
  simp only [xs_69, xs_69_0, xs_69_1, xs_69_4, xs_69_5, xs_69_7, xs_69_8, xs_69_9, H, sT_0, sT_1, sT_2, sN_2, sA_2, sT_3, sN_3, sA_3, sT_4, sN_4, sA_4, sT_5, sN_5, sA_5, sT_6, sN_6, sA_6, sT_7, sT_8, sN_8, sA_8, sT_9, sN_9, sA_9, sT_10, sN_10, sA_10, sT_11, sN_11, sA_11, sT_12, sN_12, sA_12, sT_13, sN_13, sT_14, sT_15, sN_15, sA_15, sT_16, sN_16, sA_16, sT_17, sN_17, sA_17, sT_18, sN_18, sA_18, sT_19, sN_19, sA_19, sT_20, sT_21, sN_21, sA_21, sT_22, sN_22, sA_22, sT_23, sN_23, sA_23, sT_24, sN_24, sA_24, sT_25, sN_25, sA_25, sT_26, sN_26, sB_26, sT_27, sT_28, sN_28, sB_28, sT_29, sT_30, sN_30, sT_32, sN_32, sA_32, sT_33, sT_34, sN_34, sA_34, sT_35, sN_35, sA_35, sT_36, sT_37, sN_37, sA_37, sT_38, sN_38, sA_38, sT_39, sN_39, sA_39, sT_40, sN_40, sB_40, sT_41, sN_41, sA_41, sT_42, sN_42, sA_42, sT_43, sN_43, sA_43, sT_44, sT_45, sN_45, sA_45, sT_46, sN_46, sA_46, sT_47, sN_47, sA_47, sR_1_7, sR_1_8, sR_1_9, sR_1_10, sR_1_11, sR_0_0, sR_7_7, sR_7_8, sR_7_9, sR_7_10, sR_7_11, sR_0_1, sR_0_2, sR_14_7, sR_14_8, sR_14_9, sR_14_10, sR_14_11, sR_13_0, sR_20_7, sR_20_8, sR_20_9, sR_20_10, sR_20_11, sR_13_1, sR_0_3, sR_0_4, sR_27_0, sR_0_5, sR_29_0, sR_29_3, sR_0_6, sR_33_1, sR_33_2, sR_0_7, sR_36_2, sR_36_3, sR_36_4, sR_36_5, sR_36_6, sR_36_7, sR_36_8, sR_0_8, sR_44_0, sR_44_1, sR_44_2, h1, rf_some, xc_int, xc_ref, xc_ret, xc_long, xw_nil, xw_int, xw_ref, xw_long, tl_some, tl_none, true_and, and_true, Nat.zero_le, Nat.reduceAdd, Nat.reduceMul, Nat.reduceLeDiff, Nat.reduceLT, Nat.reduceEqDiff, Nat.reducePow, Int32.reduceAdd, Int32.reduceMul, Int32.reduceSub, Int32.reduceLT, Int32.reduceLE, Int32.reduceToNatClampNeg, litE, ixU, not_false_eq_true, not_true_eq_false, ↓reduceIte, eq_self, true_or, or_true, false_and, and_false, or_false, false_or, i10, i01, in10, i1n, xbT, xbF, r_lt]
  exact l0
theorem cl_look {x : Int32} (hg : pg_ok g) (hs : snk (g 24) m sn) (H : sh h) (tv : tn_v h 1 g) (i0 : xe_I h 36 0 = nI m) (i3 : ∀ k, k < m → xe_I h 38 k = nI (sn (3 * k)) ∧ xe_I h 39 k = nI (sn (3 * k + 1)) ∧ xe_I h 40 k = nI (sn (3 * k + 2))) (hx : x = 0 ∨ x = 1) : xe_C (d + 26) 108 [.ref 0, .int x] h (fun r h' => r = some (.int (loA g sn m x)) ∧ wr sS h h') := by
  have h24 : g 24 ≤ 6 := hg.1
  have hN := pow_nn h24
  have sf0 := cl_sift (d := d) (ah := true) hg hs H tv i0 i3
  simp only [↓reduceIte] at sf0
  simp only [xs_108, xs_108_0, xs_108_1, xs_108_4, xs_108_7, xs_108_8, xs_108_9, xs_108_10, xs_108_13, xs_108_14, xs_108_17, xs_108_18, H, sT_0, sT_1, sT_2, sN_2, sA_2, sT_3, sN_3, sA_3, sT_4, sN_4, sA_4, sT_5, sN_5, sA_5, sT_6, sN_6, sA_6, sT_7, sT_8, sN_8, sA_8, sT_9, sN_9, sA_9, sT_10, sN_10, sA_10, sT_11, sN_11, sA_11, sT_12, sN_12, sA_12, sT_13, sN_13, sT_14, sT_15, sN_15, sA_15, sT_16, sN_16, sA_16, sT_17, sN_17, sA_17, sT_18, sN_18, sA_18, sT_19, sN_19, sA_19, sT_20, sT_21, sN_21, sA_21, sT_22, sN_22, sA_22, sT_23, sN_23, sA_23, sT_24, sN_24, sA_24, sT_25, sN_25, sA_25, sT_26, sN_26, sB_26, sT_27, sT_28, sN_28, sB_28, sT_29, sT_30, sN_30, sT_32, sN_32, sA_32, sT_33, sT_34, sN_34, sA_34, sT_35, sN_35, sA_35, sT_36, sT_37, sN_37, sA_37, sT_38, sN_38, sA_38, sT_39, sN_39, sA_39, sT_40, sN_40, sB_40, sT_41, sN_41, sA_41, sT_42, sN_42, sA_42, sT_43, sN_43, sA_43, sT_44, sT_45, sN_45, sA_45, sT_46, sN_46, sA_46, sT_47, sN_47, sA_47, sR_1_7, sR_1_8, sR_1_9, sR_1_10, sR_1_11, sR_0_0, sR_7_7, sR_7_8, sR_7_9, sR_7_10, sR_7_11, sR_0_1, sR_0_2, sR_14_7, sR_14_8, sR_14_9, sR_14_10, sR_14_11, sR_13_0, sR_20_7, sR_20_8, sR_20_9, sR_20_10, sR_20_11, sR_13_1, sR_0_3, sR_0_4, sR_27_0, sR_0_5, sR_29_0, sR_29_3, sR_0_6, sR_33_1, sR_33_2, sR_0_7, sR_36_2, sR_36_3, sR_36_4, sR_36_5, sR_36_6, sR_36_7, sR_36_8, sR_0_8, sR_44_0, sR_44_1, sR_44_2, c_asksPair, xb_t hx, rf_some, xc_int, xc_ref, xc_ret, xc_long, xw_nil, xw_int, xw_ref, xw_long, tl_some, tl_none, true_and, and_true, Nat.zero_le, Nat.reduceAdd, Nat.reduceMul, Nat.reduceLeDiff, Nat.reduceLT, Nat.reduceEqDiff, Nat.reducePow, Int32.reduceAdd, Int32.reduceMul, Int32.reduceSub, Int32.reduceLT, Int32.reduceLE, Int32.reduceToNatClampNeg, litE, ixU, not_false_eq_true, not_true_eq_false, ↓reduceIte, eq_self, true_or, or_true, false_and, and_false, or_false, false_or, i10, i01, in10, i1n, xbT, xbF, r_lt]
  refine xe_C_mono sf0 ?_
  rintro r h1 ⟨rfl, W, J, C⟩
  have H1 := wr_sh W H
  have hc := fb_ct_le (fts (g 33) sn (g 24) m) (g 24 ^ g 24)
  simp only [xs_108_21, xs_108_22, xs_108_25, xs_108_26, H1, sT_0, sT_1, sT_2, sN_2, sA_2, sT_3, sN_3, sA_3, sT_4, sN_4, sA_4, sT_5, sN_5, sA_5, sT_6, sN_6, sA_6, sT_7, sT_8, sN_8, sA_8, sT_9, sN_9, sA_9, sT_10, sN_10, sA_10, sT_11, sN_11, sA_11, sT_12, sN_12, sA_12, sT_13, sN_13, sT_14, sT_15, sN_15, sA_15, sT_16, sN_16, sA_16, sT_17, sN_17, sA_17, sT_18, sN_18, sA_18, sT_19, sN_19, sA_19, sT_20, sT_21, sN_21, sA_21, sT_22, sN_22, sA_22, sT_23, sN_23, sA_23, sT_24, sN_24, sA_24, sT_25, sN_25, sA_25, sT_26, sN_26, sB_26, sT_27, sT_28, sN_28, sB_28, sT_29, sT_30, sN_30, sT_32, sN_32, sA_32, sT_33, sT_34, sN_34, sA_34, sT_35, sN_35, sA_35, sT_36, sT_37, sN_37, sA_37, sT_38, sN_38, sA_38, sT_39, sN_39, sA_39, sT_40, sN_40, sB_40, sT_41, sN_41, sA_41, sT_42, sN_42, sA_42, sT_43, sN_43, sA_43, sT_44, sT_45, sN_45, sA_45, sT_46, sN_46, sA_46, sT_47, sN_47, sA_47, sR_1_7, sR_1_8, sR_1_9, sR_1_10, sR_1_11, sR_0_0, sR_7_7, sR_7_8, sR_7_9, sR_7_10, sR_7_11, sR_0_1, sR_0_2, sR_14_7, sR_14_8, sR_14_9, sR_14_10, sR_14_11, sR_13_0, sR_20_7, sR_20_8, sR_20_9, sR_20_10, sR_20_11, sR_13_1, sR_0_3, sR_0_4, sR_27_0, sR_0_5, sR_29_0, sR_29_3, sR_0_6, sR_33_1, sR_33_2, sR_0_7, sR_36_2, sR_36_3, sR_36_4, sR_36_5, sR_36_6, sR_36_7, sR_36_8, sR_0_8, sR_44_0, sR_44_1, sR_44_2, rf_some, xc_int, xc_ref, xc_ret, xc_long, xw_nil, xw_int, xw_ref, xw_long, tl_some, tl_none, true_and, and_true, Nat.zero_le, Nat.reduceAdd, Nat.reduceMul, Nat.reduceLeDiff, Nat.reduceLT, Nat.reduceEqDiff, Nat.reducePow, Int32.reduceAdd, Int32.reduceMul, Int32.reduceSub, Int32.reduceLT, Int32.reduceLE, Int32.reduceToNatClampNeg, litE, ixU, not_false_eq_true, not_true_eq_false, ↓reduceIte, eq_self, true_or, or_true, false_and, and_false, or_false, false_or, i10, i01, in10, i1n, xbT, xbF, r_lt]
  rw [cl_best (d := d + 24) (A := fun a b => oct true (g 33) sn (g 24) m a b (g 24 ^ g 24)) (B := fun a b => oct false (g 33) sn (g 24) m a b (g 24 ^ g 24)) (T := fb_ct (fts (g 33) sn (g 24) m) (g 24 ^ g 24)) h24 (by omega) H1 C.1 J.1 hx (fun a b ha hb => ⟨(J.2.2.2 rfl a b ha hb).1, (J.2.2.2 rfl a b ha hb).2, by
          have := fb_ct_le (fun u => fts (g 33) sn (g 24) m u && opn true (g 33) sn (g 24) m a b u) (g 24 ^ g 24)
          show fb_ct _ _ < _; omega, by
          have := fb_ct_le (fun u => fts (g 33) sn (g 24) m u && opn false (g 33) sn (g 24) m a b u) (g 24 ^ g 24)
          show fb_ct _ _ < _; omega⟩)]
  simp only [xs_108_29, rf_some, xc_int, xc_ref, xc_ret, xc_long, xw_nil, xw_int, xw_ref, xw_long, tl_some, tl_none, true_and, and_true, Nat.zero_le, Nat.reduceAdd, Nat.reduceMul, Nat.reduceLeDiff, Nat.reduceLT, Nat.reduceEqDiff, Nat.reducePow, Int32.reduceAdd, Int32.reduceMul, Int32.reduceSub, Int32.reduceLT, Int32.reduceLE, Int32.reduceToNatClampNeg, litE, ixU, not_false_eq_true, not_true_eq_false, ↓reduceIte, eq_self, true_or, or_true, false_and, and_false, or_false, false_or, i10, i01, in10, i1n, xbT, xbF, r_lt]
  exact ⟨rfl, W⟩
theorem kS_fr {h h' : xe_H} (W : wr kS h h') : fr h h' := wr_fr W (fun a j q => by unfold kS at q; unfold cc cm' xe_S; omega)
theorem ok_look {L : Nat} {xs : Nat → Int32} {s : Nat → Nat → Nat} {ce : Nat → Int32} (HI : Inv L xs s ce h) (x : Int32) : ok2 L xs 108 194 [.int x] h := by
  intro d
  obtain ⟨H, hr, hv, hp, ⟨c1, c2, c3, c4, c5, c6⟩, ⟨⟨m1, m1'⟩, m2, m3, m4, m5, m6, m7⟩⟩ := id HI
  obtain ⟨R, hs⟩ := inv_RH HI
  by_cases q : x = 0 ∨ x = 1
  · refine xe_C_mono (cl_look (d := d + 14) hp.1 hs H c1 c4.1 c4.2 q) ?_
    rintro v h1 ⟨rfl, W1⟩
    have I1 := Inv_fr HI (sS_fr W1)
    refine xe_C_mono (md_look (d := d + 34) hp.1 hs (inv_RH I1).1 q) ?_
    rintro w h2 ⟨rfl, W2⟩
    exact ⟨⟨_, rfl, rfl⟩, s, ce, Inv_fr I1 (kS_fr W2)⟩
  · simp only [xs_108, xs_108_0, xs_108_1, xs_108_4, xs_108_7, xs_108_8, xs_194, xs_194_0, xs_194_1, xs_194_2, xs_194_3, xs_194_4, xs_194_7, xs_194_10, xs_194_11, c_asksPair, xb_f q, md_in01, xb_f (fun z => q (pair_in.mp z)), H, sT_0, sT_1, sT_2, sN_2, sA_2, sT_3, sN_3, sA_3, sT_4, sN_4, sA_4, sT_5, sN_5, sA_5, sT_6, sN_6, sA_6, sT_7, sT_8, sN_8, sA_8, sT_9, sN_9, sA_9, sT_10, sN_10, sA_10, sT_11, sN_11, sA_11, sT_12, sN_12, sA_12, sT_13, sN_13, sT_14, sT_15, sN_15, sA_15, sT_16, sN_16, sA_16, sT_17, sN_17, sA_17, sT_18, sN_18, sA_18, sT_19, sN_19, sA_19, sT_20, sT_21, sN_21, sA_21, sT_22, sN_22, sA_22, sT_23, sN_23, sA_23, sT_24, sN_24, sA_24, sT_25, sN_25, sA_25, sT_26, sN_26, sB_26, sT_27, sT_28, sN_28, sB_28, sT_29, sT_30, sN_30, sT_32, sN_32, sA_32, sT_33, sT_34, sN_34, sA_34, sT_35, sN_35, sA_35, sT_36, sT_37, sN_37, sA_37, sT_38, sN_38, sA_38, sT_39, sN_39, sA_39, sT_40, sN_40, sB_40, sT_41, sN_41, sA_41, sT_42, sN_42, sA_42, sT_43, sN_43, sA_43, sT_44, sT_45, sN_45, sA_45, sT_46, sN_46, sA_46, sT_47, sN_47, sA_47, sR_1_7, sR_1_8, sR_1_9, sR_1_10, sR_1_11, sR_0_0, sR_7_7, sR_7_8, sR_7_9, sR_7_10, sR_7_11, sR_0_1, sR_0_2, sR_14_7, sR_14_8, sR_14_9, sR_14_10, sR_14_11, sR_13_0, sR_20_7, sR_20_8, sR_20_9, sR_20_10, sR_20_11, sR_13_1, sR_0_3, sR_0_4, sR_27_0, sR_0_5, sR_29_0, sR_29_3, sR_0_6, sR_33_1, sR_33_2, sR_0_7, sR_36_2, sR_36_3, sR_36_4, sR_36_5, sR_36_6, sR_36_7, sR_36_8, sR_0_8, sR_44_0, sR_44_1, sR_44_2, sT_48, sT_49, sN_49, sA_49, sT_50, sN_50, sA_50, sT_51, sN_51, sA_51, sT_52, sN_52, sA_52, sT_53, sN_53, sA_53, sT_54, sN_54, sA_54, sT_55, sN_55, sA_55, sT_56, sN_56, sA_56, sT_57, sN_57, sA_57, sT_58, sN_58, sA_58, sT_59, sN_59, sA_59, sT_60, sN_60, sA_60, sT_61, sN_61, sA_61, sT_62, sN_62, sA_62, sT_63, sN_63, sA_63, sT_64, sN_64, sA_64, sT_65, sN_65, sA_65, sT_66, sN_66, sA_66, sT_67, sN_67, sA_67, sT_68, sN_68, sB_68, sT_69, sN_69, sA_69, sT_70, sN_70, sA_70, sT_71, sN_71, sA_71, sR_48_0, sR_48_2, sR_48_9, sR_48_10, sR_48_11, sR_48_20, sR_48_21, sR_48_22, sR_48_23, sR_48_24, sR_48_26, sR_48_27, sR_48_28, sR_48_29, sR_48_30, sR_48_31, sR_48_33, sR_48_34, sR_48_35, sR_48_36, sR_48_37, sR_48_38, sR_48_39, rf_some, xc_int, xc_ref, xc_ret, xc_long, xw_nil, xw_int, xw_ref, xw_long, tl_some, tl_none, true_and, and_true, Nat.zero_le, Nat.reduceAdd, Nat.reduceMul, Nat.reduceLeDiff, Nat.reduceLT, Nat.reduceEqDiff, Nat.reducePow, Int32.reduceAdd, Int32.reduceMul, Int32.reduceSub, Int32.reduceLT, Int32.reduceLE, Int32.reduceToNatClampNeg, litE, ixU, not_false_eq_true, not_true_eq_false, ↓reduceIte, eq_self, true_or, or_true, false_and, and_false, or_false, false_or, i10, i01, in10, i1n, xbT, xbF, r_lt]
    exact ⟨⟨_, rfl, rfl⟩, s, ce, HI⟩
end LN
