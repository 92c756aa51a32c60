/-! the reference's minute, whole -/
section GC
variable {d : Nat} {h : xe_H} {Q : Option Value → xe_H → Prop}
theorem md_pass (H : sh h) {m : Nat} {g : Nat → Nat} (hp : mp h 0 g) (hg : pg_ok g) (hm : m ≤ 511) (hgm : gm g m) (h9 : g 34 < 999) : xe_C (d + 6) 159 [.ref 48, .int (nI m)] h (fun v h' => v = some (.int (mst m g (g 31)).2.2) ∧ mp h' 0 (mfin m g) ∧ wr (fun a j => mS a j ∨ a = 56) h h') := by
  have h24 : g 24 ≤ 6 := hg.1
  have h31 : g 31 ≤ 3 := hg.2.1
  have hm' : m < 2 ^ 31 := by omega
  have lp : ∀ n p h1 l5, p + n = g 31 → mp h1 0 (mst m g p).1 → wr mS h h1 → xe_P (d + 5) 159 94 [.ref 48, .int (nI m), .int 1, .int (mst m g p).2.2, .int (nI p), l5] [] (mW h1 (mst m g p).2.1) (fun v h' => v = some (.int (mst m g (g 31)).2.2) ∧ mp h' 0 (mfin m g) ∧ wr (fun a j => mS a j ∨ a = 56) h h') := by
    intro n
    induction n with
    | zero =>
      intro p h1 l5 hpn hb hw
      have hpn : p = g 31 := by omega
      subst hpn
      have H1 : sh h1 := wr_sh hw H
      have e31 : xe_I h1 49 31 = nI (g 31) := by
        have := hb.1.2.1
        rw [mst_o (m := m) (g := g) (g 31) h31 31 (by omega)] at this
        exact this
      have e34 : xe_I h1 49 34 = nI (g 34) := by
        have := hb.1.2.2.2.2
        rw [mst_o (m := m) (g := g) (g 31) h31 34 (by omega)] at this
        exact this
      have hro := ro_rp (mst_k (m := m) hg (g 31) (Nat.le_refl _)).2
      rw [mdp_end H1 hro e31 e34]
      refine ⟨rfl, mp_fin hg hb, ?_⟩
      refine wr_sI (wr_aI (wr_tr (wr_sub hw (fun a j z => Or.inl z)) (wr_sub (mW_wr _ _) (fun a j z => Or.inr z))) (fun j => ?_)) (Or.inl ⟨rfl, by omega⟩)
      unfold cpF
      by_cases z : j % 4 = 3 ∧ j < 4 * 6
      · exact Or.inl (Or.inl ⟨rfl, by omega⟩)
      · rw [if_neg z, mW_o (by decide)]; exact Or.inr rfl
    | succ n ih =>
      intro p h1 l5 hpn hb hw
      have H1 : sh h1 := wr_sh hw H
      obtain ⟨k1, k2⟩ := mst_k (m := m) hg p (by omega)
      have e31 := mst_o (m := m) (g := g) p (by omega) 31 (by omega)
      have e24 := mst_o (m := m) (g := g) p (by omega) 24 (by omega)
      have k3 : ro (mst m g p).1 (mst m g p).2.1 := by unfold ro; rw [e24]; exact k2
      have hpp : p < (mst m g p).1 31 := by omega
      by_cases z : cm (mst m g p).1 (mst m g p).2.1 ((mst m g p).1 (25 + 2 * p)) (m / 8 ^ p % 8)
      · have em : mst m g (p + 1) = (up (mst m g p).1 (25 + 2 * p) (pa (mst m g p).1 ((mst m g p).1 (25 + 2 * p)) (m / 8 ^ p % 8)), ra (mst m g p).1 (mst m g p).2.1 (m / 8 ^ p % 8), (mst m g p).2.2) := by rw [mst, if_pos (cb_t z)]
        have ih' := ih (p + 1) (xe_sI h1 49 (25 + 2 * p) (nI (pa (mst m g p).1 ((mst m g p).1 (25 + 2 * p)) (m / 8 ^ p % 8)))) (.int (nI (pa (mst m g p).1 ((mst m g p).1 (25 + 2 * p)) (m / 8 ^ p % 8)))) (by omega)
        rw [em] at ih'
        have u := mp_up_place (v := pa (mst m g p).1 ((mst m g p).1 (25 + 2 * p)) (m / 8 ^ p % 8)) k1.1 k1.2.1 hpp hb
        rw [Nat.zero_add] at u
        rw [mdp_yes H1 hb k1 k3 e31 (by omega) hm' z]
        exact ih' u (wr_sI hw ⟨rfl, by omega⟩)
      · have em : mst m g (p + 1) = ((mst m g p).1, (mst m g p).2.1, (mst m g p).2.2 ||| 1 <<< (nI p &&& 31)) := by rw [mst, if_neg (fun y => z (cb_T y))]
        have ih' := ih (p + 1) h1 (.int (-4)) (by omega)
        rw [em] at ih'
        rw [mdp_no H1 hb k1 k3 e31 (by omega) hm' z]
        exact ih' hb hw
  have l0 := lp (g 31) 0 h (.retAddr 0) (by omega) hp (wr_rf _ h)
  have q1 : (0 ≤ nI m ∧ nI m ≤ 511) := ⟨nI_pos' (by omega), by rw [show (511 : Int32) = nI 511 from rfl, nI_leI (by omega) (by decide)]; exact hm⟩
  have e9 : (nI (g 34) = 999) = False := eq_false (by rw [show (999 : Int32) = nI 999 from rfl, nI_eq (by omega) (by decide)]; omega)
  have i34 : xe_I h 49 34 = nI (g 34) := hp.1.2.2.2.2
  have gd := md_good (d := d + 4) (Q := fun v h' => v = some (.int (mst m g (g 31)).2.2) ∧ mp h' 0 (mfin m g) ∧ wr (fun a j => mS a j ∨ a = 56) h h') H hp hg hm (l4 := .retAddr 0) (l5 := .retAddr 0)
  rw [@if_pos _ (gmD g m) hgm] at gd
  simp only [xs_159, xs_159_0, xs_159_1, xs_159_2, xs_159_3, xs_159_6, xs_159_9, xs_159_10, xs_159_11, md_in511, q1.1, q1.2, rf_some, xc_int, xc_ref, xc_ret, xc_long, xw_nil, xw_int, xw_ref, xw_long, tl_some, tl_none, true_and, and_true, Nat.zero_le, Nat.reduceAdd, Nat.reduceMul, Nat.reduceLeDiff, Nat.reduceLT, Nat.reduceEqDiff, Nat.reducePow, Int32.reduceAdd, Int32.reduceMul, Int32.reduceSub, Int32.reduceLT, Int32.reduceLE, Int32.reduceToNatClampNeg, litE, ixU, not_false_eq_true, not_true_eq_false, ↓reduceIte, eq_self, true_or, or_true, false_and, and_false, or_false, false_or, i10, i01, in10, i1n, xbT, xbF, r_lt, gd]
  simp only [xs_159_69, xs_159_70, xs_159_73, xs_159_75, xs_159_76, xs_159_79, xs_159_82, xs_159_84, xs_159_85, xs_159_86, xs_159_89, xs_159_90, xs_159_91, xs_159_92, H, sT_48, sT_49, sN_49, sA_49, sT_50, sN_50, sA_50, sT_51, sN_51, sA_51, sT_52, sN_52, sA_52, sT_53, sN_53, sA_53, sT_54, sN_54, sA_54, sT_55, sN_55, sA_55, sT_56, sN_56, sA_56, sT_57, sN_57, sA_57, sT_58, sN_58, sA_58, sT_59, sN_59, sA_59, sT_60, sN_60, sA_60, sT_61, sN_61, sA_61, sT_62, sN_62, sA_62, sT_63, sN_63, sA_63, sT_64, sN_64, sA_64, sT_65, sN_65, sA_65, sT_66, sN_66, sA_66, sT_67, sN_67, sA_67, sT_68, sN_68, sB_68, sT_69, sN_69, sA_69, sT_70, sN_70, sA_70, sT_71, sN_71, sA_71, sR_48_0, sR_48_2, sR_48_9, sR_48_10, sR_48_11, sR_48_20, sR_48_21, sR_48_22, sR_48_23, sR_48_24, sR_48_26, sR_48_27, sR_48_28, sR_48_29, sR_48_30, sR_48_31, sR_48_33, sR_48_34, sR_48_35, sR_48_36, sR_48_37, sR_48_38, sR_48_39, i34, e9, md_now H hp, rf_some, xc_int, xc_ref, xc_ret, xc_long, xw_nil, xw_int, xw_ref, xw_long, tl_some, tl_none, true_and, and_true, Nat.zero_le, Nat.reduceAdd, Nat.reduceMul, Nat.reduceLeDiff, Nat.reduceLT, Nat.reduceEqDiff, Nat.reducePow, Int32.reduceAdd, Int32.reduceMul, Int32.reduceSub, Int32.reduceLT, Int32.reduceLE, Int32.reduceToNatClampNeg, litE, ixU, not_false_eq_true, not_true_eq_false, ↓reduceIte, eq_self, true_or, or_true, false_and, and_false, or_false, false_or, i10, i01, in10, i1n, xbT, xbF, r_lt]
  exact l0
theorem md_passB (H : sh h) {x : Int32} {g : Nat → Nat} (hp : mp h 0 g) (hg : pg_ok g) (hx : ∀ m, m < 2 ^ 31 → x = nI m → ¬ gm g m) : xe_C (d + 3) 159 [.ref 48, .int x] h Q = Q (some (.int (-1))) h := by
  by_cases q : 0 ≤ x ∧ x ≤ 511
  · obtain ⟨m, hm, rfl⟩ := rgl (n := 511) (by decide) (by decide) q
    have gd := md_good (d := d + 1) (Q := Q) H hp hg hm (l4 := .retAddr 0) (l5 := .retAddr 0)
    rw [@if_neg _ (gmD g m) (hx m (by omega) rfl)] at gd
    simp only [xs_159, xs_159_0, xs_159_1, xs_159_2, xs_159_3, xs_159_6, xs_159_9, xs_159_10, xs_159_11, md_in511, q.1, q.2, rf_some, xc_int, xc_ref, xc_ret, xc_long, xw_nil, xw_int, xw_ref, xw_long, tl_some, tl_none, true_and, and_true, Nat.zero_le, Nat.reduceAdd, Nat.reduceMul, Nat.reduceLeDiff, Nat.reduceLT, Nat.reduceEqDiff, Nat.reducePow, Int32.reduceAdd, Int32.reduceMul, Int32.reduceSub, Int32.reduceLT, Int32.reduceLE, Int32.reduceToNatClampNeg, litE, ixU, not_false_eq_true, not_true_eq_false, ↓reduceIte, eq_self, true_or, or_true, false_and, and_false, or_false, false_or, i10, i01, in10, i1n, xbT, xbF, r_lt, gd]
  · have e00 : ((0 : Int32) = 0) = True := eq_true rfl
    simp only [xs_159, xs_159_0, xs_159_1, xs_159_2, xs_159_3, xs_159_6, xs_159_9, xs_159_10, xs_159_11, xs_159_12, xs_159_13, xs_159_14, xs_159_17, xs_159_18, xs_159_21, xs_159_22, xs_159_23, xs_159_24, xs_159_25, xs_159_26, xs_159_28, xs_159_29, xs_159_30, xs_159_31, xs_159_34, xs_159_36, xs_159_37, xs_159_40, xs_159_41, xs_159_44, xs_159_47, xs_159_48, xs_159_51, xs_159_52, xs_159_55, xs_159_56, xs_159_57, xs_159_60, xs_159_63, xs_159_64, xs_159_67, xs_159_68, md_in511, xb_f q, rf_some, xc_int, xc_ref, xc_ret, xc_long, xw_nil, xw_int, xw_ref, xw_long, tl_some, tl_none, true_and, and_true, Nat.zero_le, Nat.reduceAdd, Nat.reduceMul, Nat.reduceLeDiff, Nat.reduceLT, Nat.reduceEqDiff, Nat.reducePow, Int32.reduceAdd, Int32.reduceMul, Int32.reduceSub, Int32.reduceLT, Int32.reduceLE, Int32.reduceToNatClampNeg, litE, ixU, not_false_eq_true, not_true_eq_false, ↓reduceIte, eq_self, true_or, or_true, false_and, and_false, or_false, false_or, i10, i01, in10, i1n, xbT, xbF, r_lt]
theorem md_passF (H : sh h) {m : Nat} {g : Nat → Nat} (hp : mp h 0 g) (hg : pg_ok g) (hm : m ≤ 511) (hgm : gm g m) (h9 : ¬ g 34 < 999) : xe_C (d + 3) 159 [.ref 48, .int (nI m)] h Q = Q (some (.int (-3))) h := by
  have h34 : g 34 ≤ 999 := hg.2.2.2.2.2.1
  have q1 : (0 ≤ nI m ∧ nI m ≤ 511) := ⟨nI_pos' (by omega), by rw [show (511 : Int32) = nI 511 from rfl, nI_leI (by omega) (by decide)]; exact hm⟩
  have i34 : xe_I h 49 34 = 999 := hp.1.2.2.2.2.trans (by rw [show (999 : Int32) = nI 999 from rfl]; congr 1; omega)
  have gd := md_good (d := d + 1) (Q := Q) H hp hg hm (l4 := .retAddr 0) (l5 := .retAddr 0)
  rw [@if_pos _ (gmD g m) hgm] at gd
  simp only [xs_159, xs_159_0, xs_159_1, xs_159_2, xs_159_3, xs_159_6, xs_159_9, xs_159_10, xs_159_11, md_in511, q1.1, q1.2, rf_some, xc_int, xc_ref, xc_ret, xc_long, xw_nil, xw_int, xw_ref, xw_long, tl_some, tl_none, true_and, and_true, Nat.zero_le, Nat.reduceAdd, Nat.reduceMul, Nat.reduceLeDiff, Nat.reduceLT, Nat.reduceEqDiff, Nat.reducePow, Int32.reduceAdd, Int32.reduceMul, Int32.reduceSub, Int32.reduceLT, Int32.reduceLE, Int32.reduceToNatClampNeg, litE, ixU, not_false_eq_true, not_true_eq_false, ↓reduceIte, eq_self, true_or, or_true, false_and, and_false, or_false, false_or, i10, i01, in10, i1n, xbT, xbF, r_lt, gd]
  simp only [xs_159_69, xs_159_70, xs_159_73, xs_159_75, xs_159_76, xs_159_79, xs_159_82, xs_159_84, H, sT_48, sT_49, sN_49, sA_49, sT_50, sN_50, sA_50, sT_51, sN_51, sA_51, sT_52, sN_52, sA_52, sT_53, sN_53, sA_53, sT_54, sN_54, sA_54, sT_55, sN_55, sA_55, sT_56, sN_56, sA_56, sT_57, sN_57, sA_57, sT_58, sN_58, sA_58, sT_59, sN_59, sA_59, sT_60, sN_60, sA_60, sT_61, sN_61, sA_61, sT_62, sN_62, sA_62, sT_63, sN_63, sA_63, sT_64, sN_64, sA_64, sT_65, sN_65, sA_65, sT_66, sN_66, sA_66, sT_67, sN_67, sA_67, sT_68, sN_68, sB_68, sT_69, sN_69, sA_69, sT_70, sN_70, sA_70, sT_71, sN_71, sA_71, sR_48_0, sR_48_2, sR_48_9, sR_48_10, sR_48_11, sR_48_20, sR_48_21, sR_48_22, sR_48_23, sR_48_24, sR_48_26, sR_48_27, sR_48_28, sR_48_29, sR_48_30, sR_48_31, sR_48_33, sR_48_34, sR_48_35, sR_48_36, sR_48_37, sR_48_38, sR_48_39, i34, rf_some, xc_int, xc_ref, xc_ret, xc_long, xw_nil, xw_int, xw_ref, xw_long, tl_some, tl_none, true_and, and_true, Nat.zero_le, Nat.reduceAdd, Nat.reduceMul, Nat.reduceLeDiff, Nat.reduceLT, Nat.reduceEqDiff, Nat.reducePow, Int32.reduceAdd, Int32.reduceMul, Int32.reduceSub, Int32.reduceLT, Int32.reduceLE, Int32.reduceToNatClampNeg, litE, ixU, not_false_eq_true, not_true_eq_false, ↓reduceIte, eq_self, true_or, or_true, false_and, and_false, or_false, false_or, i10, i01, in10, i1n, xbT, xbF, r_lt]
end GC
