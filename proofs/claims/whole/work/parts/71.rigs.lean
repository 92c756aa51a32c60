/-! rigs, hangs: both sides -/
def qS (a : Nat) (_ : Nat) : Prop := a = 56 ∨ a = 65
/-- what the reference needs of the heap to try a rig -/
def RH (g sn : Nat → Nat) (m : Nat) (h : xe_H) : Prop := sh h ∧ mp h 0 g ∧ xe_I h 48 32 = nI m ∧ ∀ k, k < m → xe_I h 64 (3 * k) = no4 (sn (3 * k)) ∧ xe_I h 64 (3 * k + 1) = nI (sn (3 * k + 1)) ∧ xe_I h 64 (3 * k + 2) = nI (sn (3 * k + 2))
theorem RH_w {g sn : Nat → Nat} {m : Nat} {h h' : xe_H} {S : Nat → Nat → Prop} (hg : pg_ok g) (R : RH g sn m h) (W : wr S h h') (hS : ∀ a j, S a j → a ≠ 48 ∧ a ≠ 49 ∧ a ≠ 64) : RH g sn m h' := by
  obtain ⟨r1, r2, r3, r4⟩ := R
  have e : ∀ a j, (a = 48 ∨ a = 49 ∨ a = 64) → xe_I h' a j = xe_I h a j := fun a j q => W.2 a j (fun z => by have := hS a j z; omega)
  refine ⟨wr_sh W r1, mp_c hg r2 (fun j _ _ => e 49 j (by omega)), by rw [e 48 32 (by omega)]; exact r3, fun k hk => ?_⟩
  rw [e 64 _ (by omega), e 64 _ (by omega), e 64 _ (by omega)]
  exact r4 k hk
theorem pow_nn {n : Nat} (hn : n ≤ 6) : n ^ n ≤ 46656 := by
  rcases (show n = 0 ∨ n = 1 ∨ n = 2 ∨ n = 3 ∨ n = 4 ∨ n = 5 ∨ n = 6 by omega) with rfl | rfl | rfl | rfl | rfl | rfl | rfl <;> decide
section RT
variable {d : Nat} {h : xe_H} {g sn : Nat → Nat} {m : Nat}
/-- a rig is laid and tried -/
theorem md_try {v : Nat} (hg : pg_ok g) (hs : snk (g 24) m sn) (hv : v < g 24 ^ g 24) (R : RH g sn m h) {K : xe_H → Prop} (k1 : ∀ h2, wr (fun a _ => a = 65) h h2 → (∀ b, b < g 24 → xe_I h2 65 b = no4 (rv (g 24) v b)) → RH g sn m h2 → K h2) : xe_C (d + 2) 187 [.ref 48, .int (nI v)] h (fun r h' => r = none ∧ K h') := by
  have := pow_nn hg.1
  refine xe_C_mono (md_laysRig (d := d) hg (show v < 2 ^ 31 by omega) R.1 R.2.1) ?_
  rintro r h2 ⟨rfl, W, E⟩
  exact ⟨rfl, k1 h2 W E (RH_w hg R W (fun a j q => by omega))⟩
theorem md_fitv {v : Nat} (hg : pg_ok g) (hs : snk (g 24) m sn) (R : RH g sn m h) (E : ∀ b, b < g 24 → xe_I h 65 b = no4 (rv (g 24) v b)) : xe_C (d + 3) 190 [.ref 48] h (fun r h' => r = some (.int (xb (fts (g 33) sn (g 24) m v = true))) ∧ ∃ f', h' = mW h f' ∧ (∀ b, b < 6 → f' b ≤ 3) ∧ ∀ f'', finv (g 33) sn (g 24) m v = some f'' → f' = f'') :=
  md_fits (d := d) (r := rv (g 24) v) hg (fun b hb => rv_6 hg.1 hb) hs R.1 R.2.1 E R.2.2.1 R.2.2.2
theorem ff_more {p : Nat → Bool} {v : Nat} (h : 0 < fb_ct p v) : fa_first p (v + 1) = fa_first p v := by
  obtain ⟨k, h1, h2⟩ := fb_ct_pos.mp h
  have h3 := fa_first_le p v
  have h4 : fa_first p v < v := by
    by_cases z : fa_first p v < v
    · exact z
    · have := fa_first_no p v k (by omega)
      rw [h2] at this
      cases this
  exact ff_at (fun j hj => fa_first_no p v j hj) (by omega) (fa_first_yes p v h4)
theorem ff_here {p : Nat → Bool} {v : Nat} (h : fb_ct p v = 0) (hp : p v = true) : fa_first p (v + 1) = v := ff_at (fun j hj => fb_ct_zero.mp h j hj) (by omega) hp
def fI (p : Nat → Bool) (v : Nat) : Int32 := if fb_ct p v = 0 then -4 else nI (fa_first p v)
/-- the answer of rigs -/
def rgA (p : Nat → Bool) (n : Nat) (x : Int32) : Int32 := if x = 0 then nI (fb_ct p (n ^ n)) else if fb_ct p (n ^ n) = 0 then -4 else no4 (rv n (fa_first p (n ^ n)) (x.toNatClampNeg - 10))
theorem md_rigs {x : Int32} (hg : pg_ok g) (hs : snk (g 24) m sn) (R : RH g sn m h) (hx : x = 0 ∨ ∃ b, b < g 24 ∧ x = nI (b + 10)) : xe_C (d + 5) 191 [.ref 48, .int x] h (fun r h' => r = some (.int (rgA (fts (g 33) sn (g 24) m) (g 24) x)) ∧ wr qS h h') := by
  have h24 : g 24 ≤ 6 := hg.1
  have hN := pow_nn h24
  have beg : ∀ Q, xe_C (d + 5) 191 [.ref 48, .int x] h Q = xe_P (d + 4) 191 25 [.ref 48, .int x, .retAddr 0, .retAddr 0, .retAddr 0] [] h Q := by
    intro Q
    rcases hx with rfl | ⟨b, hb, rfl⟩
    · simp only [xs_191, xs_191_0, xs_191_1, rf_some, xc_int, xc_ref, xc_ret, xc_long, xw_nil, xw_int, xw_ref, xw_long, tl_some, tl_none, true_and, and_true, Nat.zero_le, Nat.reduceAdd, Nat.reduceMul, Nat.reduceLeDiff, Nat.reduceLT, Nat.reduceEqDiff, Nat.reducePow, Int32.reduceAdd, Int32.reduceMul, Int32.reduceSub, Int32.reduceLT, Int32.reduceLE, Int32.reduceToNatClampNeg, litE, ixU, not_false_eq_true, not_true_eq_false, ↓reduceIte, eq_self, true_or, or_true, false_and, and_false, or_false, false_or, i10, i01, in10, i1n, xbT, xbF, r_lt]
    · have e0 : (nI (b + 10) = 0) = False := eq_false (nI_ne0 (by omega) (by omega))
      have e1 : (9 : Int32) + nI (g 24) = nI (9 + g 24) := by rw [show (9 : Int32) = nI 9 from rfl, nI_add]
      have q : 10 ≤ nI (b + 10) ∧ nI (b + 10) ≤ nI (9 + g 24) := ⟨by rw [show (10 : Int32) = nI 10 from rfl, nI_leI (by decide) (by omega)]; omega, by rw [nI_leI (by omega) (by omega)]; omega⟩
      have mi : ∀ d Q, xe_C (d + 1) 120 [.long (nI (b + 10)).toInt64, .long 10, .long (nI (9 + g 24)).toInt64] h Q = Q (some (.int (xb (10 ≤ nI (b + 10) ∧ nI (b + 10) ≤ nI (9 + g 24))))) h := fun d Q => md_inI (nI (b + 10)) 10 (nI (9 + g 24))
      simp only [xs_191, xs_191_0, xs_191_1, xs_191_4, xs_191_5, xs_191_6, xs_191_9, xs_191_11, xs_191_12, xs_191_15, xs_191_16, xs_191_17, xs_191_20, e0, R.1, sT_48, sT_49, sN_49, sA_49, sT_50, sN_50, sA_50, sT_51, sN_51, sA_51, sT_52, sN_52, sA_52, sT_53, sN_53, sA_53, sT_54, sN_54, sA_54, sT_55, sN_55, sA_55, sT_56, sN_56, sA_56, sT_57, sN_57, sA_57, sT_58, sN_58, sA_58, sT_59, sN_59, sA_59, sT_60, sN_60, sA_60, sT_61, sN_61, sA_61, sT_62, sN_62, sA_62, sT_63, sN_63, sA_63, sT_64, sN_64, sA_64, sT_65, sN_65, sA_65, sT_66, sN_66, sA_66, sT_67, sN_67, sA_67, sT_68, sN_68, sB_68, sT_69, sN_69, sA_69, sT_70, sN_70, sA_70, sT_71, sN_71, sA_71, sR_48_0, sR_48_2, sR_48_9, sR_48_10, sR_48_11, sR_48_20, sR_48_21, sR_48_22, sR_48_23, sR_48_24, sR_48_26, sR_48_27, sR_48_28, sR_48_29, sR_48_30, sR_48_31, sR_48_33, sR_48_34, sR_48_35, sR_48_36, sR_48_37, sR_48_38, sR_48_39, md_bridgesG R.1 R.2.1, e1, mi, q, and_self, rf_some, xc_int, xc_ref, xc_ret, xc_long, xw_nil, xw_int, xw_ref, xw_long, tl_some, tl_none, true_and, and_true, Nat.zero_le, Nat.reduceAdd, Nat.reduceMul, Nat.reduceLeDiff, Nat.reduceLT, Nat.reduceEqDiff, Nat.reducePow, Int32.reduceAdd, Int32.reduceMul, Int32.reduceSub, Int32.reduceLT, Int32.reduceLE, Int32.reduceToNatClampNeg, litE, ixU, not_false_eq_true, not_true_eq_false, ↓reduceIte, eq_self, true_or, or_true, false_and, and_false, or_false, false_or, i10, i01, in10, i1n, xbT, xbF, r_lt]
  rw [beg]
  have lp : ∀ k v h1, v + k = g 24 ^ g 24 → wr qS h h1 → xe_P (d + 4) 191 33 [.ref 48, .int x, .int (nI (fb_ct (fts (g 33) sn (g 24) m) v)), .int (fI (fts (g 33) sn (g 24) m) v), .int (nI v)] [] h1 (fun r h' => r = some (.int (rgA (fts (g 33) sn (g 24) m) (g 24) x)) ∧ wr qS h h') := by
    intro k
    induction k with
    | zero =>
      intro v h1 hv W
      have hv : v = g 24 ^ g 24 := by omega
      have R1 := RH_w hg R W (fun a j q => by unfold qS at q; omega)
      rw [hv]
      have rm := fun d Q => md_rigMany (d := d) (Q := Q) hg R1.1 R1.2.1
      unfold rgA fI
      generalize hF : fts (g 33) sn (g 24) m = F
      have hc := fb_ct_le F (g 24 ^ g 24)
      have hff := fa_first_le F (g 24 ^ g 24)
      rcases hx with rfl | ⟨b, hb, rfl⟩
      · simp only [xs_191_33, xs_191_35, xs_191_36, xs_191_39, xs_191_75, xs_191_76, xs_191_79, xs_191_80, xs_191_82, xs_191_85, xs_191_86, xs_191_89, xs_191_90, xs_191_93, xs_191_95, R1.1, sT_48, sT_49, sN_49, sA_49, sT_50, sN_50, sA_50, sT_51, sN_51, sA_51, sT_52, sN_52, sA_52, sT_53, sN_53, sA_53, sT_54, sN_54, sA_54, sT_55, sN_55, sA_55, sT_56, sN_56, sA_56, sT_57, sN_57, sA_57, sT_58, sN_58, sA_58, sT_59, sN_59, sA_59, sT_60, sN_60, sA_60, sT_61, sN_61, sA_61, sT_62, sN_62, sA_62, sT_63, sN_63, sA_63, sT_64, sN_64, sA_64, sT_65, sN_65, sA_65, sT_66, sN_66, sA_66, sT_67, sN_67, sA_67, sT_68, sN_68, sB_68, sT_69, sN_69, sA_69, sT_70, sN_70, sA_70, sT_71, sN_71, sA_71, sR_48_0, sR_48_2, sR_48_9, sR_48_10, sR_48_11, sR_48_20, sR_48_21, sR_48_22, sR_48_23, sR_48_24, sR_48_26, sR_48_27, sR_48_28, sR_48_29, sR_48_30, sR_48_31, sR_48_33, sR_48_34, sR_48_35, sR_48_36, sR_48_37, sR_48_38, sR_48_39, rm, le_t, rf_some, xc_int, xc_ref, xc_ret, xc_long, xw_nil, xw_int, xw_ref, xw_long, tl_some, tl_none, true_and, and_true, Nat.zero_le, Nat.reduceAdd, Nat.reduceMul, Nat.reduceLeDiff, Nat.reduceLT, Nat.reduceEqDiff, Nat.reducePow, Int32.reduceAdd, Int32.reduceMul, Int32.reduceSub, Int32.reduceLT, Int32.reduceLE, Int32.reduceToNatClampNeg, litE, ixU, not_false_eq_true, not_true_eq_false, ↓reduceIte, eq_self, true_or, or_true, false_and, and_false, or_false, false_or, i10, i01, in10, i1n, xbT, xbF, r_lt]
        exact W
      · have e0 : (nI (b + 10) = 0) = False := eq_false (nI_ne0 (by omega) (by omega))
        by_cases z : fb_ct F (g 24 ^ g 24) = 0
        · simp only [xs_191_33, xs_191_35, xs_191_36, xs_191_39, xs_191_75, xs_191_76, xs_191_79, xs_191_80, xs_191_82, xs_191_85, xs_191_86, xs_191_89, xs_191_90, xs_191_93, xs_191_95, R1.1, sT_48, sT_49, sN_49, sA_49, sT_50, sN_50, sA_50, sT_51, sN_51, sA_51, sT_52, sN_52, sA_52, sT_53, sN_53, sA_53, sT_54, sN_54, sA_54, sT_55, sN_55, sA_55, sT_56, sN_56, sA_56, sT_57, sN_57, sA_57, sT_58, sN_58, sA_58, sT_59, sN_59, sA_59, sT_60, sN_60, sA_60, sT_61, sN_61, sA_61, sT_62, sN_62, sA_62, sT_63, sN_63, sA_63, sT_64, sN_64, sA_64, sT_65, sN_65, sA_65, sT_66, sN_66, sA_66, sT_67, sN_67, sA_67, sT_68, sN_68, sB_68, sT_69, sN_69, sA_69, sT_70, sN_70, sA_70, sT_71, sN_71, sA_71, sR_48_0, sR_48_2, sR_48_9, sR_48_10, sR_48_11, sR_48_20, sR_48_21, sR_48_22, sR_48_23, sR_48_24, sR_48_26, sR_48_27, sR_48_28, sR_48_29, sR_48_30, sR_48_31, sR_48_33, sR_48_34, sR_48_35, sR_48_36, sR_48_37, sR_48_38, sR_48_39, rm, le_t, e0, z, e44t, rf_some, xc_int, xc_ref, xc_ret, xc_long, xw_nil, xw_int, xw_ref, xw_long, tl_some, tl_none, true_and, and_true, Nat.zero_le, Nat.reduceAdd, Nat.reduceMul, Nat.reduceLeDiff, Nat.reduceLT, Nat.reduceEqDiff, Nat.reducePow, Int32.reduceAdd, Int32.reduceMul, Int32.reduceSub, Int32.reduceLT, Int32.reduceLE, Int32.reduceToNatClampNeg, litE, ixU, not_false_eq_true, not_true_eq_false, ↓reduceIte, eq_self, true_or, or_true, false_and, and_false, or_false, false_or, i10, i01, in10, i1n, xbT, xbF, r_lt]
          exact W
        · have hff2 : fa_first F (g 24 ^ g 24) < g 24 ^ g 24 := by
            obtain ⟨k, h1, h2⟩ := fb_ct_pos.mp (show 0 < fb_ct F (g 24 ^ g 24) by omega)
            by_cases y : fa_first F (g 24 ^ g 24) < g 24 ^ g 24
            · exact y
            · have := fa_first_no F (g 24 ^ g 24) k (by omega)
              rw [h2] at this
              cases this
          simp only [xs_191_33, xs_191_35, xs_191_36, xs_191_39, xs_191_75, xs_191_76, xs_191_79, xs_191_80, xs_191_82, xs_191_85, xs_191_86, xs_191_89, xs_191_90, xs_191_93, xs_191_95, xs_191_96, xs_191_97, xs_191_98, R1.1, sT_48, sT_49, sN_49, sA_49, sT_50, sN_50, sA_50, sT_51, sN_51, sA_51, sT_52, sN_52, sA_52, sT_53, sN_53, sA_53, sT_54, sN_54, sA_54, sT_55, sN_55, sA_55, sT_56, sN_56, sA_56, sT_57, sN_57, sA_57, sT_58, sN_58, sA_58, sT_59, sN_59, sA_59, sT_60, sN_60, sA_60, sT_61, sN_61, sA_61, sT_62, sN_62, sA_62, sT_63, sN_63, sA_63, sT_64, sN_64, sA_64, sT_65, sN_65, sA_65, sT_66, sN_66, sA_66, sT_67, sN_67, sA_67, sT_68, sN_68, sB_68, sT_69, sN_69, sA_69, sT_70, sN_70, sA_70, sT_71, sN_71, sA_71, sR_48_0, sR_48_2, sR_48_9, sR_48_10, sR_48_11, sR_48_20, sR_48_21, sR_48_22, sR_48_23, sR_48_24, sR_48_26, sR_48_27, sR_48_28, sR_48_29, sR_48_30, sR_48_31, sR_48_33, sR_48_34, sR_48_35, sR_48_36, sR_48_37, sR_48_38, sR_48_39, rm, le_t, e0, z, nI_ne4 (show fa_first F (g 24 ^ g 24) < 2 ^ 31 by omega), rf_some, xc_int, xc_ref, xc_ret, xc_long, xw_nil, xw_int, xw_ref, xw_long, tl_some, tl_none, true_and, and_true, Nat.zero_le, Nat.reduceAdd, Nat.reduceMul, Nat.reduceLeDiff, Nat.reduceLT, Nat.reduceEqDiff, Nat.reducePow, Int32.reduceAdd, Int32.reduceMul, Int32.reduceSub, Int32.reduceLT, Int32.reduceLE, Int32.reduceToNatClampNeg, litE, ixU, not_false_eq_true, not_true_eq_false, ↓reduceIte, eq_self, true_or, or_true, false_and, and_false, or_false, false_or, i10, i01, in10, i1n, xbT, xbF, r_lt]
          refine xe_C_mono (md_try (d := d + 2) hg hs hff2 R1 (K := fun h2 => wr (fun a _ => a = 65) h1 h2 ∧ (∀ c, c < g 24 → xe_I h2 65 c = no4 (rv (g 24) (fa_first F (g 24 ^ g 24)) c)) ∧ sh h2) (fun h2 w1 w2 w3 => ⟨w1, w2, w3.1⟩)) ?_
          rintro r h2 ⟨rfl, W2, E2, H2⟩
          have e65 := E2 b hb
          simp only [xs_191_101, xs_191_102, xs_191_105, xs_191_106, xs_191_108, xs_191_109, xs_191_110, H2, sT_48, sT_49, sN_49, sA_49, sT_50, sN_50, sA_50, sT_51, sN_51, sA_51, sT_52, sN_52, sA_52, sT_53, sN_53, sA_53, sT_54, sN_54, sA_54, sT_55, sN_55, sA_55, sT_56, sN_56, sA_56, sT_57, sN_57, sA_57, sT_58, sN_58, sA_58, sT_59, sN_59, sA_59, sT_60, sN_60, sA_60, sT_61, sN_61, sA_61, sT_62, sN_62, sA_62, sT_63, sN_63, sA_63, sT_64, sN_64, sA_64, sT_65, sN_65, sA_65, sT_66, sN_66, sA_66, sT_67, sN_67, sA_67, sT_68, sN_68, sB_68, sT_69, sN_69, sA_69, sT_70, sN_70, sA_70, sT_71, sN_71, sA_71, sR_48_0, sR_48_2, sR_48_9, sR_48_10, sR_48_11, sR_48_20, sR_48_21, sR_48_22, sR_48_23, sR_48_24, sR_48_26, sR_48_27, sR_48_28, sR_48_29, sR_48_30, sR_48_31, sR_48_33, sR_48_34, sR_48_35, sR_48_36, sR_48_37, sR_48_38, sR_48_39, sub10, nIlt0 (show b < 2 ^ 31 by omega), nI_clamp (show b < 2 ^ 31 by omega), show b < 6 by omega, e65, rf_some, xc_int, xc_ref, xc_ret, xc_long, xw_nil, xw_int, xw_ref, xw_long, tl_some, tl_none, true_and, and_true, Nat.zero_le, Nat.reduceAdd, Nat.reduceMul, Nat.reduceLeDiff, Nat.reduceLT, Nat.reduceEqDiff, Nat.reducePow, Int32.reduceAdd, Int32.reduceMul, Int32.reduceSub, Int32.reduceLT, Int32.reduceLE, Int32.reduceToNatClampNeg, litE, ixU, not_false_eq_true, not_true_eq_false, ↓reduceIte, eq_self, true_or, or_true, false_and, and_false, or_false, false_or, i10, i01, in10, i1n, xbT, xbF, r_lt]
          refine ⟨?_, wr_tr W (wr_sub W2 (fun a j q => Or.inr q))⟩
          rw [nI_clamp (by omega), Nat.add_sub_cancel]
    | succ k ih =>
      intro v h1 hv W
      have R1 := RH_w hg R W (fun a j q => by unfold qS at q; omega)
      have rm := fun d Q => md_rigMany (d := d) (Q := Q) hg R1.1 R1.2.1
      have hv' : v < g 24 ^ g 24 := by omega
      rw [xs_191_33]
      simp only [xs_191_35, xs_191_36, xs_191_39, xs_191_42, xs_191_43, xs_191_45, R1.1, sT_48, sT_49, sN_49, sA_49, sT_50, sN_50, sA_50, sT_51, sN_51, sA_51, sT_52, sN_52, sA_52, sT_53, sN_53, sA_53, sT_54, sN_54, sA_54, sT_55, sN_55, sA_55, sT_56, sN_56, sA_56, sT_57, sN_57, sA_57, sT_58, sN_58, sA_58, sT_59, sN_59, sA_59, sT_60, sN_60, sA_60, sT_61, sN_61, sA_61, sT_62, sN_62, sA_62, sT_63, sN_63, sA_63, sT_64, sN_64, sA_64, sT_65, sN_65, sA_65, sT_66, sN_66, sA_66, sT_67, sN_67, sA_67, sT_68, sN_68, sB_68, sT_69, sN_69, sA_69, sT_70, sN_70, sA_70, sT_71, sN_71, sA_71, sR_48_0, sR_48_2, sR_48_9, sR_48_10, sR_48_11, sR_48_20, sR_48_21, sR_48_22, sR_48_23, sR_48_24, sR_48_26, sR_48_27, sR_48_28, sR_48_29, sR_48_30, sR_48_31, sR_48_33, sR_48_34, sR_48_35, sR_48_36, sR_48_37, sR_48_38, sR_48_39, rm, lt_f hv' (show g 24 ^ g 24 < 2 ^ 31 by omega), rf_some, xc_int, xc_ref, xc_ret, xc_long, xw_nil, xw_int, xw_ref, xw_long, tl_some, tl_none, true_and, and_true, Nat.zero_le, Nat.reduceAdd, Nat.reduceMul, Nat.reduceLeDiff, Nat.reduceLT, Nat.reduceEqDiff, Nat.reducePow, Int32.reduceAdd, Int32.reduceMul, Int32.reduceSub, Int32.reduceLT, Int32.reduceLE, Int32.reduceToNatClampNeg, litE, ixU, not_false_eq_true, not_true_eq_false, ↓reduceIte, eq_self, true_or, or_true, false_and, and_false, or_false, false_or, i10, i01, in10, i1n, xbT, xbF, r_lt]
      refine xe_C_mono (md_try (d := d + 2) hg hs hv' R1 (K := fun h2 => wr (fun a _ => a = 65) h1 h2 ∧ (∀ c, c < g 24 → xe_I h2 65 c = no4 (rv (g 24) v c)) ∧ RH g sn m h2) (fun h2 w1 w2 w3 => ⟨w1, w2, w3⟩)) ?_
      rintro r h2 ⟨rfl, W2, E2, R2⟩
      simp only [xs_191_48, xs_191_49, R2.1, sT_48, sT_49, sN_49, sA_49, sT_50, sN_50, sA_50, sT_51, sN_51, sA_51, sT_52, sN_52, sA_52, sT_53, sN_53, sA_53, sT_54, sN_54, sA_54, sT_55, sN_55, sA_55, sT_56, sN_56, sA_56, sT_57, sN_57, sA_57, sT_58, sN_58, sA_58, sT_59, sN_59, sA_59, sT_60, sN_60, sA_60, sT_61, sN_61, sA_61, sT_62, sN_62, sA_62, sT_63, sN_63, sA_63, sT_64, sN_64, sA_64, sT_65, sN_65, sA_65, sT_66, sN_66, sA_66, sT_67, sN_67, sA_67, sT_68, sN_68, sB_68, sT_69, sN_69, sA_69, sT_70, sN_70, sA_70, sT_71, sN_71, sA_71, sR_48_0, sR_48_2, sR_48_9, sR_48_10, sR_48_11, sR_48_20, sR_48_21, sR_48_22, sR_48_23, sR_48_24, sR_48_26, sR_48_27, sR_48_28, sR_48_29, sR_48_30, sR_48_31, sR_48_33, sR_48_34, sR_48_35, sR_48_36, sR_48_37, sR_48_38, sR_48_39, rf_some, xc_int, xc_ref, xc_ret, xc_long, xw_nil, xw_int, xw_ref, xw_long, tl_some, tl_none, true_and, and_true, Nat.zero_le, Nat.reduceAdd, Nat.reduceMul, Nat.reduceLeDiff, Nat.reduceLT, Nat.reduceEqDiff, Nat.reducePow, Int32.reduceAdd, Int32.reduceMul, Int32.reduceSub, Int32.reduceLT, Int32.reduceLE, Int32.reduceToNatClampNeg, litE, ixU, not_false_eq_true, not_true_eq_false, ↓reduceIte, eq_self, true_or, or_true, false_and, and_false, or_false, false_or, i10, i01, in10, i1n, xbT, xbF, r_lt]
      refine xe_C_mono (md_fitv (d := d + 1) hg hs R2 E2) ?_
      rintro r h3 ⟨rfl, f', rfl, -, -⟩
      have W3 : wr qS h (mW h2 f') := wr_tr (wr_tr W (wr_sub W2 (fun a j q => Or.inr q))) (wr_sub (mW_wr h2 f') (fun a j q => Or.inl q))
      have fin := ih (v + 1) (mW h2 f') (by omega) W3
      unfold fI at fin ⊢
      generalize hF : fts (g 33) sn (g 24) m = F at fin ⊢
      have hc := fb_ct_le F v
      rw [fb_ct_succ] at fin
      by_cases z : F v = true
      · rw [xb_t z]
        rw [if_pos z] at fin
        rw [if_neg (show ¬ fb_ct F v + 1 = 0 by omega)] at fin
        by_cases y : fb_ct F v = 0
        · rw [ff_here y z] at fin
          have e0 : (nI (fb_ct F v) = 0) = True := by rw [nIe0 (by omega)]; exact eq_true y
          simp only [xs_191_52, xs_191_55, xs_191_56, xs_191_59, xs_191_61, xs_191_64, xs_191_65, xs_191_66, xs_191_69, xs_191_72, e0, nI_1, rf_some, xc_int, xc_ref, xc_ret, xc_long, xw_nil, xw_int, xw_ref, xw_long, tl_some, tl_none, true_and, and_true, Nat.zero_le, Nat.reduceAdd, Nat.reduceMul, Nat.reduceLeDiff, Nat.reduceLT, Nat.reduceEqDiff, Nat.reducePow, Int32.reduceAdd, Int32.reduceMul, Int32.reduceSub, Int32.reduceLT, Int32.reduceLE, Int32.reduceToNatClampNeg, litE, ixU, not_false_eq_true, not_true_eq_false, ↓reduceIte, eq_self, true_or, or_true, false_and, and_false, or_false, false_or, i10, i01, in10, i1n, xbT, xbF, r_lt]
          exact fin
        · rw [ff_more (show 0 < fb_ct F v by omega)] at fin
          have e0 : (nI (fb_ct F v) = 0) = False := by rw [nIe0 (by omega)]; exact eq_false y
          simp only [xs_191_52, xs_191_55, xs_191_56, xs_191_59, xs_191_61, xs_191_64, xs_191_65, xs_191_66, xs_191_69, xs_191_72, e0, y, nI_1, rf_some, xc_int, xc_ref, xc_ret, xc_long, xw_nil, xw_int, xw_ref, xw_long, tl_some, tl_none, true_and, and_true, Nat.zero_le, Nat.reduceAdd, Nat.reduceMul, Nat.reduceLeDiff, Nat.reduceLT, Nat.reduceEqDiff, Nat.reducePow, Int32.reduceAdd, Int32.reduceMul, Int32.reduceSub, Int32.reduceLT, Int32.reduceLE, Int32.reduceToNatClampNeg, litE, ixU, not_false_eq_true, not_true_eq_false, ↓reduceIte, eq_self, true_or, or_true, false_and, and_false, or_false, false_or, i10, i01, in10, i1n, xbT, xbF, r_lt]
          exact fin
      · rw [xb_f z]
        rw [if_neg z] at fin
        simp only [Nat.add_zero] at fin
        simp only [xs_191_52, xs_191_69, xs_191_72, nI_1, rf_some, xc_int, xc_ref, xc_ret, xc_long, xw_nil, xw_int, xw_ref, xw_long, tl_some, tl_none, true_and, and_true, Nat.zero_le, Nat.reduceAdd, Nat.reduceMul, Nat.reduceLeDiff, Nat.reduceLT, Nat.reduceEqDiff, Nat.reducePow, Int32.reduceAdd, Int32.reduceMul, Int32.reduceSub, Int32.reduceLT, Int32.reduceLE, Int32.reduceToNatClampNeg, litE, ixU, not_false_eq_true, not_true_eq_false, ↓reduceIte, eq_self, true_or, or_true, false_and, and_false, or_false, false_or, i10, i01, in10, i1n, xbT, xbF, r_lt]
        by_cases y : fb_ct F v = 0
        · rw [if_pos y] at fin ⊢
          exact fin
        · rw [if_neg y, ff_more (show 0 < fb_ct F v by omega)] at fin
          rw [if_neg y]
          exact fin
  have l0 := lp (g 24 ^ g 24) 0 h (by omega) (wr_rf _ h)
  rw [show nI (fb_ct (fts (g 33) sn (g 24) m) 0) = (0 : Int32) from rfl, show fI (fts (g 33) sn (g 24) m) 0 = (-4 : Int32) from rfl, show nI 0 = (0 : Int32) from rfl] at l0
  simp only [xs_191_25, xs_191_26, xs_191_27, xs_191_29, xs_191_30, xs_191_31, rf_some, xc_int, xc_ref, xc_ret, xc_long, xw_nil, xw_int, xw_ref, xw_long, tl_some, tl_none, true_and, and_true, Nat.zero_le, Nat.reduceAdd, Nat.reduceMul, Nat.reduceLeDiff, Nat.reduceLT, Nat.reduceEqDiff, Nat.reducePow, Int32.reduceAdd, Int32.reduceMul, Int32.reduceSub, Int32.reduceLT, Int32.reduceLE, Int32.reduceToNatClampNeg, litE, ixU, not_false_eq_true, not_true_eq_false, ↓reduceIte, eq_self, true_or, or_true, false_and, and_false, or_false, false_or, i10, i01, in10, i1n, xbT, xbF, r_lt]
  exact l0
theorem md_hangs {b : Nat} (hg : pg_ok g) (hs : snk (g 24) m sn) (R : RH g sn m h) (hb : b < g 24) : xe_C (d + 5) 192 [.ref 48, .int (nI b)] h (fun r h' => (∃ x, r = some (.int x) ∧ WP (g 24) (fts (g 33) sn (g 24) m) b x) ∧ wr qS h h') := by
  have h24 : g 24 ≤ 6 := hg.1
  have hN := pow_nn h24
  have q1 : (0 ≤ nI b ∧ nI b < nI (g 24)) := ⟨nI_pos' (by omega), in_lt (by omega) hb⟩
  have lp : ∀ k v h1 kk, v + k = g 24 ^ g 24 → wr qS h h1 → kk < 128 → (∀ c, c < 7 → (kk.testBit c = true ↔ ∃ u, u < v ∧ fts (g 33) sn (g 24) m u = true ∧ rv (g 24) u b = c)) → xe_P (d + 4) 192 14 [.ref 48, .int (nI b), .int (nI kk), .int (nI v)] [] h1 (fun r h' => (∃ x, r = some (.int x) ∧ WP (g 24) (fts (g 33) sn (g 24) m) b x) ∧ wr qS h h') := by
    intro k
    induction k with
    | zero =>
      intro v h1 kk hv W hk E
      have hv : v = g 24 ^ g 24 := by omega
      have R1 := RH_w hg R W (fun a j q => by unfold qS at q; omega)
      have rm := fun d Q => md_rigMany (d := d) (Q := Q) hg R1.1 R1.2.1
      rw [hv] at E ⊢
      simp only [xs_192_14, xs_192_15, xs_192_16, xs_192_19, xs_192_67, xs_192_68, R1.1, sT_48, sT_49, sN_49, sA_49, sT_50, sN_50, sA_50, sT_51, sN_51, sA_51, sT_52, sN_52, sA_52, sT_53, sN_53, sA_53, sT_54, sN_54, sA_54, sT_55, sN_55, sA_55, sT_56, sN_56, sA_56, sT_57, sN_57, sA_57, sT_58, sN_58, sA_58, sT_59, sN_59, sA_59, sT_60, sN_60, sA_60, sT_61, sN_61, sA_61, sT_62, sN_62, sA_62, sT_63, sN_63, sA_63, sT_64, sN_64, sA_64, sT_65, sN_65, sA_65, sT_66, sN_66, sA_66, sT_67, sN_67, sA_67, sT_68, sN_68, sB_68, sT_69, sN_69, sA_69, sT_70, sN_70, sA_70, sT_71, sN_71, sA_71, sR_48_0, sR_48_2, sR_48_9, sR_48_10, sR_48_11, sR_48_20, sR_48_21, sR_48_22, sR_48_23, sR_48_24, sR_48_26, sR_48_27, sR_48_28, sR_48_29, sR_48_30, sR_48_31, sR_48_33, sR_48_34, sR_48_35, sR_48_36, sR_48_37, sR_48_38, sR_48_39, rm, le_t, rf_some, xc_int, xc_ref, xc_ret, xc_long, xw_nil, xw_int, xw_ref, xw_long, tl_some, tl_none, true_and, and_true, Nat.zero_le, Nat.reduceAdd, Nat.reduceMul, Nat.reduceLeDiff, Nat.reduceLT, Nat.reduceEqDiff, Nat.reducePow, Int32.reduceAdd, Int32.reduceMul, Int32.reduceSub, Int32.reduceLT, Int32.reduceLE, Int32.reduceToNatClampNeg, litE, ixU, not_false_eq_true, not_true_eq_false, ↓reduceIte, eq_self, true_or, or_true, false_and, and_false, or_false, false_or, i10, i01, in10, i1n, xbT, xbF, r_lt]
      exact ⟨⟨_, rfl, kk, rfl, hk, E⟩, W⟩
    | succ k ih =>
      intro v h1 kk hv W hk E
      have R1 := RH_w hg R W (fun a j q => by unfold qS at q; omega)
      have rm := fun d Q => md_rigMany (d := d) (Q := Q) hg R1.1 R1.2.1
      have hv' : v < g 24 ^ g 24 := by omega
      rw [xs_192_14]
      simp only [xs_192_15, xs_192_16, xs_192_19, xs_192_22, xs_192_23, xs_192_24, R1.1, sT_48, sT_49, sN_49, sA_49, sT_50, sN_50, sA_50, sT_51, sN_51, sA_51, sT_52, sN_52, sA_52, sT_53, sN_53, sA_53, sT_54, sN_54, sA_54, sT_55, sN_55, sA_55, sT_56, sN_56, sA_56, sT_57, sN_57, sA_57, sT_58, sN_58, sA_58, sT_59, sN_59, sA_59, sT_60, sN_60, sA_60, sT_61, sN_61, sA_61, sT_62, sN_62, sA_62, sT_63, sN_63, sA_63, sT_64, sN_64, sA_64, sT_65, sN_65, sA_65, sT_66, sN_66, sA_66, sT_67, sN_67, sA_67, sT_68, sN_68, sB_68, sT_69, sN_69, sA_69, sT_70, sN_70, sA_70, sT_71, sN_71, sA_71, sR_48_0, sR_48_2, sR_48_9, sR_48_10, sR_48_11, sR_48_20, sR_48_21, sR_48_22, sR_48_23, sR_48_24, sR_48_26, sR_48_27, sR_48_28, sR_48_29, sR_48_30, sR_48_31, sR_48_33, sR_48_34, sR_48_35, sR_48_36, sR_48_37, sR_48_38, sR_48_39, rm, lt_f hv' (show g 24 ^ g 24 < 2 ^ 31 by omega), rf_some, xc_int, xc_ref, xc_ret, xc_long, xw_nil, xw_int, xw_ref, xw_long, tl_some, tl_none, true_and, and_true, Nat.zero_le, Nat.reduceAdd, Nat.reduceMul, Nat.reduceLeDiff, Nat.reduceLT, Nat.reduceEqDiff, Nat.reducePow, Int32.reduceAdd, Int32.reduceMul, Int32.reduceSub, Int32.reduceLT, Int32.reduceLE, Int32.reduceToNatClampNeg, litE, ixU, not_false_eq_true, not_true_eq_false, ↓reduceIte, eq_self, true_or, or_true, false_and, and_false, or_false, false_or, i10, i01, in10, i1n, xbT, xbF, r_lt]
      refine xe_C_mono (md_try (d := d + 2) hg hs hv' R1 (K := fun h2 => wr (fun a _ => a = 65) h1 h2 ∧ (∀ c, c < g 24 → xe_I h2 65 c = no4 (rv (g 24) v c)) ∧ RH g sn m h2) (fun h2 w1 w2 w3 => ⟨w1, w2, w3⟩)) ?_
      rintro r h2 ⟨rfl, W2, E2, R2⟩
      simp only [xs_192_27, xs_192_28, R2.1, sT_48, sT_49, sN_49, sA_49, sT_50, sN_50, sA_50, sT_51, sN_51, sA_51, sT_52, sN_52, sA_52, sT_53, sN_53, sA_53, sT_54, sN_54, sA_54, sT_55, sN_55, sA_55, sT_56, sN_56, sA_56, sT_57, sN_57, sA_57, sT_58, sN_58, sA_58, sT_59, sN_59, sA_59, sT_60, sN_60, sA_60, sT_61, sN_61, sA_61, sT_62, sN_62, sA_62, sT_63, sN_63, sA_63, sT_64, sN_64, sA_64, sT_65, sN_65, sA_65, sT_66, sN_66, sA_66, sT_67, sN_67, sA_67, sT_68, sN_68, sB_68, sT_69, sN_69, sA_69, sT_70, sN_70, sA_70, sT_71, sN_71, sA_71, sR_48_0, sR_48_2, sR_48_9, sR_48_10, sR_48_11, sR_48_20, sR_48_21, sR_48_22, sR_48_23, sR_48_24, sR_48_26, sR_48_27, sR_48_28, sR_48_29, sR_48_30, sR_48_31, sR_48_33, sR_48_34, sR_48_35, sR_48_36, sR_48_37, sR_48_38, sR_48_39, rf_some, xc_int, xc_ref, xc_ret, xc_long, xw_nil, xw_int, xw_ref, xw_long, tl_some, tl_none, true_and, and_true, Nat.zero_le, Nat.reduceAdd, Nat.reduceMul, Nat.reduceLeDiff, Nat.reduceLT, Nat.reduceEqDiff, Nat.reducePow, Int32.reduceAdd, Int32.reduceMul, Int32.reduceSub, Int32.reduceLT, Int32.reduceLE, Int32.reduceToNatClampNeg, litE, ixU, not_false_eq_true, not_true_eq_false, ↓reduceIte, eq_self, true_or, or_true, false_and, and_false, or_false, false_or, i10, i01, in10, i1n, xbT, xbF, r_lt]
      refine xe_C_mono (md_fitv (d := d + 1) hg hs R2 E2) ?_
      rintro r h3 ⟨rfl, f', rfl, -, -⟩
      have W3 : wr qS h (mW h2 f') := wr_tr (wr_tr W (wr_sub W2 (fun a j q => Or.inr q))) (wr_sub (mW_wr h2 f') (fun a j q => Or.inl q))
      have H3 : sh (mW h2 f') := by rw [mW_sh]; exact R2.1
      have e65 : xe_I (mW h2 f') 65 b = no4 (rv (g 24) v b) := by rw [mW_o (by decide)]; exact E2 b hb
      generalize hF : fts (g 33) sn (g 24) m = F at *
      by_cases z : F v = true
      · rw [xb_t z]
        have r6 := rv_6 (v := v) h24 hb
        obtain ⟨p1, p2⟩ := p2_i (rv (g 24) v b) (by omega)
        have fin := ih (v + 1) (mW h2 f') (kk ||| 2 ^ rv (g 24) v b) (by omega) W3 (Nat.or_lt_two_pow (n := 7) hk p2) (fun c hc => by
          rw [Nat.testBit_or, Bool.or_eq_true, E c hc, p2_b _ (by omega) c hc]
          constructor
          · rintro (⟨u, u1, u2, u3⟩ | q)
            · exact ⟨u, by omega, u2, u3⟩
            · exact ⟨v, by omega, z, (of_decide_eq_true q).symm⟩
          · rintro ⟨u, u1, u2, u3⟩
            by_cases e : u = v
            · right; rw [← u3, e]; exact decide_eq_true rfl
            · left; exact ⟨u, by omega, u2, u3⟩)
        rw [← fa_or] at fin
        by_cases r66 : rv (g 24) v b = 6
        · rw [r66, show nI (2 ^ 6) = (64 : Int32) from rfl] at fin
          simp only [xs_192_31, xs_192_34, xs_192_35, xs_192_36, xs_192_39, xs_192_40, xs_192_41, xs_192_43, xs_192_46, xs_192_48, xs_192_51, xs_192_52, xs_192_53, xs_192_56, xs_192_57, xs_192_58, xs_192_59, xs_192_60, xs_192_61, xs_192_64, H3, sT_48, sT_49, sN_49, sA_49, sT_50, sN_50, sA_50, sT_51, sN_51, sA_51, sT_52, sN_52, sA_52, sT_53, sN_53, sA_53, sT_54, sN_54, sA_54, sT_55, sN_55, sA_55, sT_56, sN_56, sA_56, sT_57, sN_57, sA_57, sT_58, sN_58, sA_58, sT_59, sN_59, sA_59, sT_60, sN_60, sA_60, sT_61, sN_61, sA_61, sT_62, sN_62, sA_62, sT_63, sN_63, sA_63, sT_64, sN_64, sA_64, sT_65, sN_65, sA_65, sT_66, sN_66, sA_66, sT_67, sN_67, sA_67, sT_68, sN_68, sB_68, sT_69, sN_69, sA_69, sT_70, sN_70, sA_70, sT_71, sN_71, sA_71, sR_48_0, sR_48_2, sR_48_9, sR_48_10, sR_48_11, sR_48_20, sR_48_21, sR_48_22, sR_48_23, sR_48_24, sR_48_26, sR_48_27, sR_48_28, sR_48_29, sR_48_30, sR_48_31, sR_48_33, sR_48_34, sR_48_35, sR_48_36, sR_48_37, sR_48_38, sR_48_39, nIlt0 (show b < 2 ^ 31 by omega), nI_clamp (show b < 2 ^ 31 by omega), show b < 6 by omega, e65, r66, no4_6, e44t, nI_1, rf_some, xc_int, xc_ref, xc_ret, xc_long, xw_nil, xw_int, xw_ref, xw_long, tl_some, tl_none, true_and, and_true, Nat.zero_le, Nat.reduceAdd, Nat.reduceMul, Nat.reduceLeDiff, Nat.reduceLT, Nat.reduceEqDiff, Nat.reducePow, Int32.reduceAdd, Int32.reduceMul, Int32.reduceSub, Int32.reduceLT, Int32.reduceLE, Int32.reduceToNatClampNeg, litE, ixU, not_false_eq_true, not_true_eq_false, ↓reduceIte, eq_self, true_or, or_true, false_and, and_false, or_false, false_or, i10, i01, in10, i1n, xbT, xbF, r_lt]
          exact fin
        · rw [← p1] at fin
          simp only [xs_192_31, xs_192_34, xs_192_35, xs_192_36, xs_192_39, xs_192_40, xs_192_41, xs_192_43, xs_192_46, xs_192_48, xs_192_51, xs_192_52, xs_192_53, xs_192_56, xs_192_57, xs_192_58, xs_192_59, xs_192_60, xs_192_61, xs_192_64, H3, sT_48, sT_49, sN_49, sA_49, sT_50, sN_50, sA_50, sT_51, sN_51, sA_51, sT_52, sN_52, sA_52, sT_53, sN_53, sA_53, sT_54, sN_54, sA_54, sT_55, sN_55, sA_55, sT_56, sN_56, sA_56, sT_57, sN_57, sA_57, sT_58, sN_58, sA_58, sT_59, sN_59, sA_59, sT_60, sN_60, sA_60, sT_61, sN_61, sA_61, sT_62, sN_62, sA_62, sT_63, sN_63, sA_63, sT_64, sN_64, sA_64, sT_65, sN_65, sA_65, sT_66, sN_66, sA_66, sT_67, sN_67, sA_67, sT_68, sN_68, sB_68, sT_69, sN_69, sA_69, sT_70, sN_70, sA_70, sT_71, sN_71, sA_71, sR_48_0, sR_48_2, sR_48_9, sR_48_10, sR_48_11, sR_48_20, sR_48_21, sR_48_22, sR_48_23, sR_48_24, sR_48_26, sR_48_27, sR_48_28, sR_48_29, sR_48_30, sR_48_31, sR_48_33, sR_48_34, sR_48_35, sR_48_36, sR_48_37, sR_48_38, sR_48_39, nIlt0 (show b < 2 ^ 31 by omega), nI_clamp (show b < 2 ^ 31 by omega), show b < 6 by omega, e65, no4_n r66, nI_ne4 (show rv (g 24) v b < 2 ^ 31 by omega), nI_1, rf_some, xc_int, xc_ref, xc_ret, xc_long, xw_nil, xw_int, xw_ref, xw_long, tl_some, tl_none, true_and, and_true, Nat.zero_le, Nat.reduceAdd, Nat.reduceMul, Nat.reduceLeDiff, Nat.reduceLT, Nat.reduceEqDiff, Nat.reducePow, Int32.reduceAdd, Int32.reduceMul, Int32.reduceSub, Int32.reduceLT, Int32.reduceLE, Int32.reduceToNatClampNeg, litE, ixU, not_false_eq_true, not_true_eq_false, ↓reduceIte, eq_self, true_or, or_true, false_and, and_false, or_false, false_or, i10, i01, in10, i1n, xbT, xbF, r_lt]
          exact fin
      · rw [xb_f z]
        have fin := ih (v + 1) (mW h2 f') kk (by omega) W3 hk (fun c hc => by
          rw [E c hc]
          constructor
          · rintro ⟨u, u1, u2, u3⟩
            exact ⟨u, by omega, u2, u3⟩
          · rintro ⟨u, u1, u2, u3⟩
            by_cases e : u = v
            · rw [e] at u2; exact absurd u2 z
            · exact ⟨u, by omega, u2, u3⟩)
        simp only [xs_192_31, xs_192_61, xs_192_64, nI_1, rf_some, xc_int, xc_ref, xc_ret, xc_long, xw_nil, xw_int, xw_ref, xw_long, tl_some, tl_none, true_and, and_true, Nat.zero_le, Nat.reduceAdd, Nat.reduceMul, Nat.reduceLeDiff, Nat.reduceLT, Nat.reduceEqDiff, Nat.reducePow, Int32.reduceAdd, Int32.reduceMul, Int32.reduceSub, Int32.reduceLT, Int32.reduceLE, Int32.reduceToNatClampNeg, litE, ixU, not_false_eq_true, not_true_eq_false, ↓reduceIte, eq_self, true_or, or_true, false_and, and_false, or_false, false_or, i10, i01, in10, i1n, xbT, xbF, r_lt]
        exact fin
  have l0 := lp (g 24 ^ g 24) 0 h 0 (by omega) (wr_rf _ h) (by decide) (fun c _ => by rw [Nat.zero_testBit]; exact ⟨fun q => (by cases q), fun ⟨u, u1, _⟩ => absurd u1 (by omega)⟩)
  rw [show nI 0 = (0 : Int32) from rfl] at l0
  simp only [xs_192, xs_192_0, xs_192_1, xs_192_2, xs_192_5, xs_192_8, xs_192_9, xs_192_10, xs_192_11, xs_192_12, xs_192_13, R.1, sT_48, sT_49, sN_49, sA_49, sT_50, sN_50, sA_50, sT_51, sN_51, sA_51, sT_52, sN_52, sA_52, sT_53, sN_53, sA_53, sT_54, sN_54, sA_54, sT_55, sN_55, sA_55, sT_56, sN_56, sA_56, sT_57, sN_57, sA_57, sT_58, sN_58, sA_58, sT_59, sN_59, sA_59, sT_60, sN_60, sA_60, sT_61, sN_61, sA_61, sT_62, sN_62, sA_62, sT_63, sN_63, sA_63, sT_64, sN_64, sA_64, sT_65, sN_65, sA_65, sT_66, sN_66, sA_66, sT_67, sN_67, sA_67, sT_68, sN_68, sB_68, sT_69, sN_69, sA_69, sT_70, sN_70, sA_70, sT_71, sN_71, sA_71, sR_48_0, sR_48_2, sR_48_9, sR_48_10, sR_48_11, sR_48_20, sR_48_21, sR_48_22, sR_48_23, sR_48_24, sR_48_26, sR_48_27, sR_48_28, sR_48_29, sR_48_30, sR_48_31, sR_48_33, sR_48_34, sR_48_35, sR_48_36, sR_48_37, sR_48_38, sR_48_39, md_isBridge R.1 R.2.1 hg, q1, and_self, rf_some, xc_int, xc_ref, xc_ret, xc_long, xw_nil, xw_int, xw_ref, xw_long, tl_some, tl_none, true_and, and_true, Nat.zero_le, Nat.reduceAdd, Nat.reduceMul, Nat.reduceLeDiff, Nat.reduceLT, Nat.reduceEqDiff, Nat.reducePow, Int32.reduceAdd, Int32.reduceMul, Int32.reduceSub, Int32.reduceLT, Int32.reduceLE, Int32.reduceToNatClampNeg, litE, ixU, not_false_eq_true, not_true_eq_false, ↓reduceIte, eq_self, true_or, or_true, false_and, and_false, or_false, false_or, i10, i01, in10, i1n, xbT, xbF, r_lt]
  exact l0
theorem WP_one {n b : Nat} {D : Nat → Bool} {x y : Int32} (H1 : WP n D b x) (H2 : WP n D b y) : x = y := by
  obtain ⟨k, rfl, k2, k3⟩ := H1
  obtain ⟨k', rfl, k2', k3'⟩ := H2
  congr 1
  refine Nat.eq_of_testBit_eq (fun c => ?_)
  by_cases hc : c < 7
  · have := (k3 c hc).trans (k3' c hc).symm
    cases e1 : k.testBit c <;> cases e2 : k'.testBit c <;> simp_all
  · have h128 : 128 ≤ 2 ^ c := by
      have := Nat.pow_le_pow_right (n := 2) (by omega) (show 7 ≤ c by omega)
      omega
    rw [Nat.testBit_lt_two_pow (by omega), Nat.testBit_lt_two_pow (by omega)]
end RT
