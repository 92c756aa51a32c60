/-! the start of the law -/
section SU
variable {d L : Nat} {xs : Nat → Int32} {Q : Option Value → xe_H → Prop}
theorem law_start (K : ∀ h, Inv L xs s00 (fun _ => 0) h → xe_P (d + 40) 219 18 [.ref xe_S, .ref 0, .ref 48, .int 0] [] h Q) : xe_C (d + 41) 219 [.ref xe_S] (xe_h0 L xs) Q := by
  have B0 : BK L xs 0 0 (xe_h0 L xs) := ⟨⟨rfl, rfl, by omega⟩, fun a ha => absurd ha (Nat.not_lt_zero a), fun a _ => ⟨fun _ => rfl, rfl, rfl⟩, fun e he => absurd he (by rw [List.take_zero]; exact List.not_mem_nil), fun a j ha => absurd ha (Nat.not_lt_zero a)⟩
  generalize xe_h0 L xs = h0 at B0 ⊢
  have n0 := B0.1.1
  have C := BK_new (t := 6) (k := 10) B0 (by decide) (by decide) (by decide)
  simp only [xs_219, xs_219_0, xs_219_3, xs_219_3i, xs_219_4, n0, lS72, lE72, hn_new, rf_some, xc_int, xc_ref, xc_ret, xc_long, xw_nil, xw_int, xw_ref, xw_long, tl_some, tl_none, true_and, and_true, Nat.zero_le, Nat.reduceAdd, Nat.reduceMul, Nat.reduceLeDiff, Nat.reduceLT, Nat.reduceEqDiff, Nat.reducePow, Int32.reduceAdd, Int32.reduceMul, Int32.reduceSub, Int32.reduceLT, Int32.reduceLE, Int32.reduceToNatClampNeg, litE, ixU, not_false_eq_true, not_true_eq_false, ↓reduceIte, eq_self, true_or, or_true, false_and, and_false, or_false, false_or, i10, i01, in10, i1n, xbT, xbF, r_lt]
  refine mk_82 (d := d + 36) C (fun h1 B1 tv l46 => ?_)
  have n1 := B1.1.1
  have C1 := BK_new (t := 7) (k := 41) B1 (by decide) (by decide) (by decide)
  simp only [xs_219_7 (a := 0) (show 0 < xe_S by decide), xs_219_8, xs_219_11, xs_219_11i, xs_219_12, n1, lS72, lE72, hn_new, rf_some, xc_int, xc_ref, xc_ret, xc_long, xw_nil, xw_int, xw_ref, xw_long, tl_some, tl_none, true_and, and_true, Nat.zero_le, Nat.reduceAdd, Nat.reduceMul, Nat.reduceLeDiff, Nat.reduceLT, Nat.reduceEqDiff, Nat.reducePow, Int32.reduceAdd, Int32.reduceMul, Int32.reduceSub, Int32.reduceLT, Int32.reduceLE, Int32.reduceToNatClampNeg, litE, ixU, not_false_eq_true, not_true_eq_false, ↓reduceIte, eq_self, true_or, or_true, false_and, and_false, or_false, false_or, i10, i01, in10, i1n, xbT, xbF, r_lt]
  refine mk_119 (d := d + 39) C1 (fun j => by rw [hI_new, if_pos n1.symm]) (fun h2 B2 A z48 z1 wd z69 => ?_)
  have k := K h2 (Inv_0 B2 (tn_v_c tv (fun a j x1 x2 => by rw [A a j (by omega), hI_new, if_neg (by rw [n1]; omega)])) (fun j hj => by rw [A 46 j (by decide), hI_new, if_neg (by rw [n1]; decide)]; exact l46 j hj) z48 z1 wd z69)
  simp only [xs_219_15 (a := 48) (show 48 < xe_S by decide), xs_219_16, xs_219_17, rf_some, xc_int, xc_ref, xc_ret, xc_long, xw_nil, xw_int, xw_ref, xw_long, tl_some, tl_none, true_and, and_true, Nat.zero_le, Nat.reduceAdd, Nat.reduceMul, Nat.reduceLeDiff, Nat.reduceLT, Nat.reduceEqDiff, Nat.reducePow, Int32.reduceAdd, Int32.reduceMul, Int32.reduceSub, Int32.reduceLT, Int32.reduceLE, Int32.reduceToNatClampNeg, litE, ixU, not_false_eq_true, not_true_eq_false, ↓reduceIte, eq_self, true_or, or_true, false_and, and_false, or_false, false_or, i10, i01, in10, i1n, xbT, xbF, r_lt]
  exact k
end SU
