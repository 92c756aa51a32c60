/-! the constructor of the reference -/
section MK4
variable {d : Nat} {L : Nat} {xs : Nat → Int32} {h : xe_H} {Q : Option Value → xe_H → Prop}
theorem mk_119 (B : BK L xs 49 47 h) (I0 : ∀ j, xe_I h 48 j = 0) (K : ∀ h', BK L xs 72 70 h' → KP 48 h h' → (∀ j, ¬ j = 1 → xe_I h' 48 j = 0) → xe_I h' 48 1 = 2 → mWd h' → (∀ j, j < 4 → xe_I h' 69 j = -4) → Q none h') : xe_C (d + 1) 119 [.ref 48] h Q := by
  have n0 := B.1.1
  simp only [xs_119, xs_119_0, xs_119_1, n0, lS72, lE72, rf_some, xc_int, xc_ref, xc_ret, xc_long, xw_nil, xw_int, xw_ref, xw_long, tl_some, tl_none, true_and, and_true, Nat.zero_le, Nat.reduceAdd, Nat.reduceMul, Nat.reduceLeDiff, Nat.reduceLT, Nat.reduceEqDiff, Nat.reducePow, Int32.reduceAdd, Int32.reduceMul, Int32.reduceSub, Int32.reduceLT, Int32.reduceLE, Int32.reduceToNatClampNeg, litE, ixU, not_false_eq_true, not_true_eq_false, ↓reduceIte, eq_self, true_or, or_true, false_and, and_false, or_false, false_or, i10, i01, in10, i1n, xbT, xbF, r_lt]
  refine ma_4 B (fun h0 B E F0 => ?_)
  have A : KP 48 h h0 := KP_le E (by decide)
  clear E
  refine ma_13 B (fun h1 B E z1 => ?_)
  have z48 : ∀ j, ¬ j = 1 → xe_I h1 48 j = 0 := fun j hj => by rw [E 48 j (by omega), F0 j]; exact I0 j
  replace A : KP 48 h h1 := fun a j ha => by rw [E a j (by omega)]; exact A a j ha
  refine ma_18 B (fun h2 B E => ?_)
  replace A : KP 48 h h2 := KP_tr A (KP_le E (by decide))
  replace z48 : ∀ j, ¬ j = 1 → xe_I h2 48 j = 0 := fun j hj => by rw [E 48 j (by decide)]; exact z48 j hj
  replace z1 : xe_I h2 48 1 = 2 := by rw [E 48 1 (by decide)]; exact z1
  clear E
  refine ma_26 B (fun h3 B E => ?_)
  replace A : KP 48 h h3 := KP_tr A (KP_le E (by decide))
  replace z48 : ∀ j, ¬ j = 1 → xe_I h3 48 j = 0 := fun j hj => by rw [E 48 j (by decide)]; exact z48 j hj
  replace z1 : xe_I h3 48 1 = 2 := by rw [E 48 1 (by decide)]; exact z1
  clear E
  refine ma_34 B (fun h4 B E => ?_)
  replace A : KP 48 h h4 := KP_tr A (KP_le E (by decide))
  replace z48 : ∀ j, ¬ j = 1 → xe_I h4 48 j = 0 := fun j hj => by rw [E 48 j (by decide)]; exact z48 j hj
  replace z1 : xe_I h4 48 1 = 2 := by rw [E 48 1 (by decide)]; exact z1
  clear E
  refine ma_42 B (fun h5 B E => ?_)
  replace A : KP 48 h h5 := KP_tr A (KP_le E (by decide))
  replace z48 : ∀ j, ¬ j = 1 → xe_I h5 48 j = 0 := fun j hj => by rw [E 48 j (by decide)]; exact z48 j hj
  replace z1 : xe_I h5 48 1 = 2 := by rw [E 48 1 (by decide)]; exact z1
  clear E
  refine ma_51 B (fun h6 B E Z => ?_)
  replace A : KP 48 h h6 := KP_tr A (KP_le E (by decide))
  replace z48 : ∀ j, ¬ j = 1 → xe_I h6 48 j = 0 := fun j hj => by rw [E 48 j (by decide)]; exact z48 j hj
  replace z1 : xe_I h6 48 1 = 2 := by rw [E 48 1 (by decide)]; exact z1
  have z54 : ∀ j, j < 8 → xe_I h6 54 j = nI (cutL.getD j 0) := Z
  clear E Z
  refine ma_100 B (fun h7 B E Z => ?_)
  replace A : KP 48 h h7 := KP_tr A (KP_le E (by decide))
  replace z48 : ∀ j, ¬ j = 1 → xe_I h7 48 j = 0 := fun j hj => by rw [E 48 j (by decide)]; exact z48 j hj
  replace z1 : xe_I h7 48 1 = 2 := by rw [E 48 1 (by decide)]; exact z1
  replace z54 : ∀ j, j < 8 → xe_I h7 54 j = nI (cutL.getD j 0) := fun j hj => by rw [E 54 j (by decide)]; exact z54 j hj
  have z55 : ∀ j, j < 31 → xe_I h7 55 j = nI (letL.getD j 0) := Z
  clear E Z
  refine ma_288 B (fun h8 B E => ?_)
  replace A : KP 48 h h8 := KP_tr A (KP_le E (by decide))
  replace z48 : ∀ j, ¬ j = 1 → xe_I h8 48 j = 0 := fun j hj => by rw [E 48 j (by decide)]; exact z48 j hj
  replace z1 : xe_I h8 48 1 = 2 := by rw [E 48 1 (by decide)]; exact z1
  replace z54 : ∀ j, j < 8 → xe_I h8 54 j = nI (cutL.getD j 0) := fun j hj => by rw [E 54 j (by decide)]; exact z54 j hj
  replace z55 : ∀ j, j < 31 → xe_I h8 55 j = nI (letL.getD j 0) := fun j hj => by rw [E 55 j (by decide)]; exact z55 j hj
  clear E
  refine ma_296 B (fun h9 B E => ?_)
  replace A : KP 48 h h9 := KP_tr A (KP_le E (by decide))
  replace z48 : ∀ j, ¬ j = 1 → xe_I h9 48 j = 0 := fun j hj => by rw [E 48 j (by decide)]; exact z48 j hj
  replace z1 : xe_I h9 48 1 = 2 := by rw [E 48 1 (by decide)]; exact z1
  replace z54 : ∀ j, j < 8 → xe_I h9 54 j = nI (cutL.getD j 0) := fun j hj => by rw [E 54 j (by decide)]; exact z54 j hj
  replace z55 : ∀ j, j < 31 → xe_I h9 55 j = nI (letL.getD j 0) := fun j hj => by rw [E 55 j (by decide)]; exact z55 j hj
  clear E
  refine ma_304 B (fun h10 B E => ?_)
  replace A : KP 48 h h10 := KP_tr A (KP_le E (by decide))
  replace z48 : ∀ j, ¬ j = 1 → xe_I h10 48 j = 0 := fun j hj => by rw [E 48 j (by decide)]; exact z48 j hj
  replace z1 : xe_I h10 48 1 = 2 := by rw [E 48 1 (by decide)]; exact z1
  replace z54 : ∀ j, j < 8 → xe_I h10 54 j = nI (cutL.getD j 0) := fun j hj => by rw [E 54 j (by decide)]; exact z54 j hj
  replace z55 : ∀ j, j < 31 → xe_I h10 55 j = nI (letL.getD j 0) := fun j hj => by rw [E 55 j (by decide)]; exact z55 j hj
  clear E
  refine ma_312 B (fun h11 B E => ?_)
  replace A : KP 48 h h11 := KP_tr A (KP_le E (by decide))
  replace z48 : ∀ j, ¬ j = 1 → xe_I h11 48 j = 0 := fun j hj => by rw [E 48 j (by decide)]; exact z48 j hj
  replace z1 : xe_I h11 48 1 = 2 := by rw [E 48 1 (by decide)]; exact z1
  replace z54 : ∀ j, j < 8 → xe_I h11 54 j = nI (cutL.getD j 0) := fun j hj => by rw [E 54 j (by decide)]; exact z54 j hj
  replace z55 : ∀ j, j < 31 → xe_I h11 55 j = nI (letL.getD j 0) := fun j hj => by rw [E 55 j (by decide)]; exact z55 j hj
  clear E
  refine ma_321 B (fun h12 B E => ?_)
  replace A : KP 48 h h12 := KP_tr A (KP_le E (by decide))
  replace z48 : ∀ j, ¬ j = 1 → xe_I h12 48 j = 0 := fun j hj => by rw [E 48 j (by decide)]; exact z48 j hj
  replace z1 : xe_I h12 48 1 = 2 := by rw [E 48 1 (by decide)]; exact z1
  replace z54 : ∀ j, j < 8 → xe_I h12 54 j = nI (cutL.getD j 0) := fun j hj => by rw [E 54 j (by decide)]; exact z54 j hj
  replace z55 : ∀ j, j < 31 → xe_I h12 55 j = nI (letL.getD j 0) := fun j hj => by rw [E 55 j (by decide)]; exact z55 j hj
  clear E
  refine ma_329 B (fun h13 B E => ?_)
  replace A : KP 48 h h13 := KP_tr A (KP_le E (by decide))
  replace z48 : ∀ j, ¬ j = 1 → xe_I h13 48 j = 0 := fun j hj => by rw [E 48 j (by decide)]; exact z48 j hj
  replace z1 : xe_I h13 48 1 = 2 := by rw [E 48 1 (by decide)]; exact z1
  replace z54 : ∀ j, j < 8 → xe_I h13 54 j = nI (cutL.getD j 0) := fun j hj => by rw [E 54 j (by decide)]; exact z54 j hj
  replace z55 : ∀ j, j < 31 → xe_I h13 55 j = nI (letL.getD j 0) := fun j hj => by rw [E 55 j (by decide)]; exact z55 j hj
  clear E
  refine ma_337 B (fun h14 B E => ?_)
  replace A : KP 48 h h14 := KP_tr A (KP_le E (by decide))
  replace z48 : ∀ j, ¬ j = 1 → xe_I h14 48 j = 0 := fun j hj => by rw [E 48 j (by decide)]; exact z48 j hj
  replace z1 : xe_I h14 48 1 = 2 := by rw [E 48 1 (by decide)]; exact z1
  replace z54 : ∀ j, j < 8 → xe_I h14 54 j = nI (cutL.getD j 0) := fun j hj => by rw [E 54 j (by decide)]; exact z54 j hj
  replace z55 : ∀ j, j < 31 → xe_I h14 55 j = nI (letL.getD j 0) := fun j hj => by rw [E 55 j (by decide)]; exact z55 j hj
  clear E
  refine ma_345 B (fun h15 B E => ?_)
  replace A : KP 48 h h15 := KP_tr A (KP_le E (by decide))
  replace z48 : ∀ j, ¬ j = 1 → xe_I h15 48 j = 0 := fun j hj => by rw [E 48 j (by decide)]; exact z48 j hj
  replace z1 : xe_I h15 48 1 = 2 := by rw [E 48 1 (by decide)]; exact z1
  replace z54 : ∀ j, j < 8 → xe_I h15 54 j = nI (cutL.getD j 0) := fun j hj => by rw [E 54 j (by decide)]; exact z54 j hj
  replace z55 : ∀ j, j < 31 → xe_I h15 55 j = nI (letL.getD j 0) := fun j hj => by rw [E 55 j (by decide)]; exact z55 j hj
  clear E
  refine ma_353 B (fun h16 B E => ?_)
  replace A : KP 48 h h16 := KP_tr A (KP_le E (by decide))
  replace z48 : ∀ j, ¬ j = 1 → xe_I h16 48 j = 0 := fun j hj => by rw [E 48 j (by decide)]; exact z48 j hj
  replace z1 : xe_I h16 48 1 = 2 := by rw [E 48 1 (by decide)]; exact z1
  replace z54 : ∀ j, j < 8 → xe_I h16 54 j = nI (cutL.getD j 0) := fun j hj => by rw [E 54 j (by decide)]; exact z54 j hj
  replace z55 : ∀ j, j < 31 → xe_I h16 55 j = nI (letL.getD j 0) := fun j hj => by rw [E 55 j (by decide)]; exact z55 j hj
  clear E
  refine ma_361 B (fun h17 B E => ?_)
  replace A : KP 48 h h17 := KP_tr A (KP_le E (by decide))
  replace z48 : ∀ j, ¬ j = 1 → xe_I h17 48 j = 0 := fun j hj => by rw [E 48 j (by decide)]; exact z48 j hj
  replace z1 : xe_I h17 48 1 = 2 := by rw [E 48 1 (by decide)]; exact z1
  replace z54 : ∀ j, j < 8 → xe_I h17 54 j = nI (cutL.getD j 0) := fun j hj => by rw [E 54 j (by decide)]; exact z54 j hj
  replace z55 : ∀ j, j < 31 → xe_I h17 55 j = nI (letL.getD j 0) := fun j hj => by rw [E 55 j (by decide)]; exact z55 j hj
  clear E
  refine ma_369 B (fun h18 B E => ?_)
  replace A : KP 48 h h18 := KP_tr A (KP_le E (by decide))
  replace z48 : ∀ j, ¬ j = 1 → xe_I h18 48 j = 0 := fun j hj => by rw [E 48 j (by decide)]; exact z48 j hj
  replace z1 : xe_I h18 48 1 = 2 := by rw [E 48 1 (by decide)]; exact z1
  replace z54 : ∀ j, j < 8 → xe_I h18 54 j = nI (cutL.getD j 0) := fun j hj => by rw [E 54 j (by decide)]; exact z54 j hj
  replace z55 : ∀ j, j < 31 → xe_I h18 55 j = nI (letL.getD j 0) := fun j hj => by rw [E 55 j (by decide)]; exact z55 j hj
  clear E
  refine ma_377 B (fun h19 B E => ?_)
  replace A : KP 48 h h19 := KP_tr A (KP_le E (by decide))
  replace z48 : ∀ j, ¬ j = 1 → xe_I h19 48 j = 0 := fun j hj => by rw [E 48 j (by decide)]; exact z48 j hj
  replace z1 : xe_I h19 48 1 = 2 := by rw [E 48 1 (by decide)]; exact z1
  replace z54 : ∀ j, j < 8 → xe_I h19 54 j = nI (cutL.getD j 0) := fun j hj => by rw [E 54 j (by decide)]; exact z54 j hj
  replace z55 : ∀ j, j < 31 → xe_I h19 55 j = nI (letL.getD j 0) := fun j hj => by rw [E 55 j (by decide)]; exact z55 j hj
  clear E
  refine ma_385 B (fun h20 B E => ?_)
  replace A : KP 48 h h20 := KP_tr A (KP_le E (by decide))
  replace z48 : ∀ j, ¬ j = 1 → xe_I h20 48 j = 0 := fun j hj => by rw [E 48 j (by decide)]; exact z48 j hj
  replace z1 : xe_I h20 48 1 = 2 := by rw [E 48 1 (by decide)]; exact z1
  replace z54 : ∀ j, j < 8 → xe_I h20 54 j = nI (cutL.getD j 0) := fun j hj => by rw [E 54 j (by decide)]; exact z54 j hj
  replace z55 : ∀ j, j < 31 → xe_I h20 55 j = nI (letL.getD j 0) := fun j hj => by rw [E 55 j (by decide)]; exact z55 j hj
  clear E
  refine ma_392 B (fun h21 B E Z => ?_)
  replace A : KP 48 h h21 := KP_tr A (KP_le E (by decide))
  replace z48 : ∀ j, ¬ j = 1 → xe_I h21 48 j = 0 := fun j hj => by rw [E 48 j (by decide)]; exact z48 j hj
  replace z1 : xe_I h21 48 1 = 2 := by rw [E 48 1 (by decide)]; exact z1
  replace z54 : ∀ j, j < 8 → xe_I h21 54 j = nI (cutL.getD j 0) := fun j hj => by rw [E 54 j (by decide)]; exact z54 j hj
  replace z55 : ∀ j, j < 31 → xe_I h21 55 j = nI (letL.getD j 0) := fun j hj => by rw [E 55 j (by decide)]; exact z55 j hj
  have z69 : ∀ j, j < 4 → xe_I h21 69 j = -4 := Z
  clear E Z
  refine ma_419 B (fun h22 B E => ?_)
  replace A : KP 48 h h22 := KP_tr A (KP_le E (by decide))
  replace z48 : ∀ j, ¬ j = 1 → xe_I h22 48 j = 0 := fun j hj => by rw [E 48 j (by decide)]; exact z48 j hj
  replace z1 : xe_I h22 48 1 = 2 := by rw [E 48 1 (by decide)]; exact z1
  replace z54 : ∀ j, j < 8 → xe_I h22 54 j = nI (cutL.getD j 0) := fun j hj => by rw [E 54 j (by decide)]; exact z54 j hj
  replace z55 : ∀ j, j < 31 → xe_I h22 55 j = nI (letL.getD j 0) := fun j hj => by rw [E 55 j (by decide)]; exact z55 j hj
  replace z69 : ∀ j, j < 4 → xe_I h22 69 j = -4 := fun j hj => by rw [E 69 j (by decide)]; exact z69 j hj
  clear E
  refine ma_426 B (fun h23 B E => ?_)
  replace A : KP 48 h h23 := KP_tr A (KP_le E (by decide))
  replace z48 : ∀ j, ¬ j = 1 → xe_I h23 48 j = 0 := fun j hj => by rw [E 48 j (by decide)]; exact z48 j hj
  replace z1 : xe_I h23 48 1 = 2 := by rw [E 48 1 (by decide)]; exact z1
  replace z54 : ∀ j, j < 8 → xe_I h23 54 j = nI (cutL.getD j 0) := fun j hj => by rw [E 54 j (by decide)]; exact z54 j hj
  replace z55 : ∀ j, j < 31 → xe_I h23 55 j = nI (letL.getD j 0) := fun j hj => by rw [E 55 j (by decide)]; exact z55 j hj
  replace z69 : ∀ j, j < 4 → xe_I h23 69 j = -4 := fun j hj => by rw [E 69 j (by decide)]; exact z69 j hj
  clear E
  simp only [xs_119_435, rf_some, xc_int, xc_ref, xc_ret, xc_long, xw_nil, xw_int, xw_ref, xw_long, tl_some, tl_none, true_and, and_true, Nat.zero_le, Nat.reduceAdd, Nat.reduceMul, Nat.reduceLeDiff, Nat.reduceLT, Nat.reduceEqDiff, Nat.reducePow, Int32.reduceAdd, Int32.reduceMul, Int32.reduceSub, Int32.reduceLT, Int32.reduceLE, Int32.reduceToNatClampNeg, litE, ixU, not_false_eq_true, not_true_eq_false, ↓reduceIte, eq_self, true_or, or_true, false_and, and_false, or_false, false_or, i10, i01, in10, i1n, xbT, xbF, r_lt]
  exact K _ B A z48 z1 ⟨z54, z55⟩ z69
end MK4
