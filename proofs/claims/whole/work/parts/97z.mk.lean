/-! the constructors: what the heap holds while it is built -/
def clT : List (Nat × Nat) := [(6, 10), (3, 12), (8, 6), (8, 6), (8, 6), (8, 3), (8, 3), (3, 12), (8, 6), (8, 6), (8, 6), (8, 3), (8, 3), (12, 2), (3, 12), (8, 6), (8, 6), (8, 6), (8, 3), (8, 3), (3, 12), (8, 6), (8, 6), (8, 6), (8, 3), (8, 3), (11, 2), (2, 12), (10, 320), (5, 10), (9, 1600), (9, 256), (8, 7), (0, 7), (8, 6), (8, 6), (4, 13), (8, 6), (8, 6), (8, 6), (11, 6), (8, 6), (8, 42), (8, 42), (1, 3), (8, 160), (8, 4), (8, 4), (7, 41), (8, 140), (8, 35), (8, 6), (8, 6), (8, 320), (8, 8), (8, 31), (8, 6), (8, 102400), (8, 102400), (8, 1000), (8, 10), (8, 10), (8, 10), (8, 10), (8, 18), (8, 6), (8, 70), (8, 70), (11, 2), (8, 4), (8, 4), (8, 160)]
def clR : List (Nat × Nat × Nat) := [(1, 7, 2), (1, 8, 3), (1, 9, 4), (1, 10, 5), (1, 11, 6), (0, 0, 1), (7, 7, 8), (7, 8, 9), (7, 9, 10), (7, 10, 11), (7, 11, 12), (0, 1, 7), (0, 2, 13), (14, 7, 15), (14, 8, 16), (14, 9, 17), (14, 10, 18), (14, 11, 19), (13, 0, 14), (20, 7, 21), (20, 8, 22), (20, 9, 23), (20, 10, 24), (20, 11, 25), (13, 1, 20), (0, 3, 26), (27, 0, 28), (0, 4, 27), (29, 0, 30), (29, 1, 31), (29, 3, 32), (0, 5, 29), (33, 1, 34), (33, 2, 35), (0, 6, 33), (36, 2, 37), (36, 3, 38), (36, 4, 39), (36, 5, 40), (36, 6, 41), (36, 7, 42), (36, 8, 43), (0, 7, 36), (44, 0, 45), (44, 1, 46), (44, 2, 47), (0, 8, 44), (48, 0, 49), (48, 2, 50), (48, 9, 51), (48, 10, 52), (48, 11, 53), (48, 20, 54), (48, 21, 55), (48, 22, 56), (48, 23, 57), (48, 24, 58), (48, 26, 59), (48, 27, 60), (48, 28, 61), (48, 29, 62), (48, 30, 63), (48, 31, 64), (48, 33, 65), (48, 34, 66), (48, 35, 67), (48, 36, 68), (48, 37, 69), (48, 38, 70), (48, 39, 71)]
def clS : List Nat := [1, 2, 3, 4, 5, 6, 7, 8, 9, 10, 11, 12, 14, 15, 16, 17, 18, 19, 20, 21, 22, 23, 24, 25, 46, 48, 54, 55, 69]
def clZ : Nat → Nat
  | 0 => 0
  | n + 1 => clZ n + (clT.getD n (0, 0)).2
def BK (L : Nat) (xs : Nat → Int32) (n m : Nat) (h : xe_H) : Prop := (xe_n h = n ∧ xe_z h = clZ n ∧ n ≤ 72) ∧ (∀ a, a < n → xe_T h a = (clT.getD a (0, 0)).1 ∧ xe_N h a = (clT.getD a (0, 0)).2) ∧ sV L xs h ∧ (∀ e ∈ clR.take m, xe_R h e.1 e.2.1 = some e.2.2) ∧ ∀ a j, a < n → a ∉ clS → xe_I h a j = 0
section MK
variable {L : Nat} {xs : Nat → Int32} {n m : Nat} {h : xe_H}
theorem BK_new {t k : Nat} (B : BK L xs n m h) (h1 : n < 72) (h2 : clT.getD n (0, 0) = (t, k)) (h3 : ∀ e ∈ clR.take m, e.1 ≠ n) : BK L xs (n + 1) m (xe_new h t k) := by
  obtain ⟨⟨b1, b2, -⟩, b3, b4, b5, b6⟩ := B
  refine ⟨⟨by rw [hn_new, b1], by rw [hz_new, b2, clZ, h2], by omega⟩, fun a ha => ?_, fun a ha => ⟨fun j => ?_, ?_, ?_⟩, fun e he => ?_, fun a j ha hs => ?_⟩
  · by_cases z : a = n
    · rw [hT_new, hN_new, b1, if_pos z, if_pos z, z, h2]; exact ⟨rfl, rfl⟩
    · rw [hT_new, hN_new, b1, if_neg z, if_neg z]; exact b3 a (by omega)
  · rw [hI_new, b1, if_neg (by unfold xe_S at ha; omega)]; exact (b4 a ha).1 j
  · rw [hT_new, b1, if_neg (by unfold xe_S at ha; omega)]; exact (b4 a ha).2.1
  · rw [hN_new, b1, if_neg (by unfold xe_S at ha; omega)]; exact (b4 a ha).2.2
  · rw [hR_new, b1, if_neg (h3 e he)]; exact b5 e he
  · rw [hI_new, b1]
    by_cases z : a = n
    · rw [if_pos z]
    · rw [if_neg z]; exact b6 a j (by omega) hs
theorem BK_sR {a k b : Nat} (B : BK L xs n m h) (h1 : clR.take (m + 1) = clR.take m ++ [(a, k, b)]) (h2 : ∀ e ∈ clR.take m, ¬ (e.1 = a ∧ e.2.1 = k)) : BK L xs n (m + 1) (xe_sR h a k (some b)) := by
  obtain ⟨b1, b3, b4, b5, b6⟩ := B
  refine ⟨b1, b3, b4, fun e he => ?_, b6⟩
  rw [h1, List.mem_append] at he
  rcases he with he | he
  · rw [hR_sR, if_neg (h2 e he)]; exact b5 e he
  · rw [List.mem_singleton] at he
    rw [he, hR_sR, if_pos ⟨rfl, rfl⟩]
theorem BK_sI {a k : Nat} {v : Int32} (B : BK L xs n m h) (h1 : a ∈ clS ∨ v = 0) (h2 : a < 72) : BK L xs n m (xe_sI h a k v) := by
  obtain ⟨b1, b3, b4, b5, b6⟩ := B
  refine ⟨b1, b3, fun c hc => ⟨fun j => ?_, (b4 c hc).2⟩, b5, fun c j hc hs => ?_⟩
  · rw [hI_sI, if_neg (by unfold xe_S at hc; omega)]; exact (b4 c hc).1 j
  · rw [hI_sI]
    by_cases z : c = a ∧ j = k
    · rw [if_pos z]
      rcases h1 with y | y
      · exact absurd (by rw [z.1]; exact y) hs
      · exact y
    · rw [if_neg z]; exact b6 c j hc hs
theorem BK_aI {a : Nat} {F : Nat → Int32} (B : BK L xs n m h) (h1 : a ∈ clS) (h2 : a < 72) : BK L xs n m (xe_aI h a F) := by
  obtain ⟨b1, b3, b4, b5, b6⟩ := B
  refine ⟨b1, b3, fun c hc => ⟨fun j => ?_, (b4 c hc).2⟩, b5, fun c j hc hs => ?_⟩
  · rw [hI_aI, if_neg (by unfold xe_S at hc; omega)]; exact (b4 c hc).1 j
  · rw [hI_aI, if_neg (fun z => hs (by rw [z]; exact h1))]; exact b6 c j hc hs
theorem BK_ob {a t : Nat} (B : BK L xs n m h) (h1 : a < n) (h2 : (clT.getD a (0, 0)).1 = t) : xe_ob h a t := ⟨by rw [B.1.1]; exact h1, by rw [(B.2.1 a h1).1]; exact h2⟩
theorem BK_N {a k : Nat} (B : BK L xs n m h) (h1 : a < n) (h2 : (clT.getD a (0, 0)).2 = k) : xe_N h a = k := by rw [(B.2.1 a h1).2]; exact h2
theorem BK_R {a k b : Nat} (B : BK L xs n m h) (h1 : (a, k, b) ∈ clR.take m) : xe_R h a k = some b := B.2.2.2.1 _ h1
/-- the ints of the cells below k stay -/
def KP (k : Nat) (h h' : xe_H) : Prop := ∀ a j, a < k → xe_I h' a j = xe_I h a j
theorem KP_rf (k : Nat) (h : xe_H) : KP k h h := fun _ _ _ => rfl
theorem KP_tr {k : Nat} {h h' h'' : xe_H} (A : KP k h h') (B : KP k h' h'') : KP k h h'' := fun a j z => (B a j z).trans (A a j z)
theorem KP_le {k k' : Nat} {h h' : xe_H} (A : KP k h h') (z : k' ≤ k) : KP k' h h' := fun a j y => A a j (by omega)
theorem KP_new {k t s : Nat} {h h' : xe_H} (A : KP k h h') (z : k ≤ xe_n h') : KP k h (xe_new h' t s) := fun a j y => by rw [hI_new, if_neg (by omega)]; exact A a j y
theorem KP_sR {k a i : Nat} {r : Option Nat} {h h' : xe_H} (A : KP k h h') : KP k h (xe_sR h' a i r) := A
theorem KP_sI {k a i : Nat} {v : Int32} {h h' : xe_H} (A : KP k h h') (z : k ≤ a) : KP k h (xe_sI h' a i v) := fun c j y => by rw [hI_sI, if_neg (by omega)]; exact A c j y
theorem KP_aI {k a : Nat} {F : Nat → Int32} {h h' : xe_H} (A : KP k h h') (z : k ≤ a) : KP k h (xe_aI h' a F) := fun c j y => by rw [hI_aI, if_neg (by omega)]; exact A c j y
theorem lS72 {k : Nat} (h : k < 100) : (k < xe_S) = True := eq_true (by unfold xe_S; omega)
theorem lE72 {k : Nat} (h : k < 100) : (k ≤ xe_S) = True := eq_true (by unfold xe_S; omega)
end MK
section MK1
variable {d : Nat} {L : Nat} {xs : Nat → Int32} {h : xe_H} {Q : Option Value → xe_H → Prop}
theorem mk_clear {o : Nat} (o3 : xe_ob h o 3) (r9 : xe_R h o 9 = some (o + 3)) (o8 : xe_ob h (o + 3) 8) (n6 : xe_N h (o + 3) = 6) (K : ∀ h', ((∀ n m, o ∈ clS → o + 3 ∈ clS → o < 72 → o + 3 < 72 → BK L xs n m h → BK L xs n m h') ∧ (∀ k, k ≤ o → KP k h h')) → tn_v h' o pg0 → Q none h') : xe_C (d + 2) 38 [.ref o] h Q := by
  obtain ⟨hb, h24, h31, h32, h33, h34, h35, -⟩ := pg0_v
  have e3 : ¬ (o + 3 = o) := by omega
  generalize hh1 : xe_sI (xe_sI (xe_sI (xe_sI (xe_sI (xe_sI (xe_sI h o 0 2) o 1 0) o 2 0) o 3 0) o 4 2) o 5 0) o 6 0 = h1
  have fa := fun d Q => j_fillA (d := d) (h := h1) (Q := Q) (a := o + 3) (N := 6) 6 (by rw [← hh1]; exact o8) (by rw [← hh1]; exact n6) (by decide)
  have k := K (xe_aI h1 (o + 3) (fl (xe_I h1 (o + 3)) 0 6 6)) ⟨fun n m z1 z2 z3 z4 B => BK_aI (by rw [← hh1]; exact BK_sI (BK_sI (BK_sI (BK_sI (BK_sI (BK_sI (BK_sI B (Or.inl z1) z3) (Or.inl z1) z3) (Or.inl z1) z3) (Or.inl z1) z3) (Or.inl z1) z3) (Or.inl z1) z3) (Or.inl z1) z3) z2 z4, fun k hk => KP_aI (by rw [← hh1]; exact KP_sI (KP_sI (KP_sI (KP_sI (KP_sI (KP_sI (KP_sI (KP_rf _ _) hk) hk) hk) hk) hk) hk) hk) (by omega)⟩ (by
    refine ⟨⟨?_, ?_, ?_, ?_, ?_, ?_, ?_⟩, fun b hb' => by omega, fun b hb' => ?_, fun p hp => by omega⟩
    · rw [hI_aI, if_neg (by omega), ← hh1, h35]; simp only [hI_sI, rf_some, xc_int, xc_ref, xc_ret, xc_long, xw_nil, xw_int, xw_ref, xw_long, tl_some, tl_none, true_and, and_true, Nat.zero_le, Nat.reduceAdd, Nat.reduceMul, Nat.reduceLeDiff, Nat.reduceLT, Nat.reduceEqDiff, Nat.reducePow, Int32.reduceAdd, Int32.reduceMul, Int32.reduceSub, Int32.reduceLT, Int32.reduceLE, Int32.reduceToNatClampNeg, litE, ixU, not_false_eq_true, not_true_eq_false, ↓reduceIte, eq_self, true_or, or_true, false_and, and_false, or_false, false_or, i10, i01, in10, i1n, xbT, xbF, r_lt]; rfl
    · rw [hI_aI, if_neg (by omega), ← hh1, h24]; simp only [hI_sI, rf_some, xc_int, xc_ref, xc_ret, xc_long, xw_nil, xw_int, xw_ref, xw_long, tl_some, tl_none, true_and, and_true, Nat.zero_le, Nat.reduceAdd, Nat.reduceMul, Nat.reduceLeDiff, Nat.reduceLT, Nat.reduceEqDiff, Nat.reducePow, Int32.reduceAdd, Int32.reduceMul, Int32.reduceSub, Int32.reduceLT, Int32.reduceLE, Int32.reduceToNatClampNeg, litE, ixU, not_false_eq_true, not_true_eq_false, ↓reduceIte, eq_self, true_or, or_true, false_and, and_false, or_false, false_or, i10, i01, in10, i1n, xbT, xbF, r_lt]; rfl
    · rw [hI_aI, if_neg (by omega), ← hh1, h31]; simp only [hI_sI, rf_some, xc_int, xc_ref, xc_ret, xc_long, xw_nil, xw_int, xw_ref, xw_long, tl_some, tl_none, true_and, and_true, Nat.zero_le, Nat.reduceAdd, Nat.reduceMul, Nat.reduceLeDiff, Nat.reduceLT, Nat.reduceEqDiff, Nat.reducePow, Int32.reduceAdd, Int32.reduceMul, Int32.reduceSub, Int32.reduceLT, Int32.reduceLE, Int32.reduceToNatClampNeg, litE, ixU, not_false_eq_true, not_true_eq_false, ↓reduceIte, eq_self, true_or, or_true, false_and, and_false, or_false, false_or, i10, i01, in10, i1n, xbT, xbF, r_lt]; rfl
    · rw [hI_aI, if_neg (by omega), ← hh1, h32]; simp only [hI_sI, rf_some, xc_int, xc_ref, xc_ret, xc_long, xw_nil, xw_int, xw_ref, xw_long, tl_some, tl_none, true_and, and_true, Nat.zero_le, Nat.reduceAdd, Nat.reduceMul, Nat.reduceLeDiff, Nat.reduceLT, Nat.reduceEqDiff, Nat.reducePow, Int32.reduceAdd, Int32.reduceMul, Int32.reduceSub, Int32.reduceLT, Int32.reduceLE, Int32.reduceToNatClampNeg, litE, ixU, not_false_eq_true, not_true_eq_false, ↓reduceIte, eq_self, true_or, or_true, false_and, and_false, or_false, false_or, i10, i01, in10, i1n, xbT, xbF, r_lt]; rfl
    · rw [hI_aI, if_neg (by omega), ← hh1, h33]; simp only [hI_sI, rf_some, xc_int, xc_ref, xc_ret, xc_long, xw_nil, xw_int, xw_ref, xw_long, tl_some, tl_none, true_and, and_true, Nat.zero_le, Nat.reduceAdd, Nat.reduceMul, Nat.reduceLeDiff, Nat.reduceLT, Nat.reduceEqDiff, Nat.reducePow, Int32.reduceAdd, Int32.reduceMul, Int32.reduceSub, Int32.reduceLT, Int32.reduceLE, Int32.reduceToNatClampNeg, litE, ixU, not_false_eq_true, not_true_eq_false, ↓reduceIte, eq_self, true_or, or_true, false_and, and_false, or_false, false_or, i10, i01, in10, i1n, xbT, xbF, r_lt]; rfl
    · rw [hI_aI, if_neg (by omega), ← hh1, h34]; simp only [hI_sI, rf_some, xc_int, xc_ref, xc_ret, xc_long, xw_nil, xw_int, xw_ref, xw_long, tl_some, tl_none, true_and, and_true, Nat.zero_le, Nat.reduceAdd, Nat.reduceMul, Nat.reduceLeDiff, Nat.reduceLT, Nat.reduceEqDiff, Nat.reducePow, Int32.reduceAdd, Int32.reduceMul, Int32.reduceSub, Int32.reduceLT, Int32.reduceLE, Int32.reduceToNatClampNeg, litE, ixU, not_false_eq_true, not_true_eq_false, ↓reduceIte, eq_self, true_or, or_true, false_and, and_false, or_false, false_or, i10, i01, in10, i1n, xbT, xbF, r_lt]; rfl
    · rw [hI_aI, if_neg (by omega), ← hh1, show rp (gr pg0) = 0 by decide +kernel]; simp only [hI_sI, rf_some, xc_int, xc_ref, xc_ret, xc_long, xw_nil, xw_int, xw_ref, xw_long, tl_some, tl_none, true_and, and_true, Nat.zero_le, Nat.reduceAdd, Nat.reduceMul, Nat.reduceLeDiff, Nat.reduceLT, Nat.reduceEqDiff, Nat.reducePow, Int32.reduceAdd, Int32.reduceMul, Int32.reduceSub, Int32.reduceLT, Int32.reduceLE, Int32.reduceToNatClampNeg, litE, ixU, not_false_eq_true, not_true_eq_false, ↓reduceIte, eq_self, true_or, or_true, false_and, and_false, or_false, false_or, i10, i01, in10, i1n, xbT, xbF, r_lt]; rfl
    · rw [hI_aI, if_pos rfl, (hb b hb').1]; unfold fl; rw [if_pos (by omega)]; rfl)
  have r9' : xe_R h1 o 9 = some (o + 3) := by rw [← hh1]; exact r9
  have o3' : xe_ob h1 o 3 := by rw [← hh1]; exact o3
  simp only [xs_38, xs_38_0, xs_38_1, xs_38_2, xs_38_5, xs_38_6, xs_38_7, xs_38_10, xs_38_11, xs_38_12, xs_38_15, xs_38_16, xs_38_17, xs_38_20, xs_38_21, xs_38_22, xs_38_25, xs_38_26, xs_38_27, xs_38_30, xs_38_31, xs_38_32, xs_38_35, xs_38_36, xs_38_39, xs_38_41, xs_38_44, o3, hh1, o3', r9', fa, rf_some, xc_int, xc_ref, xc_ret, xc_long, xw_nil, xw_int, xw_ref, xw_long, tl_some, tl_none, true_and, and_true, Nat.zero_le, Nat.reduceAdd, Nat.reduceMul, Nat.reduceLeDiff, Nat.reduceLT, Nat.reduceEqDiff, Nat.reducePow, Int32.reduceAdd, Int32.reduceMul, Int32.reduceSub, Int32.reduceLT, Int32.reduceLE, Int32.reduceToNatClampNeg, litE, ixU, not_false_eq_true, not_true_eq_false, ↓reduceIte, eq_self, true_or, or_true, false_and, and_false, or_false, false_or, i10, i01, in10, i1n, xbT, xbF, r_lt, hI_sI, hL_sI, hR_sI, hT_sI, hN_sI, hn_sI, ho_sI, hia_sI, hba_sI, hal_sI, hix_sI, hI_aI, hL_aI, hR_aI, hT_aI, hN_aI, hn_aI, ho_aI, hia_aI, hal_aI, hix_aI, sh_sI, sh_aI, sh_sL, sh_aL]
  exact k
theorem mk_37_1 (B0 : BK L xs 2 0 h) (K : ∀ h', BK L xs 7 5 h' → KP 1 h h' → tn_v h' 1 pg0 → Q none h') : xe_C (d + 3) 37 [.ref 1] h Q := by
  have A0 : KP 1 h h := KP_rf _ _
  have n0 := B0.1.1
  simp only [xs_37, xs_37_0, xs_37_1, n0, lS72, lE72, rf_some, xc_int, xc_ref, xc_ret, xc_long, xw_nil, xw_int, xw_ref, xw_long, tl_some, tl_none, true_and, and_true, Nat.zero_le, Nat.reduceAdd, Nat.reduceMul, Nat.reduceLeDiff, Nat.reduceLT, Nat.reduceEqDiff, Nat.reducePow, Int32.reduceAdd, Int32.reduceMul, Int32.reduceSub, Int32.reduceLT, Int32.reduceLE, Int32.reduceToNatClampNeg, litE, ixU, not_false_eq_true, not_true_eq_false, ↓reduceIte, eq_self, true_or, or_true, false_and, and_false, or_false, false_or, i10, i01, in10, i1n, xbT, xbF, r_lt]
  have B := B0
  have A := A0
  have n0 := B.1.1
  have C := BK_new (t := 8) (k := 6) B (by decide) (by decide) (by decide)
  have o0 := BK_ob (a := 1) (t := 3) C (by decide) (by decide)
  replace A : KP 1 h (xe_sR (xe_new h 8 6) 1 7 (some 2)) := KP_sR (KP_new A (by rw [n0]; decide))
  replace B : BK L xs 3 1 (xe_sR (xe_new h 8 6) 1 7 (some 2)) := BK_sR C (by decide) (by decide)
  clear C
  simp only [xs_37_4, xs_37_5, xs_37_7, xs_37_9, n0, o0, lS72, lE72, rf_some, xc_int, xc_ref, xc_ret, xc_long, xw_nil, xw_int, xw_ref, xw_long, tl_some, tl_none, true_and, and_true, Nat.zero_le, Nat.reduceAdd, Nat.reduceMul, Nat.reduceLeDiff, Nat.reduceLT, Nat.reduceEqDiff, Nat.reducePow, Int32.reduceAdd, Int32.reduceMul, Int32.reduceSub, Int32.reduceLT, Int32.reduceLE, Int32.reduceToNatClampNeg, litE, ixU, not_false_eq_true, not_true_eq_false, ↓reduceIte, eq_self, true_or, or_true, false_and, and_false, or_false, false_or, i10, i01, in10, i1n, xbT, xbF, r_lt]
  generalize xe_sR (xe_new h 8 6) 1 7 (some 2) = h1 at A B ⊢
  clear o0
  have n1 := B.1.1
  have C := BK_new (t := 8) (k := 6) B (by decide) (by decide) (by decide)
  have o1 := BK_ob (a := 1) (t := 3) C (by decide) (by decide)
  replace A : KP 1 h (xe_sR (xe_new h1 8 6) 1 8 (some 3)) := KP_sR (KP_new A (by rw [n1]; decide))
  replace B : BK L xs 4 2 (xe_sR (xe_new h1 8 6) 1 8 (some 3)) := BK_sR C (by decide) (by decide)
  clear C
  simp only [xs_37_12, xs_37_13, xs_37_15, xs_37_17, n1, o1, lS72, lE72, rf_some, xc_int, xc_ref, xc_ret, xc_long, xw_nil, xw_int, xw_ref, xw_long, tl_some, tl_none, true_and, and_true, Nat.zero_le, Nat.reduceAdd, Nat.reduceMul, Nat.reduceLeDiff, Nat.reduceLT, Nat.reduceEqDiff, Nat.reducePow, Int32.reduceAdd, Int32.reduceMul, Int32.reduceSub, Int32.reduceLT, Int32.reduceLE, Int32.reduceToNatClampNeg, litE, ixU, not_false_eq_true, not_true_eq_false, ↓reduceIte, eq_self, true_or, or_true, false_and, and_false, or_false, false_or, i10, i01, in10, i1n, xbT, xbF, r_lt]
  generalize xe_sR (xe_new h1 8 6) 1 8 (some 3) = h2 at A B ⊢
  clear o1
  have n2 := B.1.1
  have C := BK_new (t := 8) (k := 6) B (by decide) (by decide) (by decide)
  have o2 := BK_ob (a := 1) (t := 3) C (by decide) (by decide)
  replace A : KP 1 h (xe_sR (xe_new h2 8 6) 1 9 (some 4)) := KP_sR (KP_new A (by rw [n2]; decide))
  replace B : BK L xs 5 3 (xe_sR (xe_new h2 8 6) 1 9 (some 4)) := BK_sR C (by decide) (by decide)
  clear C
  simp only [xs_37_20, xs_37_21, xs_37_23, xs_37_25, n2, o2, lS72, lE72, rf_some, xc_int, xc_ref, xc_ret, xc_long, xw_nil, xw_int, xw_ref, xw_long, tl_some, tl_none, true_and, and_true, Nat.zero_le, Nat.reduceAdd, Nat.reduceMul, Nat.reduceLeDiff, Nat.reduceLT, Nat.reduceEqDiff, Nat.reducePow, Int32.reduceAdd, Int32.reduceMul, Int32.reduceSub, Int32.reduceLT, Int32.reduceLE, Int32.reduceToNatClampNeg, litE, ixU, not_false_eq_true, not_true_eq_false, ↓reduceIte, eq_self, true_or, or_true, false_and, and_false, or_false, false_or, i10, i01, in10, i1n, xbT, xbF, r_lt]
  generalize xe_sR (xe_new h2 8 6) 1 9 (some 4) = h3 at A B ⊢
  clear o2
  have n3 := B.1.1
  have C := BK_new (t := 8) (k := 3) B (by decide) (by decide) (by decide)
  have o3 := BK_ob (a := 1) (t := 3) C (by decide) (by decide)
  replace A : KP 1 h (xe_sR (xe_new h3 8 3) 1 10 (some 5)) := KP_sR (KP_new A (by rw [n3]; decide))
  replace B : BK L xs 6 4 (xe_sR (xe_new h3 8 3) 1 10 (some 5)) := BK_sR C (by decide) (by decide)
  clear C
  simp only [xs_37_28, xs_37_29, xs_37_30, xs_37_32, n3, o3, lS72, lE72, rf_some, xc_int, xc_ref, xc_ret, xc_long, xw_nil, xw_int, xw_ref, xw_long, tl_some, tl_none, true_and, and_true, Nat.zero_le, Nat.reduceAdd, Nat.reduceMul, Nat.reduceLeDiff, Nat.reduceLT, Nat.reduceEqDiff, Nat.reducePow, Int32.reduceAdd, Int32.reduceMul, Int32.reduceSub, Int32.reduceLT, Int32.reduceLE, Int32.reduceToNatClampNeg, litE, ixU, not_false_eq_true, not_true_eq_false, ↓reduceIte, eq_self, true_or, or_true, false_and, and_false, or_false, false_or, i10, i01, in10, i1n, xbT, xbF, r_lt]
  generalize xe_sR (xe_new h3 8 3) 1 10 (some 5) = h4 at A B ⊢
  clear o3
  have n4 := B.1.1
  have C := BK_new (t := 8) (k := 3) B (by decide) (by decide) (by decide)
  have o4 := BK_ob (a := 1) (t := 3) C (by decide) (by decide)
  replace A : KP 1 h (xe_sR (xe_new h4 8 3) 1 11 (some 6)) := KP_sR (KP_new A (by rw [n4]; decide))
  replace B : BK L xs 7 5 (xe_sR (xe_new h4 8 3) 1 11 (some 6)) := BK_sR C (by decide) (by decide)
  clear C
  simp only [xs_37_35, xs_37_36, xs_37_37, xs_37_39, n4, o4, lS72, lE72, rf_some, xc_int, xc_ref, xc_ret, xc_long, xw_nil, xw_int, xw_ref, xw_long, tl_some, tl_none, true_and, and_true, Nat.zero_le, Nat.reduceAdd, Nat.reduceMul, Nat.reduceLeDiff, Nat.reduceLT, Nat.reduceEqDiff, Nat.reducePow, Int32.reduceAdd, Int32.reduceMul, Int32.reduceSub, Int32.reduceLT, Int32.reduceLE, Int32.reduceToNatClampNeg, litE, ixU, not_false_eq_true, not_true_eq_false, ↓reduceIte, eq_self, true_or, or_true, false_and, and_false, or_false, false_or, i10, i01, in10, i1n, xbT, xbF, r_lt]
  generalize xe_sR (xe_new h4 8 3) 1 11 (some 6) = h5 at A B ⊢
  clear o4
  have ob := BK_ob (a := 1) (t := 3) B (by decide) (by decide)
  simp only [xs_37_42, xs_37_43, ob, rf_some, xc_int, xc_ref, xc_ret, xc_long, xw_nil, xw_int, xw_ref, xw_long, tl_some, tl_none, true_and, and_true, Nat.zero_le, Nat.reduceAdd, Nat.reduceMul, Nat.reduceLeDiff, Nat.reduceLT, Nat.reduceEqDiff, Nat.reducePow, Int32.reduceAdd, Int32.reduceMul, Int32.reduceSub, Int32.reduceLT, Int32.reduceLE, Int32.reduceToNatClampNeg, litE, ixU, not_false_eq_true, not_true_eq_false, ↓reduceIte, eq_self, true_or, or_true, false_and, and_false, or_false, false_or, i10, i01, in10, i1n, xbT, xbF, r_lt]
  refine mk_clear (d := d) (L := L) (xs := xs) (o := 1) ob (BK_R B (by decide)) (BK_ob B (by decide) (by decide)) (BK_N B (by decide) (by decide)) (fun h9 S tv => ?_)
  have k := K h9 (S.1 _ _ (by decide) (by decide) (by decide) (by decide) B) (KP_tr A (S.2 1 (by decide))) tv
  simp only [xs_37_46, rf_some, xc_int, xc_ref, xc_ret, xc_long, xw_nil, xw_int, xw_ref, xw_long, tl_some, tl_none, true_and, and_true, Nat.zero_le, Nat.reduceAdd, Nat.reduceMul, Nat.reduceLeDiff, Nat.reduceLT, Nat.reduceEqDiff, Nat.reducePow, Int32.reduceAdd, Int32.reduceMul, Int32.reduceSub, Int32.reduceLT, Int32.reduceLE, Int32.reduceToNatClampNeg, litE, ixU, not_false_eq_true, not_true_eq_false, ↓reduceIte, eq_self, true_or, or_true, false_and, and_false, or_false, false_or, i10, i01, in10, i1n, xbT, xbF, r_lt]
  exact k
theorem mk_37_7 (B0 : BK L xs 8 6 h) (K : ∀ h', BK L xs 13 11 h' → KP 7 h h' → tn_v h' 7 pg0 → Q none h') : xe_C (d + 3) 37 [.ref 7] h Q := by
  have A0 : KP 7 h h := KP_rf _ _
  have n0 := B0.1.1
  simp only [xs_37, xs_37_0, xs_37_1, n0, lS72, lE72, rf_some, xc_int, xc_ref, xc_ret, xc_long, xw_nil, xw_int, xw_ref, xw_long, tl_some, tl_none, true_and, and_true, Nat.zero_le, Nat.reduceAdd, Nat.reduceMul, Nat.reduceLeDiff, Nat.reduceLT, Nat.reduceEqDiff, Nat.reducePow, Int32.reduceAdd, Int32.reduceMul, Int32.reduceSub, Int32.reduceLT, Int32.reduceLE, Int32.reduceToNatClampNeg, litE, ixU, not_false_eq_true, not_true_eq_false, ↓reduceIte, eq_self, true_or, or_true, false_and, and_false, or_false, false_or, i10, i01, in10, i1n, xbT, xbF, r_lt]
  have B := B0
  have A := A0
  have n0 := B.1.1
  have C := BK_new (t := 8) (k := 6) B (by decide) (by decide) (by decide)
  have o0 := BK_ob (a := 7) (t := 3) C (by decide) (by decide)
  replace A : KP 7 h (xe_sR (xe_new h 8 6) 7 7 (some 8)) := KP_sR (KP_new A (by rw [n0]; decide))
  replace B : BK L xs 9 7 (xe_sR (xe_new h 8 6) 7 7 (some 8)) := BK_sR C (by decide) (by decide)
  clear C
  simp only [xs_37_4, xs_37_5, xs_37_7, xs_37_9, n0, o0, lS72, lE72, rf_some, xc_int, xc_ref, xc_ret, xc_long, xw_nil, xw_int, xw_ref, xw_long, tl_some, tl_none, true_and, and_true, Nat.zero_le, Nat.reduceAdd, Nat.reduceMul, Nat.reduceLeDiff, Nat.reduceLT, Nat.reduceEqDiff, Nat.reducePow, Int32.reduceAdd, Int32.reduceMul, Int32.reduceSub, Int32.reduceLT, Int32.reduceLE, Int32.reduceToNatClampNeg, litE, ixU, not_false_eq_true, not_true_eq_false, ↓reduceIte, eq_self, true_or, or_true, false_and, and_false, or_false, false_or, i10, i01, in10, i1n, xbT, xbF, r_lt]
  generalize xe_sR (xe_new h 8 6) 7 7 (some 8) = h1 at A B ⊢
  clear o0
  have n1 := B.1.1
  have C := BK_new (t := 8) (k := 6) B (by decide) (by decide) (by decide)
  have o1 := BK_ob (a := 7) (t := 3) C (by decide) (by decide)
  replace A : KP 7 h (xe_sR (xe_new h1 8 6) 7 8 (some 9)) := KP_sR (KP_new A (by rw [n1]; decide))
  replace B : BK L xs 10 8 (xe_sR (xe_new h1 8 6) 7 8 (some 9)) := BK_sR C (by decide) (by decide)
  clear C
  simp only [xs_37_12, xs_37_13, xs_37_15, xs_37_17, n1, o1, lS72, lE72, rf_some, xc_int, xc_ref, xc_ret, xc_long, xw_nil, xw_int, xw_ref, xw_long, tl_some, tl_none, true_and, and_true, Nat.zero_le, Nat.reduceAdd, Nat.reduceMul, Nat.reduceLeDiff, Nat.reduceLT, Nat.reduceEqDiff, Nat.reducePow, Int32.reduceAdd, Int32.reduceMul, Int32.reduceSub, Int32.reduceLT, Int32.reduceLE, Int32.reduceToNatClampNeg, litE, ixU, not_false_eq_true, not_true_eq_false, ↓reduceIte, eq_self, true_or, or_true, false_and, and_false, or_false, false_or, i10, i01, in10, i1n, xbT, xbF, r_lt]
  generalize xe_sR (xe_new h1 8 6) 7 8 (some 9) = h2 at A B ⊢
  clear o1
  have n2 := B.1.1
  have C := BK_new (t := 8) (k := 6) B (by decide) (by decide) (by decide)
  have o2 := BK_ob (a := 7) (t := 3) C (by decide) (by decide)
  replace A : KP 7 h (xe_sR (xe_new h2 8 6) 7 9 (some 10)) := KP_sR (KP_new A (by rw [n2]; decide))
  replace B : BK L xs 11 9 (xe_sR (xe_new h2 8 6) 7 9 (some 10)) := BK_sR C (by decide) (by decide)
  clear C
  simp only [xs_37_20, xs_37_21, xs_37_23, xs_37_25, n2, o2, lS72, lE72, rf_some, xc_int, xc_ref, xc_ret, xc_long, xw_nil, xw_int, xw_ref, xw_long, tl_some, tl_none, true_and, and_true, Nat.zero_le, Nat.reduceAdd, Nat.reduceMul, Nat.reduceLeDiff, Nat.reduceLT, Nat.reduceEqDiff, Nat.reducePow, Int32.reduceAdd, Int32.reduceMul, Int32.reduceSub, Int32.reduceLT, Int32.reduceLE, Int32.reduceToNatClampNeg, litE, ixU, not_false_eq_true, not_true_eq_false, ↓reduceIte, eq_self, true_or, or_true, false_and, and_false, or_false, false_or, i10, i01, in10, i1n, xbT, xbF, r_lt]
  generalize xe_sR (xe_new h2 8 6) 7 9 (some 10) = h3 at A B ⊢
  clear o2
  have n3 := B.1.1
  have C := BK_new (t := 8) (k := 3) B (by decide) (by decide) (by decide)
  have o3 := BK_ob (a := 7) (t := 3) C (by decide) (by decide)
  replace A : KP 7 h (xe_sR (xe_new h3 8 3) 7 10 (some 11)) := KP_sR (KP_new A (by rw [n3]; decide))
  replace B : BK L xs 12 10 (xe_sR (xe_new h3 8 3) 7 10 (some 11)) := BK_sR C (by decide) (by decide)
  clear C
  simp only [xs_37_28, xs_37_29, xs_37_30, xs_37_32, n3, o3, lS72, lE72, rf_some, xc_int, xc_ref, xc_ret, xc_long, xw_nil, xw_int, xw_ref, xw_long, tl_some, tl_none, true_and, and_true, Nat.zero_le, Nat.reduceAdd, Nat.reduceMul, Nat.reduceLeDiff, Nat.reduceLT, Nat.reduceEqDiff, Nat.reducePow, Int32.reduceAdd, Int32.reduceMul, Int32.reduceSub, Int32.reduceLT, Int32.reduceLE, Int32.reduceToNatClampNeg, litE, ixU, not_false_eq_true, not_true_eq_false, ↓reduceIte, eq_self, true_or, or_true, false_and, and_false, or_false, false_or, i10, i01, in10, i1n, xbT, xbF, r_lt]
  generalize xe_sR (xe_new h3 8 3) 7 10 (some 11) = h4 at A B ⊢
  clear o3
  have n4 := B.1.1
  have C := BK_new (t := 8) (k := 3) B (by decide) (by decide) (by decide)
  have o4 := BK_ob (a := 7) (t := 3) C (by decide) (by decide)
  replace A : KP 7 h (xe_sR (xe_new h4 8 3) 7 11 (some 12)) := KP_sR (KP_new A (by rw [n4]; decide))
  replace B : BK L xs 13 11 (xe_sR (xe_new h4 8 3) 7 11 (some 12)) := BK_sR C (by decide) (by decide)
  clear C
  simp only [xs_37_35, xs_37_36, xs_37_37, xs_37_39, n4, o4, lS72, lE72, rf_some, xc_int, xc_ref, xc_ret, xc_long, xw_nil, xw_int, xw_ref, xw_long, tl_some, tl_none, true_and, and_true, Nat.zero_le, Nat.reduceAdd, Nat.reduceMul, Nat.reduceLeDiff, Nat.reduceLT, Nat.reduceEqDiff, Nat.reducePow, Int32.reduceAdd, Int32.reduceMul, Int32.reduceSub, Int32.reduceLT, Int32.reduceLE, Int32.reduceToNatClampNeg, litE, ixU, not_false_eq_true, not_true_eq_false, ↓reduceIte, eq_self, true_or, or_true, false_and, and_false, or_false, false_or, i10, i01, in10, i1n, xbT, xbF, r_lt]
  generalize xe_sR (xe_new h4 8 3) 7 11 (some 12) = h5 at A B ⊢
  clear o4
  have ob := BK_ob (a := 7) (t := 3) B (by decide) (by decide)
  simp only [xs_37_42, xs_37_43, ob, rf_some, xc_int, xc_ref, xc_ret, xc_long, xw_nil, xw_int, xw_ref, xw_long, tl_some, tl_none, true_and, and_true, Nat.zero_le, Nat.reduceAdd, Nat.reduceMul, Nat.reduceLeDiff, Nat.reduceLT, Nat.reduceEqDiff, Nat.reducePow, Int32.reduceAdd, Int32.reduceMul, Int32.reduceSub, Int32.reduceLT, Int32.reduceLE, Int32.reduceToNatClampNeg, litE, ixU, not_false_eq_true, not_true_eq_false, ↓reduceIte, eq_self, true_or, or_true, false_and, and_false, or_false, false_or, i10, i01, in10, i1n, xbT, xbF, r_lt]
  refine mk_clear (d := d) (L := L) (xs := xs) (o := 7) ob (BK_R B (by decide)) (BK_ob B (by decide) (by decide)) (BK_N B (by decide) (by decide)) (fun h9 S tv => ?_)
  have k := K h9 (S.1 _ _ (by decide) (by decide) (by decide) (by decide) B) (KP_tr A (S.2 7 (by decide))) tv
  simp only [xs_37_46, rf_some, xc_int, xc_ref, xc_ret, xc_long, xw_nil, xw_int, xw_ref, xw_long, tl_some, tl_none, true_and, and_true, Nat.zero_le, Nat.reduceAdd, Nat.reduceMul, Nat.reduceLeDiff, Nat.reduceLT, Nat.reduceEqDiff, Nat.reducePow, Int32.reduceAdd, Int32.reduceMul, Int32.reduceSub, Int32.reduceLT, Int32.reduceLE, Int32.reduceToNatClampNeg, litE, ixU, not_false_eq_true, not_true_eq_false, ↓reduceIte, eq_self, true_or, or_true, false_and, and_false, or_false, false_or, i10, i01, in10, i1n, xbT, xbF, r_lt]
  exact k
theorem mk_37_14 (B0 : BK L xs 15 13 h) (K : ∀ h', BK L xs 20 18 h' → KP 14 h h' → tn_v h' 14 pg0 → Q none h') : xe_C (d + 3) 37 [.ref 14] h Q := by
  have A0 : KP 14 h h := KP_rf _ _
  have n0 := B0.1.1
  simp only [xs_37, xs_37_0, xs_37_1, n0, lS72, lE72, rf_some, xc_int, xc_ref, xc_ret, xc_long, xw_nil, xw_int, xw_ref, xw_long, tl_some, tl_none, true_and, and_true, Nat.zero_le, Nat.reduceAdd, Nat.reduceMul, Nat.reduceLeDiff, Nat.reduceLT, Nat.reduceEqDiff, Nat.reducePow, Int32.reduceAdd, Int32.reduceMul, Int32.reduceSub, Int32.reduceLT, Int32.reduceLE, Int32.reduceToNatClampNeg, litE, ixU, not_false_eq_true, not_true_eq_false, ↓reduceIte, eq_self, true_or, or_true, false_and, and_false, or_false, false_or, i10, i01, in10, i1n, xbT, xbF, r_lt]
  have B := B0
  have A := A0
  have n0 := B.1.1
  have C := BK_new (t := 8) (k := 6) B (by decide) (by decide) (by decide)
  have o0 := BK_ob (a := 14) (t := 3) C (by decide) (by decide)
  replace A : KP 14 h (xe_sR (xe_new h 8 6) 14 7 (some 15)) := KP_sR (KP_new A (by rw [n0]; decide))
  replace B : BK L xs 16 14 (xe_sR (xe_new h 8 6) 14 7 (some 15)) := BK_sR C (by decide) (by decide)
  clear C
  simp only [xs_37_4, xs_37_5, xs_37_7, xs_37_9, n0, o0, lS72, lE72, rf_some, xc_int, xc_ref, xc_ret, xc_long, xw_nil, xw_int, xw_ref, xw_long, tl_some, tl_none, true_and, and_true, Nat.zero_le, Nat.reduceAdd, Nat.reduceMul, Nat.reduceLeDiff, Nat.reduceLT, Nat.reduceEqDiff, Nat.reducePow, Int32.reduceAdd, Int32.reduceMul, Int32.reduceSub, Int32.reduceLT, Int32.reduceLE, Int32.reduceToNatClampNeg, litE, ixU, not_false_eq_true, not_true_eq_false, ↓reduceIte, eq_self, true_or, or_true, false_and, and_false, or_false, false_or, i10, i01, in10, i1n, xbT, xbF, r_lt]
  generalize xe_sR (xe_new h 8 6) 14 7 (some 15) = h1 at A B ⊢
  clear o0
  have n1 := B.1.1
  have C := BK_new (t := 8) (k := 6) B (by decide) (by decide) (by decide)
  have o1 := BK_ob (a := 14) (t := 3) C (by decide) (by decide)
  replace A : KP 14 h (xe_sR (xe_new h1 8 6) 14 8 (some 16)) := KP_sR (KP_new A (by rw [n1]; decide))
  replace B : BK L xs 17 15 (xe_sR (xe_new h1 8 6) 14 8 (some 16)) := BK_sR C (by decide) (by decide)
  clear C
  simp only [xs_37_12, xs_37_13, xs_37_15, xs_37_17, n1, o1, lS72, lE72, rf_some, xc_int, xc_ref, xc_ret, xc_long, xw_nil, xw_int, xw_ref, xw_long, tl_some, tl_none, true_and, and_true, Nat.zero_le, Nat.reduceAdd, Nat.reduceMul, Nat.reduceLeDiff, Nat.reduceLT, Nat.reduceEqDiff, Nat.reducePow, Int32.reduceAdd, Int32.reduceMul, Int32.reduceSub, Int32.reduceLT, Int32.reduceLE, Int32.reduceToNatClampNeg, litE, ixU, not_false_eq_true, not_true_eq_false, ↓reduceIte, eq_self, true_or, or_true, false_and, and_false, or_false, false_or, i10, i01, in10, i1n, xbT, xbF, r_lt]
  generalize xe_sR (xe_new h1 8 6) 14 8 (some 16) = h2 at A B ⊢
  clear o1
  have n2 := B.1.1
  have C := BK_new (t := 8) (k := 6) B (by decide) (by decide) (by decide)
  have o2 := BK_ob (a := 14) (t := 3) C (by decide) (by decide)
  replace A : KP 14 h (xe_sR (xe_new h2 8 6) 14 9 (some 17)) := KP_sR (KP_new A (by rw [n2]; decide))
  replace B : BK L xs 18 16 (xe_sR (xe_new h2 8 6) 14 9 (some 17)) := BK_sR C (by decide) (by decide)
  clear C
  simp only [xs_37_20, xs_37_21, xs_37_23, xs_37_25, n2, o2, lS72, lE72, rf_some, xc_int, xc_ref, xc_ret, xc_long, xw_nil, xw_int, xw_ref, xw_long, tl_some, tl_none, true_and, and_true, Nat.zero_le, Nat.reduceAdd, Nat.reduceMul, Nat.reduceLeDiff, Nat.reduceLT, Nat.reduceEqDiff, Nat.reducePow, Int32.reduceAdd, Int32.reduceMul, Int32.reduceSub, Int32.reduceLT, Int32.reduceLE, Int32.reduceToNatClampNeg, litE, ixU, not_false_eq_true, not_true_eq_false, ↓reduceIte, eq_self, true_or, or_true, false_and, and_false, or_false, false_or, i10, i01, in10, i1n, xbT, xbF, r_lt]
  generalize xe_sR (xe_new h2 8 6) 14 9 (some 17) = h3 at A B ⊢
  clear o2
  have n3 := B.1.1
  have C := BK_new (t := 8) (k := 3) B (by decide) (by decide) (by decide)
  have o3 := BK_ob (a := 14) (t := 3) C (by decide) (by decide)
  replace A : KP 14 h (xe_sR (xe_new h3 8 3) 14 10 (some 18)) := KP_sR (KP_new A (by rw [n3]; decide))
  replace B : BK L xs 19 17 (xe_sR (xe_new h3 8 3) 14 10 (some 18)) := BK_sR C (by decide) (by decide)
  clear C
  simp only [xs_37_28, xs_37_29, xs_37_30, xs_37_32, n3, o3, lS72, lE72, rf_some, xc_int, xc_ref, xc_ret, xc_long, xw_nil, xw_int, xw_ref, xw_long, tl_some, tl_none, true_and, and_true, Nat.zero_le, Nat.reduceAdd, Nat.reduceMul, Nat.reduceLeDiff, Nat.reduceLT, Nat.reduceEqDiff, Nat.reducePow, Int32.reduceAdd, Int32.reduceMul, Int32.reduceSub, Int32.reduceLT, Int32.reduceLE, Int32.reduceToNatClampNeg, litE, ixU, not_false_eq_true, not_true_eq_false, ↓reduceIte, eq_self, true_or, or_true, false_and, and_false, or_false, false_or, i10, i01, in10, i1n, xbT, xbF, r_lt]
  generalize xe_sR (xe_new h3 8 3) 14 10 (some 18) = h4 at A B ⊢
  clear o3
  have n4 := B.1.1
  have C := BK_new (t := 8) (k := 3) B (by decide) (by decide) (by decide)
  have o4 := BK_ob (a := 14) (t := 3) C (by decide) (by decide)
  replace A : KP 14 h (xe_sR (xe_new h4 8 3) 14 11 (some 19)) := KP_sR (KP_new A (by rw [n4]; decide))
  replace B : BK L xs 20 18 (xe_sR (xe_new h4 8 3) 14 11 (some 19)) := BK_sR C (by decide) (by decide)
  clear C
  simp only [xs_37_35, xs_37_36, xs_37_37, xs_37_39, n4, o4, lS72, lE72, rf_some, xc_int, xc_ref, xc_ret, xc_long, xw_nil, xw_int, xw_ref, xw_long, tl_some, tl_none, true_and, and_true, Nat.zero_le, Nat.reduceAdd, Nat.reduceMul, Nat.reduceLeDiff, Nat.reduceLT, Nat.reduceEqDiff, Nat.reducePow, Int32.reduceAdd, Int32.reduceMul, Int32.reduceSub, Int32.reduceLT, Int32.reduceLE, Int32.reduceToNatClampNeg, litE, ixU, not_false_eq_true, not_true_eq_false, ↓reduceIte, eq_self, true_or, or_true, false_and, and_false, or_false, false_or, i10, i01, in10, i1n, xbT, xbF, r_lt]
  generalize xe_sR (xe_new h4 8 3) 14 11 (some 19) = h5 at A B ⊢
  clear o4
  have ob := BK_ob (a := 14) (t := 3) B (by decide) (by decide)
  simp only [xs_37_42, xs_37_43, ob, rf_some, xc_int, xc_ref, xc_ret, xc_long, xw_nil, xw_int, xw_ref, xw_long, tl_some, tl_none, true_and, and_true, Nat.zero_le, Nat.reduceAdd, Nat.reduceMul, Nat.reduceLeDiff, Nat.reduceLT, Nat.reduceEqDiff, Nat.reducePow, Int32.reduceAdd, Int32.reduceMul, Int32.reduceSub, Int32.reduceLT, Int32.reduceLE, Int32.reduceToNatClampNeg, litE, ixU, not_false_eq_true, not_true_eq_false, ↓reduceIte, eq_self, true_or, or_true, false_and, and_false, or_false, false_or, i10, i01, in10, i1n, xbT, xbF, r_lt]
  refine mk_clear (d := d) (L := L) (xs := xs) (o := 14) ob (BK_R B (by decide)) (BK_ob B (by decide) (by decide)) (BK_N B (by decide) (by decide)) (fun h9 S tv => ?_)
  have k := K h9 (S.1 _ _ (by decide) (by decide) (by decide) (by decide) B) (KP_tr A (S.2 14 (by decide))) tv
  simp only [xs_37_46, rf_some, xc_int, xc_ref, xc_ret, xc_long, xw_nil, xw_int, xw_ref, xw_long, tl_some, tl_none, true_and, and_true, Nat.zero_le, Nat.reduceAdd, Nat.reduceMul, Nat.reduceLeDiff, Nat.reduceLT, Nat.reduceEqDiff, Nat.reducePow, Int32.reduceAdd, Int32.reduceMul, Int32.reduceSub, Int32.reduceLT, Int32.reduceLE, Int32.reduceToNatClampNeg, litE, ixU, not_false_eq_true, not_true_eq_false, ↓reduceIte, eq_self, true_or, or_true, false_and, and_false, or_false, false_or, i10, i01, in10, i1n, xbT, xbF, r_lt]
  exact k
theorem mk_37_20 (B0 : BK L xs 21 19 h) (K : ∀ h', BK L xs 26 24 h' → KP 20 h h' → tn_v h' 20 pg0 → Q none h') : xe_C (d + 3) 37 [.ref 20] h Q := by
  have A0 : KP 20 h h := KP_rf _ _
  have n0 := B0.1.1
  simp only [xs_37, xs_37_0, xs_37_1, n0, lS72, lE72, rf_some, xc_int, xc_ref, xc_ret, xc_long, xw_nil, xw_int, xw_ref, xw_long, tl_some, tl_none, true_and, and_true, Nat.zero_le, Nat.reduceAdd, Nat.reduceMul, Nat.reduceLeDiff, Nat.reduceLT, Nat.reduceEqDiff, Nat.reducePow, Int32.reduceAdd, Int32.reduceMul, Int32.reduceSub, Int32.reduceLT, Int32.reduceLE, Int32.reduceToNatClampNeg, litE, ixU, not_false_eq_true, not_true_eq_false, ↓reduceIte, eq_self, true_or, or_true, false_and, and_false, or_false, false_or, i10, i01, in10, i1n, xbT, xbF, r_lt]
  have B := B0
  have A := A0
  have n0 := B.1.1
  have C := BK_new (t := 8) (k := 6) B (by decide) (by decide) (by decide)
  have o0 := BK_ob (a := 20) (t := 3) C (by decide) (by decide)
  replace A : KP 20 h (xe_sR (xe_new h 8 6) 20 7 (some 21)) := KP_sR (KP_new A (by rw [n0]; decide))
  replace B : BK L xs 22 20 (xe_sR (xe_new h 8 6) 20 7 (some 21)) := BK_sR C (by decide) (by decide)
  clear C
  simp only [xs_37_4, xs_37_5, xs_37_7, xs_37_9, n0, o0, lS72, lE72, rf_some, xc_int, xc_ref, xc_ret, xc_long, xw_nil, xw_int, xw_ref, xw_long, tl_some, tl_none, true_and, and_true, Nat.zero_le, Nat.reduceAdd, Nat.reduceMul, Nat.reduceLeDiff, Nat.reduceLT, Nat.reduceEqDiff, Nat.reducePow, Int32.reduceAdd, Int32.reduceMul, Int32.reduceSub, Int32.reduceLT, Int32.reduceLE, Int32.reduceToNatClampNeg, litE, ixU, not_false_eq_true, not_true_eq_false, ↓reduceIte, eq_self, true_or, or_true, false_and, and_false, or_false, false_or, i10, i01, in10, i1n, xbT, xbF, r_lt]
  generalize xe_sR (xe_new h 8 6) 20 7 (some 21) = h1 at A B ⊢
  clear o0
  have n1 := B.1.1
  have C := BK_new (t := 8) (k := 6) B (by decide) (by decide) (by decide)
  have o1 := BK_ob (a := 20) (t := 3) C (by decide) (by decide)
  replace A : KP 20 h (xe_sR (xe_new h1 8 6) 20 8 (some 22)) := KP_sR (KP_new A (by rw [n1]; decide))
  replace B : BK L xs 23 21 (xe_sR (xe_new h1 8 6) 20 8 (some 22)) := BK_sR C (by decide) (by decide)
  clear C
  simp only [xs_37_12, xs_37_13, xs_37_15, xs_37_17, n1, o1, lS72, lE72, rf_some, xc_int, xc_ref, xc_ret, xc_long, xw_nil, xw_int, xw_ref, xw_long, tl_some, tl_none, true_and, and_true, Nat.zero_le, Nat.reduceAdd, Nat.reduceMul, Nat.reduceLeDiff, Nat.reduceLT, Nat.reduceEqDiff, Nat.reducePow, Int32.reduceAdd, Int32.reduceMul, Int32.reduceSub, Int32.reduceLT, Int32.reduceLE, Int32.reduceToNatClampNeg, litE, ixU, not_false_eq_true, not_true_eq_false, ↓reduceIte, eq_self, true_or, or_true, false_and, and_false, or_false, false_or, i10, i01, in10, i1n, xbT, xbF, r_lt]
  generalize xe_sR (xe_new h1 8 6) 20 8 (some 22) = h2 at A B ⊢
  clear o1
  have n2 := B.1.1
  have C := BK_new (t := 8) (k := 6) B (by decide) (by decide) (by decide)
  have o2 := BK_ob (a := 20) (t := 3) C (by decide) (by decide)
  replace A : KP 20 h (xe_sR (xe_new h2 8 6) 20 9 (some 23)) := KP_sR (KP_new A (by rw [n2]; decide))
  replace B : BK L xs 24 22 (xe_sR (xe_new h2 8 6) 20 9 (some 23)) := BK_sR C (by decide) (by decide)
  clear C
  simp only [xs_37_20, xs_37_21, xs_37_23, xs_37_25, n2, o2, lS72, lE72, rf_some, xc_int, xc_ref, xc_ret, xc_long, xw_nil, xw_int, xw_ref, xw_long, tl_some, tl_none, true_and, and_true, Nat.zero_le, Nat.reduceAdd, Nat.reduceMul, Nat.reduceLeDiff, Nat.reduceLT, Nat.reduceEqDiff, Nat.reducePow, Int32.reduceAdd, Int32.reduceMul, Int32.reduceSub, Int32.reduceLT, Int32.reduceLE, Int32.reduceToNatClampNeg, litE, ixU, not_false_eq_true, not_true_eq_false, ↓reduceIte, eq_self, true_or, or_true, false_and, and_false, or_false, false_or, i10, i01, in10, i1n, xbT, xbF, r_lt]
  generalize xe_sR (xe_new h2 8 6) 20 9 (some 23) = h3 at A B ⊢
  clear o2
  have n3 := B.1.1
  have C := BK_new (t := 8) (k := 3) B (by decide) (by decide) (by decide)
  have o3 := BK_ob (a := 20) (t := 3) C (by decide) (by decide)
  replace A : KP 20 h (xe_sR (xe_new h3 8 3) 20 10 (some 24)) := KP_sR (KP_new A (by rw [n3]; decide))
  replace B : BK L xs 25 23 (xe_sR (xe_new h3 8 3) 20 10 (some 24)) := BK_sR C (by decide) (by decide)
  clear C
  simp only [xs_37_28, xs_37_29, xs_37_30, xs_37_32, n3, o3, lS72, lE72, rf_some, xc_int, xc_ref, xc_ret, xc_long, xw_nil, xw_int, xw_ref, xw_long, tl_some, tl_none, true_and, and_true, Nat.zero_le, Nat.reduceAdd, Nat.reduceMul, Nat.reduceLeDiff, Nat.reduceLT, Nat.reduceEqDiff, Nat.reducePow, Int32.reduceAdd, Int32.reduceMul, Int32.reduceSub, Int32.reduceLT, Int32.reduceLE, Int32.reduceToNatClampNeg, litE, ixU, not_false_eq_true, not_true_eq_false, ↓reduceIte, eq_self, true_or, or_true, false_and, and_false, or_false, false_or, i10, i01, in10, i1n, xbT, xbF, r_lt]
  generalize xe_sR (xe_new h3 8 3) 20 10 (some 24) = h4 at A B ⊢
  clear o3
  have n4 := B.1.1
  have C := BK_new (t := 8) (k := 3) B (by decide) (by decide) (by decide)
  have o4 := BK_ob (a := 20) (t := 3) C (by decide) (by decide)
  replace A : KP 20 h (xe_sR (xe_new h4 8 3) 20 11 (some 25)) := KP_sR (KP_new A (by rw [n4]; decide))
  replace B : BK L xs 26 24 (xe_sR (xe_new h4 8 3) 20 11 (some 25)) := BK_sR C (by decide) (by decide)
  clear C
  simp only [xs_37_35, xs_37_36, xs_37_37, xs_37_39, n4, o4, lS72, lE72, rf_some, xc_int, xc_ref, xc_ret, xc_long, xw_nil, xw_int, xw_ref, xw_long, tl_some, tl_none, true_and, and_true, Nat.zero_le, Nat.reduceAdd, Nat.reduceMul, Nat.reduceLeDiff, Nat.reduceLT, Nat.reduceEqDiff, Nat.reducePow, Int32.reduceAdd, Int32.reduceMul, Int32.reduceSub, Int32.reduceLT, Int32.reduceLE, Int32.reduceToNatClampNeg, litE, ixU, not_false_eq_true, not_true_eq_false, ↓reduceIte, eq_self, true_or, or_true, false_and, and_false, or_false, false_or, i10, i01, in10, i1n, xbT, xbF, r_lt]
  generalize xe_sR (xe_new h4 8 3) 20 11 (some 25) = h5 at A B ⊢
  clear o4
  have ob := BK_ob (a := 20) (t := 3) B (by decide) (by decide)
  simp only [xs_37_42, xs_37_43, ob, rf_some, xc_int, xc_ref, xc_ret, xc_long, xw_nil, xw_int, xw_ref, xw_long, tl_some, tl_none, true_and, and_true, Nat.zero_le, Nat.reduceAdd, Nat.reduceMul, Nat.reduceLeDiff, Nat.reduceLT, Nat.reduceEqDiff, Nat.reducePow, Int32.reduceAdd, Int32.reduceMul, Int32.reduceSub, Int32.reduceLT, Int32.reduceLE, Int32.reduceToNatClampNeg, litE, ixU, not_false_eq_true, not_true_eq_false, ↓reduceIte, eq_self, true_or, or_true, false_and, and_false, or_false, false_or, i10, i01, in10, i1n, xbT, xbF, r_lt]
  refine mk_clear (d := d) (L := L) (xs := xs) (o := 20) ob (BK_R B (by decide)) (BK_ob B (by decide) (by decide)) (BK_N B (by decide) (by decide)) (fun h9 S tv => ?_)
  have k := K h9 (S.1 _ _ (by decide) (by decide) (by decide) (by decide) B) (KP_tr A (S.2 20 (by decide))) tv
  simp only [xs_37_46, rf_some, xc_int, xc_ref, xc_ret, xc_long, xw_nil, xw_int, xw_ref, xw_long, tl_some, tl_none, true_and, and_true, Nat.zero_le, Nat.reduceAdd, Nat.reduceMul, Nat.reduceLeDiff, Nat.reduceLT, Nat.reduceEqDiff, Nat.reducePow, Int32.reduceAdd, Int32.reduceMul, Int32.reduceSub, Int32.reduceLT, Int32.reduceLE, Int32.reduceToNatClampNeg, litE, ixU, not_false_eq_true, not_true_eq_false, ↓reduceIte, eq_self, true_or, or_true, false_and, and_false, or_false, false_or, i10, i01, in10, i1n, xbT, xbF, r_lt]
  exact k
theorem mk_20_27 (B0 : BK L xs 28 26 h) (K : ∀ h', BK L xs 29 27 h' → KP 27 h h' → Q none h') : xe_C (d + 1) 20 [.ref 27] h Q := by
  have A0 : KP 27 h h := KP_rf _ _
  have n0 := B0.1.1
  simp only [xs_20, xs_20_0, xs_20_1, n0, lS72, lE72, rf_some, xc_int, xc_ref, xc_ret, xc_long, xw_nil, xw_int, xw_ref, xw_long, tl_some, tl_none, true_and, and_true, Nat.zero_le, Nat.reduceAdd, Nat.reduceMul, Nat.reduceLeDiff, Nat.reduceLT, Nat.reduceEqDiff, Nat.reducePow, Int32.reduceAdd, Int32.reduceMul, Int32.reduceSub, Int32.reduceLT, Int32.reduceLE, Int32.reduceToNatClampNeg, litE, ixU, not_false_eq_true, not_true_eq_false, ↓reduceIte, eq_self, true_or, or_true, false_and, and_false, or_false, false_or, i10, i01, in10, i1n, xbT, xbF, r_lt]
  have B := B0
  have A := A0
  have n0 := B.1.1
  have C := BK_new (t := 10) (k := 320) B (by decide) (by decide) (by decide)
  have o0 := BK_ob (a := 27) (t := 2) C (by decide) (by decide)
  replace A : KP 27 h (xe_sR (xe_new h 10 320) 27 0 (some 28)) := KP_sR (KP_new A (by rw [n0]; decide))
  replace B : BK L xs 29 27 (xe_sR (xe_new h 10 320) 27 0 (some 28)) := BK_sR C (by decide) (by decide)
  clear C
  simp only [xs_20_4, xs_20_5, xs_20_8, xs_20_10, n0, o0, lS72, lE72, rf_some, xc_int, xc_ref, xc_ret, xc_long, xw_nil, xw_int, xw_ref, xw_long, tl_some, tl_none, true_and, and_true, Nat.zero_le, Nat.reduceAdd, Nat.reduceMul, Nat.reduceLeDiff, Nat.reduceLT, Nat.reduceEqDiff, Nat.reducePow, Int32.reduceAdd, Int32.reduceMul, Int32.reduceSub, Int32.reduceLT, Int32.reduceLE, Int32.reduceToNatClampNeg, litE, ixU, not_false_eq_true, not_true_eq_false, ↓reduceIte, eq_self, true_or, or_true, false_and, and_false, or_false, false_or, i10, i01, in10, i1n, xbT, xbF, r_lt]
  generalize xe_sR (xe_new h 10 320) 27 0 (some 28) = h1 at A B ⊢
  clear o0
  simp only [xs_20_13, rf_some, xc_int, xc_ref, xc_ret, xc_long, xw_nil, xw_int, xw_ref, xw_long, tl_some, tl_none, true_and, and_true, Nat.zero_le, Nat.reduceAdd, Nat.reduceMul, Nat.reduceLeDiff, Nat.reduceLT, Nat.reduceEqDiff, Nat.reducePow, Int32.reduceAdd, Int32.reduceMul, Int32.reduceSub, Int32.reduceLT, Int32.reduceLE, Int32.reduceToNatClampNeg, litE, ixU, not_false_eq_true, not_true_eq_false, ↓reduceIte, eq_self, true_or, or_true, false_and, and_false, or_false, false_or, i10, i01, in10, i1n, xbT, xbF, r_lt]
  exact K _ B A
theorem mk_70_29 (B0 : BK L xs 30 28 h) (K : ∀ h', BK L xs 33 31 h' → KP 29 h h' → Q none h') : xe_C (d + 1) 70 [.ref 29] h Q := by
  have A0 : KP 29 h h := KP_rf _ _
  have n0 := B0.1.1
  simp only [xs_70, xs_70_0, xs_70_1, n0, lS72, lE72, rf_some, xc_int, xc_ref, xc_ret, xc_long, xw_nil, xw_int, xw_ref, xw_long, tl_some, tl_none, true_and, and_true, Nat.zero_le, Nat.reduceAdd, Nat.reduceMul, Nat.reduceLeDiff, Nat.reduceLT, Nat.reduceEqDiff, Nat.reducePow, Int32.reduceAdd, Int32.reduceMul, Int32.reduceSub, Int32.reduceLT, Int32.reduceLE, Int32.reduceToNatClampNeg, litE, ixU, not_false_eq_true, not_true_eq_false, ↓reduceIte, eq_self, true_or, or_true, false_and, and_false, or_false, false_or, i10, i01, in10, i1n, xbT, xbF, r_lt]
  have B := B0
  have A := A0
  have n0 := B.1.1
  have C := BK_new (t := 9) (k := 1600) B (by decide) (by decide) (by decide)
  have o0 := BK_ob (a := 29) (t := 5) C (by decide) (by decide)
  replace A : KP 29 h (xe_sR (xe_new h 9 1600) 29 0 (some 30)) := KP_sR (KP_new A (by rw [n0]; decide))
  replace B : BK L xs 31 29 (xe_sR (xe_new h 9 1600) 29 0 (some 30)) := BK_sR C (by decide) (by decide)
  clear C
  simp only [xs_70_4, xs_70_5, xs_70_8, xs_70_10, n0, o0, lS72, lE72, rf_some, xc_int, xc_ref, xc_ret, xc_long, xw_nil, xw_int, xw_ref, xw_long, tl_some, tl_none, true_and, and_true, Nat.zero_le, Nat.reduceAdd, Nat.reduceMul, Nat.reduceLeDiff, Nat.reduceLT, Nat.reduceEqDiff, Nat.reducePow, Int32.reduceAdd, Int32.reduceMul, Int32.reduceSub, Int32.reduceLT, Int32.reduceLE, Int32.reduceToNatClampNeg, litE, ixU, not_false_eq_true, not_true_eq_false, ↓reduceIte, eq_self, true_or, or_true, false_and, and_false, or_false, false_or, i10, i01, in10, i1n, xbT, xbF, r_lt]
  generalize xe_sR (xe_new h 9 1600) 29 0 (some 30) = h1 at A B ⊢
  clear o0
  have n1 := B.1.1
  have C := BK_new (t := 9) (k := 256) B (by decide) (by decide) (by decide)
  have o1 := BK_ob (a := 29) (t := 5) C (by decide) (by decide)
  replace A : KP 29 h (xe_sR (xe_new h1 9 256) 29 1 (some 31)) := KP_sR (KP_new A (by rw [n1]; decide))
  replace B : BK L xs 32 30 (xe_sR (xe_new h1 9 256) 29 1 (some 31)) := BK_sR C (by decide) (by decide)
  clear C
  simp only [xs_70_13, xs_70_14, xs_70_17, xs_70_19, n1, o1, lS72, lE72, rf_some, xc_int, xc_ref, xc_ret, xc_long, xw_nil, xw_int, xw_ref, xw_long, tl_some, tl_none, true_and, and_true, Nat.zero_le, Nat.reduceAdd, Nat.reduceMul, Nat.reduceLeDiff, Nat.reduceLT, Nat.reduceEqDiff, Nat.reducePow, Int32.reduceAdd, Int32.reduceMul, Int32.reduceSub, Int32.reduceLT, Int32.reduceLE, Int32.reduceToNatClampNeg, litE, ixU, not_false_eq_true, not_true_eq_false, ↓reduceIte, eq_self, true_or, or_true, false_and, and_false, or_false, false_or, i10, i01, in10, i1n, xbT, xbF, r_lt]
  generalize xe_sR (xe_new h1 9 256) 29 1 (some 31) = h2 at A B ⊢
  clear o1
  have n2 := B.1.1
  have C := BK_new (t := 8) (k := 7) B (by decide) (by decide) (by decide)
  have o2 := BK_ob (a := 29) (t := 5) C (by decide) (by decide)
  replace A : KP 29 h (xe_sR (xe_new h2 8 7) 29 3 (some 32)) := KP_sR (KP_new A (by rw [n2]; decide))
  replace B : BK L xs 33 31 (xe_sR (xe_new h2 8 7) 29 3 (some 32)) := BK_sR C (by decide) (by decide)
  clear C
  simp only [xs_70_22, xs_70_23, xs_70_25, xs_70_27, n2, o2, lS72, lE72, rf_some, xc_int, xc_ref, xc_ret, xc_long, xw_nil, xw_int, xw_ref, xw_long, tl_some, tl_none, true_and, and_true, Nat.zero_le, Nat.reduceAdd, Nat.reduceMul, Nat.reduceLeDiff, Nat.reduceLT, Nat.reduceEqDiff, Nat.reducePow, Int32.reduceAdd, Int32.reduceMul, Int32.reduceSub, Int32.reduceLT, Int32.reduceLE, Int32.reduceToNatClampNeg, litE, ixU, not_false_eq_true, not_true_eq_false, ↓reduceIte, eq_self, true_or, or_true, false_and, and_false, or_false, false_or, i10, i01, in10, i1n, xbT, xbF, r_lt]
  generalize xe_sR (xe_new h2 8 7) 29 3 (some 32) = h3 at A B ⊢
  clear o2
  simp only [xs_70_30, rf_some, xc_int, xc_ref, xc_ret, xc_long, xw_nil, xw_int, xw_ref, xw_long, tl_some, tl_none, true_and, and_true, Nat.zero_le, Nat.reduceAdd, Nat.reduceMul, Nat.reduceLeDiff, Nat.reduceLT, Nat.reduceEqDiff, Nat.reducePow, Int32.reduceAdd, Int32.reduceMul, Int32.reduceSub, Int32.reduceLT, Int32.reduceLE, Int32.reduceToNatClampNeg, litE, ixU, not_false_eq_true, not_true_eq_false, ↓reduceIte, eq_self, true_or, or_true, false_and, and_false, or_false, false_or, i10, i01, in10, i1n, xbT, xbF, r_lt]
  exact K _ B A
theorem mk_0_33 (B0 : BK L xs 34 32 h) (K : ∀ h', BK L xs 36 34 h' → KP 33 h h' → Q none h') : xe_C (d + 1) 0 [.ref 33] h Q := by
  have A0 : KP 33 h h := KP_rf _ _
  have n0 := B0.1.1
  simp only [xs_0, xs_0_0, xs_0_1, n0, lS72, lE72, rf_some, xc_int, xc_ref, xc_ret, xc_long, xw_nil, xw_int, xw_ref, xw_long, tl_some, tl_none, true_and, and_true, Nat.zero_le, Nat.reduceAdd, Nat.reduceMul, Nat.reduceLeDiff, Nat.reduceLT, Nat.reduceEqDiff, Nat.reducePow, Int32.reduceAdd, Int32.reduceMul, Int32.reduceSub, Int32.reduceLT, Int32.reduceLE, Int32.reduceToNatClampNeg, litE, ixU, not_false_eq_true, not_true_eq_false, ↓reduceIte, eq_self, true_or, or_true, false_and, and_false, or_false, false_or, i10, i01, in10, i1n, xbT, xbF, r_lt]
  have B := B0
  have A := A0
  have n0 := B.1.1
  have C := BK_new (t := 8) (k := 6) B (by decide) (by decide) (by decide)
  have o0 := BK_ob (a := 33) (t := 0) C (by decide) (by decide)
  replace A : KP 33 h (xe_sR (xe_new h 8 6) 33 1 (some 34)) := KP_sR (KP_new A (by rw [n0]; decide))
  replace B : BK L xs 35 33 (xe_sR (xe_new h 8 6) 33 1 (some 34)) := BK_sR C (by decide) (by decide)
  clear C
  simp only [xs_0_4, xs_0_5, xs_0_7, xs_0_9, n0, o0, lS72, lE72, rf_some, xc_int, xc_ref, xc_ret, xc_long, xw_nil, xw_int, xw_ref, xw_long, tl_some, tl_none, true_and, and_true, Nat.zero_le, Nat.reduceAdd, Nat.reduceMul, Nat.reduceLeDiff, Nat.reduceLT, Nat.reduceEqDiff, Nat.reducePow, Int32.reduceAdd, Int32.reduceMul, Int32.reduceSub, Int32.reduceLT, Int32.reduceLE, Int32.reduceToNatClampNeg, litE, ixU, not_false_eq_true, not_true_eq_false, ↓reduceIte, eq_self, true_or, or_true, false_and, and_false, or_false, false_or, i10, i01, in10, i1n, xbT, xbF, r_lt]
  generalize xe_sR (xe_new h 8 6) 33 1 (some 34) = h1 at A B ⊢
  clear o0
  have n1 := B.1.1
  have C := BK_new (t := 8) (k := 6) B (by decide) (by decide) (by decide)
  have o1 := BK_ob (a := 33) (t := 0) C (by decide) (by decide)
  replace A : KP 33 h (xe_sR (xe_new h1 8 6) 33 2 (some 35)) := KP_sR (KP_new A (by rw [n1]; decide))
  replace B : BK L xs 36 34 (xe_sR (xe_new h1 8 6) 33 2 (some 35)) := BK_sR C (by decide) (by decide)
  clear C
  simp only [xs_0_12, xs_0_13, xs_0_15, xs_0_17, n1, o1, lS72, lE72, rf_some, xc_int, xc_ref, xc_ret, xc_long, xw_nil, xw_int, xw_ref, xw_long, tl_some, tl_none, true_and, and_true, Nat.zero_le, Nat.reduceAdd, Nat.reduceMul, Nat.reduceLeDiff, Nat.reduceLT, Nat.reduceEqDiff, Nat.reducePow, Int32.reduceAdd, Int32.reduceMul, Int32.reduceSub, Int32.reduceLT, Int32.reduceLE, Int32.reduceToNatClampNeg, litE, ixU, not_false_eq_true, not_true_eq_false, ↓reduceIte, eq_self, true_or, or_true, false_and, and_false, or_false, false_or, i10, i01, in10, i1n, xbT, xbF, r_lt]
  generalize xe_sR (xe_new h1 8 6) 33 2 (some 35) = h2 at A B ⊢
  clear o1
  simp only [xs_0_20, rf_some, xc_int, xc_ref, xc_ret, xc_long, xw_nil, xw_int, xw_ref, xw_long, tl_some, tl_none, true_and, and_true, Nat.zero_le, Nat.reduceAdd, Nat.reduceMul, Nat.reduceLeDiff, Nat.reduceLT, Nat.reduceEqDiff, Nat.reducePow, Int32.reduceAdd, Int32.reduceMul, Int32.reduceSub, Int32.reduceLT, Int32.reduceLE, Int32.reduceToNatClampNeg, litE, ixU, not_false_eq_true, not_true_eq_false, ↓reduceIte, eq_self, true_or, or_true, false_and, and_false, or_false, false_or, i10, i01, in10, i1n, xbT, xbF, r_lt]
  exact K _ B A
theorem mk_58_36 (B0 : BK L xs 37 35 h) (K : ∀ h', BK L xs 44 42 h' → KP 36 h h' → Q none h') : xe_C (d + 1) 58 [.ref 36] h Q := by
  have A0 : KP 36 h h := KP_rf _ _
  have n0 := B0.1.1
  simp only [xs_58, xs_58_0, xs_58_1, n0, lS72, lE72, rf_some, xc_int, xc_ref, xc_ret, xc_long, xw_nil, xw_int, xw_ref, xw_long, tl_some, tl_none, true_and, and_true, Nat.zero_le, Nat.reduceAdd, Nat.reduceMul, Nat.reduceLeDiff, Nat.reduceLT, Nat.reduceEqDiff, Nat.reducePow, Int32.reduceAdd, Int32.reduceMul, Int32.reduceSub, Int32.reduceLT, Int32.reduceLE, Int32.reduceToNatClampNeg, litE, ixU, not_false_eq_true, not_true_eq_false, ↓reduceIte, eq_self, true_or, or_true, false_and, and_false, or_false, false_or, i10, i01, in10, i1n, xbT, xbF, r_lt]
  have B := B0
  have A := A0
  have n0 := B.1.1
  have C := BK_new (t := 8) (k := 6) B (by decide) (by decide) (by decide)
  have o0 := BK_ob (a := 36) (t := 4) C (by decide) (by decide)
  replace A : KP 36 h (xe_sR (xe_new h 8 6) 36 2 (some 37)) := KP_sR (KP_new A (by rw [n0]; decide))
  replace B : BK L xs 38 36 (xe_sR (xe_new h 8 6) 36 2 (some 37)) := BK_sR C (by decide) (by decide)
  clear C
  simp only [xs_58_4, xs_58_5, xs_58_7, xs_58_9, n0, o0, lS72, lE72, rf_some, xc_int, xc_ref, xc_ret, xc_long, xw_nil, xw_int, xw_ref, xw_long, tl_some, tl_none, true_and, and_true, Nat.zero_le, Nat.reduceAdd, Nat.reduceMul, Nat.reduceLeDiff, Nat.reduceLT, Nat.reduceEqDiff, Nat.reducePow, Int32.reduceAdd, Int32.reduceMul, Int32.reduceSub, Int32.reduceLT, Int32.reduceLE, Int32.reduceToNatClampNeg, litE, ixU, not_false_eq_true, not_true_eq_false, ↓reduceIte, eq_self, true_or, or_true, false_and, and_false, or_false, false_or, i10, i01, in10, i1n, xbT, xbF, r_lt]
  generalize xe_sR (xe_new h 8 6) 36 2 (some 37) = h1 at A B ⊢
  clear o0
  have n1 := B.1.1
  have C := BK_new (t := 8) (k := 6) B (by decide) (by decide) (by decide)
  have o1 := BK_ob (a := 36) (t := 4) C (by decide) (by decide)
  replace A : KP 36 h (xe_sR (xe_new h1 8 6) 36 3 (some 38)) := KP_sR (KP_new A (by rw [n1]; decide))
  replace B : BK L xs 39 37 (xe_sR (xe_new h1 8 6) 36 3 (some 38)) := BK_sR C (by decide) (by decide)
  clear C
  simp only [xs_58_12, xs_58_13, xs_58_15, xs_58_17, n1, o1, lS72, lE72, rf_some, xc_int, xc_ref, xc_ret, xc_long, xw_nil, xw_int, xw_ref, xw_long, tl_some, tl_none, true_and, and_true, Nat.zero_le, Nat.reduceAdd, Nat.reduceMul, Nat.reduceLeDiff, Nat.reduceLT, Nat.reduceEqDiff, Nat.reducePow, Int32.reduceAdd, Int32.reduceMul, Int32.reduceSub, Int32.reduceLT, Int32.reduceLE, Int32.reduceToNatClampNeg, litE, ixU, not_false_eq_true, not_true_eq_false, ↓reduceIte, eq_self, true_or, or_true, false_and, and_false, or_false, false_or, i10, i01, in10, i1n, xbT, xbF, r_lt]
  generalize xe_sR (xe_new h1 8 6) 36 3 (some 38) = h2 at A B ⊢
  clear o1
  have n2 := B.1.1
  have C := BK_new (t := 8) (k := 6) B (by decide) (by decide) (by decide)
  have o2 := BK_ob (a := 36) (t := 4) C (by decide) (by decide)
  replace A : KP 36 h (xe_sR (xe_new h2 8 6) 36 4 (some 39)) := KP_sR (KP_new A (by rw [n2]; decide))
  replace B : BK L xs 40 38 (xe_sR (xe_new h2 8 6) 36 4 (some 39)) := BK_sR C (by decide) (by decide)
  clear C
  simp only [xs_58_20, xs_58_21, xs_58_23, xs_58_25, n2, o2, lS72, lE72, rf_some, xc_int, xc_ref, xc_ret, xc_long, xw_nil, xw_int, xw_ref, xw_long, tl_some, tl_none, true_and, and_true, Nat.zero_le, Nat.reduceAdd, Nat.reduceMul, Nat.reduceLeDiff, Nat.reduceLT, Nat.reduceEqDiff, Nat.reducePow, Int32.reduceAdd, Int32.reduceMul, Int32.reduceSub, Int32.reduceLT, Int32.reduceLE, Int32.reduceToNatClampNeg, litE, ixU, not_false_eq_true, not_true_eq_false, ↓reduceIte, eq_self, true_or, or_true, false_and, and_false, or_false, false_or, i10, i01, in10, i1n, xbT, xbF, r_lt]
  generalize xe_sR (xe_new h2 8 6) 36 4 (some 39) = h3 at A B ⊢
  clear o2
  have n3 := B.1.1
  have C := BK_new (t := 11) (k := 6) B (by decide) (by decide) (by decide)
  have o3 := BK_ob (a := 36) (t := 4) C (by decide) (by decide)
  replace A : KP 36 h (xe_sR (xe_new h3 11 6) 36 5 (some 40)) := KP_sR (KP_new A (by rw [n3]; decide))
  replace B : BK L xs 41 39 (xe_sR (xe_new h3 11 6) 36 5 (some 40)) := BK_sR C (by decide) (by decide)
  clear C
  simp only [xs_58_28, xs_58_29, xs_58_31, xs_58_33, n3, o3, lS72, lE72, rf_some, xc_int, xc_ref, xc_ret, xc_long, xw_nil, xw_int, xw_ref, xw_long, tl_some, tl_none, true_and, and_true, Nat.zero_le, Nat.reduceAdd, Nat.reduceMul, Nat.reduceLeDiff, Nat.reduceLT, Nat.reduceEqDiff, Nat.reducePow, Int32.reduceAdd, Int32.reduceMul, Int32.reduceSub, Int32.reduceLT, Int32.reduceLE, Int32.reduceToNatClampNeg, litE, ixU, not_false_eq_true, not_true_eq_false, ↓reduceIte, eq_self, true_or, or_true, false_and, and_false, or_false, false_or, i10, i01, in10, i1n, xbT, xbF, r_lt]
  generalize xe_sR (xe_new h3 11 6) 36 5 (some 40) = h4 at A B ⊢
  clear o3
  have n4 := B.1.1
  have C := BK_new (t := 8) (k := 6) B (by decide) (by decide) (by decide)
  have o4 := BK_ob (a := 36) (t := 4) C (by decide) (by decide)
  replace A : KP 36 h (xe_sR (xe_new h4 8 6) 36 6 (some 41)) := KP_sR (KP_new A (by rw [n4]; decide))
  replace B : BK L xs 42 40 (xe_sR (xe_new h4 8 6) 36 6 (some 41)) := BK_sR C (by decide) (by decide)
  clear C
  simp only [xs_58_36, xs_58_37, xs_58_39, xs_58_41, n4, o4, lS72, lE72, rf_some, xc_int, xc_ref, xc_ret, xc_long, xw_nil, xw_int, xw_ref, xw_long, tl_some, tl_none, true_and, and_true, Nat.zero_le, Nat.reduceAdd, Nat.reduceMul, Nat.reduceLeDiff, Nat.reduceLT, Nat.reduceEqDiff, Nat.reducePow, Int32.reduceAdd, Int32.reduceMul, Int32.reduceSub, Int32.reduceLT, Int32.reduceLE, Int32.reduceToNatClampNeg, litE, ixU, not_false_eq_true, not_true_eq_false, ↓reduceIte, eq_self, true_or, or_true, false_and, and_false, or_false, false_or, i10, i01, in10, i1n, xbT, xbF, r_lt]
  generalize xe_sR (xe_new h4 8 6) 36 6 (some 41) = h5 at A B ⊢
  clear o4
  have n5 := B.1.1
  have C := BK_new (t := 8) (k := 42) B (by decide) (by decide) (by decide)
  have o5 := BK_ob (a := 36) (t := 4) C (by decide) (by decide)
  replace A : KP 36 h (xe_sR (xe_new h5 8 42) 36 7 (some 42)) := KP_sR (KP_new A (by rw [n5]; decide))
  replace B : BK L xs 43 41 (xe_sR (xe_new h5 8 42) 36 7 (some 42)) := BK_sR C (by decide) (by decide)
  clear C
  simp only [xs_58_44, xs_58_45, xs_58_47, xs_58_49, n5, o5, lS72, lE72, rf_some, xc_int, xc_ref, xc_ret, xc_long, xw_nil, xw_int, xw_ref, xw_long, tl_some, tl_none, true_and, and_true, Nat.zero_le, Nat.reduceAdd, Nat.reduceMul, Nat.reduceLeDiff, Nat.reduceLT, Nat.reduceEqDiff, Nat.reducePow, Int32.reduceAdd, Int32.reduceMul, Int32.reduceSub, Int32.reduceLT, Int32.reduceLE, Int32.reduceToNatClampNeg, litE, ixU, not_false_eq_true, not_true_eq_false, ↓reduceIte, eq_self, true_or, or_true, false_and, and_false, or_false, false_or, i10, i01, in10, i1n, xbT, xbF, r_lt]
  generalize xe_sR (xe_new h5 8 42) 36 7 (some 42) = h6 at A B ⊢
  clear o5
  have n6 := B.1.1
  have C := BK_new (t := 8) (k := 42) B (by decide) (by decide) (by decide)
  have o6 := BK_ob (a := 36) (t := 4) C (by decide) (by decide)
  replace A : KP 36 h (xe_sR (xe_new h6 8 42) 36 8 (some 43)) := KP_sR (KP_new A (by rw [n6]; decide))
  replace B : BK L xs 44 42 (xe_sR (xe_new h6 8 42) 36 8 (some 43)) := BK_sR C (by decide) (by decide)
  clear C
  simp only [xs_58_52, xs_58_53, xs_58_55, xs_58_57, n6, o6, lS72, lE72, rf_some, xc_int, xc_ref, xc_ret, xc_long, xw_nil, xw_int, xw_ref, xw_long, tl_some, tl_none, true_and, and_true, Nat.zero_le, Nat.reduceAdd, Nat.reduceMul, Nat.reduceLeDiff, Nat.reduceLT, Nat.reduceEqDiff, Nat.reducePow, Int32.reduceAdd, Int32.reduceMul, Int32.reduceSub, Int32.reduceLT, Int32.reduceLE, Int32.reduceToNatClampNeg, litE, ixU, not_false_eq_true, not_true_eq_false, ↓reduceIte, eq_self, true_or, or_true, false_and, and_false, or_false, false_or, i10, i01, in10, i1n, xbT, xbF, r_lt]
  generalize xe_sR (xe_new h6 8 42) 36 8 (some 43) = h7 at A B ⊢
  clear o6
  simp only [xs_58_60, rf_some, xc_int, xc_ref, xc_ret, xc_long, xw_nil, xw_int, xw_ref, xw_long, tl_some, tl_none, true_and, and_true, Nat.zero_le, Nat.reduceAdd, Nat.reduceMul, Nat.reduceLeDiff, Nat.reduceLT, Nat.reduceEqDiff, Nat.reducePow, Int32.reduceAdd, Int32.reduceMul, Int32.reduceSub, Int32.reduceLT, Int32.reduceLE, Int32.reduceToNatClampNeg, litE, ixU, not_false_eq_true, not_true_eq_false, ↓reduceIte, eq_self, true_or, or_true, false_and, and_false, or_false, false_or, i10, i01, in10, i1n, xbT, xbF, r_lt]
  exact K _ B A
theorem mk_11_44 (B0 : BK L xs 45 43 h) (K : ∀ h', BK L xs 48 46 h' → KP 44 h h' → (∀ j, j < 4 → xe_I h' 46 j = -1) → Q none h') : xe_C (d + 2) 11 [.ref 44] h Q := by
  have A0 : KP 44 h h := KP_rf _ _
  have n0 := B0.1.1
  simp only [xs_11, xs_11_0, xs_11_1, n0, lS72, lE72, rf_some, xc_int, xc_ref, xc_ret, xc_long, xw_nil, xw_int, xw_ref, xw_long, tl_some, tl_none, true_and, and_true, Nat.zero_le, Nat.reduceAdd, Nat.reduceMul, Nat.reduceLeDiff, Nat.reduceLT, Nat.reduceEqDiff, Nat.reducePow, Int32.reduceAdd, Int32.reduceMul, Int32.reduceSub, Int32.reduceLT, Int32.reduceLE, Int32.reduceToNatClampNeg, litE, ixU, not_false_eq_true, not_true_eq_false, ↓reduceIte, eq_self, true_or, or_true, false_and, and_false, or_false, false_or, i10, i01, in10, i1n, xbT, xbF, r_lt]
  have B := B0
  have A := A0
  have n0 := B.1.1
  have C := BK_new (t := 8) (k := 160) B (by decide) (by decide) (by decide)
  have o0 := BK_ob (a := 44) (t := 1) C (by decide) (by decide)
  replace A : KP 44 h (xe_sR (xe_new h 8 160) 44 0 (some 45)) := KP_sR (KP_new A (by rw [n0]; decide))
  replace B : BK L xs 46 44 (xe_sR (xe_new h 8 160) 44 0 (some 45)) := BK_sR C (by decide) (by decide)
  clear C
  simp only [xs_11_4, xs_11_5, xs_11_8, xs_11_10, n0, o0, lS72, lE72, rf_some, xc_int, xc_ref, xc_ret, xc_long, xw_nil, xw_int, xw_ref, xw_long, tl_some, tl_none, true_and, and_true, Nat.zero_le, Nat.reduceAdd, Nat.reduceMul, Nat.reduceLeDiff, Nat.reduceLT, Nat.reduceEqDiff, Nat.reducePow, Int32.reduceAdd, Int32.reduceMul, Int32.reduceSub, Int32.reduceLT, Int32.reduceLE, Int32.reduceToNatClampNeg, litE, ixU, not_false_eq_true, not_true_eq_false, ↓reduceIte, eq_self, true_or, or_true, false_and, and_false, or_false, false_or, i10, i01, in10, i1n, xbT, xbF, r_lt]
  generalize xe_sR (xe_new h 8 160) 44 0 (some 45) = h1 at A B ⊢
  clear o0
  have n1 := B.1.1
  have C := BK_new (t := 8) (k := 4) B (by decide) (by decide) (by decide)
  have o1 := BK_ob (a := 44) (t := 1) C (by decide) (by decide)
  replace A : KP 44 h (xe_sR (xe_new h1 8 4) 44 1 (some 46)) := KP_sR (KP_new A (by rw [n1]; decide))
  replace B : BK L xs 47 45 (xe_sR (xe_new h1 8 4) 44 1 (some 46)) := BK_sR C (by decide) (by decide)
  clear C
  simp only [xs_11_13, xs_11_14, xs_11_15, xs_11_17, n1, o1, lS72, lE72, rf_some, xc_int, xc_ref, xc_ret, xc_long, xw_nil, xw_int, xw_ref, xw_long, tl_some, tl_none, true_and, and_true, Nat.zero_le, Nat.reduceAdd, Nat.reduceMul, Nat.reduceLeDiff, Nat.reduceLT, Nat.reduceEqDiff, Nat.reducePow, Int32.reduceAdd, Int32.reduceMul, Int32.reduceSub, Int32.reduceLT, Int32.reduceLE, Int32.reduceToNatClampNeg, litE, ixU, not_false_eq_true, not_true_eq_false, ↓reduceIte, eq_self, true_or, or_true, false_and, and_false, or_false, false_or, i10, i01, in10, i1n, xbT, xbF, r_lt]
  generalize xe_sR (xe_new h1 8 4) 44 1 (some 46) = h2 at A B ⊢
  clear o1
  have n2 := B.1.1
  have C := BK_new (t := 8) (k := 4) B (by decide) (by decide) (by decide)
  have o2 := BK_ob (a := 44) (t := 1) C (by decide) (by decide)
  replace A : KP 44 h (xe_sR (xe_new h2 8 4) 44 2 (some 47)) := KP_sR (KP_new A (by rw [n2]; decide))
  replace B : BK L xs 48 46 (xe_sR (xe_new h2 8 4) 44 2 (some 47)) := BK_sR C (by decide) (by decide)
  clear C
  simp only [xs_11_20, xs_11_21, xs_11_22, xs_11_24, n2, o2, lS72, lE72, rf_some, xc_int, xc_ref, xc_ret, xc_long, xw_nil, xw_int, xw_ref, xw_long, tl_some, tl_none, true_and, and_true, Nat.zero_le, Nat.reduceAdd, Nat.reduceMul, Nat.reduceLeDiff, Nat.reduceLT, Nat.reduceEqDiff, Nat.reducePow, Int32.reduceAdd, Int32.reduceMul, Int32.reduceSub, Int32.reduceLT, Int32.reduceLE, Int32.reduceToNatClampNeg, litE, ixU, not_false_eq_true, not_true_eq_false, ↓reduceIte, eq_self, true_or, or_true, false_and, and_false, or_false, false_or, i10, i01, in10, i1n, xbT, xbF, r_lt]
  generalize xe_sR (xe_new h2 8 4) 44 2 (some 47) = h3 at A B ⊢
  clear o2
  have ob := BK_ob (a := 44) (t := 1) B (by decide) (by decide)
  have r1 := BK_R (a := 44) (k := 1) (b := 46) B (by decide)
  have fa := fun d Q => j_fillA (d := d) (h := h3) (Q := Q) (a := 46) (N := 4) (-1) (BK_ob B (by decide) (by decide)) (BK_N (k := 4) B (by decide) (by decide)) (by decide)
  have k := K (xe_aI h3 46 (fl (xe_I h3 46) 0 4 (-1))) (BK_aI B (by decide) (by decide)) (KP_aI A (by decide)) (fun j hj => by rw [hI_aI, if_pos rfl]; unfold fl; rw [if_pos (by omega)])
  simp only [xs_11_27, xs_11_28, xs_11_31, xs_11_32, xs_11_35, ob, r1, fa, rf_some, xc_int, xc_ref, xc_ret, xc_long, xw_nil, xw_int, xw_ref, xw_long, tl_some, tl_none, true_and, and_true, Nat.zero_le, Nat.reduceAdd, Nat.reduceMul, Nat.reduceLeDiff, Nat.reduceLT, Nat.reduceEqDiff, Nat.reducePow, Int32.reduceAdd, Int32.reduceMul, Int32.reduceSub, Int32.reduceLT, Int32.reduceLE, Int32.reduceToNatClampNeg, litE, ixU, not_false_eq_true, not_true_eq_false, ↓reduceIte, eq_self, true_or, or_true, false_and, and_false, or_false, false_or, i10, i01, in10, i1n, xbT, xbF, r_lt]
  exact k
end MK1
