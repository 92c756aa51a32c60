/-! pages copied; keep, back -/
def cpR (h h' : xe_H) (o p : Nat) : Prop := (∀ a j, ¬ (o ≤ a ∧ a ≤ o + 5) → xe_I h' a j = xe_I h a j) ∧ (∀ j, j < 7 → xe_I h' o j = xe_I h p j) ∧ (∀ j, j < 6 → xe_I h' (o + 1) j = xe_I h (p + 1) j ∧ xe_I h' (o + 2) j = xe_I h (p + 2) j ∧ xe_I h' (o + 3) j = xe_I h (p + 3) j) ∧ (∀ j, j < 3 → xe_I h' (o + 4) j = xe_I h (p + 4) j ∧ xe_I h' (o + 5) j = xe_I h (p + 5) j)
  ∧ xe_n h' = xe_n h ∧ xe_z h' = xe_z h ∧ (∀ a, xe_T h' a = xe_T h a) ∧ (∀ a, xe_N h' a = xe_N h a) ∧ xe_R h' = xe_R h ∧ xe_L h' = xe_L h
theorem cpR_tn {h h' : xe_H} {o p : Nat} {g : Nat → Nat} (h24 : g 24 ≤ 6) (h31 : g 31 ≤ 3) (H : tn_v h p g) (C : cpR h h' o p) : tn_v h' o g := by
  obtain ⟨-, c1, c2, c3, -⟩ := C
  obtain ⟨⟨a0, a1, a2, a3, a4, a5, a6⟩, b, c, q⟩ := H
  refine ⟨⟨?_, ?_, ?_, ?_, ?_, ?_, ?_⟩, fun k hk => ⟨?_, ?_⟩, fun k hk => ?_, fun k hk => ⟨?_, ?_⟩⟩
  · rw [c1 _ (by omega)]; exact a0
  · rw [c1 _ (by omega)]; exact a1
  · rw [c1 _ (by omega)]; exact a2
  · rw [c1 _ (by omega)]; exact a3
  · rw [c1 _ (by omega)]; exact a4
  · rw [c1 _ (by omega)]; exact a5
  · rw [c1 _ (by omega)]; exact a6
  · rw [(c2 k (by omega)).1]; exact (b k hk).1
  · rw [(c2 k (by omega)).2.1]; exact (b k hk).2
  · rw [(c2 k (by omega)).2.2]; exact c k hk
  · rw [(c3 k (by omega)).1]; exact (q k hk).1
  · rw [(c3 k (by omega)).2]; exact (q k hk).2
theorem cpR_sh {h h' : xe_H} {o p : Nat} (C : cpR h h' o p) (H : sh h) : sh h' := by
  obtain ⟨-, -, -, -, e1, e2, e3, e4, e5, e6⟩ := C
  obtain ⟨⟨a, b⟩, c, d⟩ := H
  exact ⟨⟨by rw [e1]; exact a, by rw [e1]; exact b⟩, fun e he => by rw [e3, e4]; exact c e he, fun e he => by rw [e5]; exact d e he⟩
theorem cpR_rm {h h' : xe_H} {o p : Nat} (C : cpR h h' o p) (H : rm h) : rm h' := by
  obtain ⟨-, -, -, -, e1, e2, e3, e4, e5, e6⟩ := C
  obtain ⟨q, k, r1, r2, r3, r4, r5, r6, r7⟩ := H
  exact ⟨q, k, by rw [e5]; exact r1, r2, r3, ⟨by rw [e1]; exact r4.1, by rw [e3]; exact r4.2⟩, by rw [e4]; exact r5, by rw [e1]; exact r6, by rw [e2]; exact r7⟩
/-- heaps of the same shape -/
def stq (h h' : xe_H) : Prop := xe_n h' = xe_n h ∧ xe_z h' = xe_z h ∧ (∀ a, xe_T h' a = xe_T h a) ∧ (∀ a, xe_N h' a = xe_N h a) ∧ xe_R h' = xe_R h ∧ xe_L h' = xe_L h
theorem stq_rf (h : xe_H) : stq h h := ⟨rfl, rfl, fun _ => rfl, fun _ => rfl, rfl, rfl⟩
theorem stq_tr {h1 h2 h3 : xe_H} (A : stq h1 h2) (B : stq h2 h3) : stq h1 h3 := ⟨B.1.trans A.1, B.2.1.trans A.2.1, fun a => (B.2.2.1 a).trans (A.2.2.1 a), fun a => (B.2.2.2.1 a).trans (A.2.2.2.1 a), B.2.2.2.2.1.trans A.2.2.2.2.1, B.2.2.2.2.2.trans A.2.2.2.2.2⟩
theorem stq_sI {h h' : xe_H} {a k : Nat} {v : Int32} (A : stq h h') : stq h (xe_sI h' a k v) := A
theorem stq_aI {h h' : xe_H} {a : Nat} {F : Nat → Int32} (A : stq h h') : stq h (xe_aI h' a F) := A
theorem stq_ob {h h' : xe_H} {a t : Nat} (A : stq h h') (H : xe_ob h a t) : xe_ob h' a t := ⟨by rw [A.1]; exact H.1, (A.2.2.1 a).trans H.2⟩
theorem tn_sh_st {h h' : xe_H} {o : Nat} (A : stq h h') (H : tn_sh h o) : tn_sh h' o := by
  obtain ⟨s1, ⟨r1, r2, r3, r4, r5⟩, ⟨o1, o2, o3, o4, o5⟩, ⟨n1, n2, n3, n4, n5⟩⟩ := H
  have eR := A.2.2.2.2.1
  have eN := A.2.2.2.1
  exact ⟨stq_ob A s1, ⟨by rw [eR]; exact r1, by rw [eR]; exact r2, by rw [eR]; exact r3, by rw [eR]; exact r4, by rw [eR]; exact r5⟩, ⟨stq_ob A o1, stq_ob A o2, stq_ob A o3, stq_ob A o4, stq_ob A o5⟩, ⟨by rw [eN]; exact n1, by rw [eN]; exact n2, by rw [eN]; exact n3, by rw [eN]; exact n4, by rw [eN]; exact n5⟩⟩
theorem cpRow {H H' : xe_H} {a b n : Nat} (e : xe_aI H b (va_cpy (xe_I H a) (xe_I H b) 0 0 n) = H') : (∀ c j, c ≠ b → xe_I H' c j = xe_I H c j) ∧ (∀ j, j < n → xe_I H' b j = xe_I H a j) ∧ stq H H' := by
  subst e
  refine ⟨fun c j hc => by rw [hI_aI, if_neg hc], fun j hj => ?_, stq_aI (stq_rf H)⟩
  rw [hI_aI, if_pos rfl]
  unfold va_cpy
  rw [if_pos (by omega), Nat.zero_add, Nat.sub_zero]
section CP
variable {d : Nat} {h : xe_H} {Q : Option Value → xe_H → Prop}
theorem tw_copy {o p : Nat} (so : tn_sh h o) (sp : tn_sh h p) (hop : o + 5 < p ∨ p + 5 < o) : xe_C (d + 1) 39 [.ref o, .ref p] h (fun v h' => v = none ∧ cpR h h' o p) := by
  have epo : (p = o) = False := eq_false (by omega)
  obtain ⟨s1, -⟩ := id so
  obtain ⟨s1', -⟩ := id sp
  simp only [xs_39, xs_39_0, xs_39_1, xs_39_2, xs_39_5, xs_39_8, xs_39_9, xs_39_10, xs_39_13, xs_39_16, xs_39_17, xs_39_18, xs_39_21, xs_39_24, xs_39_25, xs_39_26, xs_39_29, xs_39_32, xs_39_33, xs_39_34, xs_39_37, xs_39_40, xs_39_41, xs_39_42, xs_39_45, xs_39_48, xs_39_49, xs_39_50, xs_39_53, s1, s1', ho_sI, hI_sI, epo, rf_some, xc_int, xc_ref, xc_ret, xc_long, xw_nil, xw_int, xw_ref, xw_long, tl_some, tl_none, true_and, and_true, Nat.zero_le, Nat.reduceAdd, Nat.reduceMul, Nat.reduceLeDiff, Nat.reduceLT, Nat.reduceEqDiff, Nat.reducePow, Int32.reduceAdd, Int32.reduceMul, Int32.reduceSub, Int32.reduceLT, Int32.reduceLE, Int32.reduceToNatClampNeg, litE, ixU, not_false_eq_true, not_true_eq_false, ↓reduceIte, eq_self, true_or, or_true, false_and, and_false, or_false, false_or, i10, i01, in10, i1n, xbT, xbF, r_lt]
  have e0 : ∀ v0 v1 v2 v3 v4 v5 v6 : Int32, ∀ H0, H0 = xe_sI (xe_sI (xe_sI (xe_sI (xe_sI (xe_sI (xe_sI h o 0 v0) o 1 v1) o 2 v2) o 3 v3) o 4 v4) o 5 v5) o 6 v6 → (∀ a j, a ≠ o → xe_I H0 a j = xe_I h a j) ∧ (xe_I H0 o 0 = v0 ∧ xe_I H0 o 1 = v1 ∧ xe_I H0 o 2 = v2 ∧ xe_I H0 o 3 = v3 ∧ xe_I H0 o 4 = v4 ∧ xe_I H0 o 5 = v5 ∧ xe_I H0 o 6 = v6) ∧ stq h H0 := by
    intro v0 v1 v2 v3 v4 v5 v6 H0 e
    subst e
    refine ⟨fun a j ha => ?_, ⟨?_, ?_, ?_, ?_, ?_, ?_, ?_⟩, stq_sI (stq_sI (stq_sI (stq_sI (stq_sI (stq_sI (stq_sI (stq_rf h)))))))⟩
    · simp only [hI_sI, ha, false_and, ↓reduceIte]
    all_goals simp only [hI_sI, true_and, rf_some, xc_int, xc_ref, xc_ret, xc_long, xw_nil, xw_int, xw_ref, xw_long, tl_some, tl_none, true_and, and_true, Nat.zero_le, Nat.reduceAdd, Nat.reduceMul, Nat.reduceLeDiff, Nat.reduceLT, Nat.reduceEqDiff, Nat.reducePow, Int32.reduceAdd, Int32.reduceMul, Int32.reduceSub, Int32.reduceLT, Int32.reduceLE, Int32.reduceToNatClampNeg, litE, ixU, not_false_eq_true, not_true_eq_false, ↓reduceIte, eq_self, true_or, or_true, false_and, and_false, or_false, false_or, i10, i01, in10, i1n, xbT, xbF, r_lt]
  generalize hH0 : xe_sI (xe_sI (xe_sI (xe_sI (xe_sI (xe_sI (xe_sI h o 0 _) o 1 _) o 2 _) o 3 _) o 4 _) o 5 _) o 6 _ = H0
  obtain ⟨f0, ⟨u0, u1, u2, u3, u4, u5, u6⟩, S0⟩ := e0 _ _ _ _ _ _ _ H0 hH0.symm
  clear hH0 e0
  obtain ⟨y1, ⟨r1, r2, r3, r4, r5⟩, ⟨o1, o2, o3, o4, o5⟩, ⟨n1, n2, n3, n4, n5⟩⟩ := tn_sh_st S0 so
  obtain ⟨y1', ⟨r1', r2', r3', r4', r5'⟩, ⟨o1', o2', o3', o4', o5'⟩, ⟨n1', n2', n3', n4', n5'⟩⟩ := tn_sh_st S0 sp
  simp only [xs_39_56, xs_39_57, xs_39_60, xs_39_61, xs_39_62, xs_39_65, xs_39_66, xs_39_68 (h := H0) (a := p + 1) (b := o + 1) o1'.2 o1.2, y1, y1', r1, r1', o1.1, o1'.1, n1, n1', rf_some, xc_int, xc_ref, xc_ret, xc_long, xw_nil, xw_int, xw_ref, xw_long, tl_some, tl_none, true_and, and_true, Nat.zero_le, Nat.reduceAdd, Nat.reduceMul, Nat.reduceLeDiff, Nat.reduceLT, Nat.reduceEqDiff, Nat.reducePow, Int32.reduceAdd, Int32.reduceMul, Int32.reduceSub, Int32.reduceLT, Int32.reduceLE, Int32.reduceToNatClampNeg, litE, ixU, not_false_eq_true, not_true_eq_false, ↓reduceIte, eq_self, true_or, or_true, false_and, and_false, or_false, false_or, i10, i01, in10, i1n, xbT, xbF, r_lt]
  generalize hH : xe_aI H0 (o + 1) (va_cpy (xe_I H0 (p + 1)) (xe_I H0 (o + 1)) 0 0 6) = H1
  obtain ⟨f1, w1, S1'⟩ := cpRow hH
  have S1 := stq_tr S0 S1'
  clear hH S1' y1 r1 r2 r3 r4 r5 o1 o2 o3 o4 o5 n1 n2 n3 n4 n5 y1' r1' r2' r3' r4' r5' o1' o2' o3' o4' o5' n1' n2' n3' n4' n5'
  obtain ⟨y1, ⟨r1, r2, r3, r4, r5⟩, ⟨o1, o2, o3, o4, o5⟩, ⟨n1, n2, n3, n4, n5⟩⟩ := tn_sh_st S1 so
  obtain ⟨y1', ⟨r1', r2', r3', r4', r5'⟩, ⟨o1', o2', o3', o4', o5'⟩, ⟨n1', n2', n3', n4', n5'⟩⟩ := tn_sh_st S1 sp
  simp only [xs_39_71, xs_39_72, xs_39_75, xs_39_76, xs_39_77, xs_39_80, xs_39_81, xs_39_83 (h := H1) (a := p + 2) (b := o + 2) o2'.2 o2.2, y1, y1', r2, r2', o2.1, o2'.1, n2, n2', rf_some, xc_int, xc_ref, xc_ret, xc_long, xw_nil, xw_int, xw_ref, xw_long, tl_some, tl_none, true_and, and_true, Nat.zero_le, Nat.reduceAdd, Nat.reduceMul, Nat.reduceLeDiff, Nat.reduceLT, Nat.reduceEqDiff, Nat.reducePow, Int32.reduceAdd, Int32.reduceMul, Int32.reduceSub, Int32.reduceLT, Int32.reduceLE, Int32.reduceToNatClampNeg, litE, ixU, not_false_eq_true, not_true_eq_false, ↓reduceIte, eq_self, true_or, or_true, false_and, and_false, or_false, false_or, i10, i01, in10, i1n, xbT, xbF, r_lt]
  generalize hH : xe_aI H1 (o + 2) (va_cpy (xe_I H1 (p + 2)) (xe_I H1 (o + 2)) 0 0 6) = H2
  obtain ⟨f2, w2, S2'⟩ := cpRow hH
  have S2 := stq_tr S1 S2'
  clear hH S2' y1 r1 r2 r3 r4 r5 o1 o2 o3 o4 o5 n1 n2 n3 n4 n5 y1' r1' r2' r3' r4' r5' o1' o2' o3' o4' o5' n1' n2' n3' n4' n5'
  obtain ⟨y1, ⟨r1, r2, r3, r4, r5⟩, ⟨o1, o2, o3, o4, o5⟩, ⟨n1, n2, n3, n4, n5⟩⟩ := tn_sh_st S2 so
  obtain ⟨y1', ⟨r1', r2', r3', r4', r5'⟩, ⟨o1', o2', o3', o4', o5'⟩, ⟨n1', n2', n3', n4', n5'⟩⟩ := tn_sh_st S2 sp
  simp only [xs_39_86, xs_39_87, xs_39_90, xs_39_91, xs_39_92, xs_39_95, xs_39_96, xs_39_98 (h := H2) (a := p + 3) (b := o + 3) o3'.2 o3.2, y1, y1', r3, r3', o3.1, o3'.1, n3, n3', rf_some, xc_int, xc_ref, xc_ret, xc_long, xw_nil, xw_int, xw_ref, xw_long, tl_some, tl_none, true_and, and_true, Nat.zero_le, Nat.reduceAdd, Nat.reduceMul, Nat.reduceLeDiff, Nat.reduceLT, Nat.reduceEqDiff, Nat.reducePow, Int32.reduceAdd, Int32.reduceMul, Int32.reduceSub, Int32.reduceLT, Int32.reduceLE, Int32.reduceToNatClampNeg, litE, ixU, not_false_eq_true, not_true_eq_false, ↓reduceIte, eq_self, true_or, or_true, false_and, and_false, or_false, false_or, i10, i01, in10, i1n, xbT, xbF, r_lt]
  generalize hH : xe_aI H2 (o + 3) (va_cpy (xe_I H2 (p + 3)) (xe_I H2 (o + 3)) 0 0 6) = H3
  obtain ⟨f3, w3, S3'⟩ := cpRow hH
  have S3 := stq_tr S2 S3'
  clear hH S3' y1 r1 r2 r3 r4 r5 o1 o2 o3 o4 o5 n1 n2 n3 n4 n5 y1' r1' r2' r3' r4' r5' o1' o2' o3' o4' o5' n1' n2' n3' n4' n5'
  obtain ⟨y1, ⟨r1, r2, r3, r4, r5⟩, ⟨o1, o2, o3, o4, o5⟩, ⟨n1, n2, n3, n4, n5⟩⟩ := tn_sh_st S3 so
  obtain ⟨y1', ⟨r1', r2', r3', r4', r5'⟩, ⟨o1', o2', o3', o4', o5'⟩, ⟨n1', n2', n3', n4', n5'⟩⟩ := tn_sh_st S3 sp
  simp only [xs_39_101, xs_39_102, xs_39_105, xs_39_106, xs_39_107, xs_39_110, xs_39_111, xs_39_112 (h := H3) (a := p + 4) (b := o + 4) o4'.2 o4.2, y1, y1', r4, r4', o4.1, o4'.1, n4, n4', rf_some, xc_int, xc_ref, xc_ret, xc_long, xw_nil, xw_int, xw_ref, xw_long, tl_some, tl_none, true_and, and_true, Nat.zero_le, Nat.reduceAdd, Nat.reduceMul, Nat.reduceLeDiff, Nat.reduceLT, Nat.reduceEqDiff, Nat.reducePow, Int32.reduceAdd, Int32.reduceMul, Int32.reduceSub, Int32.reduceLT, Int32.reduceLE, Int32.reduceToNatClampNeg, litE, ixU, not_false_eq_true, not_true_eq_false, ↓reduceIte, eq_self, true_or, or_true, false_and, and_false, or_false, false_or, i10, i01, in10, i1n, xbT, xbF, r_lt]
  generalize hH : xe_aI H3 (o + 4) (va_cpy (xe_I H3 (p + 4)) (xe_I H3 (o + 4)) 0 0 3) = H4
  obtain ⟨f4, w4, S4'⟩ := cpRow hH
  have S4 := stq_tr S3 S4'
  clear hH S4' y1 r1 r2 r3 r4 r5 o1 o2 o3 o4 o5 n1 n2 n3 n4 n5 y1' r1' r2' r3' r4' r5' o1' o2' o3' o4' o5' n1' n2' n3' n4' n5'
  obtain ⟨y1, ⟨r1, r2, r3, r4, r5⟩, ⟨o1, o2, o3, o4, o5⟩, ⟨n1, n2, n3, n4, n5⟩⟩ := tn_sh_st S4 so
  obtain ⟨y1', ⟨r1', r2', r3', r4', r5'⟩, ⟨o1', o2', o3', o4', o5'⟩, ⟨n1', n2', n3', n4', n5'⟩⟩ := tn_sh_st S4 sp
  simp only [xs_39_115, xs_39_116, xs_39_119, xs_39_120, xs_39_121, xs_39_124, xs_39_125, xs_39_126 (h := H4) (a := p + 5) (b := o + 5) o5'.2 o5.2, y1, y1', r5, r5', o5.1, o5'.1, n5, n5', rf_some, xc_int, xc_ref, xc_ret, xc_long, xw_nil, xw_int, xw_ref, xw_long, tl_some, tl_none, true_and, and_true, Nat.zero_le, Nat.reduceAdd, Nat.reduceMul, Nat.reduceLeDiff, Nat.reduceLT, Nat.reduceEqDiff, Nat.reducePow, Int32.reduceAdd, Int32.reduceMul, Int32.reduceSub, Int32.reduceLT, Int32.reduceLE, Int32.reduceToNatClampNeg, litE, ixU, not_false_eq_true, not_true_eq_false, ↓reduceIte, eq_self, true_or, or_true, false_and, and_false, or_false, false_or, i10, i01, in10, i1n, xbT, xbF, r_lt]
  generalize hH : xe_aI H4 (o + 5) (va_cpy (xe_I H4 (p + 5)) (xe_I H4 (o + 5)) 0 0 3) = H5
  obtain ⟨f5, w5, S5'⟩ := cpRow hH
  have S5 := stq_tr S4 S5'
  clear hH S5' y1 r1 r2 r3 r4 r5 o1 o2 o3 o4 o5 n1 n2 n3 n4 n5 y1' r1' r2' r3' r4' r5' o1' o2' o3' o4' o5' n1' n2' n3' n4' n5'
  simp only [xs_39_129, true_and]
  refine ⟨fun a j ha => ?_, fun j hj => ?_, fun j hj => ⟨?_, ?_, ?_⟩, fun j hj => ⟨?_, ?_⟩, S5⟩
  · rw [f5 _ _ (by omega), f4 _ _ (by omega), f3 _ _ (by omega), f2 _ _ (by omega), f1 _ _ (by omega), f0 _ _ (by omega)]
  · rw [f5 _ _ (by omega), f4 _ _ (by omega), f3 _ _ (by omega), f2 _ _ (by omega), f1 _ _ (by omega)]
    rcases (show j = 0 ∨ j = 1 ∨ j = 2 ∨ j = 3 ∨ j = 4 ∨ j = 5 ∨ j = 6 by omega) with rfl | rfl | rfl | rfl | rfl | rfl | rfl
    · exact u0
    · exact u1
    · exact u2
    · exact u3
    · exact u4
    · exact u5
    · exact u6
  · rw [f5 _ _ (by omega), f4 _ _ (by omega), f3 _ _ (by omega), f2 _ _ (by omega), w1 _ hj, f0 _ _ (by omega)]
  · rw [f5 _ _ (by omega), f4 _ _ (by omega), f3 _ _ (by omega), w2 _ hj, f1 _ _ (by omega), f0 _ _ (by omega)]
  · rw [f5 _ _ (by omega), f4 _ _ (by omega), w3 _ hj, f2 _ _ (by omega), f1 _ _ (by omega), f0 _ _ (by omega)]
  · rw [f5 _ _ (by omega), w4 _ hj, f3 _ _ (by omega), f2 _ _ (by omega), f1 _ _ (by omega), f0 _ _ (by omega)]
  · rw [w5 _ hj, f4 _ _ (by omega), f3 _ _ (by omega), f2 _ _ (by omega), f1 _ _ (by omega), f0 _ _ (by omega)]
theorem md_copies (H : sh h) {f t : Nat} (hf : f + 35 ≤ 140) (ht : t + 35 ≤ 140) (hd : f + 35 ≤ t ∨ t + 35 ≤ f) : xe_C (d + 1) 195 [.ref 48, .int (nI f), .int (nI t)] h Q = Q none (xe_aI h 49 (fb_put (xe_I h 49) (fun k => xe_I h 49 (f + k)) t 35)) := by
  have loop : ∀ m i, i + m = 35 → xe_P d 195 2 [.ref 48, .int (nI f), .int (nI t), .int (nI i)] [] (xe_aI h 49 (fb_put (xe_I h 49) (fun k => xe_I h 49 (f + k)) t i)) Q = Q none (xe_aI h 49 (fb_put (xe_I h 49) (fun k => xe_I h 49 (f + k)) t 35)) := by
    intro m
    induction m with
    | zero =>
      intro i hi
      have : i = 35 := by omega
      subst this
      rw [xs_195_2, xs_195_3, xs_195_5, if_pos (by decide), xs_195_30]
    | succ m ih =>
      intro i hi
      have e1 : ¬ (35 ≤ nI i) := by rw [show (35 : Int32) = nI 35 from rfl, nI_leI (by decide) (by omega)]; omega
      have e2 : xe_I (xe_aI h 49 (fb_put (xe_I h 49) (fun k => xe_I h 49 (f + k)) t i)) 49 (f + i) = xe_I h 49 (f + i) := by
        rw [hI_aI, if_pos rfl, fb_put_out (by omega)]
      have e3 : upd (fb_put (xe_I h 49) (fun k => xe_I h 49 (f + k)) t i) (t + i) (xe_I h 49 (f + i)) = fb_put (xe_I h 49) (fun k => xe_I h 49 (f + k)) t (i + 1) := fb_put_succ (xe_I h 49) (fun k => xe_I h 49 (f + k)) t i
      rw [xs_195_2, xs_195_3, xs_195_5, if_neg e1]
      simp only [xs_195_8, xs_195_9, xs_195_12, xs_195_13, xs_195_14, xs_195_15, xs_195_16, xs_195_19, xs_195_20, xs_195_21, xs_195_22, xs_195_23, xs_195_24, xs_195_27, H, sT_48, sT_49, sN_49, sA_49, sT_50, sN_50, sA_50, sT_51, sN_51, sA_51, sT_52, sN_52, sA_52, sT_53, sN_53, sA_53, sT_54, sN_54, sA_54, sT_55, sN_55, sA_55, sT_56, sN_56, sA_56, sT_57, sN_57, sA_57, sT_58, sN_58, sA_58, sT_59, sN_59, sA_59, sT_60, sN_60, sA_60, sT_61, sN_61, sA_61, sT_62, sN_62, sA_62, sT_63, sN_63, sA_63, sT_64, sN_64, sA_64, sT_65, sN_65, sA_65, sT_66, sN_66, sA_66, sT_67, sN_67, sA_67, sT_68, sN_68, sB_68, sT_69, sN_69, sA_69, sT_70, sN_70, sA_70, sT_71, sN_71, sA_71, sR_48_0, sR_48_2, sR_48_9, sR_48_10, sR_48_11, sR_48_20, sR_48_21, sR_48_22, sR_48_23, sR_48_24, sR_48_26, sR_48_27, sR_48_28, sR_48_29, sR_48_30, sR_48_31, sR_48_33, sR_48_34, sR_48_35, sR_48_36, sR_48_37, sR_48_38, sR_48_39, rf_some, xc_int, xc_ref, xc_ret, xc_long, xw_nil, xw_int, xw_ref, xw_long, tl_some, tl_none, true_and, and_true, Nat.zero_le, Nat.reduceAdd, Nat.reduceMul, Nat.reduceLeDiff, Nat.reduceLT, Nat.reduceEqDiff, Nat.reducePow, Int32.reduceAdd, Int32.reduceMul, Int32.reduceSub, Int32.reduceLT, Int32.reduceLE, Int32.reduceToNatClampNeg, litE, ixU, not_false_eq_true, not_true_eq_false, ↓reduceIte, eq_self, true_or, or_true, false_and, and_false, or_false, false_or, i10, i01, in10, i1n, xbT, xbF, r_lt, e2, hI_sI, hL_sI, hR_sI, hT_sI, hN_sI, hn_sI, ho_sI, hia_sI, hba_sI, hal_sI, hix_sI, hI_aI, hL_aI, hR_aI, hT_aI, hN_aI, hn_aI, ho_aI, hia_aI, hal_aI, hix_aI, sh_sI, sh_aI, sh_sL, sh_aL, nI_add, nI_1, nIlt0 (show f + i < 2 ^ 31 by omega), nI_clamp (show f + i < 2 ^ 31 by omega), show f + i < 140 by omega, nIlt0 (show t + i < 2 ^ 31 by omega), nI_clamp (show t + i < 2 ^ 31 by omega), show t + i < 140 by omega, sI_aI]
      rw [e3]
      exact ih (i + 1) (by omega)
  have l0 := loop 35 0 (by omega)
  rw [fb_put_0, aI_self] at l0
  rw [xs_195, xs_195_0, xs_195_1, show (0 : Int32) = nI 0 from rfl]
  simp only [xc_int]
  exact l0
end CP
theorem mp_put {h : xe_H} {f t : Nat} {g : Nat → Nat} (hg : pg_ok g) (H : mp h f g) : mp (xe_aI h 49 (fb_put (xe_I h 49) (fun k => xe_I h 49 (f + k)) t 35)) t g := by
  obtain ⟨g1, g2, -⟩ := hg
  have e : ∀ j, j < 35 → xe_I (xe_aI h 49 (fb_put (xe_I h 49) (fun k => xe_I h 49 (f + k)) t 35)) 49 (t + j) = xe_I h 49 (f + j) := by
    intro j hj
    rw [hI_aI, if_pos rfl, fb_put_in (by omega) (by omega), Nat.add_sub_cancel_left]
  obtain ⟨⟨a1, a2, a3, a4, a5⟩, b, c, p⟩ := H
  refine ⟨⟨?_, ?_, ?_, ?_, ?_⟩, fun k hk => ⟨?_, ?_⟩, fun k hk => ⟨?_, ?_⟩, fun k hk => ⟨?_, ?_⟩⟩
  · rw [e _ (by omega)]; exact a1
  · rw [e _ (by omega)]; exact a2
  · rw [e _ (by omega)]; exact a3
  · rw [e _ (by omega)]; exact a4
  · rw [e _ (by omega)]; exact a5
  · rw [e _ (by omega)]; exact (b k hk).1
  · rw [e _ (by omega)]; exact (b k hk).2
  · intro y; rw [e _ (by omega)]; exact (c k hk).1 y
  · rw [e _ (by omega)]; exact (c k hk).2
  · rw [e _ (by omega)]; exact (p k hk).1
  · rw [e _ (by omega)]; exact (p k hk).2
section EK
variable {L : Nat} {xs : Nat → Int32} {s : Nat → Nat → Nat} {ce : Nat → Int32} {h : xe_H}
/-- now kept as an image -/
def sKp (s : Nat → Nat → Nat) (k : Nat) : Nat → Nat → Nat := fun a => if a = k + 1 then s 0 else if a = 3 then up (s 3) k 1 else s a
theorem Inv_keep {k : Nat} (hk : k < 2) (HI : Inv L xs s ce h) {h1 : xe_H} (C : cpR h h1 (14 + 6 * k) 1) :
    Inv L xs (sKp s k) ce (xe_sI (xe_aI (xe_sI h1 26 k 1) 49 (fb_put (xe_I h1 49) (fun j => xe_I h1 49 (0 + j)) (35 * (k + 1)) 35)) 68 k 1) := by
  obtain ⟨H, hr, hv, hp, ⟨c1, c2, c3, c4, c5, c6⟩, ⟨m1, m2, m3, m4, m5, m6, m7⟩⟩ := id HI
  have t1 := cpR_tn hp.1.1 hp.1.2.1 c1 C
  have q0 := C.1
  have H1 := cpR_sh C H
  have R1 := cpR_rm C hr
  have eI : ∀ a j, (a < 14 ∨ 26 ≤ a) → ¬ (a = 26 ∧ j = k) → ¬ (a = 49 ∧ 35 * (k + 1) ≤ j ∧ j < 35 * (k + 1) + 35) → ¬ (a = 68 ∧ j = k) → xe_I (xe_sI (xe_aI (xe_sI h1 26 k 1) 49 (fb_put (xe_I h1 49) (fun j => xe_I h1 49 (0 + j)) (35 * (k + 1)) 35)) 68 k 1) a j = xe_I h a j := by
    intro a j z1 z2 z3 z4
    rw [hI_sI, if_neg (by omega), hI_aI]
    by_cases z : a = 49
    · rw [if_pos z, fb_put_out (by omega), z, q0 _ _ (by omega)]
    · rw [if_neg z, hI_sI, if_neg z2, q0 _ _ (by omega)]
  have m1h1 : mp h1 0 (s 0) := mp_c hp.1 m1.1 (fun j _ _ => q0 49 j (by omega))
  have mpk := mp_put (t := 35 * (k + 1)) hp.1 m1h1
  have mpk2 : mp (xe_sI (xe_aI (xe_sI h1 26 k 1) 49 (fb_put (xe_I h1 49) (fun j => xe_I h1 49 (0 + j)) (35 * (k + 1)) 35)) 68 k 1) (35 * (k + 1)) (s 0) := mp_c hp.1 mpk (fun j _ _ => by rw [hI_sI, if_neg (by omega), hI_aI, if_pos rfl, hI_aI, if_pos rfl])
  have tk2 : tn_v (xe_sI (xe_aI (xe_sI h1 26 k 1) 49 (fb_put (xe_I h1 49) (fun j => xe_I h1 49 (0 + j)) (35 * (k + 1)) 35)) 68 k 1) (14 + 6 * k) (s 0) := tn_v_c t1 (fun a j x1 x2 => by rw [hI_sI, if_neg (by omega), hI_aI, if_neg (by omega), hI_sI, if_neg (by omega)])
  have r0 : ∀ a, a ≠ k + 1 → a ≠ 3 → sKp s k a = s a := fun a z1 z2 => by unfold sKp; rw [if_neg z1, if_neg z2]
  have hp' : pOK (sKp s k) := by
    obtain ⟨p1, ⟨p2, p2'⟩, p3, p4, p5, p6, p7⟩ := hp
    have q00 := r0 0 (by omega) (by decide)
    have q4 := r0 4 (by omega) (by decide)
    have q5 := r0 5 (by omega) (by decide)
    have q6 := r0 6 (by omega) (by decide)
    have q7 := r0 7 (by omega) (by decide)
    have q8 := r0 8 (by omega) (by decide)
    unfold pOK seen_ok
    rw [q00, q4, q5, q6, q7, q8]
    refine ⟨p1, ?_, p3, p4, p5, p6, p7⟩
    unfold img_ok
    rw [q00]
    rcases (show k = 0 ∨ k = 1 by omega) with rfl | rfl
    · exact ⟨⟨by show (1 : Nat) ≤ 1; omega, fun _ => ⟨p1, rfl, rfl⟩⟩, p2'⟩
    · exact ⟨p2, ⟨by show (1 : Nat) ≤ 1; omega, fun _ => ⟨p1, rfl, rfl⟩⟩⟩
  refine ⟨H1, R1, fun a ha => ⟨fun j => ?_, ?_, ?_⟩, hp', ⟨?_, ?_, ?_, ?_, ?_, ?_⟩, ⟨?_, ?_, ?_, ?_, ?_, ?_, ?_⟩⟩
  · have hS : 72 ≤ a := Nat.le_trans (by decide) ha
    rw [eI a j (by omega) (by omega) (by omega) (by omega)]; exact (hv a ha).1 j
  · exact (C.2.2.2.2.2.2.1 a).trans (hv a ha).2.1
  · exact (C.2.2.2.2.2.2.2.1 a).trans (hv a ha).2.2
  · rw [r0 0 (by omega) (by decide)]
    exact tn_v_c c1 (fun a j x1 x2 => eI a j (by omega) (by omega) (by omega) (by omega))
  · rcases (show k = 0 ∨ k = 1 by omega) with rfl | rfl
    · refine ⟨⟨?_, ?_⟩, fun _ => tk2, fun z => tn_v_c (c2.2.2 z) (fun a j x1 x2 => ?_)⟩
      · rw [hI_sI, if_neg (by omega), hI_aI, if_neg (by decide), hI_sI, if_pos ⟨rfl, rfl⟩]; rfl
      · rw [eI 26 1 (by omega) (by omega) (by omega) (by omega)]; exact c2.1.2
      · rw [hI_sI, if_neg (by omega), hI_aI, if_neg (by omega), hI_sI, if_neg (by omega), q0 _ _ (by omega)]
    · refine ⟨⟨?_, ?_⟩, fun z => tn_v_c (c2.2.1 z) (fun a j x1 x2 => ?_), fun _ => tk2⟩
      · rw [eI 26 0 (by omega) (by omega) (by omega) (by omega)]; exact c2.1.1
      · rw [hI_sI, if_neg (by omega), hI_aI, if_neg (by decide), hI_sI, if_pos ⟨rfl, rfl⟩]; rfl
      · rw [hI_sI, if_neg (by omega), hI_aI, if_neg (by omega), hI_sI, if_neg (by omega), q0 _ _ (by omega)]
  · unfold cTp
    rw [r0 4 (by omega) (by decide), r0 5 (by omega) (by decide)]
    exact cTp_c c3 (eI 27 1 (by omega) (by omega) (by omega) (by omega)) (eI 27 2 (by omega) (by omega) (by omega) (by omega)) (fun j => eI 28 j (by omega) (by omega) (by omega) (by omega))
  · unfold cSn
    rw [r0 5 (by omega) (by decide), r0 6 (by omega) (by decide)]
    exact cSn_c c4 (eI 36 0 (by omega) (by omega) (by omega) (by omega)) (fun a j x1 x2 => eI a j (by omega) (by omega) (by omega) (by omega))
  · unfold cSh
    rw [r0 7 (by omega) (by decide), r0 8 (by omega) (by decide)]
    exact cSh_c c5 (fun a j x1 x2 => eI a j (by omega) (by omega) (by omega) (by omega))
  · rw [r0 5 (by omega) (by decide), eI 0 9 (by omega) (by omega) (by omega) (by omega)]; exact c6
  · unfold mNw
    rw [r0 0 (by omega) (by decide), eI 48 1 (by omega) (by omega) (by omega) (by omega)]
    exact ⟨mp_c hp.1 m1.1 (fun j x1 x2 => eI 49 j (by omega) (by omega) (by omega) (by omega)), m1.2⟩
  · rcases (show k = 0 ∨ k = 1 by omega) with rfl | rfl
    · refine ⟨⟨?_, ?_⟩, fun _ => mpk2, fun z => mp_c (hp.2.1.2.2 z).1 (m2.2.2 z) (fun j x1 x2 => eI 49 j (by omega) (by omega) (by omega) (by omega))⟩
      · rw [hI_sI, if_pos ⟨rfl, rfl⟩]; rfl
      · rw [eI 68 1 (by omega) (by omega) (by omega) (by omega)]; exact m2.1.2
    · refine ⟨⟨?_, ?_⟩, fun z => mp_c (hp.2.1.1.2 z).1 (m2.2.1 z) (fun j x1 x2 => eI 49 j (by omega) (by omega) (by omega) (by omega)), fun _ => mpk2⟩
      · rw [eI 68 0 (by omega) (by omega) (by omega) (by omega)]; exact m2.1.1
      · rw [hI_sI, if_pos ⟨rfl, rfl⟩]; rfl
  · unfold mTp
    rw [r0 4 (by omega) (by decide), r0 5 (by omega) (by decide)]
    exact mTp_c m3 (eI 48 12 (by omega) (by omega) (by omega) (by omega)) (eI 48 13 (by omega) (by omega) (by omega) (by omega)) (fun j => eI 53 j (by omega) (by omega) (by omega) (by omega))
  · unfold mSn
    rw [r0 5 (by omega) (by decide), r0 6 (by omega) (by decide)]
    exact mSn_c m4 (eI 48 32 (by omega) (by omega) (by omega) (by omega)) (fun j => eI 64 j (by omega) (by omega) (by omega) (by omega))
  · unfold mSh
    rw [r0 7 (by omega) (by decide), r0 8 (by omega) (by decide)]
    exact mSh_c m5 (fun a j x1 x2 => eI a j (by omega) (by omega) (by omega) (by omega))
  · rw [r0 5 (by omega) (by decide), eI 48 40 (by omega) (by omega) (by omega) (by omega)]; exact m6
  · exact mWd_c m7 (fun j => eI 54 j (by omega) (by omega) (by omega) (by omega)) (fun j => eI 55 j (by omega) (by omega) (by omega) (by omega))
end EK
