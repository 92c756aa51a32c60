/-! what was written -/
def wr (S : Nat → Nat → Prop) (h h' : xe_H) : Prop := stq h h' ∧ ∀ a j, ¬ S a j → xe_I h' a j = xe_I h a j
section WR
variable {S S' : Nat → Nat → Prop} {h h' h'' : xe_H}
theorem wr_rf (S : Nat → Nat → Prop) (h : xe_H) : wr S h h := ⟨stq_rf h, fun _ _ _ => rfl⟩
theorem wr_tr (A : wr S h h') (B : wr S h' h'') : wr S h h'' := ⟨stq_tr A.1 B.1, fun a j q => (B.2 a j q).trans (A.2 a j q)⟩
theorem wr_sub (A : wr S h h') (q : ∀ a j, S a j → S' a j) : wr S' h h' := ⟨A.1, fun a j z => A.2 a j (fun y => z (q a j y))⟩
theorem wr_sI {a k : Nat} {v : Int32} (A : wr S h h') (q : S a k) : wr S h (xe_sI h' a k v) := ⟨stq_sI A.1, fun b j z => by
  rw [hI_sI, if_neg (fun y => z (by rw [y.1, y.2]; exact q))]
  exact A.2 b j z⟩
theorem wr_aI {a : Nat} {F : Nat → Int32} (A : wr S h h') (q : ∀ j, S a j ∨ F j = xe_I h' a j) : wr S h (xe_aI h' a F) := ⟨stq_aI A.1, fun b j z => by
  rw [hI_aI]
  by_cases y : b = a
  · rw [if_pos y]
    rcases q j with w | w
    · exact absurd (by rw [y]; exact w) z
    · rw [w, y.symm]; exact A.2 b j z
  · rw [if_neg y]; exact A.2 b j z⟩
theorem stq_sh (A : stq h h') (H : sh h) : sh h' := by
  obtain ⟨⟨h1, h2⟩, h3, h4⟩ := H
  refine ⟨by rw [A.1]; exact ⟨h1, h2⟩, fun e he => ?_, fun e he => ?_⟩
  · rw [A.2.2.1, A.2.2.2.1]; exact h3 e he
  · rw [A.2.2.2.2.1]; exact h4 e he
theorem stq_rm (A : stq h h') (H : rm h) : rm h' := by
  obtain ⟨q, k, h1, h2, h3, h4, h5, h6, h7⟩ := H
  refine ⟨q, k, by rw [A.2.2.2.2.1]; exact h1, h2, h3, stq_ob A h4, ?_, ?_, ?_⟩
  · rw [A.2.2.2.1]; exact h5
  · rw [A.1]; exact h6
  · rw [A.2.1]; exact h7
theorem wr_sh (A : wr S h h') (H : sh h) : sh h' := stq_sh A.1 H
theorem wr_fr (A : wr S h h') (q : ∀ a j, S a j → ¬ (cc a j ∨ cm' a j ∨ xe_S ≤ a)) : fr h h' := ⟨stq_sh A.1, stq_rm A.1, fun a _ => ⟨A.1.2.2.1 a, A.1.2.2.2.1 a⟩, fun a j z => A.2 a j (fun y => q a j y z)⟩
theorem mW_wr (h : xe_H) (f : Nat → Nat) : wr (fun a _ => a = 56) h (mW h f) := by
  unfold mW s6
  exact wr_sI (wr_sI (wr_sI (wr_sI (wr_sI (wr_sI (wr_rf _ h) rfl) rfl) rfl) rfl) rfl) rfl
theorem mW_sI {a k : Nat} (h : xe_H) (f : Nat → Nat) (v : Int32) (ha : a ≠ 56) : xe_sI (mW h f) a k v = mW (xe_sI h a k v) f := by
  have q2 := s6_q h 56 (fun b => nI (f b))
  have q3 := s6_q (xe_sI h a k v) 56 (fun b => nI (f b))
  refine xe_ext ((hn_sI _ _ _ _).trans (q2.1.trans q3.1.symm)) ((hz_sI _ _ _ _).trans (q2.2.1.trans q3.2.1.symm)) (fun b => (hT_sI _ _ _ _ _).trans ((q2.2.2.1 b).trans (q3.2.2.1 b).symm)) (fun b => (hN_sI _ _ _ _ _).trans ((q2.2.2.2.1 b).trans (q3.2.2.2.1 b).symm)) (fun b j => ?_) ((hL_sI _ _ _ _).trans (q2.2.2.2.2.1.trans q3.2.2.2.2.1.symm)) ((hR_sI _ _ _ _).trans (q2.2.2.2.2.2.trans q3.2.2.2.2.2.symm))
  rw [hI_sI, mW_I, mW_I, hI_sI]
  by_cases z : b = a ∧ j = k
  · have z2 : ¬ (b = 56 ∧ j < 6) := fun y => ha (z.1.symm.trans y.1)
    rw [if_pos z, if_neg z2, if_pos z]
  · rw [if_neg z, if_neg z]
end WR
section PM
variable {d : Nat} {h : xe_H} {Q : Option Value → xe_H → Prop}
theorem tw_areMoves {o : Nat} {g : Nat → Nat} (hs : tn_sh h o) (hv : tn_v h o g) (hg : pg_ok g) {m : Nat} (hm : m < 2 ^ 31) : xe_C (d + 1) 54 [.ref o, .int (nI m)] h Q = Q (some (.int (@xb (gm g m) (gmD g m)))) h := by
  obtain ⟨s1, -⟩ := hs
  obtain ⟨⟨a0, a1, a2, a3, a4, a5, a6⟩, -⟩ := hv
  have h24 : g 24 ≤ 6 := hg.1
  have h31 : g 31 ≤ 3 := hg.2.1
  have k0 : (nI (g 24) < nI (m % 8)) = (g 24 < m % 8) := nIlt (by omega) (by omega)
  have k1 : (nI (g 24) < nI (m / 8 % 8)) = (g 24 < m / 8 % 8) := nIlt (by omega) (by omega)
  have k2 : (nI (g 24) < nI (m / 64 % 8)) = (g 24 < m / 64 % 8) := nIlt (by omega) (by omega)
  have l0 : (nI (m % 8) ≤ nI (g 24)) = (m % 8 ≤ g 24) := nIle (by omega) (by omega)
  have l1 : (nI (m / 8 % 8) ≤ nI (g 24)) = (m / 8 % 8 ≤ g 24) := nIle (by omega) (by omega)
  have l2 : (nI (m / 64 % 8) ≤ nI (g 24)) = (m / 64 % 8 ≤ g 24) := nIle (by omega) (by omega)
  rcases (show g 31 = 0 ∨ g 31 = 1 ∨ g 31 = 2 ∨ g 31 = 3 by omega) with e | e | e | e
  · rw [e, show nI 0 = (0 : Int32) from rfl] at a2
    simp only [xs_54, xs_54_0, xs_54_1, xs_54_4, xs_54_5, xs_54_6, xs_54_7, xs_54_10, xs_54_11, xs_54_12, xs_54_15, xs_54_16, xs_54_17, xs_54_18, xs_54_19, xs_54_20, xs_54_21, xs_54_24, xs_54_27, xs_54_28, xs_54_29, xs_54_30, xs_54_31, xs_54_32, xs_54_34, xs_54_35, xs_54_36, xs_54_39, xs_54_42, xs_54_43, xs_54_44, xs_54_47, xs_54_50, xs_54_51, s1, a1, a2, rf_some, xc_int, xc_ref, xc_ret, xc_long, xw_nil, xw_int, xw_ref, xw_long, tl_some, tl_none, true_and, and_true, Nat.zero_le, Nat.reduceAdd, Nat.reduceMul, Nat.reduceLeDiff, Nat.reduceLT, Nat.reduceEqDiff, Nat.reducePow, Int32.reduceAdd, Int32.reduceMul, Int32.reduceSub, Int32.reduceLT, Int32.reduceLE, Int32.reduceToNatClampNeg, litE, ixU, not_false_eq_true, not_true_eq_false, ↓reduceIte, eq_self, true_or, or_true, false_and, and_false, or_false, false_or, i10, i01, in10, i1n, xbT, xbF, r_lt, sh_0 m hm, nIe0 hm, nIlt0 hm]
    by_cases z : m = 0
    · rw [@xb_t _ (gmD g m) (by unfold gm; rw [e]; subst z; simp)]; simp [z]
    · rw [@xb_f _ (gmD g m) (by unfold gm; rw [e]; simp; omega)]; simp [z]
  · rw [e, show nI 1 = (1 : Int32) from rfl] at a2
    simp only [xs_54, xs_54_0, xs_54_1, xs_54_4, xs_54_5, xs_54_6, xs_54_7, xs_54_10, xs_54_11, xs_54_12, xs_54_15, xs_54_16, xs_54_17, xs_54_18, xs_54_19, xs_54_20, xs_54_21, xs_54_24, xs_54_27, xs_54_28, xs_54_29, xs_54_30, xs_54_31, xs_54_32, xs_54_34, xs_54_35, xs_54_36, xs_54_39, xs_54_42, xs_54_43, xs_54_44, xs_54_47, xs_54_50, xs_54_51, s1, a1, a2, rf_some, xc_int, xc_ref, xc_ret, xc_long, xw_nil, xw_int, xw_ref, xw_long, tl_some, tl_none, true_and, and_true, Nat.zero_le, Nat.reduceAdd, Nat.reduceMul, Nat.reduceLeDiff, Nat.reduceLT, Nat.reduceEqDiff, Nat.reducePow, Int32.reduceAdd, Int32.reduceMul, Int32.reduceSub, Int32.reduceLT, Int32.reduceLE, Int32.reduceToNatClampNeg, litE, ixU, not_false_eq_true, not_true_eq_false, ↓reduceIte, eq_self, true_or, or_true, false_and, and_false, or_false, false_or, i10, i01, in10, i1n, xbT, xbF, r_lt, sh_0 m hm, sh_3 m hm, and_7, l0, nIe0 (show m / 8 < 2 ^ 31 by omega), nIlt0 hm]
    by_cases z : m / 8 = 0
    · by_cases z1 : m % 8 ≤ g 24
      · rw [@xb_t _ (gmD g m) (by unfold gm; rw [e]; refine ⟨by omega, fun _ => z1, ?_, ?_⟩ <;> omega)]; simp [z, z1]
      · rw [@xb_f _ (gmD g m) (by unfold gm; rw [e]; rintro ⟨-, q, -⟩; exact z1 (q (by omega)))]; simp [z, z1]
    · rw [@xb_f _ (gmD g m) (by unfold gm; rw [e]; rintro ⟨q, -⟩; omega)]; simp [z]
  · rw [e, show nI 2 = (2 : Int32) from rfl] at a2
    simp only [xs_54, xs_54_0, xs_54_1, xs_54_4, xs_54_5, xs_54_6, xs_54_7, xs_54_10, xs_54_11, xs_54_12, xs_54_15, xs_54_16, xs_54_17, xs_54_18, xs_54_19, xs_54_20, xs_54_21, xs_54_24, xs_54_27, xs_54_28, xs_54_29, xs_54_30, xs_54_31, xs_54_32, xs_54_34, xs_54_35, xs_54_36, xs_54_39, xs_54_42, xs_54_43, xs_54_44, xs_54_47, xs_54_50, xs_54_51, s1, a1, a2, rf_some, xc_int, xc_ref, xc_ret, xc_long, xw_nil, xw_int, xw_ref, xw_long, tl_some, tl_none, true_and, and_true, Nat.zero_le, Nat.reduceAdd, Nat.reduceMul, Nat.reduceLeDiff, Nat.reduceLT, Nat.reduceEqDiff, Nat.reducePow, Int32.reduceAdd, Int32.reduceMul, Int32.reduceSub, Int32.reduceLT, Int32.reduceLE, Int32.reduceToNatClampNeg, litE, ixU, not_false_eq_true, not_true_eq_false, ↓reduceIte, eq_self, true_or, or_true, false_and, and_false, or_false, false_or, i10, i01, in10, i1n, xbT, xbF, r_lt, sh_0 m hm, sh_3 m hm, sh_6 m hm, and_7, l0, l1, nIe0 (show m / 64 < 2 ^ 31 by omega), nIlt0 hm]
    by_cases z : m / 64 = 0
    · by_cases z1 : m % 8 ≤ g 24
      · by_cases z2 : m / 8 % 8 ≤ g 24
        · rw [@xb_t _ (gmD g m) (by unfold gm; rw [e]; refine ⟨by omega, fun _ => z1, fun _ => z2, ?_⟩; omega)]; simp [z, z1, z2]
        · rw [@xb_f _ (gmD g m) (by unfold gm; rw [e]; rintro ⟨-, -, q, -⟩; exact z2 (q (by omega)))]; simp [z, z1, z2]
      · rw [@xb_f _ (gmD g m) (by unfold gm; rw [e]; rintro ⟨-, q, -⟩; exact z1 (q (by omega)))]; simp [z, z1]
    · rw [@xb_f _ (gmD g m) (by unfold gm; rw [e]; rintro ⟨q, -⟩; omega)]; simp [z]
  · rw [e, show nI 3 = (3 : Int32) from rfl] at a2
    simp only [xs_54, xs_54_0, xs_54_1, xs_54_4, xs_54_5, xs_54_6, xs_54_7, xs_54_10, xs_54_11, xs_54_12, xs_54_15, xs_54_16, xs_54_17, xs_54_18, xs_54_19, xs_54_20, xs_54_21, xs_54_24, xs_54_27, xs_54_28, xs_54_29, xs_54_30, xs_54_31, xs_54_32, xs_54_34, xs_54_35, xs_54_36, xs_54_39, xs_54_42, xs_54_43, xs_54_44, xs_54_47, xs_54_50, xs_54_51, s1, a1, a2, rf_some, xc_int, xc_ref, xc_ret, xc_long, xw_nil, xw_int, xw_ref, xw_long, tl_some, tl_none, true_and, and_true, Nat.zero_le, Nat.reduceAdd, Nat.reduceMul, Nat.reduceLeDiff, Nat.reduceLT, Nat.reduceEqDiff, Nat.reducePow, Int32.reduceAdd, Int32.reduceMul, Int32.reduceSub, Int32.reduceLT, Int32.reduceLE, Int32.reduceToNatClampNeg, litE, ixU, not_false_eq_true, not_true_eq_false, ↓reduceIte, eq_self, true_or, or_true, false_and, and_false, or_false, false_or, i10, i01, in10, i1n, xbT, xbF, r_lt, sh_0 m hm, sh_3 m hm, sh_6 m hm, sh_9 m hm, and_7, l0, l1, l2, nIe0 (show m / 512 < 2 ^ 31 by omega), nIlt0 hm]
    by_cases z : m / 512 = 0
    · by_cases z1 : m % 8 ≤ g 24
      · by_cases z2 : m / 8 % 8 ≤ g 24
        · by_cases z3 : m / 64 % 8 ≤ g 24
          · rw [@xb_t _ (gmD g m) (by unfold gm; rw [e]; refine ⟨by omega, fun _ => z1, fun _ => z2, fun _ => z3⟩)]; simp [z, z1, z2, z3]
          · rw [@xb_f _ (gmD g m) (by unfold gm; rw [e]; rintro ⟨-, -, -, q⟩; exact z3 (q (by omega)))]; simp [z, z1, z2, z3]
        · rw [@xb_f _ (gmD g m) (by unfold gm; rw [e]; rintro ⟨-, -, q, -⟩; exact z2 (q (by omega)))]; simp [z, z1, z2]
      · rw [@xb_f _ (gmD g m) (by unfold gm; rw [e]; rintro ⟨-, q, -⟩; exact z1 (q (by omega)))]; simp [z, z1]
    · rw [@xb_f _ (gmD g m) (by unfold gm; rw [e]; rintro ⟨q, -⟩; omega)]; simp [z]
theorem tw_areMovesN {o : Nat} {x : Int32} (hx : x < 0) : xe_C (d + 1) 54 [.ref o, .int x] h Q = Q (some (.int 0)) h := by
  simp only [xs_54, xs_54_0, xs_54_1, xs_54_4, xs_54_5, xs_54_6, xs_54_7, xs_54_10, xs_54_11, xs_54_12, xs_54_15, xs_54_16, xs_54_17, xs_54_18, xs_54_19, xs_54_20, xs_54_21, xs_54_24, xs_54_27, xs_54_28, xs_54_29, xs_54_30, xs_54_31, xs_54_32, xs_54_34, xs_54_35, xs_54_36, xs_54_39, xs_54_42, xs_54_43, xs_54_44, xs_54_47, xs_54_50, xs_54_51, eq_true hx, rf_some, xc_int, xc_ref, xc_ret, xc_long, xw_nil, xw_int, xw_ref, xw_long, tl_some, tl_none, true_and, and_true, Nat.zero_le, Nat.reduceAdd, Nat.reduceMul, Nat.reduceLeDiff, Nat.reduceLT, Nat.reduceEqDiff, Nat.reducePow, Int32.reduceAdd, Int32.reduceMul, Int32.reduceSub, Int32.reduceLT, Int32.reduceLE, Int32.reduceToNatClampNeg, litE, ixU, not_false_eq_true, not_true_eq_false, ↓reduceIte, eq_self, true_or, or_true, false_and, and_false, or_false, false_or, i10, i01, in10, i1n, xbT, xbF, r_lt]
/-- what a minute writes in a town -/
def pS (o a j : Nat) : Prop := (a = o ∧ (j = 5 ∨ j = 6)) ∨ a = o + 4
theorem tn_fin {h' : xe_H} {o m : Nat} {g : Nat → Nat} (hg : pg_ok g) (H : tn_b h' o (mst m g (g 31)).1) : tn_v (xe_sI (xe_sI h' o 6 (nI (rp (fun b => (mst m g (g 31)).2.1 b - 1)))) o 5 (nI (g 34 + 1))) o (mfin m g) := by
  have h24 : g 24 ≤ 6 := hg.1
  have h31 : g 31 ≤ 3 := hg.2.1
  obtain ⟨⟨a0, a1, a2, a3, a4, a5, a6⟩, b, c, p⟩ := H
  have eo := fun j hj => mst_o (m := m) (g := g) (g 31) h31 j hj
  have e24 := eo 24 (by omega)
  have e31 := eo 31 (by omega)
  have fo : ∀ j, j ≠ 34 → ¬ (j < 24 ∧ j % 4 = 3) → mfin m g j = (mst m g (g 31)).1 j := fun j h1 h2 => by unfold mfin; rw [if_neg h1, if_neg h2]
  have k24 : mfin m g 24 = g 24 := (fo 24 (by omega) (by omega)).trans e24
  have k31 : mfin m g 31 = g 31 := (fo 31 (by omega) (by omega)).trans e31
  refine ⟨⟨?_, ?_, ?_, ?_, ?_, ?_, ?_⟩, fun k hk => ⟨?_, ?_⟩, fun k hk => ?_, fun k hk => ⟨?_, ?_⟩⟩
  · rw [hI_sI, if_neg (by omega), hI_sI, if_neg (by omega), fo _ (by omega) (by omega)]; exact a0
  · rw [hI_sI, if_neg (by omega), hI_sI, if_neg (by omega), fo _ (by omega) (by omega)]; exact a1
  · rw [hI_sI, if_neg (by omega), hI_sI, if_neg (by omega), fo _ (by omega) (by omega)]; exact a2
  · rw [hI_sI, if_neg (by omega), hI_sI, if_neg (by omega), fo _ (by omega) (by omega)]; exact a3
  · rw [hI_sI, if_neg (by omega), hI_sI, if_neg (by omega), fo _ (by omega) (by omega)]; exact a4
  · rw [hI_sI, if_pos ⟨rfl, rfl⟩]; rfl
  · rw [hI_sI, if_neg (by omega), hI_sI, if_pos ⟨rfl, rfl⟩]
    rfl
  · rw [k24] at hk; rw [hI_sI, if_neg (by omega), hI_sI, if_neg (by omega), fo _ (by omega) (by omega)]; exact (b k (by omega)).1
  · rw [k24] at hk; rw [hI_sI, if_neg (by omega), hI_sI, if_neg (by omega), fo _ (by omega) (by omega)]; exact (b k (by omega)).2
  · rw [hI_sI, if_neg (by omega), hI_sI, if_neg (by omega), fo _ (by omega) (by omega)]; exact c k hk
  · rw [k31] at hk; rw [hI_sI, if_neg (by omega), hI_sI, if_neg (by omega), fo _ (by omega) (by omega)]; exact (p k (by omega)).1
  · rw [k31] at hk; rw [hI_sI, if_neg (by omega), hI_sI, if_neg (by omega), fo _ (by omega) (by omega)]; exact (p k (by omega)).2
theorem tw_pass {o m : Nat} {g : Nat → Nat} (hs : tn_sh h o) (hv : tn_v h o g) (hg : pg_ok g) (hm : m < 2 ^ 31) (hgm : gm g m) (h9 : g 34 < 999) : xe_C (d + 3) 53 [.ref o, .int (nI m)] h (fun v h' => v = some (.int (mst m g (g 31)).2.2) ∧ tn_v h' o (mfin m g) ∧ wr (pS o) h h') := by
  have h24 : g 24 ≤ 6 := hg.1
  have h31 : g 31 ≤ 3 := hg.2.1
  have h35 : g 35 ≤ 5 := hg.2.2.2.2.2.2.2.1
  have lp : ∀ n p h' l4, p + n = g 31 → tn_b h' o (mst m g p).1 → xe_I h' o 6 = nI (rp (mst m g p).2.1) → wr (pS o) h h' → xe_P (d + 2) 53 27 [.ref o, .int (nI m), .int (mst m g p).2.2, .int (nI p), l4] [] h' (fun v h' => v = some (.int (mst m g (g 31)).2.2) ∧ tn_v h' o (mfin m g) ∧ wr (pS o) h h') := by
    intro n
    induction n with
    | zero =>
      intro p h' l4 hp hb h6 hw
      have hp : p = g 31 := by omega
      subst hp
      obtain ⟨s1, -⟩ := tn_sh_st hw.1 hs
      obtain ⟨⟨a0, a1, a2, a3, a4, a5, a6⟩, -⟩ := id hb
      have e31 := mst_o (m := m) (g := g) (g 31) h31 31 (by omega)
      have e34 := mst_o (m := m) (g := g) (g 31) h31 34 (by omega)
      rw [e31] at a2
      rw [e34] at a5
      have hro := ro_rp (mst_k (m := m) hg (g 31) (Nat.le_refl _)).2
      simp only [xs_53_27, xs_53_28, xs_53_29, xs_53_32, xs_53_111, xs_53_112, xs_53_113, xs_53_116, xs_53_119, xs_53_122, xs_53_123, xs_53_123i, xs_53_124, xs_53_127, xs_53_128, xs_53_129, xs_53_132, xs_53_133, s1, a2, le_t, h6, tw_behind hro, rf_some, xc_int, xc_ref, xc_ret, xc_long, xw_nil, xw_int, xw_ref, xw_long, tl_some, tl_none, true_and, and_true, Nat.zero_le, Nat.reduceAdd, Nat.reduceMul, Nat.reduceLeDiff, Nat.reduceLT, Nat.reduceEqDiff, Nat.reducePow, Int32.reduceAdd, Int32.reduceMul, Int32.reduceSub, Int32.reduceLT, Int32.reduceLE, Int32.reduceToNatClampNeg, litE, ixU, not_false_eq_true, not_true_eq_false, ↓reduceIte, eq_self, true_or, or_true, false_and, and_false, or_false, false_or, i10, i01, in10, i1n, xbT, xbF, r_lt, hI_sI, hL_sI, hR_sI, hT_sI, hN_sI, hn_sI, ho_sI, hia_sI, hba_sI, hal_sI, hix_sI, hI_aI, hL_aI, hR_aI, hT_aI, hN_aI, hn_aI, ho_aI, hia_aI, hal_aI, hix_aI, sh_sI, sh_aI, sh_sL, sh_aL, a5, nI_1]
      refine ⟨tn_fin hg hb, wr_sI (wr_sI hw ?_) ?_⟩ <;> (unfold pS; omega)
    | succ n ih =>
      intro p h' l4 hp hb h6 hw
      obtain ⟨s1, ⟨r1, r2, r3, r4, r5⟩, ⟨o1, o2, o3, o4, o5⟩, ⟨n1, n2, n3, n4, n5⟩⟩ := tn_sh_st hw.1 hs
      obtain ⟨⟨a0, a1, a2, a3, a4, a5, a6⟩, v1, v2, v3⟩ := id hb
      obtain ⟨k1, k2⟩ := mst_k (m := m) hg p (by omega)
      have e31 := mst_o (m := m) (g := g) p (by omega) 31 (by omega)
      have e24 := mst_o (m := m) (g := g) p (by omega) 24 (by omega)
      have e35 := mst_o (m := m) (g := g) p (by omega) 35 (by omega)
      have hpl := (k1.2.2.2.2.2.2.2.2.2.2.2 p (by omega)).1
      obtain ⟨v3a, -⟩ := v3 p (by omega)
      rw [e31] at a2
      have hd8 : m / 8 ^ p % 8 < 2 ^ 31 := by omega
      simp only [xs_53_27, xs_53_28, xs_53_29, xs_53_32, s1, a2, lt_f (show p < g 31 by omega) (show g 31 < 2 ^ 31 by omega), rf_some, xc_int, xc_ref, xc_ret, xc_long, xw_nil, xw_int, xw_ref, xw_long, tl_some, tl_none, true_and, and_true, Nat.zero_le, Nat.reduceAdd, Nat.reduceMul, Nat.reduceLeDiff, Nat.reduceLT, Nat.reduceEqDiff, Nat.reducePow, Int32.reduceAdd, Int32.reduceMul, Int32.reduceSub, Int32.reduceLT, Int32.reduceLE, Int32.reduceToNatClampNeg, litE, ixU, not_false_eq_true, not_true_eq_false, ↓reduceIte, eq_self, true_or, or_true, false_and, and_false, or_false, false_or, i10, i01, in10, i1n, xbT, xbF, r_lt]
      simp only [xs_53_35, xs_53_36, xs_53_37, xs_53_38, xs_53_39, xs_53_40, xs_53_42, xs_53_43, xs_53_45, xs_53_46, xs_53_47, xs_53_50, xs_53_51, xs_53_54, xs_53_55, xs_53_56, xs_53_58, s1, r4, rf_some, h6, ob_ia o4, ix_nI n4 (show p < 3 by omega) (by decide), nI_clamp (show p < 2 ^ 31 by omega), v3a, sh_p m hm (show p < 3 by omega), rf_some, xc_int, xc_ref, xc_ret, xc_long, xw_nil, xw_int, xw_ref, xw_long, tl_some, tl_none, true_and, and_true, Nat.zero_le, Nat.reduceAdd, Nat.reduceMul, Nat.reduceLeDiff, Nat.reduceLT, Nat.reduceEqDiff, Nat.reducePow, Int32.reduceAdd, Int32.reduceMul, Int32.reduceSub, Int32.reduceLT, Int32.reduceLE, Int32.reduceToNatClampNeg, litE, ixU, not_false_eq_true, not_true_eq_false, ↓reduceIte, eq_self, true_or, or_true, false_and, and_false, or_false, false_or, i10, i01, in10, i1n, xbT, xbF, r_lt]
      rw [tx_canMove (tn_sh_st hw.1 hs) hb k1 (ro_rp k2) (show (mst m g p).1 (25 + 2 * p) < 2 ^ 31 by omega) hd8]
      by_cases z : cm (mst m g p).1 (mst m g p).2.1 ((mst m g p).1 (25 + 2 * p)) (m / 8 ^ p % 8)
      · have em : mst m g (p + 1) = (up (mst m g p).1 (25 + 2 * p) (pa (mst m g p).1 ((mst m g p).1 (25 + 2 * p)) (m / 8 ^ p % 8)), ra (mst m g p).1 (mst m g p).2.1 (m / 8 ^ p % 8), (mst m g p).2.2) := by rw [mst, if_pos (cb_t z)]
        have ih' := ih (p + 1) (xe_sI (xe_sI h' o 6 (nI (rp (ra (mst m g p).1 (mst m g p).2.1 (m / 8 ^ p % 8))))) (o + 4) p (nI (pa (mst m g p).1 ((mst m g p).1 (25 + 2 * p)) (m / 8 ^ p % 8)))) (.int (nI (m / 8 ^ p % 8))) (by omega)
        rw [em] at ih'
        have ih' := ih' (tb_up_place k1.1 k1.2.1 (by omega) (tb_6 hb)) (by rw [hI_sI, if_neg (by omega), hI_sI, if_pos ⟨rfl, rfl⟩]) (wr_sI (wr_sI hw (by unfold pS; omega)) (by unfold pS; omega))
        have t2 := tx_restsAfter (d := d) (Q := fun r h'' => xe_P (d + 2) 53 75 [.ref o, .int (nI m), .int (mst m g p).2.2, .int (nI p), .int (nI (m / 8 ^ p % 8))] (r.toList ++ [.ref o]) h'' (fun v h' => v = some (.int (mst m g (g 31)).2.2) ∧ tn_v h' o (mfin m g) ∧ wr (pS o) h h')) (tn_sh_st hw.1 hs) hb k1 (ro_rp k2) (cm_le z)
        simp only [xs_53_61, xs_53_64, xs_53_65, xs_53_66, xs_53_67, xs_53_70, xs_53_72, @xb_t _ (cmD _ _ _ _) z, s1, h6, rf_some, xc_int, xc_ref, xc_ret, xc_long, xw_nil, xw_int, xw_ref, xw_long, tl_some, tl_none, true_and, and_true, Nat.zero_le, Nat.reduceAdd, Nat.reduceMul, Nat.reduceLeDiff, Nat.reduceLT, Nat.reduceEqDiff, Nat.reducePow, Int32.reduceAdd, Int32.reduceMul, Int32.reduceSub, Int32.reduceLT, Int32.reduceLE, Int32.reduceToNatClampNeg, litE, ixU, not_false_eq_true, not_true_eq_false, ↓reduceIte, eq_self, true_or, or_true, false_and, and_false, or_false, false_or, i10, i01, in10, i1n, xbT, xbF, r_lt, t2]
        have hb2 := tb_6 (v := nI (rp (ra (mst m g p).1 (mst m g p).2.1 (m / 8 ^ p % 8)))) hb
        have hs2 : tn_sh (xe_sI h' o 6 (nI (rp (ra (mst m g p).1 (mst m g p).2.1 (m / 8 ^ p % 8))))) o := tn_sh_st (stq_sI hw.1) hs
        have e3 : xe_I (xe_sI h' o 6 (nI (rp (ra (mst m g p).1 (mst m g p).2.1 (m / 8 ^ p % 8))))) (o + 4) p = nI ((mst m g p).1 (25 + 2 * p)) := by rw [hI_sI, if_neg (by omega)]; exact v3a
        simp only [xs_53_75, xs_53_78, xs_53_79, xs_53_82, xs_53_83, xs_53_84, xs_53_85, xs_53_88, xs_53_89, xs_53_90, xs_53_92, s1, r4, rf_some, ob_ia o4, ix_nI n4 (show p < 3 by omega) (by decide), nI_clamp (show p < 2 ^ 31 by omega), e3, rf_some, xc_int, xc_ref, xc_ret, xc_long, xw_nil, xw_int, xw_ref, xw_long, tl_some, tl_none, true_and, and_true, Nat.zero_le, Nat.reduceAdd, Nat.reduceMul, Nat.reduceLeDiff, Nat.reduceLT, Nat.reduceEqDiff, Nat.reducePow, Int32.reduceAdd, Int32.reduceMul, Int32.reduceSub, Int32.reduceLT, Int32.reduceLE, Int32.reduceToNatClampNeg, litE, ixU, not_false_eq_true, not_true_eq_false, ↓reduceIte, eq_self, true_or, or_true, false_and, and_false, or_false, false_or, i10, i01, in10, i1n, xbT, xbF, r_lt, ho_sI, hR_sI, hia_sI, hN_sI, n4, nIlt0 (show p < 2 ^ 31 by omega), nI_clamp (show p < 2 ^ 31 by omega), show p < 3 by omega]
        rw [tx_placeAfter hs2 hb2 k1 (show (mst m g p).1 (25 + 2 * p) < 2 ^ 31 by omega) (cm_le z)]
        simp only [xs_53_95, xs_53_96, xs_53_105, xs_53_108, o4, ix_nI n4 (show p < 3 by omega) (by decide), nI_clamp (show p < 2 ^ 31 by omega), nI_1, rf_some, xc_int, xc_ref, xc_ret, xc_long, xw_nil, xw_int, xw_ref, xw_long, tl_some, tl_none, true_and, and_true, Nat.zero_le, Nat.reduceAdd, Nat.reduceMul, Nat.reduceLeDiff, Nat.reduceLT, Nat.reduceEqDiff, Nat.reducePow, Int32.reduceAdd, Int32.reduceMul, Int32.reduceSub, Int32.reduceLT, Int32.reduceLE, Int32.reduceToNatClampNeg, litE, ixU, not_false_eq_true, not_true_eq_false, ↓reduceIte, eq_self, true_or, or_true, false_and, and_false, or_false, false_or, i10, i01, in10, i1n, xbT, xbF, r_lt, ho_sI, hN_sI, n4, nIlt0 (show p < 2 ^ 31 by omega), nI_clamp (show p < 2 ^ 31 by omega), show p < 3 by omega]
        exact ih'
      · have em : mst m g (p + 1) = ((mst m g p).1, (mst m g p).2.1, (mst m g p).2.2 ||| 1 <<< (nI p &&& 31)) := by rw [mst, if_neg (fun y => z (cb_T y))]
        have ih' := ih (p + 1) h' (.int (nI (m / 8 ^ p % 8))) (by omega)
        rw [em] at ih'
        simp only [xs_53_61, xs_53_99, xs_53_100, xs_53_101, xs_53_102, xs_53_103, xs_53_104, xs_53_105, xs_53_108, @xb_f _ (cmD _ _ _ _) z, nI_1, rf_some, xc_int, xc_ref, xc_ret, xc_long, xw_nil, xw_int, xw_ref, xw_long, tl_some, tl_none, true_and, and_true, Nat.zero_le, Nat.reduceAdd, Nat.reduceMul, Nat.reduceLeDiff, Nat.reduceLT, Nat.reduceEqDiff, Nat.reducePow, Int32.reduceAdd, Int32.reduceMul, Int32.reduceSub, Int32.reduceLT, Int32.reduceLE, Int32.reduceToNatClampNeg, litE, ixU, not_false_eq_true, not_true_eq_false, ↓reduceIte, eq_self, true_or, or_true, false_and, and_false, or_false, false_or, i10, i01, in10, i1n, xbT, xbF, r_lt]
        exact ih' hb h6 hw
  obtain ⟨s1, -⟩ := id hs
  obtain ⟨⟨a0, a1, a2, a3, a4, a5, a6⟩, -⟩ := id hv
  have l0 := lp (g 31) 0 h (.retAddr 0) (by omega) (tn_bv hv) a6 (wr_rf _ h)
  have e9 : (nI (g 34) < 999) = True := eq_true (by rw [show (999 : Int32) = nI 999 from rfl, nI_ltI (by omega) (by decide)]; exact h9)
  simp only [xs_53, xs_53_0, xs_53_1, xs_53_2, xs_53_5, xs_53_8, xs_53_9, xs_53_10, xs_53_11, xs_53_14, xs_53_17, xs_53_20, xs_53_22, xs_53_23, xs_53_24, xs_53_25, xs_53_26, tw_areMoves hs hv hg hm, @xb_t _ (gmD _ _) hgm, s1, a5, e9, rf_some, xc_int, xc_ref, xc_ret, xc_long, xw_nil, xw_int, xw_ref, xw_long, tl_some, tl_none, true_and, and_true, Nat.zero_le, Nat.reduceAdd, Nat.reduceMul, Nat.reduceLeDiff, Nat.reduceLT, Nat.reduceEqDiff, Nat.reducePow, Int32.reduceAdd, Int32.reduceMul, Int32.reduceSub, Int32.reduceLT, Int32.reduceLE, Int32.reduceToNatClampNeg, litE, ixU, not_false_eq_true, not_true_eq_false, ↓reduceIte, eq_self, true_or, or_true, false_and, and_false, or_false, false_or, i10, i01, in10, i1n, xbT, xbF, r_lt]
  exact l0
theorem tw_passB {o : Nat} {x : Int32} {g : Nat → Nat} (hs : tn_sh h o) (hv : tn_v h o g) (hg : pg_ok g) (hx : ∀ m, m < 2 ^ 31 → x = nI m → ¬ gm g m) : xe_C (d + 3) 53 [.ref o, .int x] h Q = Q (some (.int (-1))) h := by
  obtain ⟨s1, -⟩ := id hs
  by_cases z : x < 0
  · simp only [xs_53, xs_53_0, xs_53_1, xs_53_2, xs_53_5, xs_53_8, xs_53_9, tw_areMovesN z, s1, rf_some, xc_int, xc_ref, xc_ret, xc_long, xw_nil, xw_int, xw_ref, xw_long, tl_some, tl_none, true_and, and_true, Nat.zero_le, Nat.reduceAdd, Nat.reduceMul, Nat.reduceLeDiff, Nat.reduceLT, Nat.reduceEqDiff, Nat.reducePow, Int32.reduceAdd, Int32.reduceMul, Int32.reduceSub, Int32.reduceLT, Int32.reduceLE, Int32.reduceToNatClampNeg, litE, ixU, not_false_eq_true, not_true_eq_false, ↓reduceIte, eq_self, true_or, or_true, false_and, and_false, or_false, false_or, i10, i01, in10, i1n, xbT, xbF, r_lt]
  · obtain ⟨m, hm, rfl⟩ : ∃ m, m < 2 ^ 31 ∧ x = nI m := by
      have h1 := fb_rng x
      have h2 := fa_of_nlt z
      rw [fa_le, show Int32.toInt 0 = 0 by decide] at h2
      refine ⟨x.toInt.toNat, by omega, ?_⟩
      rw [fa_eq, nI_toInt (by omega)]
      omega
    simp only [xs_53, xs_53_0, xs_53_1, xs_53_2, xs_53_5, xs_53_8, xs_53_9, tw_areMoves hs hv hg hm, @xb_f _ (gmD _ _) (hx m hm rfl), s1, rf_some, xc_int, xc_ref, xc_ret, xc_long, xw_nil, xw_int, xw_ref, xw_long, tl_some, tl_none, true_and, and_true, Nat.zero_le, Nat.reduceAdd, Nat.reduceMul, Nat.reduceLeDiff, Nat.reduceLT, Nat.reduceEqDiff, Nat.reducePow, Int32.reduceAdd, Int32.reduceMul, Int32.reduceSub, Int32.reduceLT, Int32.reduceLE, Int32.reduceToNatClampNeg, litE, ixU, not_false_eq_true, not_true_eq_false, ↓reduceIte, eq_self, true_or, or_true, false_and, and_false, or_false, false_or, i10, i01, in10, i1n, xbT, xbF, r_lt]
theorem tw_passF {o m : Nat} {g : Nat → Nat} (hs : tn_sh h o) (hv : tn_v h o g) (hg : pg_ok g) (hm : m < 2 ^ 31) (hgm : gm g m) (h9 : ¬ g 34 < 999) : xe_C (d + 3) 53 [.ref o, .int (nI m)] h Q = Q (some (.int (-3))) h := by
  obtain ⟨s1, -⟩ := id hs
  obtain ⟨⟨a0, a1, a2, a3, a4, a5, a6⟩, -⟩ := id hv
  have h34 : g 34 ≤ 999 := hg.2.2.2.2.2.1
  have e9 : (nI (g 34) < 999) = False := eq_false (by rw [show (999 : Int32) = nI 999 from rfl, nI_ltI (by omega) (by decide)]; omega)
  simp only [xs_53, xs_53_0, xs_53_1, xs_53_2, xs_53_5, xs_53_8, xs_53_9, xs_53_10, xs_53_11, xs_53_14, xs_53_17, xs_53_20, xs_53_22, tw_areMoves hs hv hg hm, @xb_t _ (gmD _ _) hgm, s1, a5, e9, rf_some, xc_int, xc_ref, xc_ret, xc_long, xw_nil, xw_int, xw_ref, xw_long, tl_some, tl_none, true_and, and_true, Nat.zero_le, Nat.reduceAdd, Nat.reduceMul, Nat.reduceLeDiff, Nat.reduceLT, Nat.reduceEqDiff, Nat.reducePow, Int32.reduceAdd, Int32.reduceMul, Int32.reduceSub, Int32.reduceLT, Int32.reduceLE, Int32.reduceToNatClampNeg, litE, ixU, not_false_eq_true, not_true_eq_false, ↓reduceIte, eq_self, true_or, or_true, false_and, and_false, or_false, false_or, i10, i01, in10, i1n, xbT, xbF, r_lt]
end PM
