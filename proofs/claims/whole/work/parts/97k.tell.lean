/-! text: the class takes a line in -/
section TG
variable {h : xe_H} {o : Nat} {g : Nat → Nat}
theorem tn_v_g {g' : Nat → Nat} (h24 : g 24 ≤ 6) (h31 : g 31 ≤ 3) (e : ∀ k, k < 36 → g' k = g k) (H : tn_v h o g) : tn_v h o g' := by
  obtain ⟨⟨a0, a1, a2, a3, a4, a5, a6⟩, b, c, p⟩ := H
  refine ⟨⟨?_, ?_, ?_, ?_, ?_, ?_, ?_⟩, fun k hk => ⟨?_, ?_⟩, fun k hk => ?_, fun k hk => ⟨?_, ?_⟩⟩
  · rw [e _ (by omega)]; exact a0
  · rw [e _ (by omega)]; exact a1
  · rw [e _ (by omega)]; exact a2
  · rw [e _ (by omega)]; exact a3
  · rw [e _ (by omega)]; exact a4
  · rw [e _ (by omega)]; exact a5
  · rw [rp_c (f := gr g') (g := gr g) (fun b hb => e _ (by omega))]; exact a6
  · rw [e 24 (by omega)] at hk; rw [e _ (by omega)]; exact (b k hk).1
  · rw [e 24 (by omega)] at hk; rw [e _ (by omega)]; exact (b k hk).2
  · rw [e _ (by omega)]; exact c k hk
  · rw [e 31 (by omega)] at hk; rw [e _ (by omega)]; exact (p k hk).1
  · rw [e 31 (by omega)] at hk; rw [e _ (by omega)]; exact (p k hk).2
theorem tn_ig {k v : Nat} (h24 : g 24 ≤ 6) (h31 : g 31 ≤ 3) (hk : 36 ≤ k) (H : tn_v h o g) : tn_v h o (up g k v) := tn_v_g h24 h31 (fun j hj => up_ne (by omega)) H
theorem tn_up_places {v : Nat} (h24 : g 24 ≤ 6) (h31 : g 31 ≤ 3) (H : tn_v h o g) : tn_v (xe_sI h o 0 (nI v)) o (up g 35 v) := by
  obtain ⟨⟨a0, a1, a2, a3, a4, a5, a6⟩, b, c, p⟩ := H
  have e24 : up g 35 v 24 = g 24 := up_ne (by omega)
  have e31 : up g 35 v 31 = g 31 := up_ne (by omega)
  refine ⟨⟨?_, ?_, ?_, ?_, ?_, ?_, ?_⟩, fun k hk => ⟨?_, ?_⟩, fun k hk => ?_, fun k hk => ⟨?_, ?_⟩⟩
  · rw [hI_sI, if_pos ⟨rfl, rfl⟩, up_eq]
  · rw [hI_sI, if_neg (by omega), up_ne (by omega)]; exact a1
  · rw [hI_sI, if_neg (by omega), up_ne (by omega)]; exact a2
  · rw [hI_sI, if_neg (by omega), up_ne (by omega)]; exact a3
  · rw [hI_sI, if_neg (by omega), up_ne (by omega)]; exact a4
  · rw [hI_sI, if_neg (by omega), up_ne (by omega)]; exact a5
  · rw [hI_sI, if_neg (by omega), rp_c (f := gr (up g 35 v)) (g := gr g) (fun b hb => show up g 35 v (4 * b + 3) = g (4 * b + 3) from up_ne (by omega))]; exact a6
  · rw [e24] at hk; rw [hI_sI, if_neg (by omega), up_ne (by omega)]; exact (b k hk).1
  · rw [e24] at hk; rw [hI_sI, if_neg (by omega), up_ne (by omega)]; exact (b k hk).2
  · rw [hI_sI, if_neg (by omega), up_ne (by omega)]; exact c k hk
  · rw [e31] at hk; rw [hI_sI, if_neg (by omega), up_ne (by omega)]; exact (p k hk).1
  · rw [e31] at hk; rw [hI_sI, if_neg (by omega), up_ne (by omega)]; exact (p k hk).2
theorem tn_new_br {q a b : Nat} (hq : g 24 = q) (hq6 : q < 6) (h31 : g 31 ≤ 3) (H : tn_v h o g) : tn_v (xe_sI (xe_sI (xe_sI h (o + 1) q (nI a)) (o + 2) q (nI b)) o 1 (nI (q + 1))) o (up (up (up g (4 * q) a) (4 * q + 1) b) 24 (q + 1)) := by
  obtain ⟨⟨a0, a1, a2, a3, a4, a5, a6⟩, b', c, p⟩ := H
  generalize hG : up (up (up g (4 * q) a) (4 * q + 1) b) 24 (q + 1) = G
  have e : ∀ k, k ≠ 24 → k ≠ 4 * q → k ≠ 4 * q + 1 → G k = g k := fun k h1 h2 h3 => by rw [← hG, up_ne h1, up_ne h3, up_ne h2]
  have e24 : G 24 = q + 1 := by rw [← hG, up_eq]
  have e31 : G 31 = g 31 := e _ (by omega) (by omega) (by omega)
  have i : ∀ c j, ¬ (c = o + 1 ∧ j = q) → ¬ (c = o + 2 ∧ j = q) → ¬ (c = o ∧ j = 1) → xe_I (xe_sI (xe_sI (xe_sI h (o + 1) q (nI a)) (o + 2) q (nI b)) o 1 (nI (q + 1))) c j = xe_I h c j := fun c j h1 h2 h3 => by rw [hI_sI, if_neg h3, hI_sI, if_neg h2, hI_sI, if_neg h1]
  refine ⟨⟨?_, ?_, ?_, ?_, ?_, ?_, ?_⟩, fun k hk => ?_, fun k hk => ?_, fun k hk => ⟨?_, ?_⟩⟩
  · rw [i _ _ (by omega) (by omega) (by omega), e _ (by omega) (by omega) (by omega)]; exact a0
  · rw [hI_sI, if_pos ⟨rfl, rfl⟩, e24]
  · rw [i _ _ (by omega) (by omega) (by omega), e _ (by omega) (by omega) (by omega)]; exact a2
  · rw [i _ _ (by omega) (by omega) (by omega), e _ (by omega) (by omega) (by omega)]; exact a3
  · rw [i _ _ (by omega) (by omega) (by omega), e _ (by omega) (by omega) (by omega)]; exact a4
  · rw [i _ _ (by omega) (by omega) (by omega), e _ (by omega) (by omega) (by omega)]; exact a5
  · rw [i _ _ (by omega) (by omega) (by omega), rp_c (f := gr G) (g := gr g) (fun b hb => e _ (by omega) (by omega) (by omega))]; exact a6
  · rw [e24] at hk
    by_cases z : k = q
    · subst z
      refine ⟨?_, ?_⟩
      · rw [hI_sI, if_neg (by omega), hI_sI, if_neg (by omega), hI_sI, if_pos ⟨rfl, rfl⟩, ← hG, up_ne (by omega), up_ne (by omega), up_eq]
      · rw [hI_sI, if_neg (by omega), hI_sI, if_pos ⟨rfl, rfl⟩, ← hG, up_ne (by omega), up_eq]
    · rw [i _ _ (by omega) (by omega) (by omega), e _ (by omega) (by omega) (by omega), i _ _ (by omega) (by omega) (by omega), e _ (by omega) (by omega) (by omega)]
      exact b' k (by omega)
  · rw [i _ _ (by omega) (by omega) (by omega), e _ (by omega) (by omega) (by omega)]; exact c k hk
  · rw [e31] at hk; rw [i _ _ (by omega) (by omega) (by omega), e _ (by omega) (by omega) (by omega)]; exact (p k hk).1
  · rw [e31] at hk; rw [i _ _ (by omega) (by omega) (by omega), e _ (by omega) (by omega) (by omega)]; exact (p k hk).2
theorem tn_new_one {q a b : Nat} (h24 : g 24 ≤ 6) (hq : g 31 = q) (hq3 : q < 3) (H : tn_v h o g) : tn_v (xe_sI (xe_sI (xe_sI h (o + 4) q (nI a)) (o + 5) q (nI b)) o 2 (nI (q + 1))) o (up (up (up g (25 + 2 * q) a) (26 + 2 * q) b) 31 (q + 1)) := by
  obtain ⟨⟨a0, a1, a2, a3, a4, a5, a6⟩, b', c, p⟩ := H
  generalize hG : up (up (up g (25 + 2 * q) a) (26 + 2 * q) b) 31 (q + 1) = G
  have e : ∀ k, k ≠ 31 → k ≠ 25 + 2 * q → k ≠ 26 + 2 * q → G k = g k := fun k h1 h2 h3 => by rw [← hG, up_ne h1, up_ne h3, up_ne h2]
  have e31 : G 31 = q + 1 := by rw [← hG, up_eq]
  have e24 : G 24 = g 24 := e _ (by omega) (by omega) (by omega)
  have i : ∀ c j, ¬ (c = o + 4 ∧ j = q) → ¬ (c = o + 5 ∧ j = q) → ¬ (c = o ∧ j = 2) → xe_I (xe_sI (xe_sI (xe_sI h (o + 4) q (nI a)) (o + 5) q (nI b)) o 2 (nI (q + 1))) c j = xe_I h c j := fun c j h1 h2 h3 => by rw [hI_sI, if_neg h3, hI_sI, if_neg h2, hI_sI, if_neg h1]
  refine ⟨⟨?_, ?_, ?_, ?_, ?_, ?_, ?_⟩, fun k hk => ⟨?_, ?_⟩, fun k hk => ?_, fun k hk => ?_⟩
  · rw [i _ _ (by omega) (by omega) (by omega), e _ (by omega) (by omega) (by omega)]; exact a0
  · rw [i _ _ (by omega) (by omega) (by omega), e _ (by omega) (by omega) (by omega)]; exact a1
  · rw [hI_sI, if_pos ⟨rfl, rfl⟩, e31]
  · rw [i _ _ (by omega) (by omega) (by omega), e _ (by omega) (by omega) (by omega)]; exact a3
  · rw [i _ _ (by omega) (by omega) (by omega), e _ (by omega) (by omega) (by omega)]; exact a4
  · rw [i _ _ (by omega) (by omega) (by omega), e _ (by omega) (by omega) (by omega)]; exact a5
  · rw [i _ _ (by omega) (by omega) (by omega), rp_c (f := gr G) (g := gr g) (fun b hb => e _ (by omega) (by omega) (by omega))]; exact a6
  · rw [e24] at hk; rw [i _ _ (by omega) (by omega) (by omega), e _ (by omega) (by omega) (by omega)]; exact (b' k hk).1
  · rw [e24] at hk; rw [i _ _ (by omega) (by omega) (by omega), e _ (by omega) (by omega) (by omega)]; exact (b' k hk).2
  · rw [i _ _ (by omega) (by omega) (by omega), e _ (by omega) (by omega) (by omega)]; exact c k hk
  · rw [e31] at hk
    by_cases z : k = q
    · subst z
      refine ⟨?_, ?_⟩
      · rw [hI_sI, if_neg (by omega), hI_sI, if_neg (by omega), hI_sI, if_pos ⟨rfl, rfl⟩, ← hG, up_ne (by omega), up_ne (by omega), up_eq]
      · rw [hI_sI, if_neg (by omega), hI_sI, if_pos ⟨rfl, rfl⟩, ← hG, up_ne (by omega), up_eq]
    · rw [i _ _ (by omega) (by omega) (by omega), e _ (by omega) (by omega) (by omega), i _ _ (by omega) (by omega) (by omega), e _ (by omega) (by omega) (by omega)]
      exact p k (by omega)
end TG
/-! sets of words -/
theorem bt_and : ∀ m, m < 128 → ∀ w, w < 7 → ((nI m &&& ((1 : Int32) <<< (nI w &&& 31)) = 0) ↔ m / 2 ^ w % 2 = 0) := by decide +kernel
def bor (m w : Nat) : Nat := m + (1 - m / 2 ^ w % 2) * 2 ^ w
theorem bt_or : ∀ m, m < 128 → ∀ w, w < 7 → (nI m ||| ((1 : Int32) <<< (nI w &&& 31))) = nI (bor m w) ∧ bor m w < 128 ∧ ∀ k, k < 7 → bor m w / 2 ^ k % 2 = if k = w then 1 else m / 2 ^ k % 2 := by decide +kernel
theorem bt_shr : ∀ m, m < 128 → ∀ w, w < 7 → ((nI m >>> (nI w &&& 31)) &&& 1) = nI (m / 2 ^ w % 2) := by decide +kernel
theorem imx1 {a b : Nat} (ha : a < 1000) (hb : b < 1000) : (if nI a < nI b then nI b else nI a) = nI (mx (a + 1) (b + 1)) - 1 := by
  unfold mx
  by_cases z : a < b
  · rw [if_pos (by rw [nIlt (by omega) (by omega)]; exact z), if_pos (by omega), show (1 : Int32) = nI 1 from rfl, pk_sub (by omega), Nat.add_sub_cancel]
  · rw [if_neg (by rw [nIlt (by omega) (by omega)]; exact z), if_neg (by omega), show (1 : Int32) = nI 1 from rfl, pk_sub (by omega), Nat.add_sub_cancel]
theorem imx0 {a : Nat} : nI a = nI (a + 1) - 1 := by rw [show (1 : Int32) = nI 1 from rfl, pk_sub (by omega), Nat.add_sub_cancel]
theorem lt_m1 {a b : Nat} (ha : a < 1000) (hb : b < 1000) : (nI a - 1 < nI b - 1) = (a < b) := by
  rw [fa_lt, nI1, pk_sub_toInt (by omega) (by decide), pk_sub_toInt (by omega) (by decide)]
  exact propext ⟨fun z => by omega, fun z => by omega⟩
theorem imx2 {p m : Nat} (hp : p < 1000) (hm : m < 1000) : (if nI p - 1 < nI m - 1 then nI m - 1 else nI p - 1) = nI (mx p m) - 1 := by
  unfold mx
  by_cases z : p < m
  · rw [if_pos (by rw [lt_m1 hp hm]; exact z), if_pos z]
  · rw [if_neg (by rw [lt_m1 hp hm]; exact z), if_neg z]
/-- the class's side of what was told -/
def csQ (g : Nat → Nat) (h : xe_H) : Prop := tn_v h 7 g ∧ (∃ m, m < 128 ∧ xe_I h 27 9 = nI m ∧ ∀ w, w < 3 → m / 2 ^ w % 2 = g (38 + w)) ∧ xe_I h 27 10 = nI (g 36) - 1 ∧ xe_I h 27 11 = nI (g 37) - 1 ∧ xe_R h 27 4 = some 7
def tlT (a j : Nat) : Prop := (a = 27 ∧ 9 ≤ j ∧ j ≤ 11) ∨ (7 ≤ a ∧ a ≤ 12)
section TH
variable {d : Nat} {h : xe_H} {g : Nat → Nat} {Q : Option Value → xe_H → Prop}
theorem told_w {m w : Nat} {g' : Nat → Nat} (hw : w < 7) (m1 : m < 128) (m3 : ∀ k, k < 3 → m / 2 ^ k % 2 = g (38 + k)) (e : ∀ k, k < 3 → g' (38 + k) = if k = w then 1 else g (38 + k)) : ∃ m', m' < 128 ∧ nI (bor m w) = nI m' ∧ ∀ k, k < 3 → m' / 2 ^ k % 2 = g' (38 + k) := by
  obtain ⟨-, o2, o3⟩ := bt_or m m1 w hw
  refine ⟨_, o2, rfl, fun k hk => ?_⟩
  rw [o3 k (by omega), e k hk, m3 k hk]
theorem cl_tellLine {w a b : Nat} (hw : w < 7) (G : gq g) (R : lnR w a b g) (ha : a < 100) (hb : b < 100) (H : sh h) (cs : csQ g h) (K : ∀ h', wr tlT h h' → csQ (tlg w a b g) h' → Q none h') : xe_C (d + 2) 28 [.ref 27, .int (nI w), .int (nI a), .int (nI b)] h Q := by
  obtain ⟨tv, ⟨m, m1, m2, m3⟩, t1, t2, r4⟩ := cs
  obtain ⟨⟨q24, q31, q32, q33, q34, q35, q36, q37, q38, q39, q40⟩, Hb, Hp⟩ := id G
  obtain ⟨r0, r1, r2, r3, r4', r5, r6⟩ := R
  obtain ⟨o1, -, -⟩ := bt_or m m1 w hw
  have tv9 : tn_v (xe_sI h 27 9 (nI (bor m w))) 7 g := tn_v_c tv (fun a j h1 h2 => by rw [hI_sI, if_neg (by omega)])
  have W9 : wr tlT h (xe_sI h 27 9 (nI (bor m w))) := wr_sI (wr_rf _ _) (by unfold tlT; omega)
  obtain ⟨⟨v0, v1, v2, v3, v4, v5, v6⟩, -⟩ := id tv
  have x1 := imx1 (a := a) (b := b) (by omega) (by omega)
  have mb := mx_b (a + 1) (b + 1)
  unfold tlg at K
  rcases lnR_3 w hw with rfl | rfl | rfl | rfl | rfl | rfl | rfl
  · rw [if_pos rfl] at K
    simp only [xs_28, xs_28_0, xs_28_1, xs_28_1i, xs_28_2, xs_28_5, xs_28_6, xs_28_7, xs_28_8, xs_28_9, xs_28_12, xs_28_13, xs_28_52, xs_28_53, xs_28_56, xs_28_57, xs_28_60, xs_28_273, H, sT_0, sT_1, sT_2, sN_2, sA_2, sT_3, sN_3, sA_3, sT_4, sN_4, sA_4, sT_5, sN_5, sA_5, sT_6, sN_6, sA_6, sT_7, sT_8, sN_8, sA_8, sT_9, sN_9, sA_9, sT_10, sN_10, sA_10, sT_11, sN_11, sA_11, sT_12, sN_12, sA_12, sT_13, sN_13, sT_14, sT_15, sN_15, sA_15, sT_16, sN_16, sA_16, sT_17, sN_17, sA_17, sT_18, sN_18, sA_18, sT_19, sN_19, sA_19, sT_20, sT_21, sN_21, sA_21, sT_22, sN_22, sA_22, sT_23, sN_23, sA_23, sT_24, sN_24, sA_24, sT_25, sN_25, sA_25, sT_26, sN_26, sB_26, sT_27, sT_28, sN_28, sB_28, sT_29, sT_30, sN_30, sT_32, sN_32, sA_32, sT_33, sT_34, sN_34, sA_34, sT_35, sN_35, sA_35, sT_36, sT_37, sN_37, sA_37, sT_38, sN_38, sA_38, sT_39, sN_39, sA_39, sT_40, sN_40, sB_40, sT_41, sN_41, sA_41, sT_42, sN_42, sA_42, sT_43, sN_43, sA_43, sT_44, sT_45, sN_45, sA_45, sT_46, sN_46, sA_46, sT_47, sN_47, sA_47, sR_1_7, sR_1_8, sR_1_9, sR_1_10, sR_1_11, sR_0_0, sR_7_7, sR_7_8, sR_7_9, sR_7_10, sR_7_11, sR_0_1, sR_0_2, sR_14_7, sR_14_8, sR_14_9, sR_14_10, sR_14_11, sR_13_0, sR_20_7, sR_20_8, sR_20_9, sR_20_10, sR_20_11, sR_13_1, sR_0_3, sR_0_4, sR_27_0, sR_0_5, sR_29_0, sR_29_3, sR_0_6, sR_33_1, sR_33_2, sR_0_7, sR_36_2, sR_36_3, sR_36_4, sR_36_5, sR_36_6, sR_36_7, sR_36_8, sR_0_8, sR_44_0, sR_44_1, sR_44_2, r4, m2, o1, show (nI 0 = 0) = True from eq_true rfl, rf_some, xc_int, xc_ref, xc_ret, xc_long, xw_nil, xw_int, xw_ref, xw_long, tl_some, tl_none, true_and, and_true, Nat.zero_le, Nat.reduceAdd, Nat.reduceMul, Nat.reduceLeDiff, Nat.reduceLT, Nat.reduceEqDiff, Nat.reducePow, Int32.reduceAdd, Int32.reduceMul, Int32.reduceSub, Int32.reduceLT, Int32.reduceLE, Int32.reduceToNatClampNeg, litE, ixU, not_false_eq_true, not_true_eq_false, ↓reduceIte, eq_self, true_or, or_true, false_and, and_false, or_false, false_or, i10, i01, in10, i1n, xbT, xbF, r_lt, hI_sI, hL_sI, hR_sI, hT_sI, hN_sI, hn_sI, ho_sI, hia_sI, hba_sI, hal_sI, hix_sI, hI_aI, hL_aI, hR_aI, hT_aI, hN_aI, hn_aI, ho_aI, hia_aI, hal_aI, hix_aI, sh_sI, sh_aI, sh_sL, sh_aL]
    refine K _ (wr_sI W9 (by unfold tlT; omega)) ⟨tn_ig (by rw [up_ne (by omega)]; exact q24) (by rw [up_ne (by omega)]; exact q31) (by omega) (tn_up_places q24 q31 tv9), ?_, ?_, ?_, r4⟩
    · rw [hI_sI, if_neg (by omega), hI_sI, if_pos ⟨rfl, rfl⟩]
      refine told_w (w := 0) (by omega) m1 m3 (fun k hk => ?_)
      by_cases z : k = 0
      · rw [if_pos z, z, up_eq]
      · rw [if_neg z, up_ne (by omega), up_ne (by omega)]
    · rw [hI_sI, if_neg (by omega), hI_sI, if_neg (by omega), up_ne (by omega), up_ne (by omega)]; exact t1
    · rw [hI_sI, if_neg (by omega), hI_sI, if_neg (by omega), up_ne (by omega), up_ne (by omega)]; exact t2
  · rw [if_neg (by omega), if_pos rfl] at K
    simp only [xs_28, xs_28_0, xs_28_1, xs_28_1i, xs_28_2, xs_28_5, xs_28_6, xs_28_7, xs_28_8, xs_28_9, xs_28_12, xs_28_13, xs_28_63, xs_28_64, xs_28_67, xs_28_68, xs_28_71, xs_28_273, H, sT_0, sT_1, sT_2, sN_2, sA_2, sT_3, sN_3, sA_3, sT_4, sN_4, sA_4, sT_5, sN_5, sA_5, sT_6, sN_6, sA_6, sT_7, sT_8, sN_8, sA_8, sT_9, sN_9, sA_9, sT_10, sN_10, sA_10, sT_11, sN_11, sA_11, sT_12, sN_12, sA_12, sT_13, sN_13, sT_14, sT_15, sN_15, sA_15, sT_16, sN_16, sA_16, sT_17, sN_17, sA_17, sT_18, sN_18, sA_18, sT_19, sN_19, sA_19, sT_20, sT_21, sN_21, sA_21, sT_22, sN_22, sA_22, sT_23, sN_23, sA_23, sT_24, sN_24, sA_24, sT_25, sN_25, sA_25, sT_26, sN_26, sB_26, sT_27, sT_28, sN_28, sB_28, sT_29, sT_30, sN_30, sT_32, sN_32, sA_32, sT_33, sT_34, sN_34, sA_34, sT_35, sN_35, sA_35, sT_36, sT_37, sN_37, sA_37, sT_38, sN_38, sA_38, sT_39, sN_39, sA_39, sT_40, sN_40, sB_40, sT_41, sN_41, sA_41, sT_42, sN_42, sA_42, sT_43, sN_43, sA_43, sT_44, sT_45, sN_45, sA_45, sT_46, sN_46, sA_46, sT_47, sN_47, sA_47, sR_1_7, sR_1_8, sR_1_9, sR_1_10, sR_1_11, sR_0_0, sR_7_7, sR_7_8, sR_7_9, sR_7_10, sR_7_11, sR_0_1, sR_0_2, sR_14_7, sR_14_8, sR_14_9, sR_14_10, sR_14_11, sR_13_0, sR_20_7, sR_20_8, sR_20_9, sR_20_10, sR_20_11, sR_13_1, sR_0_3, sR_0_4, sR_27_0, sR_0_5, sR_29_0, sR_29_3, sR_0_6, sR_33_1, sR_33_2, sR_0_7, sR_36_2, sR_36_3, sR_36_4, sR_36_5, sR_36_6, sR_36_7, sR_36_8, sR_0_8, sR_44_0, sR_44_1, sR_44_2, r4, m2, o1, show (nI 1 = 0) = False from eq_false (by decide), show (nI 1 = 1) = True from eq_true rfl, rf_some, xc_int, xc_ref, xc_ret, xc_long, xw_nil, xw_int, xw_ref, xw_long, tl_some, tl_none, true_and, and_true, Nat.zero_le, Nat.reduceAdd, Nat.reduceMul, Nat.reduceLeDiff, Nat.reduceLT, Nat.reduceEqDiff, Nat.reducePow, Int32.reduceAdd, Int32.reduceMul, Int32.reduceSub, Int32.reduceLT, Int32.reduceLE, Int32.reduceToNatClampNeg, litE, ixU, not_false_eq_true, not_true_eq_false, ↓reduceIte, eq_self, true_or, or_true, false_and, and_false, or_false, false_or, i10, i01, in10, i1n, xbT, xbF, r_lt, hI_sI, hL_sI, hR_sI, hT_sI, hN_sI, hn_sI, ho_sI, hia_sI, hba_sI, hal_sI, hix_sI, hI_aI, hL_aI, hR_aI, hT_aI, hN_aI, hn_aI, ho_aI, hia_aI, hal_aI, hix_aI, sh_sI, sh_aI, sh_sL, sh_aL]
    refine K _ (wr_sI W9 (by unfold tlT; omega)) ⟨tn_ig (by rw [up_ne (by omega)]; exact q24) (by rw [up_ne (by omega)]; exact q31) (by omega) (tn_up_hold q24 q31 tv9), ?_, ?_, ?_, r4⟩
    · rw [hI_sI, if_neg (by omega), hI_sI, if_pos ⟨rfl, rfl⟩]
      refine told_w (w := 1) (by omega) m1 m3 (fun k hk => ?_)
      by_cases z : k = 1
      · rw [if_pos z, z, up_eq]
      · rw [if_neg z, up_ne (by omega), up_ne (by omega)]
    · rw [hI_sI, if_neg (by omega), hI_sI, if_neg (by omega), up_ne (by omega), up_ne (by omega)]; exact t1
    · rw [hI_sI, if_neg (by omega), hI_sI, if_neg (by omega), up_ne (by omega), up_ne (by omega)]; exact t2
  · rw [if_neg (by omega), if_neg (by omega), if_pos rfl] at K
    simp only [xs_28, xs_28_0, xs_28_1, xs_28_1i, xs_28_2, xs_28_5, xs_28_6, xs_28_7, xs_28_8, xs_28_9, xs_28_12, xs_28_13, xs_28_74, xs_28_75, xs_28_78, xs_28_79, xs_28_82, xs_28_273, H, sT_0, sT_1, sT_2, sN_2, sA_2, sT_3, sN_3, sA_3, sT_4, sN_4, sA_4, sT_5, sN_5, sA_5, sT_6, sN_6, sA_6, sT_7, sT_8, sN_8, sA_8, sT_9, sN_9, sA_9, sT_10, sN_10, sA_10, sT_11, sN_11, sA_11, sT_12, sN_12, sA_12, sT_13, sN_13, sT_14, sT_15, sN_15, sA_15, sT_16, sN_16, sA_16, sT_17, sN_17, sA_17, sT_18, sN_18, sA_18, sT_19, sN_19, sA_19, sT_20, sT_21, sN_21, sA_21, sT_22, sN_22, sA_22, sT_23, sN_23, sA_23, sT_24, sN_24, sA_24, sT_25, sN_25, sA_25, sT_26, sN_26, sB_26, sT_27, sT_28, sN_28, sB_28, sT_29, sT_30, sN_30, sT_32, sN_32, sA_32, sT_33, sT_34, sN_34, sA_34, sT_35, sN_35, sA_35, sT_36, sT_37, sN_37, sA_37, sT_38, sN_38, sA_38, sT_39, sN_39, sA_39, sT_40, sN_40, sB_40, sT_41, sN_41, sA_41, sT_42, sN_42, sA_42, sT_43, sN_43, sA_43, sT_44, sT_45, sN_45, sA_45, sT_46, sN_46, sA_46, sT_47, sN_47, sA_47, sR_1_7, sR_1_8, sR_1_9, sR_1_10, sR_1_11, sR_0_0, sR_7_7, sR_7_8, sR_7_9, sR_7_10, sR_7_11, sR_0_1, sR_0_2, sR_14_7, sR_14_8, sR_14_9, sR_14_10, sR_14_11, sR_13_0, sR_20_7, sR_20_8, sR_20_9, sR_20_10, sR_20_11, sR_13_1, sR_0_3, sR_0_4, sR_27_0, sR_0_5, sR_29_0, sR_29_3, sR_0_6, sR_33_1, sR_33_2, sR_0_7, sR_36_2, sR_36_3, sR_36_4, sR_36_5, sR_36_6, sR_36_7, sR_36_8, sR_0_8, sR_44_0, sR_44_1, sR_44_2, r4, m2, o1, show (nI 2 = 0) = False from eq_false (by decide), show (nI 2 = 1) = False from eq_false (by decide), show (nI 2 = 2) = True from eq_true rfl, rf_some, xc_int, xc_ref, xc_ret, xc_long, xw_nil, xw_int, xw_ref, xw_long, tl_some, tl_none, true_and, and_true, Nat.zero_le, Nat.reduceAdd, Nat.reduceMul, Nat.reduceLeDiff, Nat.reduceLT, Nat.reduceEqDiff, Nat.reducePow, Int32.reduceAdd, Int32.reduceMul, Int32.reduceSub, Int32.reduceLT, Int32.reduceLE, Int32.reduceToNatClampNeg, litE, ixU, not_false_eq_true, not_true_eq_false, ↓reduceIte, eq_self, true_or, or_true, false_and, and_false, or_false, false_or, i10, i01, in10, i1n, xbT, xbF, r_lt, hI_sI, hL_sI, hR_sI, hT_sI, hN_sI, hn_sI, ho_sI, hia_sI, hba_sI, hal_sI, hix_sI, hI_aI, hL_aI, hR_aI, hT_aI, hN_aI, hn_aI, ho_aI, hia_aI, hal_aI, hix_aI, sh_sI, sh_aI, sh_sL, sh_aL]
    refine K _ (wr_sI W9 (by unfold tlT; omega)) ⟨tn_ig (by rw [up_ne (by omega)]; exact q24) (by rw [up_ne (by omega)]; exact q31) (by omega) (tn_up_law q24 q31 tv9), ?_, ?_, ?_, r4⟩
    · rw [hI_sI, if_neg (by omega), hI_sI, if_pos ⟨rfl, rfl⟩]
      refine told_w (w := 2) (by omega) m1 m3 (fun k hk => ?_)
      by_cases z : k = 2
      · rw [if_pos z, z, up_eq]
      · rw [if_neg z, up_ne (by omega), up_ne (by omega)]
    · rw [hI_sI, if_neg (by omega), hI_sI, if_neg (by omega), up_ne (by omega), up_ne (by omega)]; exact t1
    · rw [hI_sI, if_neg (by omega), hI_sI, if_neg (by omega), up_ne (by omega), up_ne (by omega)]; exact t2
  · have r3 := r3 rfl
    rw [if_neg (by omega), if_neg (by omega), if_neg (by omega), if_pos rfl] at K
    have x2 := imx2 (p := g 36) (m := mx (a + 1) (b + 1)) (by omega) (by omega)
    simp only [xs_28, xs_28_0, xs_28_1, xs_28_1i, xs_28_2, xs_28_5, xs_28_6, xs_28_7, xs_28_8, xs_28_9, xs_28_12, xs_28_13, xs_28_85, xs_28_86, xs_28_89, xs_28_92, xs_28_93, xs_28_96, xs_28_99, xs_28_100, xs_28_101, xs_28_102, xs_28_105, xs_28_108, xs_28_109, xs_28_112, xs_28_115, xs_28_116, xs_28_117, xs_28_118, xs_28_121, xs_28_121i, xs_28_122, xs_28_125, xs_28_126, xs_28_127, xs_28_130, xs_28_131, xs_28_132, xs_28_135, xs_28_136, xs_28_137, xs_28_140, xs_28_143, xs_28_146, xs_28_273, H, sT_0, sT_1, sT_2, sN_2, sA_2, sT_3, sN_3, sA_3, sT_4, sN_4, sA_4, sT_5, sN_5, sA_5, sT_6, sN_6, sA_6, sT_7, sT_8, sN_8, sA_8, sT_9, sN_9, sA_9, sT_10, sN_10, sA_10, sT_11, sN_11, sA_11, sT_12, sN_12, sA_12, sT_13, sN_13, sT_14, sT_15, sN_15, sA_15, sT_16, sN_16, sA_16, sT_17, sN_17, sA_17, sT_18, sN_18, sA_18, sT_19, sN_19, sA_19, sT_20, sT_21, sN_21, sA_21, sT_22, sN_22, sA_22, sT_23, sN_23, sA_23, sT_24, sN_24, sA_24, sT_25, sN_25, sA_25, sT_26, sN_26, sB_26, sT_27, sT_28, sN_28, sB_28, sT_29, sT_30, sN_30, sT_32, sN_32, sA_32, sT_33, sT_34, sN_34, sA_34, sT_35, sN_35, sA_35, sT_36, sT_37, sN_37, sA_37, sT_38, sN_38, sA_38, sT_39, sN_39, sA_39, sT_40, sN_40, sB_40, sT_41, sN_41, sA_41, sT_42, sN_42, sA_42, sT_43, sN_43, sA_43, sT_44, sT_45, sN_45, sA_45, sT_46, sN_46, sA_46, sT_47, sN_47, sA_47, sR_1_7, sR_1_8, sR_1_9, sR_1_10, sR_1_11, sR_0_0, sR_7_7, sR_7_8, sR_7_9, sR_7_10, sR_7_11, sR_0_1, sR_0_2, sR_14_7, sR_14_8, sR_14_9, sR_14_10, sR_14_11, sR_13_0, sR_20_7, sR_20_8, sR_20_9, sR_20_10, sR_20_11, sR_13_1, sR_0_3, sR_0_4, sR_27_0, sR_0_5, sR_29_0, sR_29_3, sR_0_6, sR_33_1, sR_33_2, sR_0_7, sR_36_2, sR_36_3, sR_36_4, sR_36_5, sR_36_6, sR_36_7, sR_36_8, sR_0_8, sR_44_0, sR_44_1, sR_44_2, r4, m2, o1, v1, t1, nIlt0 (show g 24 < 2 ^ 31 by omega), nI_clamp (show g 24 < 2 ^ 31 by omega), show g 24 < 6 by omega, x1, x2, nI_1, show (nI 3 = 0) = False from eq_false (by decide), show (nI 3 = 1) = False from eq_false (by decide), show (nI 3 = 2) = False from eq_false (by decide), show (nI 3 = 3) = True from eq_true rfl, rf_some, xc_int, xc_ref, xc_ret, xc_long, xw_nil, xw_int, xw_ref, xw_long, tl_some, tl_none, true_and, and_true, Nat.zero_le, Nat.reduceAdd, Nat.reduceMul, Nat.reduceLeDiff, Nat.reduceLT, Nat.reduceEqDiff, Nat.reducePow, Int32.reduceAdd, Int32.reduceMul, Int32.reduceSub, Int32.reduceLT, Int32.reduceLE, Int32.reduceToNatClampNeg, litE, ixU, not_false_eq_true, not_true_eq_false, ↓reduceIte, eq_self, true_or, or_true, false_and, and_false, or_false, false_or, i10, i01, in10, i1n, xbT, xbF, r_lt, hI_sI, hL_sI, hR_sI, hT_sI, hN_sI, hn_sI, ho_sI, hia_sI, hba_sI, hal_sI, hix_sI, hI_aI, hL_aI, hR_aI, hT_aI, hN_aI, hn_aI, ho_aI, hia_aI, hal_aI, hix_aI, sh_sI, sh_aI, sh_sL, sh_aL]
    generalize hq : g 24 = q at *
    refine K _ (wr_sI (wr_sI (wr_sI (wr_sI W9 (by unfold tlT; omega)) (by unfold tlT; omega)) (by unfold tlT; omega)) (by unfold tlT; omega)) ⟨tn_ig (by rw [up_eq]; omega) (by rw [up_ne (by omega), up_ne (by omega), up_ne (by omega)]; exact q31) (by omega) (tn_v_c (tn_new_br hq r3.1 q31 tv9) (fun c j h1 h2 => by rw [hI_sI, if_neg (by omega)])), ?_, ?_, ?_, r4⟩
    · rw [hI_sI, if_neg (by omega), hI_sI, if_neg (by omega), hI_sI, if_neg (by omega), hI_sI, if_neg (by omega), hI_sI, if_pos ⟨rfl, rfl⟩]
      refine told_w (w := 3) (by omega) m1 m3 (fun k hk => ?_)
      rw [if_neg (by omega), up_ne (by omega), up_ne (by omega), up_ne (by omega), up_ne (by omega)]
    · rw [hI_sI, if_pos ⟨rfl, rfl⟩, up_eq]
    · rw [hI_sI, if_neg (by omega), hI_sI, if_neg (by omega), hI_sI, if_neg (by omega), hI_sI, if_neg (by omega), hI_sI, if_neg (by omega), up_ne (by omega), up_ne (by omega), up_ne (by omega), up_ne (by omega)]; exact t2
  · have r4' := r4' rfl
    rw [if_neg (by omega), if_neg (by omega), if_neg (by omega), if_neg (by omega), if_pos rfl] at K
    have x2 := imx2 (p := g 37) (m := mx (a + 1) (b + 1)) (by omega) (by omega)
    simp only [xs_28, xs_28_0, xs_28_1, xs_28_1i, xs_28_2, xs_28_5, xs_28_6, xs_28_7, xs_28_8, xs_28_9, xs_28_12, xs_28_13, xs_28_149, xs_28_150, xs_28_153, xs_28_156, xs_28_157, xs_28_158, xs_28_159, xs_28_160, xs_28_161, xs_28_164, xs_28_165, xs_28_166, xs_28_169, xs_28_172, xs_28_175, xs_28_273, H, sT_0, sT_1, sT_2, sN_2, sA_2, sT_3, sN_3, sA_3, sT_4, sN_4, sA_4, sT_5, sN_5, sA_5, sT_6, sN_6, sA_6, sT_7, sT_8, sN_8, sA_8, sT_9, sN_9, sA_9, sT_10, sN_10, sA_10, sT_11, sN_11, sA_11, sT_12, sN_12, sA_12, sT_13, sN_13, sT_14, sT_15, sN_15, sA_15, sT_16, sN_16, sA_16, sT_17, sN_17, sA_17, sT_18, sN_18, sA_18, sT_19, sN_19, sA_19, sT_20, sT_21, sN_21, sA_21, sT_22, sN_22, sA_22, sT_23, sN_23, sA_23, sT_24, sN_24, sA_24, sT_25, sN_25, sA_25, sT_26, sN_26, sB_26, sT_27, sT_28, sN_28, sB_28, sT_29, sT_30, sN_30, sT_32, sN_32, sA_32, sT_33, sT_34, sN_34, sA_34, sT_35, sN_35, sA_35, sT_36, sT_37, sN_37, sA_37, sT_38, sN_38, sA_38, sT_39, sN_39, sA_39, sT_40, sN_40, sB_40, sT_41, sN_41, sA_41, sT_42, sN_42, sA_42, sT_43, sN_43, sA_43, sT_44, sT_45, sN_45, sA_45, sT_46, sN_46, sA_46, sT_47, sN_47, sA_47, sR_1_7, sR_1_8, sR_1_9, sR_1_10, sR_1_11, sR_0_0, sR_7_7, sR_7_8, sR_7_9, sR_7_10, sR_7_11, sR_0_1, sR_0_2, sR_14_7, sR_14_8, sR_14_9, sR_14_10, sR_14_11, sR_13_0, sR_20_7, sR_20_8, sR_20_9, sR_20_10, sR_20_11, sR_13_1, sR_0_3, sR_0_4, sR_27_0, sR_0_5, sR_29_0, sR_29_3, sR_0_6, sR_33_1, sR_33_2, sR_0_7, sR_36_2, sR_36_3, sR_36_4, sR_36_5, sR_36_6, sR_36_7, sR_36_8, sR_0_8, sR_44_0, sR_44_1, sR_44_2, r4, m2, o1, t2, nIlt0 (show a < 2 ^ 31 by omega), nI_clamp (show a < 2 ^ 31 by omega), show a < 6 by omega, x1, x2, show (nI 4 = 0) = False from eq_false (by decide), show (nI 4 = 1) = False from eq_false (by decide), show (nI 4 = 2) = False from eq_false (by decide), show (nI 4 = 3) = False from eq_false (by decide), show (nI 4 = 4) = True from eq_true rfl, rf_some, xc_int, xc_ref, xc_ret, xc_long, xw_nil, xw_int, xw_ref, xw_long, tl_some, tl_none, true_and, and_true, Nat.zero_le, Nat.reduceAdd, Nat.reduceMul, Nat.reduceLeDiff, Nat.reduceLT, Nat.reduceEqDiff, Nat.reducePow, Int32.reduceAdd, Int32.reduceMul, Int32.reduceSub, Int32.reduceLT, Int32.reduceLE, Int32.reduceToNatClampNeg, litE, ixU, not_false_eq_true, not_true_eq_false, ↓reduceIte, eq_self, true_or, or_true, false_and, and_false, or_false, false_or, i10, i01, in10, i1n, xbT, xbF, r_lt, hI_sI, hL_sI, hR_sI, hT_sI, hN_sI, hn_sI, ho_sI, hia_sI, hba_sI, hal_sI, hix_sI, hI_aI, hL_aI, hR_aI, hT_aI, hN_aI, hn_aI, ho_aI, hia_aI, hal_aI, hix_aI, sh_sI, sh_aI, sh_sL, sh_aL]
    refine K _ (wr_sI (wr_sI W9 (by unfold tlT; omega)) (by unfold tlT; omega)) ⟨tn_ig (by rw [up_ne (by omega)]; exact q24) (by rw [up_ne (by omega)]; exact q31) (by omega) (tn_v_c (tn_up_hang (v := b) q24 q31 (show a < 6 by omega) tv9) (fun c j h1 h2 => by rw [hI_sI, if_neg (by omega)])), ?_, ?_, ?_, r4⟩
    · rw [hI_sI, if_neg (by omega), hI_sI, if_neg (by omega), hI_sI, if_pos ⟨rfl, rfl⟩]
      refine told_w (w := 4) (by omega) m1 m3 (fun k hk => ?_)
      rw [if_neg (by omega), up_ne (by omega), up_ne (by omega)]
    · rw [hI_sI, if_neg (by omega), hI_sI, if_neg (by omega), hI_sI, if_neg (by omega), up_ne (by omega), up_ne (by omega)]; exact t1
    · rw [hI_sI, if_pos ⟨rfl, rfl⟩, up_eq]
  · have r5 := r5 rfl
    rw [if_neg (by omega), if_neg (by omega), if_neg (by omega), if_neg (by omega), if_neg (by omega), if_pos rfl] at K
    have x2 := imx2 (p := g 37) (m := a + 1) (by omega) (by omega)
    rw [← imx0] at x2
    have hrp : rp_ok (gr g) := fun k hk => by have := (Hb k hk).2.2.1; show g (4 * k + 3) < 8; omega
    have wR := fun d h Q => tw_withRest (d := d) (h := h) (Q := Q) hrp (show a < 6 by omega) (show b < 8 by omega)
    simp only [xs_28, xs_28_0, xs_28_1, xs_28_1i, xs_28_2, xs_28_5, xs_28_6, xs_28_7, xs_28_8, xs_28_9, xs_28_12, xs_28_13, xs_28_178, xs_28_179, xs_28_182, xs_28_183, xs_28_186, xs_28_189, xs_28_190, xs_28_191, xs_28_194, xs_28_197, xs_28_198, xs_28_199, xs_28_202, xs_28_203, xs_28_206, xs_28_209, xs_28_273, H, sT_0, sT_1, sT_2, sN_2, sA_2, sT_3, sN_3, sA_3, sT_4, sN_4, sA_4, sT_5, sN_5, sA_5, sT_6, sN_6, sA_6, sT_7, sT_8, sN_8, sA_8, sT_9, sN_9, sA_9, sT_10, sN_10, sA_10, sT_11, sN_11, sA_11, sT_12, sN_12, sA_12, sT_13, sN_13, sT_14, sT_15, sN_15, sA_15, sT_16, sN_16, sA_16, sT_17, sN_17, sA_17, sT_18, sN_18, sA_18, sT_19, sN_19, sA_19, sT_20, sT_21, sN_21, sA_21, sT_22, sN_22, sA_22, sT_23, sN_23, sA_23, sT_24, sN_24, sA_24, sT_25, sN_25, sA_25, sT_26, sN_26, sB_26, sT_27, sT_28, sN_28, sB_28, sT_29, sT_30, sN_30, sT_32, sN_32, sA_32, sT_33, sT_34, sN_34, sA_34, sT_35, sN_35, sA_35, sT_36, sT_37, sN_37, sA_37, sT_38, sN_38, sA_38, sT_39, sN_39, sA_39, sT_40, sN_40, sB_40, sT_41, sN_41, sA_41, sT_42, sN_42, sA_42, sT_43, sN_43, sA_43, sT_44, sT_45, sN_45, sA_45, sT_46, sN_46, sA_46, sT_47, sN_47, sA_47, sR_1_7, sR_1_8, sR_1_9, sR_1_10, sR_1_11, sR_0_0, sR_7_7, sR_7_8, sR_7_9, sR_7_10, sR_7_11, sR_0_1, sR_0_2, sR_14_7, sR_14_8, sR_14_9, sR_14_10, sR_14_11, sR_13_0, sR_20_7, sR_20_8, sR_20_9, sR_20_10, sR_20_11, sR_13_1, sR_0_3, sR_0_4, sR_27_0, sR_0_5, sR_29_0, sR_29_3, sR_0_6, sR_33_1, sR_33_2, sR_0_7, sR_36_2, sR_36_3, sR_36_4, sR_36_5, sR_36_6, sR_36_7, sR_36_8, sR_0_8, sR_44_0, sR_44_1, sR_44_2, r4, m2, o1, v6, wR, t2, x2, show (nI 5 = 0) = False from eq_false (by decide), show (nI 5 = 1) = False from eq_false (by decide), show (nI 5 = 2) = False from eq_false (by decide), show (nI 5 = 3) = False from eq_false (by decide), show (nI 5 = 4) = False from eq_false (by decide), show (nI 5 = 5) = True from eq_true rfl, rf_some, xc_int, xc_ref, xc_ret, xc_long, xw_nil, xw_int, xw_ref, xw_long, tl_some, tl_none, true_and, and_true, Nat.zero_le, Nat.reduceAdd, Nat.reduceMul, Nat.reduceLeDiff, Nat.reduceLT, Nat.reduceEqDiff, Nat.reducePow, Int32.reduceAdd, Int32.reduceMul, Int32.reduceSub, Int32.reduceLT, Int32.reduceLE, Int32.reduceToNatClampNeg, litE, ixU, not_false_eq_true, not_true_eq_false, ↓reduceIte, eq_self, true_or, or_true, false_and, and_false, or_false, false_or, i10, i01, in10, i1n, xbT, xbF, r_lt, hI_sI, hL_sI, hR_sI, hT_sI, hN_sI, hn_sI, ho_sI, hia_sI, hba_sI, hal_sI, hix_sI, hI_aI, hL_aI, hR_aI, hT_aI, hN_aI, hn_aI, ho_aI, hia_aI, hal_aI, hix_aI, sh_sI, sh_aI, sh_sL, sh_aL]
    refine K _ (wr_sI (wr_sI W9 (by unfold tlT; omega)) (by unfold tlT; omega)) ⟨tn_ig (by rw [up_ne (by omega)]; exact q24) (by rw [up_ne (by omega)]; exact q31) (by omega) (tn_v_c (tn_up_rest (v := b) q24 q31 (show a < 6 by omega) hrp tv9) (fun c j h1 h2 => by rw [hI_sI, if_neg (by omega)])), ?_, ?_, ?_, r4⟩
    · rw [hI_sI, if_neg (by omega), hI_sI, if_neg (by omega), hI_sI, if_pos ⟨rfl, rfl⟩]
      refine told_w (w := 5) (by omega) m1 m3 (fun k hk => ?_)
      rw [if_neg (by omega), up_ne (by omega), up_ne (by omega)]
    · rw [hI_sI, if_neg (by omega), hI_sI, if_neg (by omega), hI_sI, if_neg (by omega), up_ne (by omega), up_ne (by omega)]; exact t1
    · rw [hI_sI, if_pos ⟨rfl, rfl⟩, up_eq]
  · have r6 := r6 rfl
    rw [if_neg (by omega), if_neg (by omega), if_neg (by omega), if_neg (by omega), if_neg (by omega), if_neg (by omega)] at K
    have x2 := imx2 (p := g 36) (m := mx (a + 1) (b + 1)) (by omega) (by omega)
    simp only [xs_28, xs_28_0, xs_28_1, xs_28_1i, xs_28_2, xs_28_5, xs_28_6, xs_28_7, xs_28_8, xs_28_9, xs_28_12, xs_28_13, xs_28_212, xs_28_213, xs_28_216, xs_28_219, xs_28_220, xs_28_223, xs_28_226, xs_28_227, xs_28_228, xs_28_229, xs_28_232, xs_28_235, xs_28_236, xs_28_239, xs_28_242, xs_28_243, xs_28_244, xs_28_245, xs_28_248, xs_28_248i, xs_28_249, xs_28_252, xs_28_253, xs_28_254, xs_28_257, xs_28_258, xs_28_259, xs_28_262, xs_28_263, xs_28_264, xs_28_267, xs_28_270, xs_28_273, H, sT_0, sT_1, sT_2, sN_2, sA_2, sT_3, sN_3, sA_3, sT_4, sN_4, sA_4, sT_5, sN_5, sA_5, sT_6, sN_6, sA_6, sT_7, sT_8, sN_8, sA_8, sT_9, sN_9, sA_9, sT_10, sN_10, sA_10, sT_11, sN_11, sA_11, sT_12, sN_12, sA_12, sT_13, sN_13, sT_14, sT_15, sN_15, sA_15, sT_16, sN_16, sA_16, sT_17, sN_17, sA_17, sT_18, sN_18, sA_18, sT_19, sN_19, sA_19, sT_20, sT_21, sN_21, sA_21, sT_22, sN_22, sA_22, sT_23, sN_23, sA_23, sT_24, sN_24, sA_24, sT_25, sN_25, sA_25, sT_26, sN_26, sB_26, sT_27, sT_28, sN_28, sB_28, sT_29, sT_30, sN_30, sT_32, sN_32, sA_32, sT_33, sT_34, sN_34, sA_34, sT_35, sN_35, sA_35, sT_36, sT_37, sN_37, sA_37, sT_38, sN_38, sA_38, sT_39, sN_39, sA_39, sT_40, sN_40, sB_40, sT_41, sN_41, sA_41, sT_42, sN_42, sA_42, sT_43, sN_43, sA_43, sT_44, sT_45, sN_45, sA_45, sT_46, sN_46, sA_46, sT_47, sN_47, sA_47, sR_1_7, sR_1_8, sR_1_9, sR_1_10, sR_1_11, sR_0_0, sR_7_7, sR_7_8, sR_7_9, sR_7_10, sR_7_11, sR_0_1, sR_0_2, sR_14_7, sR_14_8, sR_14_9, sR_14_10, sR_14_11, sR_13_0, sR_20_7, sR_20_8, sR_20_9, sR_20_10, sR_20_11, sR_13_1, sR_0_3, sR_0_4, sR_27_0, sR_0_5, sR_29_0, sR_29_3, sR_0_6, sR_33_1, sR_33_2, sR_0_7, sR_36_2, sR_36_3, sR_36_4, sR_36_5, sR_36_6, sR_36_7, sR_36_8, sR_0_8, sR_44_0, sR_44_1, sR_44_2, r4, m2, o1, v2, t1, nIlt0 (show g 31 < 2 ^ 31 by omega), nI_clamp (show g 31 < 2 ^ 31 by omega), show g 31 < 3 by omega, x1, x2, nI_1, show (nI 6 = 0) = False from eq_false (by decide), show (nI 6 = 1) = False from eq_false (by decide), show (nI 6 = 2) = False from eq_false (by decide), show (nI 6 = 3) = False from eq_false (by decide), show (nI 6 = 4) = False from eq_false (by decide), show (nI 6 = 5) = False from eq_false (by decide), rf_some, xc_int, xc_ref, xc_ret, xc_long, xw_nil, xw_int, xw_ref, xw_long, tl_some, tl_none, true_and, and_true, Nat.zero_le, Nat.reduceAdd, Nat.reduceMul, Nat.reduceLeDiff, Nat.reduceLT, Nat.reduceEqDiff, Nat.reducePow, Int32.reduceAdd, Int32.reduceMul, Int32.reduceSub, Int32.reduceLT, Int32.reduceLE, Int32.reduceToNatClampNeg, litE, ixU, not_false_eq_true, not_true_eq_false, ↓reduceIte, eq_self, true_or, or_true, false_and, and_false, or_false, false_or, i10, i01, in10, i1n, xbT, xbF, r_lt, hI_sI, hL_sI, hR_sI, hT_sI, hN_sI, hn_sI, ho_sI, hia_sI, hba_sI, hal_sI, hix_sI, hI_aI, hL_aI, hR_aI, hT_aI, hN_aI, hn_aI, ho_aI, hia_aI, hal_aI, hix_aI, sh_sI, sh_aI, sh_sL, sh_aL]
    generalize hq : g 31 = q at *
    refine K _ (wr_sI (wr_sI (wr_sI (wr_sI W9 (by unfold tlT; omega)) (by unfold tlT; omega)) (by unfold tlT; omega)) (by unfold tlT; omega)) ⟨tn_ig (by rw [up_ne (by omega), up_ne (by omega), up_ne (by omega)]; exact q24) (by rw [up_eq]; omega) (by omega) (tn_v_c (tn_new_one q24 hq r6.1 tv9) (fun c j h1 h2 => by rw [hI_sI, if_neg (by omega)])), ?_, ?_, ?_, r4⟩
    · rw [hI_sI, if_neg (by omega), hI_sI, if_neg (by omega), hI_sI, if_neg (by omega), hI_sI, if_neg (by omega), hI_sI, if_pos ⟨rfl, rfl⟩]
      refine told_w (w := 6) (by omega) m1 m3 (fun k hk => ?_)
      rw [if_neg (by omega), up_ne (by omega), up_ne (by omega), up_ne (by omega), up_ne (by omega)]
    · rw [hI_sI, if_pos ⟨rfl, rfl⟩, up_eq]
    · rw [hI_sI, if_neg (by omega), hI_sI, if_neg (by omega), hI_sI, if_neg (by omega), hI_sI, if_neg (by omega), hI_sI, if_neg (by omega), up_ne (by omega), up_ne (by omega), up_ne (by omega), up_ne (by omega)]; exact t2
end TH
