/-! text: both sides -/
def sTx (s : Nat → Nat → Nat) (g : Nat → Nat) : Nat → Nat → Nat := fun r => if r = 0 then g else if r = 3 then (fun _ => 0) else if r = 5 then (fun k => if k = 3 then s 5 3 else 0) else s r
def sTe (s : Nat → Nat → Nat) (c : Nat) : Nat → Nat → Nat := fun r => if r = 5 then (fun k => if k = 0 then 0 else if k = 1 then c else s 5 k) else s r
theorem neg10 : ∀ p, p < 321 → (-10 : Int32) - nI p < 0 := by decide +kernel
section TV
variable {d : Nat} {h h' : xe_H} {L : Nat} {xs : Nat → Int32} {s : Nat → Nat → Nat} {ce : Nat → Int32} {g : Nat → Nat}
theorem Inv_tx (HI : Inv L xs s ce h) (hg : pg_ok g) (H : sh h') (R : rm h') (eT : ∀ a, xe_S ≤ a → xe_T h' a = xe_T h a ∧ xe_N h' a = xe_N h a) (i : ∀ a j, ¬ (1 ≤ a ∧ a ≤ 12) → ¬ (a = 26) → ¬ (a = 27) → ¬ (a = 36 ∧ j = 0) → ¬ mfS a j → xe_I h' a j = xe_I h a j) (tv : tn_v h' 1 g) (k0 : xe_I h' 26 0 = 0) (k1 : xe_I h' 26 1 = 0) (t1 : xe_I h' 27 1 = 0) (t2 : xe_I h' 27 2 = 0) (w0 : xe_I h' 36 0 = 0) (m0 : mp h' 0 g) (p1 : xe_I h' 48 1 = nI (g 35)) (p32 : xe_I h' 48 32 = 0) (b0 : xe_I h' 68 0 = 0) (b1 : xe_I h' 68 1 = 0) (p12 : xe_I h' 48 12 = 0) (p13 : xe_I h' 48 13 = 0) : Inv L xs (sTx s g) ce h' := by
  obtain ⟨-, -, hv, hp, ⟨c1, c2, c3, c4, c5, c6⟩, ⟨m1, m2, m3, m4, m5, m6, m7⟩⟩ := HI
  obtain ⟨hp1, hp2, hp3, hp4, hp5, hp6, hp7⟩ := hp
  have ii : ∀ a j, (45 ≤ a ∧ a ≤ 47) ∨ (a = 0) ∨ (69 ≤ a ∧ a ≤ 71) ∨ (54 ≤ a ∧ a ≤ 55) ∨ (a = 48 ∧ j = 40) ∨ xe_S ≤ a → xe_I h' a j = xe_I h a j := fun a j z => i a j (by unfold xe_S at z; omega) (by unfold xe_S at z; omega) (by unfold xe_S at z; omega) (by unfold xe_S at z; omega) (by unfold mfS meS msS; unfold xe_S at z; omega)
  refine ⟨H, R, fun a ha => ⟨fun j => ?_, ?_, ?_⟩, ⟨hg, ⟨⟨Nat.zero_le _, fun z => absurd z (by show ¬ (0 : Nat) = 1; decide)⟩, ⟨Nat.zero_le _, fun z => absurd z (by show ¬ (0 : Nat) = 1; decide)⟩⟩, ⟨Nat.zero_le _, fun k hk => absurd hk (Nat.not_lt_zero k)⟩, ⟨Nat.zero_le _, fun k hk => absurd hk (Nat.not_lt_zero k)⟩, hp5, Nat.zero_le _, hp7⟩, ⟨tv, ⟨⟨k0, k1⟩, fun z => absurd z (by show ¬ (0 : Nat) = 1; decide), fun z => absurd z (by show ¬ (0 : Nat) = 1; decide)⟩, ⟨t1, t2, fun k hk => absurd hk (Nat.not_lt_zero k)⟩, ⟨w0, fun k hk => absurd hk (Nat.not_lt_zero k)⟩, cSh_c c5 (fun a j x1 x2 => ii a j (by omega)), ?_⟩, ⟨⟨m0, p1⟩, ⟨⟨b0, b1⟩, fun z => absurd z (by show ¬ (0 : Nat) = 1; decide), fun z => absurd z (by show ¬ (0 : Nat) = 1; decide)⟩, ⟨p12, p13, fun k hk => absurd hk (Nat.not_lt_zero k)⟩, ⟨p32, fun k hk => absurd hk (Nat.not_lt_zero k)⟩, mSh_c m5 (fun a j x1 x2 => ii a j (by omega)), ?_, mWd_c m7 (fun j => ii 54 j (by omega)) (fun j => ii 55 j (by omega))⟩⟩
  · rw [ii a j (by omega)]; exact (hv a ha).1 j
  · rw [(eT a ha).1]; exact (hv a ha).2.1
  · rw [(eT a ha).2]; exact (hv a ha).2.2
  · rw [ii 0 9 (by omega)]; exact c6
  · rw [ii 48 40 (by omega)]; exact m6
theorem Inv_te {c : Nat} (HI : Inv L xs s ce h) (hc : c ≤ 6) (H : sh h') (R : rm h') (eT : ∀ a, xe_S ≤ a → xe_T h' a = xe_T h a ∧ xe_N h' a = xe_N h a) (i : ∀ a j, ¬ ttS a j → ¬ meS a j → xe_I h' a j = xe_I h a j) (t1 : xe_I h' 27 1 = 0) (t2 : xe_I h' 27 2 = nI c) (p12 : xe_I h' 48 12 = 0) (p13 : xe_I h' 48 13 = nI c) : Inv L xs (sTe s c) ce h' := by
  obtain ⟨-, -, hv, hp, ⟨c1, c2, c3, c4, c5, c6⟩, ⟨m1, m2, m3, m4, m5, m6, m7⟩⟩ := HI
  obtain ⟨hp1, hp2, hp3, hp4, hp5, hp6, hp7⟩ := id hp
  have ii : ∀ a j, ((1 ≤ a ∧ a ≤ 6) ∨ (14 ≤ a ∧ a ≤ 26) ∨ (28 ≤ a ∧ a ≤ 47) ∨ (a = 0) ∨ a = 49 ∨ (53 ≤ a ∧ a ≤ 71) ∨ (a = 48 ∧ (j = 40 ∨ j = 1 ∨ j = 32))) ∨ xe_S ≤ a → xe_I h' a j = xe_I h a j := fun a j z => i a j (by unfold ttS; unfold xe_S at z; omega) (by unfold meS msS; unfold xe_S at z; omega)
  refine ⟨H, R, fun a ha => ⟨fun j => ?_, ?_, ?_⟩, ⟨hp1, hp2, ⟨Nat.zero_le _, fun k hk => absurd hk (Nat.not_lt_zero k)⟩, hp4, hp5, hc, hp7⟩, ⟨tn_v_c c1 (fun a j x1 x2 => ii a j (by omega)), cIm_c c2 (fun a j x1 x2 => ii a j (by omega)), ⟨t1, t2, fun k hk => absurd hk (Nat.not_lt_zero k)⟩, cSn_c c4 (ii 36 0 (by omega)) (fun a j x1 x2 => ii a j (by omega)), cSh_c c5 (fun a j x1 x2 => ii a j (by omega)), ?_⟩, ⟨⟨mp_c hp.1 m1.1 (fun j x1 x2 => ii 49 j (by omega)), ?_⟩, mIm_c (s := s) hp m2 (fun j x1 x2 => ii 49 j (by omega)) (fun j => ii 68 j (by omega)), ⟨p12, p13, fun k hk => absurd hk (Nat.not_lt_zero k)⟩, mSn_c m4 (ii 48 32 (by omega)) (fun j => ii 64 j (by omega)), mSh_c m5 (fun a j x1 x2 => ii a j (by omega)), ?_, mWd_c m7 (fun j => ii 54 j (by omega)) (fun j => ii 55 j (by omega))⟩⟩
  · rw [ii a j (by omega)]; exact (hv a ha).1 j
  · rw [(eT a ha).1]; exact (hv a ha).2.1
  · rw [(eT a ha).2]; exact (hv a ha).2.2
  · rw [ii 0 9 (by omega)]; exact c6
  · rw [ii 48 1 (by omega)]; exact m1.2
  · rw [ii 48 40 (by omega)]; exact m6
theorem ok_text (HI : Inv L xs s ce h) : ok2 L xs 85 134 [] h := by
  intro d
  obtain ⟨H, hr, hv, hp, ⟨c1, c2, c3, c4, c5, c6⟩, ⟨m1, m2, m3, m4, m5, m6, m7⟩⟩ := id HI
  have hn : s 5 0 ≤ 320 := hp.2.2.1.1
  have hT : ∀ k, (fun k => s 4 k % 256) k < 256 := fun k => Nat.mod_lt _ (by decide)
  have hm : ∀ k, k < s 5 0 → s 4 k % 256 = s 4 k := fun k hk => Nat.mod_eq_of_lt (hp.2.2.1.2 k hk)
  have C : cTp' (fun k => s 4 k % 256) (s 5 0) h := ⟨c3.1, fun k hk => by dsimp only; rw [hm k hk]; exact c3.2.2 k hk⟩
  have C' : mTp' (fun k => s 4 k % 256) (s 5 0) h := ⟨m3.1, fun k hk => by dsimp only; rw [hm k hk]; exact m3.2.2 k hk⟩
  generalize (fun k => s 4 k % 256) = T at *
  generalize s 5 0 = n at *
  have S := stS_of hv
  have ok := (txL_ok (T := T) (n := n) 321 0 0 pg0 (by omega) gq_0).1
  have bd := txL_b (T := T) (n := n) 321 0 0 pg0 (by omega) gq_0
  have bR : (txR T n).1 ≤ 6 ∧ (txR T n).2.1 ≤ n ∧ (txR T n).2.2.1 ≤ 321 ∧ ((txR T n).1 = 0 → pg_ok (txR T n).2.2.2) := by
    unfold txR
    generalize txL T n 321 0 0 pg0 = o at *
    obtain ⟨oc, op, ol, og⟩ := o
    dsimp only at *
    by_cases z : oc = 0 ∧ (og 35 < og 36 ∨ og 24 < og 37)
    · rw [if_pos z]; exact ⟨by show (6 : Nat) ≤ 6; omega, Nat.le_refl _, by dsimp only; omega, fun y => absurd y (by show ¬ (6 : Nat) = 0; decide)⟩
    · rw [if_neg z]; exact ⟨bd.1, bd.2.1, by dsimp only; omega, fun y => gq_pg (ok y) (show og 36 ≤ og 35 by omega) (show og 37 ≤ og 24 by omega)⟩
  have rmr : rm (xe_sR h 27 4 (some 7)) := by
    obtain ⟨q, k, h1, h2⟩ := hr
    exact ⟨q, k, by rw [hR_sR, if_neg (by decide)]; exact h1, h2⟩
  have aA : txA T n = if (txR T n).1 = 0 then nI (txR T n).2.2.1 else -10 - nI (txR T n).2.1 := rfl
  simp only [xs_85, xs_85_0, xs_85_1, xs_85_4, xs_85_5, xs_85_8, H, sT_0, sT_1, sT_2, sN_2, sA_2, sT_3, sN_3, sA_3, sT_4, sN_4, sA_4, sT_5, sN_5, sA_5, sT_6, sN_6, sA_6, sT_7, sT_8, sN_8, sA_8, sT_9, sN_9, sA_9, sT_10, sN_10, sA_10, sT_11, sN_11, sA_11, sT_12, sN_12, sA_12, sT_13, sN_13, sT_14, sT_15, sN_15, sA_15, sT_16, sN_16, sA_16, sT_17, sN_17, sA_17, sT_18, sN_18, sA_18, sT_19, sN_19, sA_19, sT_20, sT_21, sN_21, sA_21, sT_22, sN_22, sA_22, sT_23, sN_23, sA_23, sT_24, sN_24, sA_24, sT_25, sN_25, sA_25, sT_26, sN_26, sB_26, sT_27, sT_28, sN_28, sB_28, sT_29, sT_30, sN_30, sT_32, sN_32, sA_32, sT_33, sT_34, sN_34, sA_34, sT_35, sN_35, sA_35, sT_36, sT_37, sN_37, sA_37, sT_38, sN_38, sA_38, sT_39, sN_39, sA_39, sT_40, sN_40, sB_40, sT_41, sN_41, sA_41, sT_42, sN_42, sA_42, sT_43, sN_43, sA_43, sT_44, sT_45, sN_45, sA_45, sT_46, sN_46, sA_46, sT_47, sN_47, sA_47, sR_1_7, sR_1_8, sR_1_9, sR_1_10, sR_1_11, sR_0_0, sR_7_7, sR_7_8, sR_7_9, sR_7_10, sR_7_11, sR_0_1, sR_0_2, sR_14_7, sR_14_8, sR_14_9, sR_14_10, sR_14_11, sR_13_0, sR_20_7, sR_20_8, sR_20_9, sR_20_10, sR_20_11, sR_13_1, sR_0_3, sR_0_4, sR_27_0, sR_0_5, sR_29_0, sR_29_3, sR_0_6, sR_33_1, sR_33_2, sR_0_7, sR_36_2, sR_36_3, sR_36_4, sR_36_5, sR_36_6, sR_36_7, sR_36_8, sR_0_8, sR_44_0, sR_44_1, sR_44_2, rf_some, xc_int, xc_ref, xc_ret, xc_long, xw_nil, xw_int, xw_ref, xw_long, tl_some, tl_none, true_and, and_true, Nat.zero_le, Nat.reduceAdd, Nat.reduceMul, Nat.reduceLeDiff, Nat.reduceLT, Nat.reduceEqDiff, Nat.reducePow, Int32.reduceAdd, Int32.reduceMul, Int32.reduceSub, Int32.reduceLT, Int32.reduceLE, Int32.reduceToNatClampNeg, litE, ixU, not_false_eq_true, not_true_eq_false, ↓reduceIte, eq_self, true_or, or_true, false_and, and_false, or_false, false_or, i10, i01, in10, i1n, xbT, xbF, r_lt]
  refine cl_tell (d := d + 31) hn hT H S C (fun h1 W1 l0 f1 tv => ?_)
  have H1 := wr_sh W1 (sh_27 H)
  have R1 := stq_rm W1.1 rmr
  have T1 : ∀ a, xe_T h1 a = xe_T h a := W1.1.2.2.1
  have N1 : ∀ a, xe_N h1 a = xe_N h a := W1.1.2.2.2.1
  have i1 : ∀ a j, ¬ ttS a j → xe_I h1 a j = xe_I h a j := W1.2
  by_cases z : (txR T n).1 = 0
  · rw [if_pos z] at aA
    have tv := tv z
    have pg := bR.2.2.2 z
    have n0 : (txA T n < 0) = False := by rw [aA]; exact nIlt0 (by omega)
    simp only [xs_85_11, xs_85_12, xs_85_13, xs_85_16, xs_85_17, xs_85_20, xs_85_21, xs_85_24, n0, H1, sT_0, sT_1, sT_2, sN_2, sA_2, sT_3, sN_3, sA_3, sT_4, sN_4, sA_4, sT_5, sN_5, sA_5, sT_6, sN_6, sA_6, sT_7, sT_8, sN_8, sA_8, sT_9, sN_9, sA_9, sT_10, sN_10, sA_10, sT_11, sN_11, sA_11, sT_12, sN_12, sA_12, sT_13, sN_13, sT_14, sT_15, sN_15, sA_15, sT_16, sN_16, sA_16, sT_17, sN_17, sA_17, sT_18, sN_18, sA_18, sT_19, sN_19, sA_19, sT_20, sT_21, sN_21, sA_21, sT_22, sN_22, sA_22, sT_23, sN_23, sA_23, sT_24, sN_24, sA_24, sT_25, sN_25, sA_25, sT_26, sN_26, sB_26, sT_27, sT_28, sN_28, sB_28, sT_29, sT_30, sN_30, sT_32, sN_32, sA_32, sT_33, sT_34, sN_34, sA_34, sT_35, sN_35, sA_35, sT_36, sT_37, sN_37, sA_37, sT_38, sN_38, sA_38, sT_39, sN_39, sA_39, sT_40, sN_40, sB_40, sT_41, sN_41, sA_41, sT_42, sN_42, sA_42, sT_43, sN_43, sA_43, sT_44, sT_45, sN_45, sA_45, sT_46, sN_46, sA_46, sT_47, sN_47, sA_47, sR_1_7, sR_1_8, sR_1_9, sR_1_10, sR_1_11, sR_0_0, sR_7_7, sR_7_8, sR_7_9, sR_7_10, sR_7_11, sR_0_1, sR_0_2, sR_14_7, sR_14_8, sR_14_9, sR_14_10, sR_14_11, sR_13_0, sR_20_7, sR_20_8, sR_20_9, sR_20_10, sR_20_11, sR_13_1, sR_0_3, sR_0_4, sR_27_0, sR_0_5, sR_29_0, sR_29_3, sR_0_6, sR_33_1, sR_33_2, sR_0_7, sR_36_2, sR_36_3, sR_36_4, sR_36_5, sR_36_6, sR_36_7, sR_36_8, sR_0_8, sR_44_0, sR_44_1, sR_44_2, rf_some, xc_int, xc_ref, xc_ret, xc_long, xw_nil, xw_int, xw_ref, xw_long, tl_some, tl_none, true_and, and_true, Nat.zero_le, Nat.reduceAdd, Nat.reduceMul, Nat.reduceLeDiff, Nat.reduceLT, Nat.reduceEqDiff, Nat.reducePow, Int32.reduceAdd, Int32.reduceMul, Int32.reduceSub, Int32.reduceLT, Int32.reduceLE, Int32.reduceToNatClampNeg, litE, ixU, not_false_eq_true, not_true_eq_false, ↓reduceIte, eq_self, true_or, or_true, false_and, and_false, or_false, false_or, i10, i01, in10, i1n, xbT, xbF, r_lt]
    refine xe_C_mono (tw_copy (d := d + 38) (sW_1 H1) (sW_7 H1) (by omega)) ?_
    rintro v h2 ⟨rfl, cp⟩
    have H2 := cpR_sh cp H1
    have R2 := cpR_rm cp R1
    have tv2 := cpR_tn pg.1 pg.2.1 tv cp
    generalize hh3 : xe_sI (xe_sI (xe_sI h2 36 0 0) 26 0 0) 26 1 0 = h3
    have W3 : wr (fun a j => (a = 36 ∧ j = 0) ∨ a = 26) h2 h3 := by rw [← hh3]; exact wr_sI (wr_sI (wr_sI (wr_rf _ _) (by omega)) (by omega)) (by omega)
    have H3 := wr_sh W3 H2
    have R3 := stq_rm W3.1 R2
    have i3 : ∀ a j, ¬ ttS a j → ¬ (1 ≤ a ∧ a ≤ 6) → ¬ ((a = 36 ∧ j = 0) ∨ a = 26) → xe_I h3 a j = xe_I h a j := fun a j z1 z2 z3 => by rw [W3.2 a j z3, cp.1 a j (by omega), i1 a j z1]
    have C3 : mTp' T n h3 := ⟨by rw [i3 48 12 (by unfold ttS; omega) (by omega) (by omega)]; exact C'.1, fun k hk => by rw [i3 53 k (by unfold ttS; omega) (by omega) (by omega)]; exact C'.2 k hk⟩
    have Wd3 : mWd h3 := mWd_c m7 (fun j => i3 54 j (by unfold ttS; omega) (by omega) (by omega)) (fun j => i3 55 j (by unfold ttS; omega) (by omega) (by omega))
    simp only [xs_85_27, xs_85_28, xs_85_31, xs_85_32, xs_85_35, xs_85_36, xs_85_39, xs_85_40, xs_85_41z (h := xe_sI h2 36 0 0) (a := 26) (sT_26 H2).2, xs_85_42, xs_85_43, xs_85_46, xs_85_47, xs_85_48z (h := xe_sI (xe_sI h2 36 0 0) 26 0 0) (a := 26) (sT_26 H2).2, xs_85_49, xs_85_50, H2, sT_0, sT_1, sT_2, sN_2, sA_2, sT_3, sN_3, sA_3, sT_4, sN_4, sA_4, sT_5, sN_5, sA_5, sT_6, sN_6, sA_6, sT_7, sT_8, sN_8, sA_8, sT_9, sN_9, sA_9, sT_10, sN_10, sA_10, sT_11, sN_11, sA_11, sT_12, sN_12, sA_12, sT_13, sN_13, sT_14, sT_15, sN_15, sA_15, sT_16, sN_16, sA_16, sT_17, sN_17, sA_17, sT_18, sN_18, sA_18, sT_19, sN_19, sA_19, sT_20, sT_21, sN_21, sA_21, sT_22, sN_22, sA_22, sT_23, sN_23, sA_23, sT_24, sN_24, sA_24, sT_25, sN_25, sA_25, sT_26, sN_26, sB_26, sT_27, sT_28, sN_28, sB_28, sT_29, sT_30, sN_30, sT_32, sN_32, sA_32, sT_33, sT_34, sN_34, sA_34, sT_35, sN_35, sA_35, sT_36, sT_37, sN_37, sA_37, sT_38, sN_38, sA_38, sT_39, sN_39, sA_39, sT_40, sN_40, sB_40, sT_41, sN_41, sA_41, sT_42, sN_42, sA_42, sT_43, sN_43, sA_43, sT_44, sT_45, sN_45, sA_45, sT_46, sN_46, sA_46, sT_47, sN_47, sA_47, sR_1_7, sR_1_8, sR_1_9, sR_1_10, sR_1_11, sR_0_0, sR_7_7, sR_7_8, sR_7_9, sR_7_10, sR_7_11, sR_0_1, sR_0_2, sR_14_7, sR_14_8, sR_14_9, sR_14_10, sR_14_11, sR_13_0, sR_20_7, sR_20_8, sR_20_9, sR_20_10, sR_20_11, sR_13_1, sR_0_3, sR_0_4, sR_27_0, sR_0_5, sR_29_0, sR_29_3, sR_0_6, sR_33_1, sR_33_2, sR_0_7, sR_36_2, sR_36_3, sR_36_4, sR_36_5, sR_36_6, sR_36_7, sR_36_8, sR_0_8, sR_44_0, sR_44_1, sR_44_2, hh3, rf_some, xc_int, xc_ref, xc_ret, xc_long, xw_nil, xw_int, xw_ref, xw_long, tl_some, tl_none, true_and, and_true, Nat.zero_le, Nat.reduceAdd, Nat.reduceMul, Nat.reduceLeDiff, Nat.reduceLT, Nat.reduceEqDiff, Nat.reducePow, Int32.reduceAdd, Int32.reduceMul, Int32.reduceSub, Int32.reduceLT, Int32.reduceLE, Int32.reduceToNatClampNeg, litE, ixU, not_false_eq_true, not_true_eq_false, ↓reduceIte, eq_self, true_or, or_true, false_and, and_false, or_false, false_or, i10, i01, in10, i1n, xbT, xbF, r_lt, hI_sI, hL_sI, hR_sI, hT_sI, hN_sI, hn_sI, ho_sI, hia_sI, hba_sI, hal_sI, hix_sI, hI_aI, hL_aI, hR_aI, hT_aI, hN_aI, hn_aI, ho_aI, hia_aI, hal_aI, hix_aI, sh_sI, sh_aI, sh_sL, sh_aL]
    refine md_text (d := d + 33) hn hT H3 C3 Wd3 (fun h4 _ W4 m0 p1 p32 b0 b1 p12 p13 => ?_) (fun h4 y => absurd z y)
    have f4 : ∀ a j, ¬ mfS a j → xe_I h4 a j = xe_I h3 a j := W4.2
    refine ⟨⟨_, rfl, ?_⟩, _, _, Inv_tx (g := (txR T n).2.2.2) HI pg (wr_sh W4 H3) (stq_rm W4.1 R3) (fun a ha => ⟨?_, ?_⟩) (fun a j z1 z2 z3 z4 z5 => ?_) ?_ ?_ ?_ ?_ ?_ ?_ m0 p1 p32 b0 b1 p12 p13⟩
    · rfl
    · rw [W4.1.2.2.1, W3.1.2.2.1, cp.2.2.2.2.2.2.1, T1]
    · rw [W4.1.2.2.2.1, W3.1.2.2.2.1, cp.2.2.2.2.2.2.2.1, N1]
    · rw [f4 a j z5, i3 a j (by unfold ttS; omega) (by omega) (by omega)]
    · exact tn_v_c tv2 (fun a j x1 x2 => by rw [f4 a j (by unfold mfS meS msS; omega), W3.2 a j (by omega)])
    · rw [f4 26 0 (by unfold mfS meS msS; omega), ← hh3, hI_sI, if_neg (by omega), hI_sI, if_pos ⟨rfl, rfl⟩]
    · rw [f4 26 1 (by unfold mfS meS msS; omega), ← hh3, hI_sI, if_pos ⟨rfl, rfl⟩]
    · rw [f4 27 1 (by unfold mfS meS msS; omega), W3.2 27 1 (by omega), cp.1 27 1 (by omega)]; exact l0
    · rw [f4 27 2 (by unfold mfS meS msS; omega), W3.2 27 2 (by omega), cp.1 27 2 (by omega), f1, z]; rfl
    · rw [f4 36 0 (by unfold mfS meS msS; omega), ← hh3, hI_sI, if_neg (by omega), hI_sI, if_neg (by omega), hI_sI, if_pos ⟨rfl, rfl⟩]
  · rw [if_neg z] at aA
    have n0 : (txA T n < 0) = True := by
      rw [aA]; exact eq_true (neg10 _ (by omega))
    have C1 : mTp' T n h1 := ⟨by rw [i1 48 12 (by unfold ttS; omega)]; exact C'.1, fun k hk => by rw [i1 53 k (by unfold ttS; omega)]; exact C'.2 k hk⟩
    have Wd1 : mWd h1 := mWd_c m7 (fun j => i1 54 j (by unfold ttS; omega)) (fun j => i1 55 j (by unfold ttS; omega))
    simp only [xs_85_11, xs_85_12, xs_85_13, xs_85_49, xs_85_50, n0, rf_some, xc_int, xc_ref, xc_ret, xc_long, xw_nil, xw_int, xw_ref, xw_long, tl_some, tl_none, true_and, and_true, Nat.zero_le, Nat.reduceAdd, Nat.reduceMul, Nat.reduceLeDiff, Nat.reduceLT, Nat.reduceEqDiff, Nat.reducePow, Int32.reduceAdd, Int32.reduceMul, Int32.reduceSub, Int32.reduceLT, Int32.reduceLE, Int32.reduceToNatClampNeg, litE, ixU, not_false_eq_true, not_true_eq_false, ↓reduceIte, eq_self, true_or, or_true, false_and, and_false, or_false, false_or, i10, i01, in10, i1n, xbT, xbF, r_lt]
    refine md_text (d := d + 33) hn hT H1 C1 Wd1 (fun h4 y => absurd y z) (fun h4 _ W4 p12 p13 => ?_)
    have f4 : ∀ a j, ¬ meS a j → xe_I h4 a j = xe_I h1 a j := W4.2
    refine ⟨⟨_, rfl, ?_⟩, _, _, Inv_te (c := (txR T n).1) HI bR.1 (wr_sh W4 H1) (stq_rm W4.1 R1) (fun a ha => ⟨?_, ?_⟩) (fun a j z1 z2 => ?_) ?_ ?_ p12 p13⟩
    · rfl
    · rw [W4.1.2.2.1, T1]
    · rw [W4.1.2.2.2.1, N1]
    · rw [f4 a j z2, i1 a j z1]
    · rw [f4 27 1 (by unfold meS msS; omega)]; exact l0
    · rw [f4 27 2 (by unfold meS msS; omega)]; exact f1
end TV
