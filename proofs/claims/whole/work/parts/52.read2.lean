/-! read, the two sides together -/
section RF
variable {L : Nat} {xs : Nat → Int32} {s : Nat → Nat → Nat} {ce : Nat → Int32} {h : xe_H}
theorem rl_ok {k : Nat} {l f : Int32} : ∀ (n i : Nat) (g : Nat → Nat), pg_ok g → ∀ fd gg, (rl s ce k l f n i g).2 = some (fd, gg) → (pg_ok gg ∧ gg 24 = g 24 ∧ gg 35 = g 35) ∧ ∃ t, t ≤ 3 ∧ fd = nI t
  | 0, i, g, hg, fd, gg, e => by
    rw [rl] at e
    cases e
    exact ⟨⟨hg, rfl, rfl⟩, 0, by omega, rfl⟩
  | n + 1, i, g, hg, fd, gg, e => by
    rw [rl] at e
    split at e
    · split at e
      · obtain ⟨q1, q2, q3⟩ := mr_ok hg (rce ce k f i)
        obtain ⟨⟨r1, r2, r3⟩, r4⟩ := rl_ok n (i + 1) _ q1 fd gg e
        exact ⟨⟨r1, r2.trans q2, r3.trans q3⟩, r4⟩
      · cases e
    · cases e
      refine ⟨⟨hg, rfl, rfl⟩, ?_⟩
      unfold rfa
      split
      · exact ⟨1, by omega, rfl⟩
      · split
        · split
          · exact ⟨0, by omega, rfl⟩
          · exact ⟨2, by omega, rfl⟩
        · exact ⟨3, by omega, rfl⟩
theorem Inv_torn (HI : Inv L xs s ce h) {t : Nat} (ht : t ≤ 3) : Inv L xs (su s 5 3 t) ce (xe_sI (xe_sI h 0 9 (nI t)) 48 40 (nI t)) := by
  obtain ⟨H, hr, hv, hp, ⟨c1, c2, c3, c4, c5, c6⟩, ⟨m1, m2, m3, m4, m5, m6, m7⟩⟩ := id HI
  refine Inv_su HI ?_ H hr ?_ ?_ ?_ ?_ ?_ ?_ (fun a j q z1 z2 z3 => ?_) (fun a ha => ⟨rfl, rfl⟩)
  · obtain ⟨p1, p2, p3, p4, p5, p6, p7⟩ := hp
    exact ⟨p1, p2, p3, p4, p5, p6, ht⟩
  · exact cTp_c (s := s) c3 rfl rfl (fun _ => rfl)
  · exact cSn_c (s := s) c4 rfl (fun a j x1 x2 => by rw [hI_sI, if_neg (by omega), hI_sI, if_neg (by omega)])
  · rw [hI_sI, if_neg (by omega), hI_sI, if_pos ⟨rfl, rfl⟩]; rfl
  · exact mTp_c (s := s) m3 rfl rfl (fun _ => rfl)
  · exact mSn_c (s := s) m4 rfl (fun j => rfl)
  · rw [hI_sI, if_pos ⟨rfl, rfl⟩]; rfl
  · rw [hI_sI, if_neg (by omega), hI_sI, if_neg (by omega)]
theorem Inv_read {h1 h2 : xe_H} {g0 : Nat → Nat} {n k : Nat} {l f : Int32} (HI : Inv L xs s ce h) {v w : Option Value} (A : rpost h (rl s ce k l f n 0 (s 0)) v h1) (B : rpostm h1 (s 0) (rl s ce k l f n 0 (s 0)) w h2) : ∃ s ce, Inv L xs s ce h2 := by
  obtain ⟨H, hr, hv, hp, ⟨c1, c2, c3, c4, c5, c6⟩, ⟨m1, m2, m3, m4, m5, m6, m7⟩⟩ := id HI
  obtain ⟨-, A1, A2⟩ := A
  obtain ⟨-, B1, B2, w2⟩ := B
  cases e : (rl s ce k l f n 0 (s 0)).2 with
  | none =>
    have w1 := A2 e
    obtain ⟨b1, b2⟩ := B2 e
    have H1 := wr_sh w1 H
    have e35 : sp s (s 0) = s := funext fun a => by unfold sp; split <;> simp_all
    have I1 : Inv L xs (sp s (s 0)) ce h2 := Inv_pg HI hp.1 rfl rfl (wr_sh w2 H1) (stq_rm w2.1 (stq_rm w1.1 hr)) (tn_v_c c1 (fun a j x1 x2 => by rw [w2.2 a j (by omega), w1.2 a j (by omega)])) b1 (fun a j q z1 z2 => by
      by_cases y : a = 48 ∧ j = 40
      · rw [y.1, y.2, b2]; exact w1.2 48 40 (by omega)
      · rw [w2.2 a j (by unfold cc cm' xe_S at q; omega), w1.2 a j (by unfold cc cm' xe_S at q; omega)]) (fun a ha => ⟨(w2.1.2.2.1 a).trans (w1.1.2.2.1 a), (w2.1.2.2.2.1 a).trans (w1.1.2.2.2.1 a)⟩)
    exact ⟨_, _, I1⟩
  | some q =>
    obtain ⟨fd, gg⟩ := q
    obtain ⟨a1, a2, w1⟩ := A1 fd gg e
    obtain ⟨b1, b2⟩ := B1 fd gg e
    obtain ⟨⟨g1, g2, g3⟩, t, ht, rfl⟩ := rl_ok n 0 (s 0) hp.1 fd gg e
    have H1 := wr_sh w1 H
    have H2 := wr_sh w2 H1
    have I1 : Inv L xs (sp s gg) ce (xe_sI (xe_sI h2 0 9 (nI (s 5 3))) 48 40 (nI (s 5 3))) := Inv_pg HI g1 g2 g3 H2 (stq_rm w2.1 (stq_rm w1.1 hr)) (tn_v_c a1 (fun a j x1 x2 => by rw [hI_sI, if_neg (by omega), hI_sI, if_neg (by omega), w2.2 a j (by omega)])) (mp_c g1 b1 (fun j x1 x2 => by rw [hI_sI, if_neg (by omega), hI_sI, if_neg (by omega)])) (fun a j q z1 z2 => by
      rw [hI_sI]
      by_cases y : a = 48 ∧ j = 40
      · rw [if_pos y, y.1, y.2]; exact m6.symm
      · rw [if_neg y, hI_sI]
        by_cases y2 : a = 0 ∧ j = 9
        · rw [if_pos y2, y2.1, y2.2]; exact c6.symm
        · rw [if_neg y2, w2.2 a j (by unfold cc cm' xe_S at q; omega), w1.2 a j (by unfold cc cm' xe_S at q; omega)]) (fun a ha => ⟨(w2.1.2.2.1 a).trans (w1.1.2.2.1 a), (w2.1.2.2.2.1 a).trans (w1.1.2.2.2.1 a)⟩)
    have I2 := Inv_torn I1 ht
    have e9 : xe_I h2 0 9 = nI t := by rw [w2.2 0 9 (by omega)]; exact a2
    have eq : xe_sI (xe_sI (xe_sI (xe_sI h2 0 9 (nI (s 5 3))) 48 40 (nI (s 5 3))) 0 9 (nI t)) 48 40 (nI t) = h2 := by
      refine xe_ext rfl rfl (fun _ => rfl) (fun _ => rfl) (fun a j => ?_) rfl rfl
      simp only [hI_sI]
      by_cases y : a = 48 ∧ j = 40
      · rw [if_pos y, y.1, y.2]; exact b2.symm
      · rw [if_neg y]
        by_cases y2 : a = 0 ∧ j = 9
        · rw [if_pos y2, y2.1, y2.2]; exact e9.symm
        · rw [if_neg y2, if_neg y2, if_neg y]
    rw [eq] at I2
    exact ⟨_, _, I2⟩
theorem ok_read (HI : Inv L xs s ce h) (x l f y : Int32) : ok2 L xs 113 200 [.int x, .int l, .int f, .int y] h := by
  intro d
  obtain ⟨H, hr, hv, hp, ⟨c1, c2, c3, c4, c5, c6⟩, ⟨m1, m2, m3, m4, m5, m6, m7⟩⟩ := id HI
  have fin : ∀ y : Int32, ((∃ x, some (Value.int y) = some (.int x) ∧ some (Value.int y) = some (.int x)) ∧ ∃ s ce, Inv L xs s ce h) := fun y => ⟨⟨y, rfl, rfl⟩, s, ce, HI⟩
  by_cases q1 : 0 ≤ x ∧ x ≤ 3
  · by_cases q2 : 0 ≤ l ∧ l ≤ 2
    · by_cases q3 : 0 ≤ y ∧ y ≤ 20
      · obtain ⟨k, hk, rfl⟩ := rgl (n := 3) (by decide) (by decide) q1
        obtain ⟨n, hn, rfl⟩ := rgl (n := 20) (by decide) (by decide) q3
        refine xe_C_mono (cl_read (d := d + 36) H c1 hp.1 c5 hp.2.2.2.2.1 (show k < 4 by omega) hn l f q2) ?_
        intro v h1 A
        have hS : ∀ a j, 48 ≤ a → xe_I h1 a j = xe_I h a j := by
          intro a j ha
          cases e : (rl s ce k l f n 0 (s 0)).2 with
          | none => exact (A.2.2 e).2 a j (by omega)
          | some q =>
            obtain ⟨fd, gg⟩ := q
            exact (A.2.1 fd gg e).2.2.2 a j (by omega)
        have H1 : sh h1 := by
          cases e : (rl s ce k l f n 0 (s 0)).2 with
          | none => exact wr_sh (A.2.2 e) H
          | some q =>
            obtain ⟨fd, gg⟩ := q
            exact wr_sh (A.2.1 fd gg e).2.2 H
        refine xe_C_mono (md_read (d := d + 33) H1 (mp_c hp.1 m1.1 (fun j _ _ => hS 49 j (by omega))) hp.1 (mSh_c m5 (fun a j x1 x2 => hS a j (by omega))) hp.2.2.2.2.1 (show k < 4 by omega) hn l f q2) ?_
        intro w h2 B
        refine ⟨⟨_, A.1, B.1⟩, Inv_read (g0 := s 0) HI A B⟩
      · simp only [xs_113, xs_113_0, xs_113_1, xs_113_4, xs_113_7, xs_113_8, xs_113_11, xs_113_14, xs_113_16, xs_113_19, xs_113_21, xs_113_23, xs_113_26, xs_113_27, xs_200, xs_200_0, xs_200_1, xs_200_2, xs_200_3, xs_200_6, xs_200_9, xs_200_12, xs_200_13, xs_200_14, xs_200_15, xs_200_18, xs_200_21, xs_200_24, xs_200_26, xs_200_27, xs_200_28, xs_200_31, xs_200_34, xs_200_37, xs_200_38, sh_isSheet, sh_isLane, md_in03, md_in02, md_in020, q1.1, q1.2, q2.1, q2.2, xb_f q3, bad2 q3, H, sT_0, sT_1, sT_2, sN_2, sA_2, sT_3, sN_3, sA_3, sT_4, sN_4, sA_4, sT_5, sN_5, sA_5, sT_6, sN_6, sA_6, sT_7, sT_8, sN_8, sA_8, sT_9, sN_9, sA_9, sT_10, sN_10, sA_10, sT_11, sN_11, sA_11, sT_12, sN_12, sA_12, sT_13, sN_13, sT_14, sT_15, sN_15, sA_15, sT_16, sN_16, sA_16, sT_17, sN_17, sA_17, sT_18, sN_18, sA_18, sT_19, sN_19, sA_19, sT_20, sT_21, sN_21, sA_21, sT_22, sN_22, sA_22, sT_23, sN_23, sA_23, sT_24, sN_24, sA_24, sT_25, sN_25, sA_25, sT_26, sN_26, sB_26, sT_27, sT_28, sN_28, sB_28, sT_29, sT_30, sN_30, sT_32, sN_32, sA_32, sT_33, sT_34, sN_34, sA_34, sT_35, sN_35, sA_35, sT_36, sT_37, sN_37, sA_37, sT_38, sN_38, sA_38, sT_39, sN_39, sA_39, sT_40, sN_40, sB_40, sT_41, sN_41, sA_41, sT_42, sN_42, sA_42, sT_43, sN_43, sA_43, sT_44, sT_45, sN_45, sA_45, sT_46, sN_46, sA_46, sT_47, sN_47, sA_47, sR_1_7, sR_1_8, sR_1_9, sR_1_10, sR_1_11, sR_0_0, sR_7_7, sR_7_8, sR_7_9, sR_7_10, sR_7_11, sR_0_1, sR_0_2, sR_14_7, sR_14_8, sR_14_9, sR_14_10, sR_14_11, sR_13_0, sR_20_7, sR_20_8, sR_20_9, sR_20_10, sR_20_11, sR_13_1, sR_0_3, sR_0_4, sR_27_0, sR_0_5, sR_29_0, sR_29_3, sR_0_6, sR_33_1, sR_33_2, sR_0_7, sR_36_2, sR_36_3, sR_36_4, sR_36_5, sR_36_6, sR_36_7, sR_36_8, sR_0_8, sR_44_0, sR_44_1, sR_44_2, sT_48, sT_49, sN_49, sA_49, sT_50, sN_50, sA_50, sT_51, sN_51, sA_51, sT_52, sN_52, sA_52, sT_53, sN_53, sA_53, sT_54, sN_54, sA_54, sT_55, sN_55, sA_55, sT_56, sN_56, sA_56, sT_57, sN_57, sA_57, sT_58, sN_58, sA_58, sT_59, sN_59, sA_59, sT_60, sN_60, sA_60, sT_61, sN_61, sA_61, sT_62, sN_62, sA_62, sT_63, sN_63, sA_63, sT_64, sN_64, sA_64, sT_65, sN_65, sA_65, sT_66, sN_66, sA_66, sT_67, sN_67, sA_67, sT_68, sN_68, sB_68, sT_69, sN_69, sA_69, sT_70, sN_70, sA_70, sT_71, sN_71, sA_71, sR_48_0, sR_48_2, sR_48_9, sR_48_10, sR_48_11, sR_48_20, sR_48_21, sR_48_22, sR_48_23, sR_48_24, sR_48_26, sR_48_27, sR_48_28, sR_48_29, sR_48_30, sR_48_31, sR_48_33, sR_48_34, sR_48_35, sR_48_36, sR_48_37, sR_48_38, sR_48_39, rf_some, xc_int, xc_ref, xc_ret, xc_long, xw_nil, xw_int, xw_ref, xw_long, tl_some, tl_none, true_and, and_true, Nat.zero_le, Nat.reduceAdd, Nat.reduceMul, Nat.reduceLeDiff, Nat.reduceLT, Nat.reduceEqDiff, Nat.reducePow, Int32.reduceAdd, Int32.reduceMul, Int32.reduceSub, Int32.reduceLT, Int32.reduceLE, Int32.reduceToNatClampNeg, litE, ixU, not_false_eq_true, not_true_eq_false, ↓reduceIte, eq_self, true_or, or_true, false_and, and_false, or_false, false_or, i10, i01, in10, i1n, xbT, xbF, r_lt]
        exact fin _
    · simp only [xs_113, xs_113_0, xs_113_1, xs_113_4, xs_113_7, xs_113_8, xs_113_11, xs_113_14, xs_113_16, xs_113_19, xs_113_21, xs_113_23, xs_113_26, xs_113_27, xs_200, xs_200_0, xs_200_1, xs_200_2, xs_200_3, xs_200_6, xs_200_9, xs_200_12, xs_200_13, xs_200_14, xs_200_15, xs_200_18, xs_200_21, xs_200_24, xs_200_26, xs_200_27, xs_200_28, xs_200_31, xs_200_34, xs_200_37, xs_200_38, sh_isSheet, sh_isLane, md_in03, md_in02, q1.1, q1.2, xb_f q2, H, sT_0, sT_1, sT_2, sN_2, sA_2, sT_3, sN_3, sA_3, sT_4, sN_4, sA_4, sT_5, sN_5, sA_5, sT_6, sN_6, sA_6, sT_7, sT_8, sN_8, sA_8, sT_9, sN_9, sA_9, sT_10, sN_10, sA_10, sT_11, sN_11, sA_11, sT_12, sN_12, sA_12, sT_13, sN_13, sT_14, sT_15, sN_15, sA_15, sT_16, sN_16, sA_16, sT_17, sN_17, sA_17, sT_18, sN_18, sA_18, sT_19, sN_19, sA_19, sT_20, sT_21, sN_21, sA_21, sT_22, sN_22, sA_22, sT_23, sN_23, sA_23, sT_24, sN_24, sA_24, sT_25, sN_25, sA_25, sT_26, sN_26, sB_26, sT_27, sT_28, sN_28, sB_28, sT_29, sT_30, sN_30, sT_32, sN_32, sA_32, sT_33, sT_34, sN_34, sA_34, sT_35, sN_35, sA_35, sT_36, sT_37, sN_37, sA_37, sT_38, sN_38, sA_38, sT_39, sN_39, sA_39, sT_40, sN_40, sB_40, sT_41, sN_41, sA_41, sT_42, sN_42, sA_42, sT_43, sN_43, sA_43, sT_44, sT_45, sN_45, sA_45, sT_46, sN_46, sA_46, sT_47, sN_47, sA_47, sR_1_7, sR_1_8, sR_1_9, sR_1_10, sR_1_11, sR_0_0, sR_7_7, sR_7_8, sR_7_9, sR_7_10, sR_7_11, sR_0_1, sR_0_2, sR_14_7, sR_14_8, sR_14_9, sR_14_10, sR_14_11, sR_13_0, sR_20_7, sR_20_8, sR_20_9, sR_20_10, sR_20_11, sR_13_1, sR_0_3, sR_0_4, sR_27_0, sR_0_5, sR_29_0, sR_29_3, sR_0_6, sR_33_1, sR_33_2, sR_0_7, sR_36_2, sR_36_3, sR_36_4, sR_36_5, sR_36_6, sR_36_7, sR_36_8, sR_0_8, sR_44_0, sR_44_1, sR_44_2, sT_48, sT_49, sN_49, sA_49, sT_50, sN_50, sA_50, sT_51, sN_51, sA_51, sT_52, sN_52, sA_52, sT_53, sN_53, sA_53, sT_54, sN_54, sA_54, sT_55, sN_55, sA_55, sT_56, sN_56, sA_56, sT_57, sN_57, sA_57, sT_58, sN_58, sA_58, sT_59, sN_59, sA_59, sT_60, sN_60, sA_60, sT_61, sN_61, sA_61, sT_62, sN_62, sA_62, sT_63, sN_63, sA_63, sT_64, sN_64, sA_64, sT_65, sN_65, sA_65, sT_66, sN_66, sA_66, sT_67, sN_67, sA_67, sT_68, sN_68, sB_68, sT_69, sN_69, sA_69, sT_70, sN_70, sA_70, sT_71, sN_71, sA_71, sR_48_0, sR_48_2, sR_48_9, sR_48_10, sR_48_11, sR_48_20, sR_48_21, sR_48_22, sR_48_23, sR_48_24, sR_48_26, sR_48_27, sR_48_28, sR_48_29, sR_48_30, sR_48_31, sR_48_33, sR_48_34, sR_48_35, sR_48_36, sR_48_37, sR_48_38, sR_48_39, rf_some, xc_int, xc_ref, xc_ret, xc_long, xw_nil, xw_int, xw_ref, xw_long, tl_some, tl_none, true_and, and_true, Nat.zero_le, Nat.reduceAdd, Nat.reduceMul, Nat.reduceLeDiff, Nat.reduceLT, Nat.reduceEqDiff, Nat.reducePow, Int32.reduceAdd, Int32.reduceMul, Int32.reduceSub, Int32.reduceLT, Int32.reduceLE, Int32.reduceToNatClampNeg, litE, ixU, not_false_eq_true, not_true_eq_false, ↓reduceIte, eq_self, true_or, or_true, false_and, and_false, or_false, false_or, i10, i01, in10, i1n, xbT, xbF, r_lt]
      exact fin _
  · simp only [xs_113, xs_113_0, xs_113_1, xs_113_4, xs_113_7, xs_113_8, xs_113_11, xs_113_14, xs_113_16, xs_113_19, xs_113_21, xs_113_23, xs_113_26, xs_113_27, xs_200, xs_200_0, xs_200_1, xs_200_2, xs_200_3, xs_200_6, xs_200_9, xs_200_12, xs_200_13, xs_200_14, xs_200_15, xs_200_18, xs_200_21, xs_200_24, xs_200_26, xs_200_27, xs_200_28, xs_200_31, xs_200_34, xs_200_37, xs_200_38, sh_isSheet, md_in03, xb_f q1, H, sT_0, sT_1, sT_2, sN_2, sA_2, sT_3, sN_3, sA_3, sT_4, sN_4, sA_4, sT_5, sN_5, sA_5, sT_6, sN_6, sA_6, sT_7, sT_8, sN_8, sA_8, sT_9, sN_9, sA_9, sT_10, sN_10, sA_10, sT_11, sN_11, sA_11, sT_12, sN_12, sA_12, sT_13, sN_13, sT_14, sT_15, sN_15, sA_15, sT_16, sN_16, sA_16, sT_17, sN_17, sA_17, sT_18, sN_18, sA_18, sT_19, sN_19, sA_19, sT_20, sT_21, sN_21, sA_21, sT_22, sN_22, sA_22, sT_23, sN_23, sA_23, sT_24, sN_24, sA_24, sT_25, sN_25, sA_25, sT_26, sN_26, sB_26, sT_27, sT_28, sN_28, sB_28, sT_29, sT_30, sN_30, sT_32, sN_32, sA_32, sT_33, sT_34, sN_34, sA_34, sT_35, sN_35, sA_35, sT_36, sT_37, sN_37, sA_37, sT_38, sN_38, sA_38, sT_39, sN_39, sA_39, sT_40, sN_40, sB_40, sT_41, sN_41, sA_41, sT_42, sN_42, sA_42, sT_43, sN_43, sA_43, sT_44, sT_45, sN_45, sA_45, sT_46, sN_46, sA_46, sT_47, sN_47, sA_47, sR_1_7, sR_1_8, sR_1_9, sR_1_10, sR_1_11, sR_0_0, sR_7_7, sR_7_8, sR_7_9, sR_7_10, sR_7_11, sR_0_1, sR_0_2, sR_14_7, sR_14_8, sR_14_9, sR_14_10, sR_14_11, sR_13_0, sR_20_7, sR_20_8, sR_20_9, sR_20_10, sR_20_11, sR_13_1, sR_0_3, sR_0_4, sR_27_0, sR_0_5, sR_29_0, sR_29_3, sR_0_6, sR_33_1, sR_33_2, sR_0_7, sR_36_2, sR_36_3, sR_36_4, sR_36_5, sR_36_6, sR_36_7, sR_36_8, sR_0_8, sR_44_0, sR_44_1, sR_44_2, sT_48, sT_49, sN_49, sA_49, sT_50, sN_50, sA_50, sT_51, sN_51, sA_51, sT_52, sN_52, sA_52, sT_53, sN_53, sA_53, sT_54, sN_54, sA_54, sT_55, sN_55, sA_55, sT_56, sN_56, sA_56, sT_57, sN_57, sA_57, sT_58, sN_58, sA_58, sT_59, sN_59, sA_59, sT_60, sN_60, sA_60, sT_61, sN_61, sA_61, sT_62, sN_62, sA_62, sT_63, sN_63, sA_63, sT_64, sN_64, sA_64, sT_65, sN_65, sA_65, sT_66, sN_66, sA_66, sT_67, sN_67, sA_67, sT_68, sN_68, sB_68, sT_69, sN_69, sA_69, sT_70, sN_70, sA_70, sT_71, sN_71, sA_71, sR_48_0, sR_48_2, sR_48_9, sR_48_10, sR_48_11, sR_48_20, sR_48_21, sR_48_22, sR_48_23, sR_48_24, sR_48_26, sR_48_27, sR_48_28, sR_48_29, sR_48_30, sR_48_31, sR_48_33, sR_48_34, sR_48_35, sR_48_36, sR_48_37, sR_48_38, sR_48_39, rf_some, xc_int, xc_ref, xc_ret, xc_long, xw_nil, xw_int, xw_ref, xw_long, tl_some, tl_none, true_and, and_true, Nat.zero_le, Nat.reduceAdd, Nat.reduceMul, Nat.reduceLeDiff, Nat.reduceLT, Nat.reduceEqDiff, Nat.reducePow, Int32.reduceAdd, Int32.reduceMul, Int32.reduceSub, Int32.reduceLT, Int32.reduceLE, Int32.reduceToNatClampNeg, litE, ixU, not_false_eq_true, not_true_eq_false, ↓reduceIte, eq_self, true_or, or_true, false_and, and_false, or_false, false_or, i10, i01, in10, i1n, xbT, xbF, r_lt]
    exact fin _
end RF
