/-! way: the class's answer -/
section WY
variable {d : Nat} {h : xe_H} {t : Bool} {g : Nat → Nat}
theorem bG_pre {S n : Nat} {b : bL} (H : bG S b) (h1 : 0 < n) (h2 : n ≤ b.1) : bG S (n, b.2) := ⟨h1, fun i hi => H.2.1 i (Nat.lt_of_lt_of_le hi h2), fun i j hij hj => H.2.2.1 i j hij (Nat.lt_of_lt_of_le hj h2), H.2.2.2.1, fun i hi hj => H.2.2.2.2.1 i hi (Nat.lt_of_lt_of_le hj h2), fun i j hij hj => H.2.2.2.2.2 i j hij (Nat.lt_of_lt_of_le hj h2)⟩
theorem CW_pre {b' Z : bL} (C : CW t b' h) (P : bP b' Z) : CW t (b'.1, Z.2) h := CW_c C rfl (fun i hi => by
  have := bP_S P hi
  exact ⟨this.1, this.2.2.2, this.2.2.1⟩)
theorem bP_pre {n : Nat} {Z : bL} (h : n ≤ Z.1) : bP (n, Z.2) Z := ⟨h, fun _ _ => rfl⟩
theorem cl_answerZ {b' Z : bL} {K : Nat} {x : Int32} {Q : Option Value → xe_H → Prop} (hx : rowQ x) (gZ : bG (bnd t) Z) (nZ : bN Z) (FZ : ∀ k, k < Z.1 → bF Z k < 102400) (C : CW t b' h) (P : bP b' Z) (hK : K < b'.1) (hD : bD Z K ≤ 102400) (H : sh h) (i8 : xe_I h 29 8 = nI K) (i9 : xe_I h 29 9 = nI (bD Z K)) (fin : Q (some (.int (tld Z K x))) h) : xe_C (d + 2) 72 [.ref 29, .int x] h Q := by
  have G' := bG_pre gZ (show 0 < b'.1 by omega) P.1
  refine cl_answer (d := d) (b := (b'.1, Z.2)) (K := K) hx G' (fun i hi => nZ i (Nat.lt_of_lt_of_le hi P.1)) (fun k hk => FZ k (Nat.lt_of_lt_of_le hk P.1)) hK hD H (CW_pre C P) i8 i9 ?_
  rw [tld_P G' (bP_pre P.1) hK]
  exact fin
theorem cl_tells {s0 G : Nat} {x : Int32} {h1 : xe_H} (hg : pg_ok g) (h0 : s0 < bnd t) (hx : rowQ x) (h100 : bK (nxt t g) (mxt t g) s0 G < bend (nxt t g) (mxt t g) s0 → bD (bZ (nxt t g) (mxt t g) s0) (bK (nxt t g) (mxt t g) s0 G) ≤ 100) (H : sh h) (S : srR t g s0 G 1000000 h1 h) : xe_C (d + 2) 72 [.ref 29, .int x] h (fun r h' => r = some (.int (wyA (nxt t g) (mxt t g) s0 G x)) ∧ h' = h) := by
  have hbt := bnd_le t
  have hnb : ∀ x m s, x < bnd t → nxt t g x m = some s → s < bnd t := fun x m s hx e => nxt_b hg hx e
  obtain ⟨M64, M0⟩ := mxt_64 (t := t) hg
  have gZ : bG (bnd t) (bZ (nxt t g) (mxt t g) s0) := (bB_G (M := mxt t g) h0 hnb (bend (nxt t g) (mxt t g) s0)).1
  have nZ : bN (bZ (nxt t g) (mxt t g) s0) := bN_B M64 _
  have PZ := bZ_P (nx := nxt t g) (M := mxt t g) (s0 := s0) (k := 0) (by omega)
  have F0 : bF (bZ (nxt t g) (mxt t g) s0) 0 = 0 := (bP_S PZ (show 0 < 1 by decide)).2.2.1
  have hle := bG_le gZ
  obtain ⟨-, ⟨k1, k2, k3, k4, b', C, P, k5⟩ | ⟨k1, k2, -⟩⟩ := S
  · have h1 := h100 k1
    refine cl_answerZ (d := d) hx gZ nZ (fun k hk => ?_) C P k5 (by omega) H k3 k4 ⟨?_, rfl⟩
    · by_cases z : k = 0
      · rw [z, F0]; decide
      · have := (gZ.2.2.2.2.1 k (by omega) hk).1; omega
    · unfold wyA
      rw [if_pos k1]
  · rw [cl_answerN (d := d) H k2]
    refine ⟨?_, rfl⟩
    unfold wyA
    rw [if_neg (fun z => by
      have := k1 z
      have := h100 z
      omega)]
theorem srR_rm {s0 G li : Nat} {h1 : xe_H} (S : srR t g s0 G li h1 h) : rm h := by
  obtain ⟨-, ⟨-, -, -, -, b', C, -⟩ | ⟨-, -, b', C, -⟩⟩ := S
  · exact CW_rm C
  · exact CW_rm C
theorem cl_way {p : Nat} {x : Int32} (hg : pg_ok g) (hp : p < g 31) (hx : rowQ x) (H : sh h) (R : rm h) (tv : tn_v h 1 g) : xe_C (d + 9) 96 [.ref 0, .int (nI p), .int x] h (fun r h' => r = some (.int (wyA (nx1 g) (g 24 + 1) (4096 * g (25 + 2 * p) + rc (gr g)) (g (26 + 2 * p)) x)) ∧ wq sY h h' ∧ rm h') := by
  have h24 : g 24 ≤ 6 := hg.1
  have h31 : g 31 ≤ 3 := hg.2.1
  have h35 : g 35 ≤ 5 := hg.2.2.2.2.2.2.2.1
  obtain ⟨hpl, hgo⟩ := hg.2.2.2.2.2.2.2.2.2.2.2 p hp
  have gr3 : ∀ b, b < 6 → gr g b ≤ 3 := hg.2.2.2.2.2.2.2.2.2.1
  have hrc := rc_lt gr3
  have v2 : xe_I h 1 2 = nI (g 31) := tv.1.2.2.1
  have q1 : (0 ≤ nI p ∧ nI p < nI (g 31)) := ⟨nI_pos' (by omega), in_lt (by omega) hp⟩
  have h0 : 4096 * g (25 + 2 * p) + rc (gr g) < bnd false := by show _ < 20480; omega
  have sk := cl_seek1 (d := d + 1) hg hp (show 1000000 < 2 ^ 31 by decide) H R tv
  rw [show nI 1000000 = (1000000 : Int32) from rfl] at sk
  simp only [xs_96, xs_96_0, xs_96_1, xs_96_4, xs_96_5, xs_96_8, xs_96_11, xs_96_12, xs_96_15, xs_96_18, xs_96_19, xs_96_20, xs_96_21, xs_96_24, xs_96_25, xs_96_28, xs_96_29, xs_96_30, xs_96_32, H, sT_0, sT_1, sT_2, sN_2, sA_2, sT_3, sN_3, sA_3, sT_4, sN_4, sA_4, sT_5, sN_5, sA_5, sT_6, sN_6, sA_6, sT_7, sT_8, sN_8, sA_8, sT_9, sN_9, sA_9, sT_10, sN_10, sA_10, sT_11, sN_11, sA_11, sT_12, sN_12, sA_12, sT_13, sN_13, sT_14, sT_15, sN_15, sA_15, sT_16, sN_16, sA_16, sT_17, sN_17, sA_17, sT_18, sN_18, sA_18, sT_19, sN_19, sA_19, sT_20, sT_21, sN_21, sA_21, sT_22, sN_22, sA_22, sT_23, sN_23, sA_23, sT_24, sN_24, sA_24, sT_25, sN_25, sA_25, sT_26, sN_26, sB_26, sT_27, sT_28, sN_28, sB_28, sT_29, sT_30, sN_30, sT_32, sN_32, sA_32, sT_33, sT_34, sN_34, sA_34, sT_35, sN_35, sA_35, sT_36, sT_37, sN_37, sA_37, sT_38, sN_38, sA_38, sT_39, sN_39, sA_39, sT_40, sN_40, sB_40, sT_41, sN_41, sA_41, sT_42, sN_42, sA_42, sT_43, sN_43, sA_43, sT_44, sT_45, sN_45, sA_45, sT_46, sN_46, sA_46, sT_47, sN_47, sA_47, sR_1_7, sR_1_8, sR_1_9, sR_1_10, sR_1_11, sR_0_0, sR_7_7, sR_7_8, sR_7_9, sR_7_10, sR_7_11, sR_0_1, sR_0_2, sR_14_7, sR_14_8, sR_14_9, sR_14_10, sR_14_11, sR_13_0, sR_20_7, sR_20_8, sR_20_9, sR_20_10, sR_20_11, sR_13_1, sR_0_3, sR_0_4, sR_27_0, sR_0_5, sR_29_0, sR_29_3, sR_0_6, sR_33_1, sR_33_2, sR_0_7, sR_36_2, sR_36_3, sR_36_4, sR_36_5, sR_36_6, sR_36_7, sR_36_8, sR_0_8, sR_44_0, sR_44_1, sR_44_2, tw_isOne (sT_1 H) v2, xb_t q1, c_asksRow x hx, rf_some, xc_int, xc_ref, xc_ret, xc_long, xw_nil, xw_int, xw_ref, xw_long, tl_some, tl_none, true_and, and_true, Nat.zero_le, Nat.reduceAdd, Nat.reduceMul, Nat.reduceLeDiff, Nat.reduceLT, Nat.reduceEqDiff, Nat.reducePow, Int32.reduceAdd, Int32.reduceMul, Int32.reduceSub, Int32.reduceLT, Int32.reduceLE, Int32.reduceToNatClampNeg, litE, ixU, not_false_eq_true, not_true_eq_false, ↓reduceIte, eq_self, true_or, or_true, false_and, and_false, or_false, false_or, i10, i01, in10, i1n, xbT, xbF, r_lt]
  refine xe_C_mono sk ?_
  rintro r h2 ⟨rfl, h1, W1, S⟩
  have W2 : wq sY h h2 := wq_tr W1 (wq_sub S.1 (fun a j z => by unfold sW at z; unfold sY; omega))
  have H2 := W2.1 H
  simp only [xs_96_35, xs_96_36, xs_96_39, xs_96_40, H2, sT_0, sT_1, sT_2, sN_2, sA_2, sT_3, sN_3, sA_3, sT_4, sN_4, sA_4, sT_5, sN_5, sA_5, sT_6, sN_6, sA_6, sT_7, sT_8, sN_8, sA_8, sT_9, sN_9, sA_9, sT_10, sN_10, sA_10, sT_11, sN_11, sA_11, sT_12, sN_12, sA_12, sT_13, sN_13, sT_14, sT_15, sN_15, sA_15, sT_16, sN_16, sA_16, sT_17, sN_17, sA_17, sT_18, sN_18, sA_18, sT_19, sN_19, sA_19, sT_20, sT_21, sN_21, sA_21, sT_22, sN_22, sA_22, sT_23, sN_23, sA_23, sT_24, sN_24, sA_24, sT_25, sN_25, sA_25, sT_26, sN_26, sB_26, sT_27, sT_28, sN_28, sB_28, sT_29, sT_30, sN_30, sT_32, sN_32, sA_32, sT_33, sT_34, sN_34, sA_34, sT_35, sN_35, sA_35, sT_36, sT_37, sN_37, sA_37, sT_38, sN_38, sA_38, sT_39, sN_39, sA_39, sT_40, sN_40, sB_40, sT_41, sN_41, sA_41, sT_42, sN_42, sA_42, sT_43, sN_43, sA_43, sT_44, sT_45, sN_45, sA_45, sT_46, sN_46, sA_46, sT_47, sN_47, sA_47, sR_1_7, sR_1_8, sR_1_9, sR_1_10, sR_1_11, sR_0_0, sR_7_7, sR_7_8, sR_7_9, sR_7_10, sR_7_11, sR_0_1, sR_0_2, sR_14_7, sR_14_8, sR_14_9, sR_14_10, sR_14_11, sR_13_0, sR_20_7, sR_20_8, sR_20_9, sR_20_10, sR_20_11, sR_13_1, sR_0_3, sR_0_4, sR_27_0, sR_0_5, sR_29_0, sR_29_3, sR_0_6, sR_33_1, sR_33_2, sR_0_7, sR_36_2, sR_36_3, sR_36_4, sR_36_5, sR_36_6, sR_36_7, sR_36_8, sR_0_8, sR_44_0, sR_44_1, sR_44_2, rf_some, xc_int, xc_ref, xc_ret, xc_long, xw_nil, xw_int, xw_ref, xw_long, tl_some, tl_none, true_and, and_true, Nat.zero_le, Nat.reduceAdd, Nat.reduceMul, Nat.reduceLeDiff, Nat.reduceLT, Nat.reduceEqDiff, Nat.reducePow, Int32.reduceAdd, Int32.reduceMul, Int32.reduceSub, Int32.reduceLT, Int32.reduceLE, Int32.reduceToNatClampNeg, litE, ixU, not_false_eq_true, not_true_eq_false, ↓reduceIte, eq_self, true_or, or_true, false_and, and_false, or_false, false_or, i10, i01, in10, i1n, xbT, xbF, r_lt]
  refine xe_C_mono (cl_tells (d := d + 6) hg h0 hx (fun z => bK_100 (show 4096 * g (25 + 2 * p) + rc (gr g) < 4096 * 25 by omega) (nx1_b hg) (show 0 < g 24 + 1 by omega) (fun x _ => stay3 (fun w f hf => stay_1 hf) x) (weak_1 hg) z) H2 S) ?_
  rintro r h3 ⟨rfl, rfl⟩
  simp only [xs_96_43, rf_some, xc_int, xc_ref, xc_ret, xc_long, xw_nil, xw_int, xw_ref, xw_long, tl_some, tl_none, true_and, and_true, Nat.zero_le, Nat.reduceAdd, Nat.reduceMul, Nat.reduceLeDiff, Nat.reduceLT, Nat.reduceEqDiff, Nat.reducePow, Int32.reduceAdd, Int32.reduceMul, Int32.reduceSub, Int32.reduceLT, Int32.reduceLE, Int32.reduceToNatClampNeg, litE, ixU, not_false_eq_true, not_true_eq_false, ↓reduceIte, eq_self, true_or, or_true, false_and, and_false, or_false, false_or, i10, i01, in10, i1n, xbT, xbF, r_lt]
  exact ⟨rfl, W2, srR_rm S⟩
theorem sY_fr {h' : xe_H} (W : wq sY h h') (R : rm h') : fr h h' := wq_fr W (fun a j z => z) R
theorem ok_way {L : Nat} {xs : Nat → Int32} {s : Nat → Nat → Nat} {ce : Nat → Int32} (HI : Inv L xs s ce h) (x y : Int32) : ok2 L xs 96 166 [.int x, .int y] h := by
  intro d
  obtain ⟨H, hr, hv, hp, ⟨c1, c2, c3, c4, c5, c6⟩, ⟨⟨m1, m1'⟩, m2, m3, m4, m5, m6, m7⟩⟩ := id HI
  obtain ⟨⟨v0, v1, v2, v3, v4, v5, v6⟩, -⟩ := id c1
  have h31 : s 0 31 ≤ 3 := hp.1.2.1
  have fin : ∀ y : Int32, ((∃ x, some (Value.int y) = some (.int x) ∧ some (Value.int y) = some (.int x)) ∧ ∃ s ce, Inv L xs s ce h) := fun y => ⟨⟨y, rfl, rfl⟩, s, ce, HI⟩
  by_cases q1 : 0 ≤ x ∧ x < nI (s 0 31)
  · by_cases q2 : rowQ y
    · obtain ⟨p, hp1, rfl⟩ := rg (by omega) q1
      refine xe_C_mono (cl_way (d := d + 31) hp.1 hp1 q2 H hr c1) ?_
      rintro v h1 ⟨rfl, W1, R1⟩
      have I1 := Inv_fr HI (sY_fr W1 R1)
      refine xe_C_mono (md_way (d := d + 33) hp.1 hp1 q2 I1.1 I1.2.2.2.2.2.1.1) ?_
      rintro w h2 ⟨rfl, W⟩
      exact ⟨⟨_, rfl, rfl⟩, s, ce, Inv_fr I1 (wr_fr W (fun a j q => by unfold vS at q; unfold cc cm' xe_S; omega))⟩
    · have y0 : ¬ y = 0 := fun z => q2 (Or.inl z)
      have y1 : (10 ≤ y) = False := eq_false (fun z => q2 (Or.inr z))
      simp only [xs_96, xs_96_0, xs_96_1, xs_96_4, xs_96_5, xs_96_8, xs_96_11, xs_96_12, xs_96_15, xs_96_18, xs_96_19, xs_166, xs_166_0, xs_166_1, xs_166_2, xs_166_5, xs_166_8, xs_166_9, xs_166_12, xs_166_13, xs_166_15, xs_166_18, xs_166_19, xs_166_20, tw_isOne (sT_1 H) v2, md_isOne H m1 hp.1, xb_t q1, c_asksRowN y q2, eq_false y0, y1, H, sT_0, sT_1, sT_2, sN_2, sA_2, sT_3, sN_3, sA_3, sT_4, sN_4, sA_4, sT_5, sN_5, sA_5, sT_6, sN_6, sA_6, sT_7, sT_8, sN_8, sA_8, sT_9, sN_9, sA_9, sT_10, sN_10, sA_10, sT_11, sN_11, sA_11, sT_12, sN_12, sA_12, sT_13, sN_13, sT_14, sT_15, sN_15, sA_15, sT_16, sN_16, sA_16, sT_17, sN_17, sA_17, sT_18, sN_18, sA_18, sT_19, sN_19, sA_19, sT_20, sT_21, sN_21, sA_21, sT_22, sN_22, sA_22, sT_23, sN_23, sA_23, sT_24, sN_24, sA_24, sT_25, sN_25, sA_25, sT_26, sN_26, sB_26, sT_27, sT_28, sN_28, sB_28, sT_29, sT_30, sN_30, sT_32, sN_32, sA_32, sT_33, sT_34, sN_34, sA_34, sT_35, sN_35, sA_35, sT_36, sT_37, sN_37, sA_37, sT_38, sN_38, sA_38, sT_39, sN_39, sA_39, sT_40, sN_40, sB_40, sT_41, sN_41, sA_41, sT_42, sN_42, sA_42, sT_43, sN_43, sA_43, sT_44, sT_45, sN_45, sA_45, sT_46, sN_46, sA_46, sT_47, sN_47, sA_47, sR_1_7, sR_1_8, sR_1_9, sR_1_10, sR_1_11, sR_0_0, sR_7_7, sR_7_8, sR_7_9, sR_7_10, sR_7_11, sR_0_1, sR_0_2, sR_14_7, sR_14_8, sR_14_9, sR_14_10, sR_14_11, sR_13_0, sR_20_7, sR_20_8, sR_20_9, sR_20_10, sR_20_11, sR_13_1, sR_0_3, sR_0_4, sR_27_0, sR_0_5, sR_29_0, sR_29_3, sR_0_6, sR_33_1, sR_33_2, sR_0_7, sR_36_2, sR_36_3, sR_36_4, sR_36_5, sR_36_6, sR_36_7, sR_36_8, sR_0_8, sR_44_0, sR_44_1, sR_44_2, sT_48, sT_49, sN_49, sA_49, sT_50, sN_50, sA_50, sT_51, sN_51, sA_51, sT_52, sN_52, sA_52, sT_53, sN_53, sA_53, sT_54, sN_54, sA_54, sT_55, sN_55, sA_55, sT_56, sN_56, sA_56, sT_57, sN_57, sA_57, sT_58, sN_58, sA_58, sT_59, sN_59, sA_59, sT_60, sN_60, sA_60, sT_61, sN_61, sA_61, sT_62, sN_62, sA_62, sT_63, sN_63, sA_63, sT_64, sN_64, sA_64, sT_65, sN_65, sA_65, sT_66, sN_66, sA_66, sT_67, sN_67, sA_67, sT_68, sN_68, sB_68, sT_69, sN_69, sA_69, sT_70, sN_70, sA_70, sT_71, sN_71, sA_71, sR_48_0, sR_48_2, sR_48_9, sR_48_10, sR_48_11, sR_48_20, sR_48_21, sR_48_22, sR_48_23, sR_48_24, sR_48_26, sR_48_27, sR_48_28, sR_48_29, sR_48_30, sR_48_31, sR_48_33, sR_48_34, sR_48_35, sR_48_36, sR_48_37, sR_48_38, sR_48_39, rf_some, xc_int, xc_ref, xc_ret, xc_long, xw_nil, xw_int, xw_ref, xw_long, tl_some, tl_none, true_and, and_true, Nat.zero_le, Nat.reduceAdd, Nat.reduceMul, Nat.reduceLeDiff, Nat.reduceLT, Nat.reduceEqDiff, Nat.reducePow, Int32.reduceAdd, Int32.reduceMul, Int32.reduceSub, Int32.reduceLT, Int32.reduceLE, Int32.reduceToNatClampNeg, litE, ixU, not_false_eq_true, not_true_eq_false, ↓reduceIte, eq_self, true_or, or_true, false_and, and_false, or_false, false_or, i10, i01, in10, i1n, xbT, xbF, r_lt]
      exact fin _
  · simp only [xs_96, xs_96_0, xs_96_1, xs_96_4, xs_96_5, xs_96_8, xs_96_11, xs_96_12, xs_96_15, xs_96_18, xs_96_19, xs_166, xs_166_0, xs_166_1, xs_166_2, xs_166_5, xs_166_8, xs_166_9, xs_166_12, xs_166_13, xs_166_15, xs_166_18, xs_166_19, xs_166_20, tw_isOne (sT_1 H) v2, md_isOne H m1 hp.1, xb_f q1, H, sT_0, sT_1, sT_2, sN_2, sA_2, sT_3, sN_3, sA_3, sT_4, sN_4, sA_4, sT_5, sN_5, sA_5, sT_6, sN_6, sA_6, sT_7, sT_8, sN_8, sA_8, sT_9, sN_9, sA_9, sT_10, sN_10, sA_10, sT_11, sN_11, sA_11, sT_12, sN_12, sA_12, sT_13, sN_13, sT_14, sT_15, sN_15, sA_15, sT_16, sN_16, sA_16, sT_17, sN_17, sA_17, sT_18, sN_18, sA_18, sT_19, sN_19, sA_19, sT_20, sT_21, sN_21, sA_21, sT_22, sN_22, sA_22, sT_23, sN_23, sA_23, sT_24, sN_24, sA_24, sT_25, sN_25, sA_25, sT_26, sN_26, sB_26, sT_27, sT_28, sN_28, sB_28, sT_29, sT_30, sN_30, sT_32, sN_32, sA_32, sT_33, sT_34, sN_34, sA_34, sT_35, sN_35, sA_35, sT_36, sT_37, sN_37, sA_37, sT_38, sN_38, sA_38, sT_39, sN_39, sA_39, sT_40, sN_40, sB_40, sT_41, sN_41, sA_41, sT_42, sN_42, sA_42, sT_43, sN_43, sA_43, sT_44, sT_45, sN_45, sA_45, sT_46, sN_46, sA_46, sT_47, sN_47, sA_47, sR_1_7, sR_1_8, sR_1_9, sR_1_10, sR_1_11, sR_0_0, sR_7_7, sR_7_8, sR_7_9, sR_7_10, sR_7_11, sR_0_1, sR_0_2, sR_14_7, sR_14_8, sR_14_9, sR_14_10, sR_14_11, sR_13_0, sR_20_7, sR_20_8, sR_20_9, sR_20_10, sR_20_11, sR_13_1, sR_0_3, sR_0_4, sR_27_0, sR_0_5, sR_29_0, sR_29_3, sR_0_6, sR_33_1, sR_33_2, sR_0_7, sR_36_2, sR_36_3, sR_36_4, sR_36_5, sR_36_6, sR_36_7, sR_36_8, sR_0_8, sR_44_0, sR_44_1, sR_44_2, sT_48, sT_49, sN_49, sA_49, sT_50, sN_50, sA_50, sT_51, sN_51, sA_51, sT_52, sN_52, sA_52, sT_53, sN_53, sA_53, sT_54, sN_54, sA_54, sT_55, sN_55, sA_55, sT_56, sN_56, sA_56, sT_57, sN_57, sA_57, sT_58, sN_58, sA_58, sT_59, sN_59, sA_59, sT_60, sN_60, sA_60, sT_61, sN_61, sA_61, sT_62, sN_62, sA_62, sT_63, sN_63, sA_63, sT_64, sN_64, sA_64, sT_65, sN_65, sA_65, sT_66, sN_66, sA_66, sT_67, sN_67, sA_67, sT_68, sN_68, sB_68, sT_69, sN_69, sA_69, sT_70, sN_70, sA_70, sT_71, sN_71, sA_71, sR_48_0, sR_48_2, sR_48_9, sR_48_10, sR_48_11, sR_48_20, sR_48_21, sR_48_22, sR_48_23, sR_48_24, sR_48_26, sR_48_27, sR_48_28, sR_48_29, sR_48_30, sR_48_31, sR_48_33, sR_48_34, sR_48_35, sR_48_36, sR_48_37, sR_48_38, sR_48_39, rf_some, xc_int, xc_ref, xc_ret, xc_long, xw_nil, xw_int, xw_ref, xw_long, tl_some, tl_none, true_and, and_true, Nat.zero_le, Nat.reduceAdd, Nat.reduceMul, Nat.reduceLeDiff, Nat.reduceLT, Nat.reduceEqDiff, Nat.reducePow, Int32.reduceAdd, Int32.reduceMul, Int32.reduceSub, Int32.reduceLT, Int32.reduceLE, Int32.reduceToNatClampNeg, litE, ixU, not_false_eq_true, not_true_eq_false, ↓reduceIte, eq_self, true_or, or_true, false_and, and_false, or_false, false_or, i10, i01, in10, i1n, xbT, xbF, r_lt]
    exact fin _
end WY
