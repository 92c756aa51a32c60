/-! ways: the search, from its begin -/
section WV
variable {d : Nat} {h : xe_H} {t : Bool} {g : Nat → Nat}
theorem wL_wq {i : Nat} {h h1 : xe_H} (W : wL i h h1) : wq sW h h1 := ⟨wL_sh W, fun a _ => W.2.2.2.1 a, fun a j _ _ => W.2.2.2.2.1 a j⟩
theorem cl_search {w0 G li : Nat} (hg : pg_ok g) (hw : w0 < wB t) (hli : li < 2 ^ 31) (H : sh h) (R : rm h) (tv : tn_v h 1 g) (c4 : xe_R h 29 4 = some 1) (c5 : xe_I h 29 5 = (if t then 1 else 0)) (hG : gC t G h) : xe_C (d + 6) 75 [.ref 29, .int (nI (we t w0)), .int (nI (wl t w0)), .int (nI li)] h (fun r h' => r = none ∧ srR t g (4096 * w0 + rc (gr g)) G li h h') := by
  have gr3 : ∀ b, b < 6 → gr g b ≤ 3 := hg.2.2.2.2.2.2.2.2.2.1
  have hbt := bnd_le t
  obtain ⟨s1, s2⟩ := st_pl (w := w0) gr3
  have sr : rp (fd (4096 * w0 + rc (gr g))) = rp (gr g) := rp_c (fd_st gr3)
  generalize hs0 : 4096 * w0 + rc (gr g) = s0 at *
  have h0 : s0 < bnd t := bnd_B.mpr (by rw [s1]; exact hw)
  have hnB := nxt_B (t := t) hg
  have hnb : ∀ x m s, x < bnd t → nxt t g x m = some s → s < bnd t := fun x m s hx e => nxt_b hg hx e
  obtain ⟨E1, E2, E3⟩ := bend_ok (M := mxt t g) (show s0 < 4096 * 25 by omega) hnB
  have gZ := (bB_G (M := mxt t g) h0 hnb (bend (nxt t g) (mxt t g) s0)).1
  have bpos : 0 < bend (nxt t g) (mxt t g) s0 := by
    have := gZ.1
    rw [show bB (nxt t g) (mxt t g) s0 (bend (nxt t g) (mxt t g) s0) = bZ (nxt t g) (mxt t g) s0 from rfl, E2] at this
    exact this
  have i6 : xe_I h 1 6 = nI (rp (gr g)) := tv.1.2.2.2.2.2.2
  have al30 : xe_al h 30 := ⟨by rw [(sT_30 H).2]; decide, by rw [(sT_30 H).2]; decide, Or.inl (sT_30 H).1⟩
  have beg : ∀ Q, xe_C (d + 6) 75 [.ref 29, .int (nI (we t w0)), .int (nI (wl t w0)), .int (nI li)] h Q = xe_C (d + 5) 214 [.ref 30, .int 0, .int (nI (bnd t / 64)), .long 0] h (fun r h' => xe_P (d + 5) 75 27 [.ref 29, .int (nI (we t w0)), .int (nI (wl t w0)), .int (nI li), .retAddr 0, .retAddr 0] (r.toList ++ []) h' Q) := by
    intro Q
    cases t with
    | false =>
      have c5 : xe_I h 29 5 = 0 := c5
      rw [show nI (bnd false / 64) = (320 : Int32) from rfl]
      simp only [xs_75, xs_75_0, xs_75_1, xs_75_4, xs_75_5, xs_75_6, xs_75_9, xs_75_12, xs_75_13, xs_75_16, xs_75_17, xs_75_20, xs_75_23, xs_75_24, H, sT_0, sT_1, sT_2, sN_2, sA_2, sT_3, sN_3, sA_3, sT_4, sN_4, sA_4, sT_5, sN_5, sA_5, sT_6, sN_6, sA_6, sT_7, sT_8, sN_8, sA_8, sT_9, sN_9, sA_9, sT_10, sN_10, sA_10, sT_11, sN_11, sA_11, sT_12, sN_12, sA_12, sT_13, sN_13, sT_14, sT_15, sN_15, sA_15, sT_16, sN_16, sA_16, sT_17, sN_17, sA_17, sT_18, sN_18, sA_18, sT_19, sN_19, sA_19, sT_20, sT_21, sN_21, sA_21, sT_22, sN_22, sA_22, sT_23, sN_23, sA_23, sT_24, sN_24, sA_24, sT_25, sN_25, sA_25, sT_26, sN_26, sB_26, sT_27, sT_28, sN_28, sB_28, sT_29, sT_30, sN_30, sT_32, sN_32, sA_32, sT_33, sT_34, sN_34, sA_34, sT_35, sN_35, sA_35, sT_36, sT_37, sN_37, sA_37, sT_38, sN_38, sA_38, sT_39, sN_39, sA_39, sT_40, sN_40, sB_40, sT_41, sN_41, sA_41, sT_42, sN_42, sA_42, sT_43, sN_43, sA_43, sT_44, sT_45, sN_45, sA_45, sT_46, sN_46, sA_46, sT_47, sN_47, sA_47, sR_1_7, sR_1_8, sR_1_9, sR_1_10, sR_1_11, sR_0_0, sR_7_7, sR_7_8, sR_7_9, sR_7_10, sR_7_11, sR_0_1, sR_0_2, sR_14_7, sR_14_8, sR_14_9, sR_14_10, sR_14_11, sR_13_0, sR_20_7, sR_20_8, sR_20_9, sR_20_10, sR_20_11, sR_13_1, sR_0_3, sR_0_4, sR_27_0, sR_0_5, sR_29_0, sR_29_3, sR_0_6, sR_33_1, sR_33_2, sR_0_7, sR_36_2, sR_36_3, sR_36_4, sR_36_5, sR_36_6, sR_36_7, sR_36_8, sR_0_8, sR_44_0, sR_44_1, sR_44_2, c5, rf_some, xc_int, xc_ref, xc_ret, xc_long, xw_nil, xw_int, xw_ref, xw_long, tl_some, tl_none, true_and, and_true, Nat.zero_le, Nat.reduceAdd, Nat.reduceMul, Nat.reduceLeDiff, Nat.reduceLT, Nat.reduceEqDiff, Nat.reducePow, Int32.reduceAdd, Int32.reduceMul, Int32.reduceSub, Int32.reduceLT, Int32.reduceLE, Int32.reduceToNatClampNeg, litE, ixU, not_false_eq_true, not_true_eq_false, ↓reduceIte, eq_self, true_or, or_true, false_and, and_false, or_false, false_or, i10, i01, in10, i1n, xbT, xbF, r_lt]
    | true =>
      have c5 : xe_I h 29 5 = 1 := c5
      rw [show nI (bnd true / 64) = Int32.ofNat 1600 from rfl]
      simp only [xs_75, xs_75_0, xs_75_1, xs_75_4, xs_75_5, xs_75_6, xs_75_9, xs_75_12, xs_75_13, xs_75_16, xs_75_17, xs_75_20, xs_75_23, xs_75_24, H, sT_0, sT_1, sT_2, sN_2, sA_2, sT_3, sN_3, sA_3, sT_4, sN_4, sA_4, sT_5, sN_5, sA_5, sT_6, sN_6, sA_6, sT_7, sT_8, sN_8, sA_8, sT_9, sN_9, sA_9, sT_10, sN_10, sA_10, sT_11, sN_11, sA_11, sT_12, sN_12, sA_12, sT_13, sN_13, sT_14, sT_15, sN_15, sA_15, sT_16, sN_16, sA_16, sT_17, sN_17, sA_17, sT_18, sN_18, sA_18, sT_19, sN_19, sA_19, sT_20, sT_21, sN_21, sA_21, sT_22, sN_22, sA_22, sT_23, sN_23, sA_23, sT_24, sN_24, sA_24, sT_25, sN_25, sA_25, sT_26, sN_26, sB_26, sT_27, sT_28, sN_28, sB_28, sT_29, sT_30, sN_30, sT_32, sN_32, sA_32, sT_33, sT_34, sN_34, sA_34, sT_35, sN_35, sA_35, sT_36, sT_37, sN_37, sA_37, sT_38, sN_38, sA_38, sT_39, sN_39, sA_39, sT_40, sN_40, sB_40, sT_41, sN_41, sA_41, sT_42, sN_42, sA_42, sT_43, sN_43, sA_43, sT_44, sT_45, sN_45, sA_45, sT_46, sN_46, sA_46, sT_47, sN_47, sA_47, sR_1_7, sR_1_8, sR_1_9, sR_1_10, sR_1_11, sR_0_0, sR_7_7, sR_7_8, sR_7_9, sR_7_10, sR_7_11, sR_0_1, sR_0_2, sR_14_7, sR_14_8, sR_14_9, sR_14_10, sR_14_11, sR_13_0, sR_20_7, sR_20_8, sR_20_9, sR_20_10, sR_20_11, sR_13_1, sR_0_3, sR_0_4, sR_27_0, sR_0_5, sR_29_0, sR_29_3, sR_0_6, sR_33_1, sR_33_2, sR_0_7, sR_36_2, sR_36_3, sR_36_4, sR_36_5, sR_36_6, sR_36_7, sR_36_8, sR_0_8, sR_44_0, sR_44_1, sR_44_2, c5, al30, rf_some, xc_int, xc_ref, xc_ret, xc_long, xw_nil, xw_int, xw_ref, xw_long, tl_some, tl_none, true_and, and_true, Nat.zero_le, Nat.reduceAdd, Nat.reduceMul, Nat.reduceLeDiff, Nat.reduceLT, Nat.reduceEqDiff, Nat.reducePow, Int32.reduceAdd, Int32.reduceMul, Int32.reduceSub, Int32.reduceLT, Int32.reduceLE, Int32.reduceToNatClampNeg, litE, ixU, not_false_eq_true, not_true_eq_false, ↓reduceIte, eq_self, true_or, or_true, false_and, and_false, or_false, false_or, i10, i01, in10, i1n, xbT, xbF, r_lt]
  rw [beg]
  refine xe_C_mono (cl_fill (d := d + 3) (show bnd t / 64 ≤ 1600 by omega) H) ?_
  rintro r h1 ⟨rfl, W⟩
  have H1 := wL_sh W H
  have r4 : xe_R h1 29 4 = some 1 := by rw [W.2.2.1]; exact c4
  have j6 : xe_I h1 1 6 = nI (rp (gr g)) := by rw [W.2.2.2.2.1]; exact i6
  simp only [xs_75_27, xs_75_28, xs_75_29, xs_75_32, xs_75_33, xs_75_34, xs_75_37, xs_75_38, xs_75_39, xs_75_42, xs_75_43, xs_75_44, xs_75_47, xs_75_50, xs_75_51, xs_75_52, xs_75_53, xs_75_54, H1, sT_0, sT_1, sT_2, sN_2, sA_2, sT_3, sN_3, sA_3, sT_4, sN_4, sA_4, sT_5, sN_5, sA_5, sT_6, sN_6, sA_6, sT_7, sT_8, sN_8, sA_8, sT_9, sN_9, sA_9, sT_10, sN_10, sA_10, sT_11, sN_11, sA_11, sT_12, sN_12, sA_12, sT_13, sN_13, sT_14, sT_15, sN_15, sA_15, sT_16, sN_16, sA_16, sT_17, sN_17, sA_17, sT_18, sN_18, sA_18, sT_19, sN_19, sA_19, sT_20, sT_21, sN_21, sA_21, sT_22, sN_22, sA_22, sT_23, sN_23, sA_23, sT_24, sN_24, sA_24, sT_25, sN_25, sA_25, sT_26, sN_26, sB_26, sT_27, sT_28, sN_28, sB_28, sT_29, sT_30, sN_30, sT_32, sN_32, sA_32, sT_33, sT_34, sN_34, sA_34, sT_35, sN_35, sA_35, sT_36, sT_37, sN_37, sA_37, sT_38, sN_38, sA_38, sT_39, sN_39, sA_39, sT_40, sN_40, sB_40, sT_41, sN_41, sA_41, sT_42, sN_42, sA_42, sT_43, sN_43, sA_43, sT_44, sT_45, sN_45, sA_45, sT_46, sN_46, sA_46, sT_47, sN_47, sA_47, sR_1_7, sR_1_8, sR_1_9, sR_1_10, sR_1_11, sR_0_0, sR_7_7, sR_7_8, sR_7_9, sR_7_10, sR_7_11, sR_0_1, sR_0_2, sR_14_7, sR_14_8, sR_14_9, sR_14_10, sR_14_11, sR_13_0, sR_20_7, sR_20_8, sR_20_9, sR_20_10, sR_20_11, sR_13_1, sR_0_3, sR_0_4, sR_27_0, sR_0_5, sR_29_0, sR_29_3, sR_0_6, sR_33_1, sR_33_2, sR_0_7, sR_36_2, sR_36_3, sR_36_4, sR_36_5, sR_36_6, sR_36_7, sR_36_8, sR_0_8, sR_44_0, sR_44_1, sR_44_2, r4, j6, rf_some, xc_int, xc_ref, xc_ret, xc_long, xw_nil, xw_int, xw_ref, xw_long, tl_some, tl_none, true_and, and_true, Nat.zero_le, Nat.reduceAdd, Nat.reduceMul, Nat.reduceLeDiff, Nat.reduceLT, Nat.reduceEqDiff, Nat.reducePow, Int32.reduceAdd, Int32.reduceMul, Int32.reduceSub, Int32.reduceLT, Int32.reduceLE, Int32.reduceToNatClampNeg, litE, ixU, not_false_eq_true, not_true_eq_false, ↓reduceIte, eq_self, true_or, or_true, false_and, and_false, or_false, false_or, i10, i01, in10, i1n, xbT, xbF, r_lt, hI_sI, hL_sI, hR_sI, hT_sI, hN_sI, hn_sI, ho_sI, hia_sI, hba_sI, hal_sI, hix_sI, hI_aI, hL_aI, hR_aI, hT_aI, hN_aI, hn_aI, ho_aI, hia_aI, hal_aI, hix_aI, sh_sI, sh_aI, sh_sL, sh_aL]
  generalize hh2 : xe_sI (xe_sI (xe_sI h1 29 2 0) 29 8 (-1)) 29 9 0 = h2
  have H2 : sh h2 := by rw [← hh2, sh_sI, sh_sI, sh_sI]; exact H1
  have W2 : wq sW h h2 := by
    rw [← hh2]
    exact wq_sI (wq_sI (wq_sI (wL_wq W) (by unfold sW; omega)) (by unfold sW; omega)) (by unfold sW; omega)
  have I8 : xe_I h2 29 8 = -1 := by rw [← hh2, hI_sI, if_neg (by omega), hI_sI, if_pos ⟨rfl, rfl⟩]
  have I9 : xe_I h2 29 9 = nI 0 := by rw [← hh2, hI_sI, if_pos ⟨rfl, rfl⟩]; rfl
  have C2 : CW t (0, fun _ => (s0, 0, 0, 0)) h2 := by
    obtain ⟨q, k, a1, a2, a3, a4, a5, a6, a7⟩ := R
    refine ⟨⟨q, k, ⟨?_, a2, a3, ⟨?_, ?_⟩, ?_, ?_, ?_⟩, Nat.zero_le _, fun i hi => absurd hi (Nat.not_lt_zero i)⟩, fun X hX => ?_, ?_, ?_, ?_⟩
    · rw [← hh2, hR_sI, hR_sI, hR_sI, W.2.2.1]; exact a1
    · rw [← hh2, hn_sI, hn_sI, hn_sI, W.1]; exact a4.1
    · rw [← hh2, hT_sI, hT_sI, hT_sI, (W.2.2.2.1 q).1]; exact a4.2
    · rw [← hh2, hN_sI, hN_sI, hN_sI, (W.2.2.2.1 q).2]; exact a5
    · rw [← hh2, hn_sI, hn_sI, hn_sI, W.1]; exact a6
    · rw [← hh2, hz_sI, hz_sI, hz_sI, W.2.1]; exact a7
    · have hK := kx_b hX
      have hK2 : kx t X / 64 < bnd t / 64 := by
        unfold bnd at hK ⊢
        cases t
        · simp only [Bool.false_eq_true, if_false] at hK ⊢; omega
        · simp only [if_true] at hK ⊢; omega
      rw [← hh2, hL_sI, hL_sI, hL_sI, W.2.2.2.2.2 30 _, if_pos ⟨rfl, hK2⟩]
      have : kn (0, fun _ => (s0, 0, 0, 0)) X = false := by
        cases e : kn (0, fun _ => (s0, 0, 0, 0)) X with
        | false => rfl
        | true =>
          obtain ⟨i, hi, -⟩ := kn_t.mp e
          exact absurd hi (Nat.not_lt_zero i)
      rw [this]
      exact BitVec.getLsbD_zero
    · rw [← hh2, hR_sI, hR_sI, hR_sI]; exact r4
    · rw [← hh2, hI_sI, if_neg (by omega), hI_sI, if_neg (by omega), hI_sI, if_pos ⟨rfl, rfl⟩]; rfl
    · rw [← hh2, hI_sI, if_neg (by omega), hI_sI, if_neg (by omega), hI_sI, if_neg (by omega), W.2.2.2.2.1]; exact c5
  have hn := cl_isNew (d := d + 3) (m := 0) (f := 0) h0 (by decide) (by decide) (fun _ => by show 0 < 102400; decide) H2 C2
  rw [s1, sr, show nI 0 = (0 : Int32) from rfl] at hn
  refine xe_C_mono hn ?_
  rintro r h3 ⟨rfl, W3, C3⟩
  have W4 : wq sW h h3 := wq_tr W2 (wq_sub W3 (fun a j z => by unfold sW; omega))
  have H3 := W4.1 H
  have k0 : kn (0, fun _ => (s0, 0, 0, 0)) s0 = false := by
    cases e : kn (0, fun _ => (s0, 0, 0, 0)) s0 with
    | false => rfl
    | true =>
      obtain ⟨i, hi, -⟩ := kn_t.mp e
      exact absurd hi (Nat.not_lt_zero i)
  have C4 : CW t (bB (nxt t g) (mxt t g) s0 0) h3 := by
    refine CW_c C3 (by rw [bA_new k0]; rfl) (fun i hi => ?_)
    rw [bA_new k0] at hi ⊢
    have hi : i < 0 + 1 := hi
    have hi : i = 0 := by omega
    subst hi
    exact ⟨rfl, rfl, rfl⟩
  have J8 : xe_I h3 29 8 = -1 := by rw [W3.2.2 29 8 (by omega) (by omega)]; exact I8
  have J9 : xe_I h3 29 9 = nI 0 := by rw [W3.2.2 29 9 (by omega) (by omega)]; exact I9
  have gc : gC t G h3 := gC_c hG (W4.2.2 29 6 (by unfold sW; omega) (by omega)) (W4.2.2 29 7 (by unfold sW; omega) (by omega))
  have ag := fun d Q => cl_atGoals (d := d) (Q := Q) hw H3 C4.2.2.2.2 gc
  have PZ := bZ_P (nx := nxt t g) (M := mxt t g) (s0 := s0) (k := 0) (by omega)
  by_cases z : w0 = G
  · rw [show xb (w0 = G) = 1 from xb_t z] at ag
    simp only [xs_75_57, xs_75_58, xs_75_59, xs_75_60, xs_75_61, xs_75_64, xs_75_67, xs_75_68, xs_75_69, xs_75_72, H3, sT_0, sT_1, sT_2, sN_2, sA_2, sT_3, sN_3, sA_3, sT_4, sN_4, sA_4, sT_5, sN_5, sA_5, sT_6, sN_6, sA_6, sT_7, sT_8, sN_8, sA_8, sT_9, sN_9, sA_9, sT_10, sN_10, sA_10, sT_11, sN_11, sA_11, sT_12, sN_12, sA_12, sT_13, sN_13, sT_14, sT_15, sN_15, sA_15, sT_16, sN_16, sA_16, sT_17, sN_17, sA_17, sT_18, sN_18, sA_18, sT_19, sN_19, sA_19, sT_20, sT_21, sN_21, sA_21, sT_22, sN_22, sA_22, sT_23, sN_23, sA_23, sT_24, sN_24, sA_24, sT_25, sN_25, sA_25, sT_26, sN_26, sB_26, sT_27, sT_28, sN_28, sB_28, sT_29, sT_30, sN_30, sT_32, sN_32, sA_32, sT_33, sT_34, sN_34, sA_34, sT_35, sN_35, sA_35, sT_36, sT_37, sN_37, sA_37, sT_38, sN_38, sA_38, sT_39, sN_39, sA_39, sT_40, sN_40, sB_40, sT_41, sN_41, sA_41, sT_42, sN_42, sA_42, sT_43, sN_43, sA_43, sT_44, sT_45, sN_45, sA_45, sT_46, sN_46, sA_46, sT_47, sN_47, sA_47, sR_1_7, sR_1_8, sR_1_9, sR_1_10, sR_1_11, sR_0_0, sR_7_7, sR_7_8, sR_7_9, sR_7_10, sR_7_11, sR_0_1, sR_0_2, sR_14_7, sR_14_8, sR_14_9, sR_14_10, sR_14_11, sR_13_0, sR_20_7, sR_20_8, sR_20_9, sR_20_10, sR_20_11, sR_13_1, sR_0_3, sR_0_4, sR_27_0, sR_0_5, sR_29_0, sR_29_3, sR_0_6, sR_33_1, sR_33_2, sR_0_7, sR_36_2, sR_36_3, sR_36_4, sR_36_5, sR_36_6, sR_36_7, sR_36_8, sR_0_8, sR_44_0, sR_44_1, sR_44_2, ag, rf_some, xc_int, xc_ref, xc_ret, xc_long, xw_nil, xw_int, xw_ref, xw_long, tl_some, tl_none, true_and, and_true, Nat.zero_le, Nat.reduceAdd, Nat.reduceMul, Nat.reduceLeDiff, Nat.reduceLT, Nat.reduceEqDiff, Nat.reducePow, Int32.reduceAdd, Int32.reduceMul, Int32.reduceSub, Int32.reduceLT, Int32.reduceLE, Int32.reduceToNatClampNeg, litE, ixU, not_false_eq_true, not_true_eq_false, ↓reduceIte, eq_self, true_or, or_true, false_and, and_false, or_false, false_or, i10, i01, in10, i1n, xbT, xbF, r_lt]
    have eS : bS (bZ (nxt t g) (mxt t g) s0) 0 = s0 := (bP_S PZ (show 0 < 1 by decide)).1
    have eD : bD (bZ (nxt t g) (mxt t g) s0) 0 = 0 := (bP_S PZ (show 0 < 1 by decide)).2.1
    have eK : bK (nxt t g) (mxt t g) s0 G = 0 := ff_at (fun i hi => absurd hi (by omega)) bpos (decide_eq_true (by rw [eS, s1]; exact z))
    refine ⟨wq_sI W4 (by unfold sW; omega), Or.inl ⟨by rw [eK]; exact bpos, by rw [eK, eD]; omega, ?_, ?_, _, CW_s9 (by decide) (by decide) C4, PZ, by rw [eK]; exact Nat.one_pos⟩⟩
    · rw [hI_sI, if_pos ⟨rfl, rfl⟩, eK]; rfl
    · rw [hI_sI, if_neg (by omega), eK, eD]; exact J9
  · rw [show xb (w0 = G) = 0 from xb_f z] at ag
    have c2 := C4.2.2.2.1
    have fin := cl_loop (d := d) (x := nI (we t w0)) (y := nI (wl t w0)) hg h0 hli H tv hG (bend (nxt t g) (mxt t g) s0) 0 h3 1 0 (by omega) W4 C4 (fun i hi => by
      show ¬ s0 / 4096 = G
      rw [s1]; exact z) J8 J9 (by omega) (Nat.le_refl _) (fun i _ => Nat.le_refl _) (fun i h1 h2 => absurd h2 (by show ¬ i < 1; omega)) (fun i _ => by show 0 ≤ 0 + 1; omega) (fun _ => Nat.le_refl _) (by omega)
    rw [show nI 0 = (0 : Int32) from rfl] at fin
    simp only [xs_75_57, xs_75_58, xs_75_59, xs_75_60, xs_75_61, xs_75_64, xs_75_67, xs_75_68, xs_75_69, xs_75_72, xs_75_73, xs_75_74, xs_75_77, xs_75_79, xs_75_80, H3, sT_0, sT_1, sT_2, sN_2, sA_2, sT_3, sN_3, sA_3, sT_4, sN_4, sA_4, sT_5, sN_5, sA_5, sT_6, sN_6, sA_6, sT_7, sT_8, sN_8, sA_8, sT_9, sN_9, sA_9, sT_10, sN_10, sA_10, sT_11, sN_11, sA_11, sT_12, sN_12, sA_12, sT_13, sN_13, sT_14, sT_15, sN_15, sA_15, sT_16, sN_16, sA_16, sT_17, sN_17, sA_17, sT_18, sN_18, sA_18, sT_19, sN_19, sA_19, sT_20, sT_21, sN_21, sA_21, sT_22, sN_22, sA_22, sT_23, sN_23, sA_23, sT_24, sN_24, sA_24, sT_25, sN_25, sA_25, sT_26, sN_26, sB_26, sT_27, sT_28, sN_28, sB_28, sT_29, sT_30, sN_30, sT_32, sN_32, sA_32, sT_33, sT_34, sN_34, sA_34, sT_35, sN_35, sA_35, sT_36, sT_37, sN_37, sA_37, sT_38, sN_38, sA_38, sT_39, sN_39, sA_39, sT_40, sN_40, sB_40, sT_41, sN_41, sA_41, sT_42, sN_42, sA_42, sT_43, sN_43, sA_43, sT_44, sT_45, sN_45, sA_45, sT_46, sN_46, sA_46, sT_47, sN_47, sA_47, sR_1_7, sR_1_8, sR_1_9, sR_1_10, sR_1_11, sR_0_0, sR_7_7, sR_7_8, sR_7_9, sR_7_10, sR_7_11, sR_0_1, sR_0_2, sR_14_7, sR_14_8, sR_14_9, sR_14_10, sR_14_11, sR_13_0, sR_20_7, sR_20_8, sR_20_9, sR_20_10, sR_20_11, sR_13_1, sR_0_3, sR_0_4, sR_27_0, sR_0_5, sR_29_0, sR_29_3, sR_0_6, sR_33_1, sR_33_2, sR_0_7, sR_36_2, sR_36_3, sR_36_4, sR_36_5, sR_36_6, sR_36_7, sR_36_8, sR_0_8, sR_44_0, sR_44_1, sR_44_2, ag, c2, rf_some, xc_int, xc_ref, xc_ret, xc_long, xw_nil, xw_int, xw_ref, xw_long, tl_some, tl_none, true_and, and_true, Nat.zero_le, Nat.reduceAdd, Nat.reduceMul, Nat.reduceLeDiff, Nat.reduceLT, Nat.reduceEqDiff, Nat.reducePow, Int32.reduceAdd, Int32.reduceMul, Int32.reduceSub, Int32.reduceLT, Int32.reduceLE, Int32.reduceToNatClampNeg, litE, ixU, not_false_eq_true, not_true_eq_false, ↓reduceIte, eq_self, true_or, or_true, false_and, and_false, or_false, false_or, i10, i01, in10, i1n, xbT, xbF, r_lt]
    exact fin
end WV
