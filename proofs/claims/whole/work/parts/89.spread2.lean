/-! ways: one head spread, all of it -/
theorem nxt_no2 {g : Nat → Nat} {X m : Nat} (hm : g 24 < m / 8) : nxt true g X m = none := by
  show nx2 g X m = none
  unfold nx2
  rw [if_neg (fun z => by
    rw [Bool.and_eq_true] at z
    have := cm_le (cb_T z.2)
    omega)]
theorem bnd_le (t : Bool) : bnd t ≤ 102400 := by cases t <;> decide
section WT
variable {d : Nat} {h : xe_H} {t : Bool} {g : Nat → Nat}
theorem cl_spread {b : bL} {k G : Nat} (hg : pg_ok g) (hk : k < b.1) (hb : bG (bnd t) b) (hd : ∀ i, i < b.1 → bD b i ≤ bD b k + 1) (hN : bN b) (hF : bF b k < 102400) (hno : ∀ i, i < b.1 → ¬ bS b i / 4096 = G) (H : sh h) (tv : tn_v h 1 g) (C : CW t b h) (hG : gC t G h) : xe_C (d + 4) 76 [.ref 29, .int (nI k)] h (spR t g b k G h) := by
  have h24 : g 24 ≤ 6 := hg.1
  have hbl := bG_le hb
  have hbt := bnd_le t
  have hX := hb.2.1 k hk
  obtain ⟨w1, w2⟩ := we_5 hX
  obtain ⟨q, c1, co, cN, cL⟩ := CW_L C hk
  obtain ⟨E0, E1, E2, E3, -, -⟩ := ent_all (m := bM b k) (f := bF b k) hX (hN k hk) hF
  have sQ29 : ∀ a j, sQ a j → 29 ≤ a := fun a j z => by unfold sQ at z; omega
  have p18 := fun d Q => cl_placeIn (d := d) (h := h) (Q := Q) (n := ent t (bS b k) (bM b k) (bF b k)) (s := 18) E0 (by decide)
  have p21 := fun d Q => cl_placeIn (d := d) (h := h) (Q := Q) (n := ent t (bS b k) (bM b k) (bF b k)) (s := 21) E0 (by decide)
  rw [E2, show nI 18 = (18 : Int32) from rfl] at p18
  rw [E3, show nI 21 = (21 : Int32) from rfl] at p21
  have em : nI (ent t (bS b k) (bM b k) (bF b k)) &&& 262143 = nI (rp (fd (bS b k))) := by
    rw [show (262143 : Int32) = nI (2 ^ 18 - 1) from rfl, fa_mask, E1]
  have xG : ∀ m, bG (bnd t) (bX (nxt t g) k m b) := fun m => (bX_G hb (fun x m s hx e => nxt_b hg hx e) hk hd m).1
  generalize hXe : bS b k = X at *
  have le_m : (8 * g 24 + g 24 < 64) := by omega
  /- the inner loop -/
  have inner : ∀ (li : Int32) l, l ≤ g 24 → (t = false → l = 0) → ∀ n e h2 l8 l9 l10, e + n = g 24 + 1 → wq sQ h h2 → CW t (bX (nxt t g) k (8 * l + e) b) h2 → (∀ i, i < (bX (nxt t g) k (8 * l + e) b).1 → ¬ bS (bX (nxt t g) k (8 * l + e) b) i / 4096 = G) → (∀ i, i ≤ g 24 → xe_I h2 32 i = if cb g (fd X) (we t (X / 4096)) i then nI (rp (ra g (fd X) i)) else -1) → (∀ h3 l8 l9 l10, wq sQ h h3 → CW t (bX (nxt t g) k (8 * l + (g 24 + 1)) b) h3 → (∀ i, i < (bX (nxt t g) k (8 * l + (g 24 + 1)) b).1 → ¬ bS (bX (nxt t g) k (8 * l + (g 24 + 1)) b) i / 4096 = G) → (∀ i, i ≤ g 24 → xe_I h3 32 i = if cb g (fd X) (we t (X / 4096)) i then nI (rp (ra g (fd X) i)) else -1) → xe_P (d + 3) 76 259 [.ref 29, .int (nI k), .int (nI (rp (fd X))), .int (nI (we t (X / 4096))), .int (nI (wl t (X / 4096))), .int li, .int (nI l), .int (nI (g 24 + 1)), l8, l9, l10] [] h3 (spR t g b k G h)) → xe_P (d + 3) 76 125 [.ref 29, .int (nI k), .int (nI (rp (fd X))), .int (nI (we t (X / 4096))), .int (nI (wl t (X / 4096))), .int li, .int (nI l), .int (nI e), l8, l9, l10] [] h2 (spR t g b k G h) := by
    intro li l hl ht n
    induction n with
    | zero =>
      intro e h2 l8 l9 l10 he W2 C2 no2 bt2 ct
      have he : e = g 24 + 1 := by omega
      subst he
      have H2 := W2.1 H
      have tv2 := tv_wq tv W2 sQ29
      obtain ⟨⟨a0, a1, -⟩, -⟩ := tv2
      have c4 := C2.2.2.1
      have e1 : (nI (g 24) < nI (g 24 + 1)) = True := eq_true (nI_lt (by omega) (by omega))
      simp only [xs_76_125, xs_76_127, xs_76_128, xs_76_131, xs_76_134, H2, sT_0, sT_1, sT_2, sN_2, sA_2, sT_3, sN_3, sA_3, sT_4, sN_4, sA_4, sT_5, sN_5, sA_5, sT_6, sN_6, sA_6, sT_7, sT_8, sN_8, sA_8, sT_9, sN_9, sA_9, sT_10, sN_10, sA_10, sT_11, sN_11, sA_11, sT_12, sN_12, sA_12, sT_13, sN_13, sT_14, sT_15, sN_15, sA_15, sT_16, sN_16, sA_16, sT_17, sN_17, sA_17, sT_18, sN_18, sA_18, sT_19, sN_19, sA_19, sT_20, sT_21, sN_21, sA_21, sT_22, sN_22, sA_22, sT_23, sN_23, sA_23, sT_24, sN_24, sA_24, sT_25, sN_25, sA_25, sT_26, sN_26, sB_26, sT_27, sT_28, sN_28, sB_28, sT_29, sT_30, sN_30, sT_32, sN_32, sA_32, sT_33, sT_34, sN_34, sA_34, sT_35, sN_35, sA_35, sT_36, sT_37, sN_37, sA_37, sT_38, sN_38, sA_38, sT_39, sN_39, sA_39, sT_40, sN_40, sB_40, sT_41, sN_41, sA_41, sT_42, sN_42, sA_42, sT_43, sN_43, sA_43, sT_44, sT_45, sN_45, sA_45, sT_46, sN_46, sA_46, sT_47, sN_47, sA_47, sR_1_7, sR_1_8, sR_1_9, sR_1_10, sR_1_11, sR_0_0, sR_7_7, sR_7_8, sR_7_9, sR_7_10, sR_7_11, sR_0_1, sR_0_2, sR_14_7, sR_14_8, sR_14_9, sR_14_10, sR_14_11, sR_13_0, sR_20_7, sR_20_8, sR_20_9, sR_20_10, sR_20_11, sR_13_1, sR_0_3, sR_0_4, sR_27_0, sR_0_5, sR_29_0, sR_29_3, sR_0_6, sR_33_1, sR_33_2, sR_0_7, sR_36_2, sR_36_3, sR_36_4, sR_36_5, sR_36_6, sR_36_7, sR_36_8, sR_0_8, sR_44_0, sR_44_1, sR_44_2, c4, a1, e1, rf_some, xc_int, xc_ref, xc_ret, xc_long, xw_nil, xw_int, xw_ref, xw_long, tl_some, tl_none, true_and, and_true, Nat.zero_le, Nat.reduceAdd, Nat.reduceMul, Nat.reduceLeDiff, Nat.reduceLT, Nat.reduceEqDiff, Nat.reducePow, Int32.reduceAdd, Int32.reduceMul, Int32.reduceSub, Int32.reduceLT, Int32.reduceLE, Int32.reduceToNatClampNeg, litE, ixU, not_false_eq_true, not_true_eq_false, ↓reduceIte, eq_self, true_or, or_true, false_and, and_false, or_false, false_or, i10, i01, in10, i1n, xbT, xbF, r_lt]
      exact ct h2 _ _ _ W2 C2 no2 bt2
    | succ n ih =>
      intro e h2 l8 l9 l10 he W2 C2 no2 bt2 ct
      have H2 := W2.1 H
      have tv2 := tv_wq tv W2 sQ29
      have a1 : xe_I h2 1 1 = nI (g 24) := tv2.1.2.1
      have c4 := C2.2.2.1
      have e1 : (nI (g 24) < nI e) = False := eq_false (by rw [nI_ltI (by omega) (by omega)]; omega)
      have stp : (match nxt t g X (8 * l + e) with | some s => bA (bX (nxt t g) k (8 * l + e) b) s k (8 * l + e) | none => bX (nxt t g) k (8 * l + e) b) = bX (nxt t g) k (8 * l + (e + 1)) b := by
        show _ = bX (nxt t g) k (8 * l + e + 1) b
        rw [bX, hXe]
        cases nxt t g X (8 * l + e) <;> rfl
      have gc : gC t G h2 := gC_c hG (W2.2.2 29 6 (by unfold sQ; omega) (by omega)) (W2.2.2 29 7 (by unfold sQ; omega) (by omega))
      rw [xs_76_125]
      simp only [xs_76_127, xs_76_128, xs_76_131, xs_76_134, H2, sT_0, sT_1, sT_2, sN_2, sA_2, sT_3, sN_3, sA_3, sT_4, sN_4, sA_4, sT_5, sN_5, sA_5, sT_6, sN_6, sA_6, sT_7, sT_8, sN_8, sA_8, sT_9, sN_9, sA_9, sT_10, sN_10, sA_10, sT_11, sN_11, sA_11, sT_12, sN_12, sA_12, sT_13, sN_13, sT_14, sT_15, sN_15, sA_15, sT_16, sN_16, sA_16, sT_17, sN_17, sA_17, sT_18, sN_18, sA_18, sT_19, sN_19, sA_19, sT_20, sT_21, sN_21, sA_21, sT_22, sN_22, sA_22, sT_23, sN_23, sA_23, sT_24, sN_24, sA_24, sT_25, sN_25, sA_25, sT_26, sN_26, sB_26, sT_27, sT_28, sN_28, sB_28, sT_29, sT_30, sN_30, sT_32, sN_32, sA_32, sT_33, sT_34, sN_34, sA_34, sT_35, sN_35, sA_35, sT_36, sT_37, sN_37, sA_37, sT_38, sN_38, sA_38, sT_39, sN_39, sA_39, sT_40, sN_40, sB_40, sT_41, sN_41, sA_41, sT_42, sN_42, sA_42, sT_43, sN_43, sA_43, sT_44, sT_45, sN_45, sA_45, sT_46, sN_46, sA_46, sT_47, sN_47, sA_47, sR_1_7, sR_1_8, sR_1_9, sR_1_10, sR_1_11, sR_0_0, sR_7_7, sR_7_8, sR_7_9, sR_7_10, sR_7_11, sR_0_1, sR_0_2, sR_14_7, sR_14_8, sR_14_9, sR_14_10, sR_14_11, sR_13_0, sR_20_7, sR_20_8, sR_20_9, sR_20_10, sR_20_11, sR_13_1, sR_0_3, sR_0_4, sR_27_0, sR_0_5, sR_29_0, sR_29_3, sR_0_6, sR_33_1, sR_33_2, sR_0_7, sR_36_2, sR_36_3, sR_36_4, sR_36_5, sR_36_6, sR_36_7, sR_36_8, sR_0_8, sR_44_0, sR_44_1, sR_44_2, c4, a1, e1, rf_some, xc_int, xc_ref, xc_ret, xc_long, xw_nil, xw_int, xw_ref, xw_long, tl_some, tl_none, true_and, and_true, Nat.zero_le, Nat.reduceAdd, Nat.reduceMul, Nat.reduceLeDiff, Nat.reduceLT, Nat.reduceEqDiff, Nat.reducePow, Int32.reduceAdd, Int32.reduceMul, Int32.reduceSub, Int32.reduceLT, Int32.reduceLE, Int32.reduceToNatClampNeg, litE, ixU, not_false_eq_true, not_true_eq_false, ↓reduceIte, eq_self, true_or, or_true, false_and, and_false, or_false, false_or, i10, i01, in10, i1n, xbT, xbF, r_lt]
      refine cl_try (b := b) (G := G) hg (show e ≤ g 24 by omega) hl ht hX (by omega) (fun s es ks => ?_) H2 tv2 C2 gc no2 (bt2 e (by omega)) (fun h3 l8 l9 l10 B' eB W3 C3 no3 => ?_) (fun h3 B' eB W3 C3 cn3 go3 no3 => ?_)
      · rw [es] at stp
        have g1 := bG_le (xG (8 * l + (e + 1)))
        rw [← stp] at g1
        have : (bA (bX (nxt t g) k (8 * l + e) b) s k (8 * l + e)).1 = (bX (nxt t g) k (8 * l + e) b).1 + 1 := by rw [bA_new ks]
        have g1 : (bA (bX (nxt t g) k (8 * l + e) b) s k (8 * l + e)).1 ≤ bnd t := g1
        omega
      · have eB : bX (nxt t g) k (8 * l + (e + 1)) b = B' := stp.symm.trans eB
        subst eB
        have W4 := wq_tr W2 (wq_sub W3 (fun a j z => Or.inl z))
        have fin := ih (e + 1) h3 l8 l9 l10 (by omega) W4 C3 no3 (fun i hi => by rw [W3.2.2 32 i (by omega) (by omega)]; exact bt2 i hi) ct
        simp only [xs_76_253, xs_76_256, nI_1, rf_some, xc_int, xc_ref, xc_ret, xc_long, xw_nil, xw_int, xw_ref, xw_long, tl_some, tl_none, true_and, and_true, Nat.zero_le, Nat.reduceAdd, Nat.reduceMul, Nat.reduceLeDiff, Nat.reduceLT, Nat.reduceEqDiff, Nat.reducePow, Int32.reduceAdd, Int32.reduceMul, Int32.reduceSub, Int32.reduceLT, Int32.reduceLE, Int32.reduceToNatClampNeg, litE, ixU, not_false_eq_true, not_true_eq_false, ↓reduceIte, eq_self, true_or, or_true, false_and, and_false, or_false, false_or, i10, i01, in10, i1n, xbT, xbF, r_lt]
        exact fin
      · have eB : bX (nxt t g) k (8 * l + (e + 1)) b = B' := stp.symm.trans eB
        subst eB
        refine ⟨wq_tr W2 (wq_sub W3 (fun a j z => Or.inl z)), Or.inr ⟨rfl, _, _, C3, ?_, cn3, go3, no3⟩⟩
        have hmx : 8 * l + (e + 1) ≤ mxt t g := by
          unfold mxt
          cases t
          · have := ht rfl; simp only [Bool.false_eq_true, if_false]; omega
          · simp only [if_true]; omega
        have := bX_mono (nxt t g) k b (8 * l + (e + 1)) (mxt t g - (8 * l + (e + 1)))
        rw [show 8 * l + (e + 1) + (mxt t g - (8 * l + (e + 1))) = mxt t g by omega] at this
        exact this
  /- behind the first loop -/
  have behind : ∀ h1 l5, wq sQ h h1 → CW t b h1 → (∀ i, i ≤ g 24 → xe_I h1 32 i = if cb g (fd X) (we t (X / 4096)) i then nI (rp (ra g (fd X) i)) else -1) → xe_P (d + 3) 76 92 [.ref 29, .int (nI k), .int (nI (rp (fd X))), .int (nI (we t (X / 4096))), .int (nI (wl t (X / 4096))), .int l5, .retAddr 0, .retAddr 0, .retAddr 0, .retAddr 0, .retAddr 0] [] h1 (spR t g b k G h) := by
    intro h1 l5 W1 C1 bt1
    have H1 := W1.1 H
    have tv1 := tv_wq tv W1 sQ29
    have a1 : xe_I h1 1 1 = nI (g 24) := tv1.1.2.1
    have c4 := C1.2.2.1
    have c5 := C1.2.2.2.2
    cases t with
    | false =>
      have c5 : xe_I h1 29 5 = 0 := c5
      have lt01 : ((0 : Int32) < nI 1) = True := eq_true (by decide)
      have fin := inner 0 0 (by omega) (fun _ => rfl) (g 24 + 1) 0 h1 (.retAddr 0) (.retAddr 0) (.retAddr 0) (by omega) W1 C1 hno bt1 (fun h3 l8 l9 l10 W3 C3 no3 bt3 => by
        have mx : 8 * 0 + (g 24 + 1) = mxt false g := by unfold mxt; simp only [Bool.false_eq_true, if_false]; omega
        rw [mx] at C3 no3
        rw [show nI 0 = (0 : Int32) from rfl]
        simp only [xs_76_115, xs_76_117, xs_76_119, xs_76_259, xs_76_262, xs_76_265, xs_76_266, lt01, rf_some, xc_int, xc_ref, xc_ret, xc_long, xw_nil, xw_int, xw_ref, xw_long, tl_some, tl_none, true_and, and_true, Nat.zero_le, Nat.reduceAdd, Nat.reduceMul, Nat.reduceLeDiff, Nat.reduceLT, Nat.reduceEqDiff, Nat.reducePow, Int32.reduceAdd, Int32.reduceMul, Int32.reduceSub, Int32.reduceLT, Int32.reduceLE, Int32.reduceToNatClampNeg, litE, ixU, not_false_eq_true, not_true_eq_false, ↓reduceIte, eq_self, true_or, or_true, false_and, and_false, or_false, false_or, i10, i01, in10, i1n, xbT, xbF, r_lt]
        exact ⟨W3, Or.inl ⟨rfl, C3, no3⟩⟩)
      rw [show nI 0 = (0 : Int32) from rfl] at fin
      simp only [xs_76_92, xs_76_93, xs_76_96, xs_76_99, xs_76_100, xs_76_103, xs_76_106, xs_76_109, xs_76_110, xs_76_112, xs_76_113, xs_76_115, xs_76_117, xs_76_119, xs_76_122, xs_76_123, H1, sT_0, sT_1, sT_2, sN_2, sA_2, sT_3, sN_3, sA_3, sT_4, sN_4, sA_4, sT_5, sN_5, sA_5, sT_6, sN_6, sA_6, sT_7, sT_8, sN_8, sA_8, sT_9, sN_9, sA_9, sT_10, sN_10, sA_10, sT_11, sN_11, sA_11, sT_12, sN_12, sA_12, sT_13, sN_13, sT_14, sT_15, sN_15, sA_15, sT_16, sN_16, sA_16, sT_17, sN_17, sA_17, sT_18, sN_18, sA_18, sT_19, sN_19, sA_19, sT_20, sT_21, sN_21, sA_21, sT_22, sN_22, sA_22, sT_23, sN_23, sA_23, sT_24, sN_24, sA_24, sT_25, sN_25, sA_25, sT_26, sN_26, sB_26, sT_27, sT_28, sN_28, sB_28, sT_29, sT_30, sN_30, sT_32, sN_32, sA_32, sT_33, sT_34, sN_34, sA_34, sT_35, sN_35, sA_35, sT_36, sT_37, sN_37, sA_37, sT_38, sN_38, sA_38, sT_39, sN_39, sA_39, sT_40, sN_40, sB_40, sT_41, sN_41, sA_41, sT_42, sN_42, sA_42, sT_43, sN_43, sA_43, sT_44, sT_45, sN_45, sA_45, sT_46, sN_46, sA_46, sT_47, sN_47, sA_47, sR_1_7, sR_1_8, sR_1_9, sR_1_10, sR_1_11, sR_0_0, sR_7_7, sR_7_8, sR_7_9, sR_7_10, sR_7_11, sR_0_1, sR_0_2, sR_14_7, sR_14_8, sR_14_9, sR_14_10, sR_14_11, sR_13_0, sR_20_7, sR_20_8, sR_20_9, sR_20_10, sR_20_11, sR_13_1, sR_0_3, sR_0_4, sR_27_0, sR_0_5, sR_29_0, sR_29_3, sR_0_6, sR_33_1, sR_33_2, sR_0_7, sR_36_2, sR_36_3, sR_36_4, sR_36_5, sR_36_6, sR_36_7, sR_36_8, sR_0_8, sR_44_0, sR_44_1, sR_44_2, c5, rf_some, xc_int, xc_ref, xc_ret, xc_long, xw_nil, xw_int, xw_ref, xw_long, tl_some, tl_none, true_and, and_true, Nat.zero_le, Nat.reduceAdd, Nat.reduceMul, Nat.reduceLeDiff, Nat.reduceLT, Nat.reduceEqDiff, Nat.reducePow, Int32.reduceAdd, Int32.reduceMul, Int32.reduceSub, Int32.reduceLT, Int32.reduceLE, Int32.reduceToNatClampNeg, litE, ixU, not_false_eq_true, not_true_eq_false, ↓reduceIte, eq_self, true_or, or_true, false_and, and_false, or_false, false_or, i10, i01, in10, i1n, xbT, xbF, r_lt]
      exact fin
    | true =>
      have c5 : xe_I h1 29 5 = 1 := c5
      have outer : ∀ n l h2 l7 l8 l9 l10, l + n = g 24 + 1 → wq sQ h h2 → CW true (bX (nxt true g) k (8 * l) b) h2 → (∀ i, i < (bX (nxt true g) k (8 * l) b).1 → ¬ bS (bX (nxt true g) k (8 * l) b) i / 4096 = G) → (∀ i, i ≤ g 24 → xe_I h2 32 i = if cb g (fd X) (we true (X / 4096)) i then nI (rp (ra g (fd X) i)) else -1) → xe_P (d + 3) 76 115 [.ref 29, .int (nI k), .int (nI (rp (fd X))), .int (nI (we true (X / 4096))), .int (nI (wl true (X / 4096))), .int (nI (g 24)), .int (nI l), l7, l8, l9, l10] [] h2 (spR true g b k G h) := by
        intro n
        induction n with
        | zero =>
          intro l h2 l7 l8 l9 l10 hl W2 C2 no2 bt2
          have hl : l = g 24 + 1 := by omega
          have e1 : (nI (g 24) < nI l) = True := eq_true (nI_lt (by omega) (by omega))
          have sk : bX (nxt true g) k (8 * l) b = bX (nxt true g) k (mxt true g) b := by
            have := bX_skip (nx := nxt true g) (k := k) (m := 8 * l) (b := b) (64 - 8 * l) (fun i h1 h2 => nxt_no2 (by omega))
            rw [show 8 * l + (64 - 8 * l) = mxt true g by show _ = 64; omega] at this
            exact this.symm
          rw [sk] at C2 no2
          simp only [xs_76_115, xs_76_117, xs_76_119, xs_76_265, xs_76_266, e1, rf_some, xc_int, xc_ref, xc_ret, xc_long, xw_nil, xw_int, xw_ref, xw_long, tl_some, tl_none, true_and, and_true, Nat.zero_le, Nat.reduceAdd, Nat.reduceMul, Nat.reduceLeDiff, Nat.reduceLT, Nat.reduceEqDiff, Nat.reducePow, Int32.reduceAdd, Int32.reduceMul, Int32.reduceSub, Int32.reduceLT, Int32.reduceLE, Int32.reduceToNatClampNeg, litE, ixU, not_false_eq_true, not_true_eq_false, ↓reduceIte, eq_self, true_or, or_true, false_and, and_false, or_false, false_or, i10, i01, in10, i1n, xbT, xbF, r_lt]
          exact ⟨W2, Or.inl ⟨rfl, C2, no2⟩⟩
        | succ n ih =>
          intro l h2 l7 l8 l9 l10 hl W2 C2 no2 bt2
          have e1 : (nI (g 24) < nI l) = False := eq_false (by rw [nI_ltI (by omega) (by omega)]; omega)
          have fin := inner (nI (g 24)) l (by omega) (fun z => by cases z) (g 24 + 1) 0 h2 l8 l9 l10 (by omega) W2 C2 no2 bt2 (fun h3 l8 l9 l10 W3 C3 no3 bt3 => by
            have sk : bX (nxt true g) k (8 * l + (g 24 + 1)) b = bX (nxt true g) k (8 * (l + 1)) b := by
              have := bX_skip (nx := nxt true g) (k := k) (m := 8 * l + (g 24 + 1)) (b := b) (7 - g 24) (fun i h1 h2 => nxt_no (t := true) (by omega))
              rw [show 8 * l + (g 24 + 1) + (7 - g 24) = 8 * (l + 1) by omega] at this
              exact this.symm
            rw [sk] at C3 no3
            have f2 := ih (l + 1) h3 (.int (nI (g 24 + 1))) l8 l9 l10 (by omega) W3 C3 no3 bt3
            simp only [xs_76_259, xs_76_262, nI_1, rf_some, xc_int, xc_ref, xc_ret, xc_long, xw_nil, xw_int, xw_ref, xw_long, tl_some, tl_none, true_and, and_true, Nat.zero_le, Nat.reduceAdd, Nat.reduceMul, Nat.reduceLeDiff, Nat.reduceLT, Nat.reduceEqDiff, Nat.reducePow, Int32.reduceAdd, Int32.reduceMul, Int32.reduceSub, Int32.reduceLT, Int32.reduceLE, Int32.reduceToNatClampNeg, litE, ixU, not_false_eq_true, not_true_eq_false, ↓reduceIte, eq_self, true_or, or_true, false_and, and_false, or_false, false_or, i10, i01, in10, i1n, xbT, xbF, r_lt]
            exact f2)
          rw [show nI 0 = (0 : Int32) from rfl] at fin
          rw [xs_76_115]
          simp only [xs_76_117, xs_76_119, xs_76_122, xs_76_123, e1, rf_some, xc_int, xc_ref, xc_ret, xc_long, xw_nil, xw_int, xw_ref, xw_long, tl_some, tl_none, true_and, and_true, Nat.zero_le, Nat.reduceAdd, Nat.reduceMul, Nat.reduceLeDiff, Nat.reduceLT, Nat.reduceEqDiff, Nat.reducePow, Int32.reduceAdd, Int32.reduceMul, Int32.reduceSub, Int32.reduceLT, Int32.reduceLE, Int32.reduceToNatClampNeg, litE, ixU, not_false_eq_true, not_true_eq_false, ↓reduceIte, eq_self, true_or, or_true, false_and, and_false, or_false, false_or, i10, i01, in10, i1n, xbT, xbF, r_lt]
          exact fin
      have fin := outer (g 24 + 1) 0 h1 (.retAddr 0) (.retAddr 0) (.retAddr 0) (.retAddr 0) (by omega) W1 C1 hno bt1
      rw [show nI 0 = (0 : Int32) from rfl] at fin
      simp only [xs_76_92, xs_76_93, xs_76_96, xs_76_99, xs_76_100, xs_76_103, xs_76_106, xs_76_109, xs_76_110, xs_76_112, xs_76_113, H1, sT_0, sT_1, sT_2, sN_2, sA_2, sT_3, sN_3, sA_3, sT_4, sN_4, sA_4, sT_5, sN_5, sA_5, sT_6, sN_6, sA_6, sT_7, sT_8, sN_8, sA_8, sT_9, sN_9, sA_9, sT_10, sN_10, sA_10, sT_11, sN_11, sA_11, sT_12, sN_12, sA_12, sT_13, sN_13, sT_14, sT_15, sN_15, sA_15, sT_16, sN_16, sA_16, sT_17, sN_17, sA_17, sT_18, sN_18, sA_18, sT_19, sN_19, sA_19, sT_20, sT_21, sN_21, sA_21, sT_22, sN_22, sA_22, sT_23, sN_23, sA_23, sT_24, sN_24, sA_24, sT_25, sN_25, sA_25, sT_26, sN_26, sB_26, sT_27, sT_28, sN_28, sB_28, sT_29, sT_30, sN_30, sT_32, sN_32, sA_32, sT_33, sT_34, sN_34, sA_34, sT_35, sN_35, sA_35, sT_36, sT_37, sN_37, sA_37, sT_38, sN_38, sA_38, sT_39, sN_39, sA_39, sT_40, sN_40, sB_40, sT_41, sN_41, sA_41, sT_42, sN_42, sA_42, sT_43, sN_43, sA_43, sT_44, sT_45, sN_45, sA_45, sT_46, sN_46, sA_46, sT_47, sN_47, sA_47, sR_1_7, sR_1_8, sR_1_9, sR_1_10, sR_1_11, sR_0_0, sR_7_7, sR_7_8, sR_7_9, sR_7_10, sR_7_11, sR_0_1, sR_0_2, sR_14_7, sR_14_8, sR_14_9, sR_14_10, sR_14_11, sR_13_0, sR_20_7, sR_20_8, sR_20_9, sR_20_10, sR_20_11, sR_13_1, sR_0_3, sR_0_4, sR_27_0, sR_0_5, sR_29_0, sR_29_3, sR_0_6, sR_33_1, sR_33_2, sR_0_7, sR_36_2, sR_36_3, sR_36_4, sR_36_5, sR_36_6, sR_36_7, sR_36_8, sR_0_8, sR_44_0, sR_44_1, sR_44_2, c4, c5, a1, rf_some, xc_int, xc_ref, xc_ret, xc_long, xw_nil, xw_int, xw_ref, xw_long, tl_some, tl_none, true_and, and_true, Nat.zero_le, Nat.reduceAdd, Nat.reduceMul, Nat.reduceLeDiff, Nat.reduceLT, Nat.reduceEqDiff, Nat.reducePow, Int32.reduceAdd, Int32.reduceMul, Int32.reduceSub, Int32.reduceLT, Int32.reduceLE, Int32.reduceToNatClampNeg, litE, ixU, not_false_eq_true, not_true_eq_false, ↓reduceIte, eq_self, true_or, or_true, false_and, and_false, or_false, false_or, i10, i01, in10, i1n, xbT, xbF, r_lt]
      exact fin
  /- the first loop -/
  have first : ∀ n m h1, m + n = g 24 + 1 → wq sQ h h1 → CW t b h1 → (∀ i, i < m → xe_I h1 32 i = if cb g (fd X) (we t (X / 4096)) i then nI (rp (ra g (fd X) i)) else -1) → xe_P (d + 3) 76 39 [.ref 29, .int (nI k), .int (nI (rp (fd X))), .int (nI (we t (X / 4096))), .int (nI (wl t (X / 4096))), .int (nI m), .retAddr 0, .retAddr 0, .retAddr 0, .retAddr 0, .retAddr 0] [] h1 (spR t g b k G h) := by
    intro n
    induction n with
    | zero =>
      intro m h1 hm W1 C1 bt1
      have hm : m = g 24 + 1 := by omega
      have H1 := W1.1 H
      have tv1 := tv_wq tv W1 sQ29
      have a1 : xe_I h1 1 1 = nI (g 24) := tv1.1.2.1
      have c4 := C1.2.2.1
      have e1 : (nI (g 24) < nI m) = True := eq_true (nI_lt (by omega) (by omega))
      simp only [xs_76_39, xs_76_41, xs_76_42, xs_76_45, xs_76_48, H1, sT_0, sT_1, sT_2, sN_2, sA_2, sT_3, sN_3, sA_3, sT_4, sN_4, sA_4, sT_5, sN_5, sA_5, sT_6, sN_6, sA_6, sT_7, sT_8, sN_8, sA_8, sT_9, sN_9, sA_9, sT_10, sN_10, sA_10, sT_11, sN_11, sA_11, sT_12, sN_12, sA_12, sT_13, sN_13, sT_14, sT_15, sN_15, sA_15, sT_16, sN_16, sA_16, sT_17, sN_17, sA_17, sT_18, sN_18, sA_18, sT_19, sN_19, sA_19, sT_20, sT_21, sN_21, sA_21, sT_22, sN_22, sA_22, sT_23, sN_23, sA_23, sT_24, sN_24, sA_24, sT_25, sN_25, sA_25, sT_26, sN_26, sB_26, sT_27, sT_28, sN_28, sB_28, sT_29, sT_30, sN_30, sT_32, sN_32, sA_32, sT_33, sT_34, sN_34, sA_34, sT_35, sN_35, sA_35, sT_36, sT_37, sN_37, sA_37, sT_38, sN_38, sA_38, sT_39, sN_39, sA_39, sT_40, sN_40, sB_40, sT_41, sN_41, sA_41, sT_42, sN_42, sA_42, sT_43, sN_43, sA_43, sT_44, sT_45, sN_45, sA_45, sT_46, sN_46, sA_46, sT_47, sN_47, sA_47, sR_1_7, sR_1_8, sR_1_9, sR_1_10, sR_1_11, sR_0_0, sR_7_7, sR_7_8, sR_7_9, sR_7_10, sR_7_11, sR_0_1, sR_0_2, sR_14_7, sR_14_8, sR_14_9, sR_14_10, sR_14_11, sR_13_0, sR_20_7, sR_20_8, sR_20_9, sR_20_10, sR_20_11, sR_13_1, sR_0_3, sR_0_4, sR_27_0, sR_0_5, sR_29_0, sR_29_3, sR_0_6, sR_33_1, sR_33_2, sR_0_7, sR_36_2, sR_36_3, sR_36_4, sR_36_5, sR_36_6, sR_36_7, sR_36_8, sR_0_8, sR_44_0, sR_44_1, sR_44_2, c4, a1, e1, rf_some, xc_int, xc_ref, xc_ret, xc_long, xw_nil, xw_int, xw_ref, xw_long, tl_some, tl_none, true_and, and_true, Nat.zero_le, Nat.reduceAdd, Nat.reduceMul, Nat.reduceLeDiff, Nat.reduceLT, Nat.reduceEqDiff, Nat.reducePow, Int32.reduceAdd, Int32.reduceMul, Int32.reduceSub, Int32.reduceLT, Int32.reduceLE, Int32.reduceToNatClampNeg, litE, ixU, not_false_eq_true, not_true_eq_false, ↓reduceIte, eq_self, true_or, or_true, false_and, and_false, or_false, false_or, i10, i01, in10, i1n, xbT, xbF, r_lt]
      exact behind h1 _ W1 C1 (fun i hi => bt1 i (by omega))
    | succ n ih =>
      intro m h1 hm W1 C1 bt1
      have H1 := W1.1 H
      have tv1 := tv_wq tv W1 sQ29
      have a1 : xe_I h1 1 1 = nI (g 24) := tv1.1.2.1
      have c4 := C1.2.2.1
      have e1 : (nI (g 24) < nI m) = False := eq_false (by rw [nI_ltI (by omega) (by omega)]; omega)
      have sw := sW_1 H1
      have fin : ∀ v : Int32, v = (if cb g (fd X) (we t (X / 4096)) m then nI (rp (ra g (fd X) m)) else -1) → xe_P (d + 3) 76 39 [.ref 29, .int (nI k), .int (nI (rp (fd X))), .int (nI (we t (X / 4096))), .int (nI (wl t (X / 4096))), .int (nI (m + 1)), .retAddr 0, .retAddr 0, .retAddr 0, .retAddr 0, .retAddr 0] [] (xe_sI h1 32 m v) (spR t g b k G h) := fun v hv => ih (m + 1) _ (by omega) (wq_sI W1 (Or.inr rfl)) (CW_sI (by decide) C1) (fun i hi => by
        rw [hI_sI]
        by_cases q : i = m
        · rw [if_pos ⟨rfl, q⟩, q, hv]
        · rw [if_neg (fun w => q w.2)]; exact bt1 i (by omega))
      rw [xs_76_39]
      simp only [xs_76_41, xs_76_42, xs_76_45, xs_76_48, xs_76_51, xs_76_52, xs_76_55, xs_76_57, xs_76_58, xs_76_61, xs_76_62, xs_76_63, xs_76_65, H1, sT_0, sT_1, sT_2, sN_2, sA_2, sT_3, sN_3, sA_3, sT_4, sN_4, sA_4, sT_5, sN_5, sA_5, sT_6, sN_6, sA_6, sT_7, sT_8, sN_8, sA_8, sT_9, sN_9, sA_9, sT_10, sN_10, sA_10, sT_11, sN_11, sA_11, sT_12, sN_12, sA_12, sT_13, sN_13, sT_14, sT_15, sN_15, sA_15, sT_16, sN_16, sA_16, sT_17, sN_17, sA_17, sT_18, sN_18, sA_18, sT_19, sN_19, sA_19, sT_20, sT_21, sN_21, sA_21, sT_22, sN_22, sA_22, sT_23, sN_23, sA_23, sT_24, sN_24, sA_24, sT_25, sN_25, sA_25, sT_26, sN_26, sB_26, sT_27, sT_28, sN_28, sB_28, sT_29, sT_30, sN_30, sT_32, sN_32, sA_32, sT_33, sT_34, sN_34, sA_34, sT_35, sN_35, sA_35, sT_36, sT_37, sN_37, sA_37, sT_38, sN_38, sA_38, sT_39, sN_39, sA_39, sT_40, sN_40, sB_40, sT_41, sN_41, sA_41, sT_42, sN_42, sA_42, sT_43, sN_43, sA_43, sT_44, sT_45, sN_45, sA_45, sT_46, sN_46, sA_46, sT_47, sN_47, sA_47, sR_1_7, sR_1_8, sR_1_9, sR_1_10, sR_1_11, sR_0_0, sR_7_7, sR_7_8, sR_7_9, sR_7_10, sR_7_11, sR_0_1, sR_0_2, sR_14_7, sR_14_8, sR_14_9, sR_14_10, sR_14_11, sR_13_0, sR_20_7, sR_20_8, sR_20_9, sR_20_10, sR_20_11, sR_13_1, sR_0_3, sR_0_4, sR_27_0, sR_0_5, sR_29_0, sR_29_3, sR_0_6, sR_33_1, sR_33_2, sR_0_7, sR_36_2, sR_36_3, sR_36_4, sR_36_5, sR_36_6, sR_36_7, sR_36_8, sR_0_8, sR_44_0, sR_44_1, sR_44_2, c4, a1, e1, rf_some, xc_int, xc_ref, xc_ret, xc_long, xw_nil, xw_int, xw_ref, xw_long, tl_some, tl_none, true_and, and_true, Nat.zero_le, Nat.reduceAdd, Nat.reduceMul, Nat.reduceLeDiff, Nat.reduceLT, Nat.reduceEqDiff, Nat.reducePow, Int32.reduceAdd, Int32.reduceMul, Int32.reduceSub, Int32.reduceLT, Int32.reduceLE, Int32.reduceToNatClampNeg, litE, ixU, not_false_eq_true, not_true_eq_false, ↓reduceIte, eq_self, true_or, or_true, false_and, and_false, or_false, false_or, i10, i01, in10, i1n, xbT, xbF, r_lt]
      rw [tw_canMove (d := d + 1) sw tv1 hg (fd_rp X) (show we t (X / 4096) < 2 ^ 31 by omega) (show m < 2 ^ 31 by omega)]
      by_cases y : cm g (fd X) (we t (X / 4096)) m
      · rw [@xb_t _ (cmD g _ _ _) y]
        have ra2 := fun d Q => tw_restsAfter (d := d) (h := h1) (Q := Q) sw tv1 hg (fd_rp X) (show m ≤ g 24 by omega)
        simp only [xs_76_68, xs_76_71, xs_76_72, xs_76_75, xs_76_76, xs_76_78, xs_76_81, xs_76_84, xs_76_85, xs_76_86, xs_76_89, H1, sT_0, sT_1, sT_2, sN_2, sA_2, sT_3, sN_3, sA_3, sT_4, sN_4, sA_4, sT_5, sN_5, sA_5, sT_6, sN_6, sA_6, sT_7, sT_8, sN_8, sA_8, sT_9, sN_9, sA_9, sT_10, sN_10, sA_10, sT_11, sN_11, sA_11, sT_12, sN_12, sA_12, sT_13, sN_13, sT_14, sT_15, sN_15, sA_15, sT_16, sN_16, sA_16, sT_17, sN_17, sA_17, sT_18, sN_18, sA_18, sT_19, sN_19, sA_19, sT_20, sT_21, sN_21, sA_21, sT_22, sN_22, sA_22, sT_23, sN_23, sA_23, sT_24, sN_24, sA_24, sT_25, sN_25, sA_25, sT_26, sN_26, sB_26, sT_27, sT_28, sN_28, sB_28, sT_29, sT_30, sN_30, sT_32, sN_32, sA_32, sT_33, sT_34, sN_34, sA_34, sT_35, sN_35, sA_35, sT_36, sT_37, sN_37, sA_37, sT_38, sN_38, sA_38, sT_39, sN_39, sA_39, sT_40, sN_40, sB_40, sT_41, sN_41, sA_41, sT_42, sN_42, sA_42, sT_43, sN_43, sA_43, sT_44, sT_45, sN_45, sA_45, sT_46, sN_46, sA_46, sT_47, sN_47, sA_47, sR_1_7, sR_1_8, sR_1_9, sR_1_10, sR_1_11, sR_0_0, sR_7_7, sR_7_8, sR_7_9, sR_7_10, sR_7_11, sR_0_1, sR_0_2, sR_14_7, sR_14_8, sR_14_9, sR_14_10, sR_14_11, sR_13_0, sR_20_7, sR_20_8, sR_20_9, sR_20_10, sR_20_11, sR_13_1, sR_0_3, sR_0_4, sR_27_0, sR_0_5, sR_29_0, sR_29_3, sR_0_6, sR_33_1, sR_33_2, sR_0_7, sR_36_2, sR_36_3, sR_36_4, sR_36_5, sR_36_6, sR_36_7, sR_36_8, sR_0_8, sR_44_0, sR_44_1, sR_44_2, c4, ra2, nIlt0 (show m < 2 ^ 31 by omega), nI_clamp (show m < 2 ^ 31 by omega), show m < 7 by omega, nI_1, rf_some, xc_int, xc_ref, xc_ret, xc_long, xw_nil, xw_int, xw_ref, xw_long, tl_some, tl_none, true_and, and_true, Nat.zero_le, Nat.reduceAdd, Nat.reduceMul, Nat.reduceLeDiff, Nat.reduceLT, Nat.reduceEqDiff, Nat.reducePow, Int32.reduceAdd, Int32.reduceMul, Int32.reduceSub, Int32.reduceLT, Int32.reduceLE, Int32.reduceToNatClampNeg, litE, ixU, not_false_eq_true, not_true_eq_false, ↓reduceIte, eq_self, true_or, or_true, false_and, and_false, or_false, false_or, i10, i01, in10, i1n, xbT, xbF, r_lt]
        exact fin _ (by rw [if_pos (cb_t y)])
      · rw [@xb_f _ (cmD g _ _ _) y]
        simp only [xs_76_68, xs_76_71, xs_76_72, xs_76_75, xs_76_76, xs_76_78, xs_76_81, xs_76_84, xs_76_85, xs_76_86, xs_76_89, H1, sT_0, sT_1, sT_2, sN_2, sA_2, sT_3, sN_3, sA_3, sT_4, sN_4, sA_4, sT_5, sN_5, sA_5, sT_6, sN_6, sA_6, sT_7, sT_8, sN_8, sA_8, sT_9, sN_9, sA_9, sT_10, sN_10, sA_10, sT_11, sN_11, sA_11, sT_12, sN_12, sA_12, sT_13, sN_13, sT_14, sT_15, sN_15, sA_15, sT_16, sN_16, sA_16, sT_17, sN_17, sA_17, sT_18, sN_18, sA_18, sT_19, sN_19, sA_19, sT_20, sT_21, sN_21, sA_21, sT_22, sN_22, sA_22, sT_23, sN_23, sA_23, sT_24, sN_24, sA_24, sT_25, sN_25, sA_25, sT_26, sN_26, sB_26, sT_27, sT_28, sN_28, sB_28, sT_29, sT_30, sN_30, sT_32, sN_32, sA_32, sT_33, sT_34, sN_34, sA_34, sT_35, sN_35, sA_35, sT_36, sT_37, sN_37, sA_37, sT_38, sN_38, sA_38, sT_39, sN_39, sA_39, sT_40, sN_40, sB_40, sT_41, sN_41, sA_41, sT_42, sN_42, sA_42, sT_43, sN_43, sA_43, sT_44, sT_45, sN_45, sA_45, sT_46, sN_46, sA_46, sT_47, sN_47, sA_47, sR_1_7, sR_1_8, sR_1_9, sR_1_10, sR_1_11, sR_0_0, sR_7_7, sR_7_8, sR_7_9, sR_7_10, sR_7_11, sR_0_1, sR_0_2, sR_14_7, sR_14_8, sR_14_9, sR_14_10, sR_14_11, sR_13_0, sR_20_7, sR_20_8, sR_20_9, sR_20_10, sR_20_11, sR_13_1, sR_0_3, sR_0_4, sR_27_0, sR_0_5, sR_29_0, sR_29_3, sR_0_6, sR_33_1, sR_33_2, sR_0_7, sR_36_2, sR_36_3, sR_36_4, sR_36_5, sR_36_6, sR_36_7, sR_36_8, sR_0_8, sR_44_0, sR_44_1, sR_44_2, nIlt0 (show m < 2 ^ 31 by omega), nI_clamp (show m < 2 ^ 31 by omega), show m < 7 by omega, nI_1, rf_some, xc_int, xc_ref, xc_ret, xc_long, xw_nil, xw_int, xw_ref, xw_long, tl_some, tl_none, true_and, and_true, Nat.zero_le, Nat.reduceAdd, Nat.reduceMul, Nat.reduceLeDiff, Nat.reduceLT, Nat.reduceEqDiff, Nat.reducePow, Int32.reduceAdd, Int32.reduceMul, Int32.reduceSub, Int32.reduceLT, Int32.reduceLE, Int32.reduceToNatClampNeg, litE, ixU, not_false_eq_true, not_true_eq_false, ↓reduceIte, eq_self, true_or, or_true, false_and, and_false, or_false, false_or, i10, i01, in10, i1n, xbT, xbF, r_lt]
        exact fin _ (by rw [if_neg (fun z => y (cb_T z))])
  have l0 := first (g 24 + 1) 0 h (by omega) (wq_rf _ h) C (fun i hi => absurd hi (by omega))
  rw [show nI 0 = (0 : Int32) from rfl] at l0
  simp only [xs_76, xs_76_0, xs_76_1, xs_76_4, xs_76_5, xs_76_6, xs_76_7, xs_76_9, xs_76_10, xs_76_11, xs_76_12, xs_76_15, xs_76_16, xs_76_17, xs_76_19, xs_76_22, xs_76_23, xs_76_24, xs_76_27, xs_76_28, xs_76_29, xs_76_31, xs_76_34, xs_76_36, xs_76_37, H, sT_0, sT_1, sT_2, sN_2, sA_2, sT_3, sN_3, sA_3, sT_4, sN_4, sA_4, sT_5, sN_5, sA_5, sT_6, sN_6, sA_6, sT_7, sT_8, sN_8, sA_8, sT_9, sN_9, sA_9, sT_10, sN_10, sA_10, sT_11, sN_11, sA_11, sT_12, sN_12, sA_12, sT_13, sN_13, sT_14, sT_15, sN_15, sA_15, sT_16, sN_16, sA_16, sT_17, sN_17, sA_17, sT_18, sN_18, sA_18, sT_19, sN_19, sA_19, sT_20, sT_21, sN_21, sA_21, sT_22, sN_22, sA_22, sT_23, sN_23, sA_23, sT_24, sN_24, sA_24, sT_25, sN_25, sA_25, sT_26, sN_26, sB_26, sT_27, sT_28, sN_28, sB_28, sT_29, sT_30, sN_30, sT_32, sN_32, sA_32, sT_33, sT_34, sN_34, sA_34, sT_35, sN_35, sA_35, sT_36, sT_37, sN_37, sA_37, sT_38, sN_38, sA_38, sT_39, sN_39, sA_39, sT_40, sN_40, sB_40, sT_41, sN_41, sA_41, sT_42, sN_42, sA_42, sT_43, sN_43, sA_43, sT_44, sT_45, sN_45, sA_45, sT_46, sN_46, sA_46, sT_47, sN_47, sA_47, sR_1_7, sR_1_8, sR_1_9, sR_1_10, sR_1_11, sR_0_0, sR_7_7, sR_7_8, sR_7_9, sR_7_10, sR_7_11, sR_0_1, sR_0_2, sR_14_7, sR_14_8, sR_14_9, sR_14_10, sR_14_11, sR_13_0, sR_20_7, sR_20_8, sR_20_9, sR_20_10, sR_20_11, sR_13_1, sR_0_3, sR_0_4, sR_27_0, sR_0_5, sR_29_0, sR_29_3, sR_0_6, sR_33_1, sR_33_2, sR_0_7, sR_36_2, sR_36_3, sR_36_4, sR_36_5, sR_36_6, sR_36_7, sR_36_8, sR_0_8, sR_44_0, sR_44_1, sR_44_2, c1, co, nIlt0 (show k < 2 ^ 31 by omega), nI_clamp (show k < 2 ^ 31 by omega), cN, cL, lN_low, em, p18, p21, rf_some, xc_int, xc_ref, xc_ret, xc_long, xw_nil, xw_int, xw_ref, xw_long, tl_some, tl_none, true_and, and_true, Nat.zero_le, Nat.reduceAdd, Nat.reduceMul, Nat.reduceLeDiff, Nat.reduceLT, Nat.reduceEqDiff, Nat.reducePow, Int32.reduceAdd, Int32.reduceMul, Int32.reduceSub, Int32.reduceLT, Int32.reduceLE, Int32.reduceToNatClampNeg, litE, ixU, not_false_eq_true, not_true_eq_false, ↓reduceIte, eq_self, true_or, or_true, false_and, and_false, or_false, false_or, i10, i01, in10, i1n, xbT, xbF, r_lt]
  exact l0
end WT
