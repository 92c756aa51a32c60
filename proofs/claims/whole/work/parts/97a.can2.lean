/-! can: the class -/
section XB
variable {d : Nat} {h : xe_H} {g : Nat → Nat}
theorem cl_canL {b : bL} {n p : Nat} {h2 : xe_H} (gZ : bG (bnd false) b) (nZ : bN b) (F0 : bF b 0 = 0) (E1 : n ≤ 102400) (E2 : b.1 = n) (C : CW false b h2) (H2 : sh h2) (W2 : wq sY h h2) (R2 : rm h2) : xe_P (d + 7) 73 36 [.ref 29, .ref 1, .int (nI p), .retAddr 0, .retAddr 0] [] h2 (fun r h' => r = some (.int (orP b n)) ∧ wq sY h h' ∧ rm h') := by
  have c2 := C.2.2.2.1
  rw [E2] at c2
  have lp : ∀ t k, k + t = n → xe_P (d + 7) 73 41 [.ref 29, .ref 1, .int (nI p), .int (orP b k), .int (nI k)] [] h2 (fun r h' => r = some (.int (orP b n)) ∧ wq sY h h' ∧ rm h') := by
    intro t
    induction t with
    | zero =>
      intro k hk
      have hk : k = n := by omega
      subst hk
      simp only [xs_73_41, xs_73_43, xs_73_44, xs_73_47, xs_73_73, xs_73_74, H2, sT_0, sT_1, sT_2, sN_2, sA_2, sT_3, sN_3, sA_3, sT_4, sN_4, sA_4, sT_5, sN_5, sA_5, sT_6, sN_6, sA_6, sT_7, sT_8, sN_8, sA_8, sT_9, sN_9, sA_9, sT_10, sN_10, sA_10, sT_11, sN_11, sA_11, sT_12, sN_12, sA_12, sT_13, sN_13, sT_14, sT_15, sN_15, sA_15, sT_16, sN_16, sA_16, sT_17, sN_17, sA_17, sT_18, sN_18, sA_18, sT_19, sN_19, sA_19, sT_20, sT_21, sN_21, sA_21, sT_22, sN_22, sA_22, sT_23, sN_23, sA_23, sT_24, sN_24, sA_24, sT_25, sN_25, sA_25, sT_26, sN_26, sB_26, sT_27, sT_28, sN_28, sB_28, sT_29, sT_30, sN_30, sT_32, sN_32, sA_32, sT_33, sT_34, sN_34, sA_34, sT_35, sN_35, sA_35, sT_36, sT_37, sN_37, sA_37, sT_38, sN_38, sA_38, sT_39, sN_39, sA_39, sT_40, sN_40, sB_40, sT_41, sN_41, sA_41, sT_42, sN_42, sA_42, sT_43, sN_43, sA_43, sT_44, sT_45, sN_45, sA_45, sT_46, sN_46, sA_46, sT_47, sN_47, sA_47, sR_1_7, sR_1_8, sR_1_9, sR_1_10, sR_1_11, sR_0_0, sR_7_7, sR_7_8, sR_7_9, sR_7_10, sR_7_11, sR_0_1, sR_0_2, sR_14_7, sR_14_8, sR_14_9, sR_14_10, sR_14_11, sR_13_0, sR_20_7, sR_20_8, sR_20_9, sR_20_10, sR_20_11, sR_13_1, sR_0_3, sR_0_4, sR_27_0, sR_0_5, sR_29_0, sR_29_3, sR_0_6, sR_33_1, sR_33_2, sR_0_7, sR_36_2, sR_36_3, sR_36_4, sR_36_5, sR_36_6, sR_36_7, sR_36_8, sR_0_8, sR_44_0, sR_44_1, sR_44_2, c2, le_t, rf_some, xc_int, xc_ref, xc_ret, xc_long, xw_nil, xw_int, xw_ref, xw_long, tl_some, tl_none, true_and, and_true, Nat.zero_le, Nat.reduceAdd, Nat.reduceMul, Nat.reduceLeDiff, Nat.reduceLT, Nat.reduceEqDiff, Nat.reducePow, Int32.reduceAdd, Int32.reduceMul, Int32.reduceSub, Int32.reduceLT, Int32.reduceLE, Int32.reduceToNatClampNeg, litE, ixU, not_false_eq_true, not_true_eq_false, ↓reduceIte, eq_self, true_or, or_true, false_and, and_false, or_false, false_or, i10, i01, in10, i1n, xbT, xbF, r_lt]
      exact ⟨W2, R2⟩
    | succ t ih =>
      intro k hk
      have hkb : k < b.1 := by omega
      have hS := gZ.2.1 k hkb
      have hF : bF b k < 102400 := by
        by_cases z : k = 0
        · rw [z, F0]; decide
        · have := (gZ.2.2.2.2.1 k (by omega) hkb).1; omega
      obtain ⟨q, c1, co, cN, cL⟩ := CW_L C hkb
      obtain ⟨e0, -, e2, -⟩ := ent_all (m := bM b k) (f := bF b k) hS (nZ k hkb) hF
      have p18 := fun d Q => cl_placeIn (d := d) (h := h2) (Q := Q) (n := ent false (bS b k) (bM b k) (bF b k)) (s := 18) e0 (by decide)
      rw [e2, show nI 18 = (18 : Int32) from rfl, show we false (bS b k / 4096) = bS b k / 4096 from rfl] at p18
      have fin := ih (k + 1) (by omega)
      rw [orP] at fin
      rw [xs_73_41]
      simp only [xs_73_43, xs_73_44, xs_73_47, xs_73_50, xs_73_51, xs_73_52, xs_73_53, xs_73_56, xs_73_58, xs_73_59, xs_73_61, xs_73_64, xs_73_65, xs_73_66, xs_73_67, xs_73_70, H2, sT_0, sT_1, sT_2, sN_2, sA_2, sT_3, sN_3, sA_3, sT_4, sN_4, sA_4, sT_5, sN_5, sA_5, sT_6, sN_6, sA_6, sT_7, sT_8, sN_8, sA_8, sT_9, sN_9, sA_9, sT_10, sN_10, sA_10, sT_11, sN_11, sA_11, sT_12, sN_12, sA_12, sT_13, sN_13, sT_14, sT_15, sN_15, sA_15, sT_16, sN_16, sA_16, sT_17, sN_17, sA_17, sT_18, sN_18, sA_18, sT_19, sN_19, sA_19, sT_20, sT_21, sN_21, sA_21, sT_22, sN_22, sA_22, sT_23, sN_23, sA_23, sT_24, sN_24, sA_24, sT_25, sN_25, sA_25, sT_26, sN_26, sB_26, sT_27, sT_28, sN_28, sB_28, sT_29, sT_30, sN_30, sT_32, sN_32, sA_32, sT_33, sT_34, sN_34, sA_34, sT_35, sN_35, sA_35, sT_36, sT_37, sN_37, sA_37, sT_38, sN_38, sA_38, sT_39, sN_39, sA_39, sT_40, sN_40, sB_40, sT_41, sN_41, sA_41, sT_42, sN_42, sA_42, sT_43, sN_43, sA_43, sT_44, sT_45, sN_45, sA_45, sT_46, sN_46, sA_46, sT_47, sN_47, sA_47, sR_1_7, sR_1_8, sR_1_9, sR_1_10, sR_1_11, sR_0_0, sR_7_7, sR_7_8, sR_7_9, sR_7_10, sR_7_11, sR_0_1, sR_0_2, sR_14_7, sR_14_8, sR_14_9, sR_14_10, sR_14_11, sR_13_0, sR_20_7, sR_20_8, sR_20_9, sR_20_10, sR_20_11, sR_13_1, sR_0_3, sR_0_4, sR_27_0, sR_0_5, sR_29_0, sR_29_3, sR_0_6, sR_33_1, sR_33_2, sR_0_7, sR_36_2, sR_36_3, sR_36_4, sR_36_5, sR_36_6, sR_36_7, sR_36_8, sR_0_8, sR_44_0, sR_44_1, sR_44_2, c2, lt_f (show k < n by omega) (show n < 2 ^ 31 by omega), c1, co, nIlt0 (show k < 2 ^ 31 by omega), nI_clamp (show k < 2 ^ 31 by omega), cN, cL, p18, nI_1, rf_some, xc_int, xc_ref, xc_ret, xc_long, xw_nil, xw_int, xw_ref, xw_long, tl_some, tl_none, true_and, and_true, Nat.zero_le, Nat.reduceAdd, Nat.reduceMul, Nat.reduceLeDiff, Nat.reduceLT, Nat.reduceEqDiff, Nat.reducePow, Int32.reduceAdd, Int32.reduceMul, Int32.reduceSub, Int32.reduceLT, Int32.reduceLE, Int32.reduceToNatClampNeg, litE, ixU, not_false_eq_true, not_true_eq_false, ↓reduceIte, eq_self, true_or, or_true, false_and, and_false, or_false, false_or, i10, i01, in10, i1n, xbT, xbF, r_lt]
      exact fin
  have l0 := lp n 0 (by omega)
  rw [show nI 0 = (0 : Int32) from rfl, show orP b 0 = 0 from rfl] at l0
  simp only [xs_73_36, xs_73_37, xs_73_38, xs_73_39, rf_some, xc_int, xc_ref, xc_ret, xc_long, xw_nil, xw_int, xw_ref, xw_long, tl_some, tl_none, true_and, and_true, Nat.zero_le, Nat.reduceAdd, Nat.reduceMul, Nat.reduceLeDiff, Nat.reduceLT, Nat.reduceEqDiff, Nat.reducePow, Int32.reduceAdd, Int32.reduceMul, Int32.reduceSub, Int32.reduceLT, Int32.reduceLE, Int32.reduceToNatClampNeg, litE, ixU, not_false_eq_true, not_true_eq_false, ↓reduceIte, eq_self, true_or, or_true, false_and, and_false, or_false, false_or, i10, i01, in10, i1n, xbT, xbF, r_lt]
  exact l0
theorem cl_can {p : Nat} (hg : pg_ok g) (hp : p < g 31) (H : sh h) (R : rm h) (tv : tn_v h 1 g) : xe_C (d + 8) 73 [.ref 29, .ref 1, .int (nI p)] h (fun r h' => r = some (.int (orP (bZ (nx1 g) (g 24 + 1) (4096 * g (25 + 2 * p) + rc (gr g))) (bend (nx1 g) (g 24 + 1) (4096 * g (25 + 2 * p) + rc (gr g))))) ∧ wq sY h h' ∧ rm h') := by
  rw [show nx1 g = nxt false g from rfl, show g 24 + 1 = mxt false g from rfl]
  have h31 : g 31 ≤ 3 := hg.2.1
  have h24 : g 24 ≤ 6 := hg.1
  have h35 : g 35 ≤ 5 := hg.2.2.2.2.2.2.2.1
  obtain ⟨hpl, hgo⟩ := hg.2.2.2.2.2.2.2.2.2.2.2 p hp
  have hrc := rc_lt (f := gr g) hg.2.2.2.2.2.2.2.2.2.1
  obtain ⟨v5, -⟩ := tv.2.2.2 p hp
  have v5 : xe_I h 5 p = nI (g (25 + 2 * p)) := v5
  have H' := sh_w4 H
  simp only [xs_73, xs_73_0, xs_73_1, xs_73_2, xs_73_5, xs_73_6, xs_73_7, xs_73_10, xs_73_11, xs_73_12, xs_73_15, xs_73_16, xs_73_17, xs_73_20, xs_73_21, xs_73_22, xs_73_25, xs_73_28, xs_73_29, xs_73_30, xs_73_31, xs_73_33, H, H', sT_0, sT_1, sT_2, sN_2, sA_2, sT_3, sN_3, sA_3, sT_4, sN_4, sA_4, sT_5, sN_5, sA_5, sT_6, sN_6, sA_6, sT_7, sT_8, sN_8, sA_8, sT_9, sN_9, sA_9, sT_10, sN_10, sA_10, sT_11, sN_11, sA_11, sT_12, sN_12, sA_12, sT_13, sN_13, sT_14, sT_15, sN_15, sA_15, sT_16, sN_16, sA_16, sT_17, sN_17, sA_17, sT_18, sN_18, sA_18, sT_19, sN_19, sA_19, sT_20, sT_21, sN_21, sA_21, sT_22, sN_22, sA_22, sT_23, sN_23, sA_23, sT_24, sN_24, sA_24, sT_25, sN_25, sA_25, sT_26, sN_26, sB_26, sT_27, sT_28, sN_28, sB_28, sT_29, sT_30, sN_30, sT_32, sN_32, sA_32, sT_33, sT_34, sN_34, sA_34, sT_35, sN_35, sA_35, sT_36, sT_37, sN_37, sA_37, sT_38, sN_38, sA_38, sT_39, sN_39, sA_39, sT_40, sN_40, sB_40, sT_41, sN_41, sA_41, sT_42, sN_42, sA_42, sT_43, sN_43, sA_43, sT_44, sT_45, sN_45, sA_45, sT_46, sN_46, sA_46, sT_47, sN_47, sA_47, sR_1_7, sR_1_8, sR_1_9, sR_1_10, sR_1_11, sR_0_0, sR_7_7, sR_7_8, sR_7_9, sR_7_10, sR_7_11, sR_0_1, sR_0_2, sR_14_7, sR_14_8, sR_14_9, sR_14_10, sR_14_11, sR_13_0, sR_20_7, sR_20_8, sR_20_9, sR_20_10, sR_20_11, sR_13_1, sR_0_3, sR_0_4, sR_27_0, sR_0_5, sR_29_0, sR_29_3, sR_0_6, sR_33_1, sR_33_2, sR_0_7, sR_36_2, sR_36_3, sR_36_4, sR_36_5, sR_36_6, sR_36_7, sR_36_8, sR_0_8, sR_44_0, sR_44_1, sR_44_2, nIlt0 (show p < 2 ^ 31 by omega), nI_clamp (show p < 2 ^ 31 by omega), show p < 3 by omega, v5, show 1 < xe_S by decide, rf_some, xc_int, xc_ref, xc_ret, xc_long, xw_nil, xw_int, xw_ref, xw_long, tl_some, tl_none, true_and, and_true, Nat.zero_le, Nat.reduceAdd, Nat.reduceMul, Nat.reduceLeDiff, Nat.reduceLT, Nat.reduceEqDiff, Nat.reducePow, Int32.reduceAdd, Int32.reduceMul, Int32.reduceSub, Int32.reduceLT, Int32.reduceLE, Int32.reduceToNatClampNeg, litE, ixU, not_false_eq_true, not_true_eq_false, ↓reduceIte, eq_self, true_or, or_true, false_and, and_false, or_false, false_or, i10, i01, in10, i1n, xbT, xbF, r_lt, hI_sI, hL_sI, hR_sI, hT_sI, hN_sI, hn_sI, ho_sI, hia_sI, hba_sI, hal_sI, hix_sI, hI_aI, hL_aI, hR_aI, hT_aI, hN_aI, hn_aI, ho_aI, hia_aI, hal_aI, hix_aI, sh_sI, sh_aI, sh_sL, sh_aL, hI_sR, hR_sR]
  generalize hh1 : xe_sI (xe_sI (xe_sI (xe_sR h 29 4 (some 1)) 29 5 0) 29 6 (-1)) 29 7 0 = h1
  have H1 : sh h1 := by rw [← hh1, sh_sI, sh_sI, sh_sI]; exact H'
  have R1 : rm h1 := by rw [← hh1, rm_sI, rm_sI, rm_sI]; exact rm_w4 R
  have W1 : wq sY h h1 := by
    rw [← hh1]
    exact wq_sI (wq_sI (wq_sI ⟨fun _ => H', fun _ _ => ⟨rfl, rfl⟩, fun _ _ _ _ => rfl⟩ (Or.inl rfl)) (Or.inl rfl)) (Or.inl rfl)
  have tv1 := tv_wq tv W1 (fun a j z => by unfold sY at z; omega)
  have i6 : xe_I h1 29 6 = -1 := by rw [← hh1, hI_sI, if_neg (by omega), hI_sI, if_pos ⟨rfl, rfl⟩]
  have gc : gC false 100 h1 := fun w hw => by
    have hw : w < 5 := hw
    rw [i6]
    constructor
    · rintro ⟨z, -⟩
      have z : nI w = -1 := z
      have z2 := congrArg Int32.toInt z
      rw [nI_toInt (by omega), show Int32.toInt (-1) = -1 by decide] at z2
      omega
    · intro z; omega
  have cs := cl_search (d := d + 1) (t := false) (w0 := g (25 + 2 * p)) (G := 100) hg (show g (25 + 2 * p) < 5 by omega) (show 1000000 < 2 ^ 31 by decide) H1 R1 tv1 (by rw [← hh1, hR_sI, hR_sI, hR_sI, hR_sR, if_pos ⟨rfl, rfl⟩]) (by rw [← hh1, hI_sI, if_neg (by omega), hI_sI, if_neg (by omega), hI_sI, if_pos ⟨rfl, rfl⟩]; rfl) gc
  rw [show nI (we false (g (25 + 2 * p))) = nI (g (25 + 2 * p)) from rfl, show nI (wl false (g (25 + 2 * p))) = (0 : Int32) from rfl, show nI 1000000 = (1000000 : Int32) from rfl] at cs
  refine xe_C_mono cs ?_
  rintro r h2 ⟨rfl, S⟩
  have W2 : wq sY h h2 := wq_tr W1 (wq_sub S.1 (fun a j z => by unfold sW at z; unfold sY; omega))
  have H2 := W2.1 H
  have R2 := srR_rm S
  have h0 : 4096 * g (25 + 2 * p) + rc (gr g) < bnd false := by show _ < 20480; omega
  have hnb : ∀ x m s, x < bnd false → nxt false g x m = some s → s < bnd false := fun x m s hx e => nxt_b hg hx e
  obtain ⟨E1, E2, E3⟩ := bend_ok (M := mxt false g) (show 4096 * g (25 + 2 * p) + rc (gr g) < 4096 * 25 by omega) (nxt_B (t := false) hg)
  have gZ : bG (bnd false) (bZ (nxt false g) (mxt false g) (4096 * g (25 + 2 * p) + rc (gr g))) := (bB_G (M := mxt false g) h0 hnb _).1
  have nZ : bN (bZ (nxt false g) (mxt false g) (4096 * g (25 + 2 * p) + rc (gr g))) := bN_B (mxt_64 (t := false) hg).1 _
  have PZ := bZ_P (nx := nxt false g) (M := mxt false g) (s0 := 4096 * g (25 + 2 * p) + rc (gr g)) (k := 0) (by omega)
  have F0 : bF (bZ (nxt false g) (mxt false g) (4096 * g (25 + 2 * p) + rc (gr g))) 0 = 0 := (bP_S PZ (show 0 < 1 by decide)).2.2.1
  obtain ⟨-, ⟨k1, -⟩ | ⟨-, -, b', C, eZ⟩⟩ := S
  · exfalso
    have e := bK_hit k1
    have := gZ.2.1 _ (by rw [E2]; exact k1)
    have : bS (bZ (nxt false g) (mxt false g) (4096 * g (25 + 2 * p) + rc (gr g))) (bK (nxt false g) (mxt false g) (4096 * g (25 + 2 * p) + rc (gr g)) 100) < 20480 := this
    omega
  · have eZ := eZ (by omega)
    rw [eZ] at C
    exact cl_canL gZ nZ F0 E1 E2 C H2 W2 R2
theorem ok_can {L : Nat} {xs : Nat → Int32} {s : Nat → Nat → Nat} {ce : Nat → Int32} (HI : Inv L xs s ce h) (x : Int32) : ok2 L xs 97 167 [.int x] h := by
  intro d
  obtain ⟨H, hr, hv, hp, ⟨c1, c2, c3, c4, c5, c6⟩, ⟨⟨m1, m1'⟩, m2, m3, m4, m5, m6, m7⟩⟩ := id HI
  obtain ⟨⟨v0, v1, v2, v3, v4, v5, v6⟩, -⟩ := id c1
  have h31 : s 0 31 ≤ 3 := hp.1.2.1
  by_cases q1 : 0 ≤ x ∧ x < nI (s 0 31)
  · obtain ⟨p, hp1, rfl⟩ := rg (by omega) q1
    simp only [xs_97, xs_97_0, xs_97_1, xs_97_4, xs_97_5, xs_97_8, xs_97_11, xs_97_12, xs_97_13, xs_97_14, xs_97_17, xs_97_18, xs_97_21, xs_97_22, tw_isOne (sT_1 H) v2, xb_t q1, H, sT_0, sT_1, sT_2, sN_2, sA_2, sT_3, sN_3, sA_3, sT_4, sN_4, sA_4, sT_5, sN_5, sA_5, sT_6, sN_6, sA_6, sT_7, sT_8, sN_8, sA_8, sT_9, sN_9, sA_9, sT_10, sN_10, sA_10, sT_11, sN_11, sA_11, sT_12, sN_12, sA_12, sT_13, sN_13, sT_14, sT_15, sN_15, sA_15, sT_16, sN_16, sA_16, sT_17, sN_17, sA_17, sT_18, sN_18, sA_18, sT_19, sN_19, sA_19, sT_20, sT_21, sN_21, sA_21, sT_22, sN_22, sA_22, sT_23, sN_23, sA_23, sT_24, sN_24, sA_24, sT_25, sN_25, sA_25, sT_26, sN_26, sB_26, sT_27, sT_28, sN_28, sB_28, sT_29, sT_30, sN_30, sT_32, sN_32, sA_32, sT_33, sT_34, sN_34, sA_34, sT_35, sN_35, sA_35, sT_36, sT_37, sN_37, sA_37, sT_38, sN_38, sA_38, sT_39, sN_39, sA_39, sT_40, sN_40, sB_40, sT_41, sN_41, sA_41, sT_42, sN_42, sA_42, sT_43, sN_43, sA_43, sT_44, sT_45, sN_45, sA_45, sT_46, sN_46, sA_46, sT_47, sN_47, sA_47, sR_1_7, sR_1_8, sR_1_9, sR_1_10, sR_1_11, sR_0_0, sR_7_7, sR_7_8, sR_7_9, sR_7_10, sR_7_11, sR_0_1, sR_0_2, sR_14_7, sR_14_8, sR_14_9, sR_14_10, sR_14_11, sR_13_0, sR_20_7, sR_20_8, sR_20_9, sR_20_10, sR_20_11, sR_13_1, sR_0_3, sR_0_4, sR_27_0, sR_0_5, sR_29_0, sR_29_3, sR_0_6, sR_33_1, sR_33_2, sR_0_7, sR_36_2, sR_36_3, sR_36_4, sR_36_5, sR_36_6, sR_36_7, sR_36_8, sR_0_8, sR_44_0, sR_44_1, sR_44_2, rf_some, xc_int, xc_ref, xc_ret, xc_long, xw_nil, xw_int, xw_ref, xw_long, tl_some, tl_none, true_and, and_true, Nat.zero_le, Nat.reduceAdd, Nat.reduceMul, Nat.reduceLeDiff, Nat.reduceLT, Nat.reduceEqDiff, Nat.reducePow, Int32.reduceAdd, Int32.reduceMul, Int32.reduceSub, Int32.reduceLT, Int32.reduceLE, Int32.reduceToNatClampNeg, litE, ixU, not_false_eq_true, not_true_eq_false, ↓reduceIte, eq_self, true_or, or_true, false_and, and_false, or_false, false_or, i10, i01, in10, i1n, xbT, xbF, r_lt]
    refine xe_C_mono (cl_can (d := d + 31) hp.1 hp1 H hr c1) ?_
    rintro v h1 ⟨rfl, W1, R1⟩
    simp only [xs_97_25, rf_some, xc_int, xc_ref, xc_ret, xc_long, xw_nil, xw_int, xw_ref, xw_long, tl_some, tl_none, true_and, and_true, Nat.zero_le, Nat.reduceAdd, Nat.reduceMul, Nat.reduceLeDiff, Nat.reduceLT, Nat.reduceEqDiff, Nat.reducePow, Int32.reduceAdd, Int32.reduceMul, Int32.reduceSub, Int32.reduceLT, Int32.reduceLE, Int32.reduceToNatClampNeg, litE, ixU, not_false_eq_true, not_true_eq_false, ↓reduceIte, eq_self, true_or, or_true, false_and, and_false, or_false, false_or, i10, i01, in10, i1n, xbT, xbF, r_lt]
    have I1 := Inv_fr HI (sY_fr W1 R1)
    refine xe_C_mono (md_can (d := d + 33) hp.1 hp1 I1.1 I1.2.2.2.2.2.1.1) ?_
    rintro w h2 ⟨rfl, W⟩
    exact ⟨⟨_, rfl, rfl⟩, s, ce, Inv_fr I1 (wr_fr W (fun a j q => by unfold vS at q; unfold cc cm' xe_S; omega))⟩
  · simp only [xs_97, xs_97_0, xs_97_1, xs_97_4, xs_97_5, xs_97_8, xs_97_11, xs_97_12, xs_167, xs_167_0, xs_167_1, xs_167_2, xs_167_5, xs_167_8, xs_167_9, tw_isOne (sT_1 H) v2, md_isOne H m1 hp.1, xb_f q1, H, sT_0, sT_1, sT_2, sN_2, sA_2, sT_3, sN_3, sA_3, sT_4, sN_4, sA_4, sT_5, sN_5, sA_5, sT_6, sN_6, sA_6, sT_7, sT_8, sN_8, sA_8, sT_9, sN_9, sA_9, sT_10, sN_10, sA_10, sT_11, sN_11, sA_11, sT_12, sN_12, sA_12, sT_13, sN_13, sT_14, sT_15, sN_15, sA_15, sT_16, sN_16, sA_16, sT_17, sN_17, sA_17, sT_18, sN_18, sA_18, sT_19, sN_19, sA_19, sT_20, sT_21, sN_21, sA_21, sT_22, sN_22, sA_22, sT_23, sN_23, sA_23, sT_24, sN_24, sA_24, sT_25, sN_25, sA_25, sT_26, sN_26, sB_26, sT_27, sT_28, sN_28, sB_28, sT_29, sT_30, sN_30, sT_32, sN_32, sA_32, sT_33, sT_34, sN_34, sA_34, sT_35, sN_35, sA_35, sT_36, sT_37, sN_37, sA_37, sT_38, sN_38, sA_38, sT_39, sN_39, sA_39, sT_40, sN_40, sB_40, sT_41, sN_41, sA_41, sT_42, sN_42, sA_42, sT_43, sN_43, sA_43, sT_44, sT_45, sN_45, sA_45, sT_46, sN_46, sA_46, sT_47, sN_47, sA_47, sR_1_7, sR_1_8, sR_1_9, sR_1_10, sR_1_11, sR_0_0, sR_7_7, sR_7_8, sR_7_9, sR_7_10, sR_7_11, sR_0_1, sR_0_2, sR_14_7, sR_14_8, sR_14_9, sR_14_10, sR_14_11, sR_13_0, sR_20_7, sR_20_8, sR_20_9, sR_20_10, sR_20_11, sR_13_1, sR_0_3, sR_0_4, sR_27_0, sR_0_5, sR_29_0, sR_29_3, sR_0_6, sR_33_1, sR_33_2, sR_0_7, sR_36_2, sR_36_3, sR_36_4, sR_36_5, sR_36_6, sR_36_7, sR_36_8, sR_0_8, sR_44_0, sR_44_1, sR_44_2, sT_48, sT_49, sN_49, sA_49, sT_50, sN_50, sA_50, sT_51, sN_51, sA_51, sT_52, sN_52, sA_52, sT_53, sN_53, sA_53, sT_54, sN_54, sA_54, sT_55, sN_55, sA_55, sT_56, sN_56, sA_56, sT_57, sN_57, sA_57, sT_58, sN_58, sA_58, sT_59, sN_59, sA_59, sT_60, sN_60, sA_60, sT_61, sN_61, sA_61, sT_62, sN_62, sA_62, sT_63, sN_63, sA_63, sT_64, sN_64, sA_64, sT_65, sN_65, sA_65, sT_66, sN_66, sA_66, sT_67, sN_67, sA_67, sT_68, sN_68, sB_68, sT_69, sN_69, sA_69, sT_70, sN_70, sA_70, sT_71, sN_71, sA_71, sR_48_0, sR_48_2, sR_48_9, sR_48_10, sR_48_11, sR_48_20, sR_48_21, sR_48_22, sR_48_23, sR_48_24, sR_48_26, sR_48_27, sR_48_28, sR_48_29, sR_48_30, sR_48_31, sR_48_33, sR_48_34, sR_48_35, sR_48_36, sR_48_37, sR_48_38, sR_48_39, rf_some, xc_int, xc_ref, xc_ret, xc_long, xw_nil, xw_int, xw_ref, xw_long, tl_some, tl_none, true_and, and_true, Nat.zero_le, Nat.reduceAdd, Nat.reduceMul, Nat.reduceLeDiff, Nat.reduceLT, Nat.reduceEqDiff, Nat.reducePow, Int32.reduceAdd, Int32.reduceMul, Int32.reduceSub, Int32.reduceLT, Int32.reduceLE, Int32.reduceToNatClampNeg, litE, ixU, not_false_eq_true, not_true_eq_false, ↓reduceIte, eq_self, true_or, or_true, false_and, and_false, or_false, false_or, i10, i01, in10, i1n, xbT, xbF, r_lt]
    exact ⟨⟨_, rfl, rfl⟩, s, ce, HI⟩
end XB
