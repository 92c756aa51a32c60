/-! ways: the search -/
def sW (a j : Nat) : Prop := (a = 29 ∧ (j = 2 ∨ j = 8 ∨ j = 9)) ∨ a = 32
theorem CW_s9 {t : Bool} {b : bL} {h : xe_H} {j : Nat} {v : Int32} (h2 : ¬ j = 2) (h5 : ¬ j = 5) (C : CW t b h) : CW t b (xe_sI h 29 j v) := by
  obtain ⟨⟨q, k, A⟩, K, c4, c2, c5⟩ := C
  refine ⟨⟨q, k, A⟩, K, c4, ?_, ?_⟩
  · rw [hI_sI, if_neg (fun z => h2 z.2.symm)]; exact c2
  · rw [hI_sI, if_neg (fun z => h5 z.2.symm)]; exact c5
theorem CW_c {t : Bool} {b b' : bL} {h : xe_H} (C : CW t b h) (e1 : b'.1 = b.1) (e : ∀ i, i < b.1 → bS b' i = bS b i ∧ bM b' i = bM b i ∧ bF b' i = bF b i) : CW t b' h := by
  obtain ⟨⟨q, k, A, cb, cL⟩, K, c4, c2, c5⟩ := C
  refine ⟨⟨q, k, A, by rw [e1]; exact cb, fun i hi => ?_⟩, fun X hX => ?_, c4, by rw [e1]; exact c2, c5⟩
  · rw [e1] at hi
    obtain ⟨z1, z2, z3⟩ := e i hi
    rw [z1, z2, z3]
    exact cL i hi
  · rw [K X hX, Bool.eq_iff_iff, kn_t, kn_t, e1]
    constructor
    · rintro ⟨i, h1, h2⟩; exact ⟨i, h1, by rw [(e i h1).1]; exact h2⟩
    · rintro ⟨i, h1, h2⟩; exact ⟨i, h1, by rw [← (e i h1).1]; exact h2⟩
theorem nxt_B {t : Bool} {g : Nat → Nat} (hg : pg_ok g) : ∀ x m s, x < 4096 * 25 → nxt t g x m = some s → s < 4096 * 25 := by
  cases t
  · exact nx1_b hg
  · exact nx2_b hg
theorem mxt_64 {t : Bool} {g : Nat → Nat} (hg : pg_ok g) : mxt t g ≤ 64 ∧ 0 < mxt t g := by
  have h24 : g 24 ≤ 6 := hg.1
  unfold mxt
  cases t
  · simp only [Bool.false_eq_true, if_false]; omega
  · simp only [if_true]; omega
/-- what a search comes to -/
def srR (t : Bool) (g : Nat → Nat) (s0 G li : Nat) (h h' : xe_H) : Prop := wq sW h h' ∧ ((bK (nxt t g) (mxt t g) s0 G < bend (nxt t g) (mxt t g) s0 ∧ bD (bZ (nxt t g) (mxt t g) s0) (bK (nxt t g) (mxt t g) s0 G) ≤ li ∧ xe_I h' 29 8 = nI (bK (nxt t g) (mxt t g) s0 G) ∧ xe_I h' 29 9 = nI (bD (bZ (nxt t g) (mxt t g) s0) (bK (nxt t g) (mxt t g) s0 G)) ∧ ∃ b', CW t b' h' ∧ bP b' (bZ (nxt t g) (mxt t g) s0) ∧ bK (nxt t g) (mxt t g) s0 G < b'.1) ∨ ((bK (nxt t g) (mxt t g) s0 G < bend (nxt t g) (mxt t g) s0 → li < bD (bZ (nxt t g) (mxt t g) s0) (bK (nxt t g) (mxt t g) s0 G)) ∧ xe_I h' 29 8 = -1 ∧ ∃ b', CW t b' h' ∧ (102400 ≤ li → b' = bZ (nxt t g) (mxt t g) s0)))
section WU
variable {d : Nat} {h : xe_H} {t : Bool} {g : Nat → Nat}
/-- the search's loop -/
theorem cl_loop {s0 G li : Nat} {x y : Int32} (hg : pg_ok g) (h0 : s0 < bnd t) (hli : li < 2 ^ 31) (H : sh h) (tv : tn_v h 1 g) (hG : gC t G h) : ∀ n k h1 le mi, k + n = bend (nxt t g) (mxt t g) s0 → wq sW h h1 → CW t (bB (nxt t g) (mxt t g) s0 k) h1 → (∀ i, i < (bB (nxt t g) (mxt t g) s0 k).1 → ¬ bS (bB (nxt t g) (mxt t g) s0 k) i / 4096 = G) → xe_I h1 29 8 = -1 → xe_I h1 29 9 = nI mi → k ≤ le → le ≤ (bB (nxt t g) (mxt t g) s0 k).1 → (∀ i, i < le → bD (bB (nxt t g) (mxt t g) s0 k) i ≤ mi) → (∀ i, le ≤ i → i < (bB (nxt t g) (mxt t g) s0 k).1 → mi + 1 ≤ bD (bB (nxt t g) (mxt t g) s0 k) i) → (∀ i, i < (bB (nxt t g) (mxt t g) s0 k).1 → bD (bB (nxt t g) (mxt t g) s0 k) i ≤ mi + 1) → (k < (bB (nxt t g) (mxt t g) s0 k).1 → mi ≤ bD (bB (nxt t g) (mxt t g) s0 k) k) → mi ≤ 102400 → xe_P (d + 5) 75 82 [.ref 29, .int x, .int y, .int (nI li), .int (nI le), .int (nI k)] [] h1 (fun r h' => r = none ∧ srR t g s0 G li h h') := by
  have hbt := bnd_le t
  have h0' : s0 < 4096 * 25 := by omega
  have hnB := nxt_B (t := t) hg
  have hnb : ∀ x m s, x < bnd t → nxt t g x m = some s → s < bnd t := fun x m s hx e => nxt_b hg hx e
  obtain ⟨E1, E2, E3⟩ := bend_ok (M := mxt t g) h0' hnB
  obtain ⟨M64, M0⟩ := mxt_64 (t := t) hg
  have sW29 : ∀ a j, sW a j → 29 ≤ a := fun a j z => by unfold sW at z; omega
  intro n
  induction n with
  | zero =>
    intro k h1 le mi hk W C no i8 i9 _ _ _ _ _ _ _
    have hk : k = bend (nxt t g) (mxt t g) s0 := by omega
    have H1 := W.1 H
    have c2 := C.2.2.2.1
    have e2 : (bB (nxt t g) (mxt t g) s0 k).1 = k := by rw [hk]; exact E2
    rw [e2] at c2
    simp only [xs_75_82, xs_75_84, xs_75_85, xs_75_88, xs_75_166, H1, sT_0, sT_1, sT_2, sN_2, sA_2, sT_3, sN_3, sA_3, sT_4, sN_4, sA_4, sT_5, sN_5, sA_5, sT_6, sN_6, sA_6, sT_7, sT_8, sN_8, sA_8, sT_9, sN_9, sA_9, sT_10, sN_10, sA_10, sT_11, sN_11, sA_11, sT_12, sN_12, sA_12, sT_13, sN_13, sT_14, sT_15, sN_15, sA_15, sT_16, sN_16, sA_16, sT_17, sN_17, sA_17, sT_18, sN_18, sA_18, sT_19, sN_19, sA_19, sT_20, sT_21, sN_21, sA_21, sT_22, sN_22, sA_22, sT_23, sN_23, sA_23, sT_24, sN_24, sA_24, sT_25, sN_25, sA_25, sT_26, sN_26, sB_26, sT_27, sT_28, sN_28, sB_28, sT_29, sT_30, sN_30, sT_32, sN_32, sA_32, sT_33, sT_34, sN_34, sA_34, sT_35, sN_35, sA_35, sT_36, sT_37, sN_37, sA_37, sT_38, sN_38, sA_38, sT_39, sN_39, sA_39, sT_40, sN_40, sB_40, sT_41, sN_41, sA_41, sT_42, sN_42, sA_42, sT_43, sN_43, sA_43, sT_44, sT_45, sN_45, sA_45, sT_46, sN_46, sA_46, sT_47, sN_47, sA_47, sR_1_7, sR_1_8, sR_1_9, sR_1_10, sR_1_11, sR_0_0, sR_7_7, sR_7_8, sR_7_9, sR_7_10, sR_7_11, sR_0_1, sR_0_2, sR_14_7, sR_14_8, sR_14_9, sR_14_10, sR_14_11, sR_13_0, sR_20_7, sR_20_8, sR_20_9, sR_20_10, sR_20_11, sR_13_1, sR_0_3, sR_0_4, sR_27_0, sR_0_5, sR_29_0, sR_29_3, sR_0_6, sR_33_1, sR_33_2, sR_0_7, sR_36_2, sR_36_3, sR_36_4, sR_36_5, sR_36_6, sR_36_7, sR_36_8, sR_0_8, sR_44_0, sR_44_1, sR_44_2, c2, le_t, rf_some, xc_int, xc_ref, xc_ret, xc_long, xw_nil, xw_int, xw_ref, xw_long, tl_some, tl_none, true_and, and_true, Nat.zero_le, Nat.reduceAdd, Nat.reduceMul, Nat.reduceLeDiff, Nat.reduceLT, Nat.reduceEqDiff, Nat.reducePow, Int32.reduceAdd, Int32.reduceMul, Int32.reduceSub, Int32.reduceLT, Int32.reduceLE, Int32.reduceToNatClampNeg, litE, ixU, not_false_eq_true, not_true_eq_false, ↓reduceIte, eq_self, true_or, or_true, false_and, and_false, or_false, false_or, i10, i01, in10, i1n, xbT, xbF, r_lt]
    refine ⟨W, Or.inr ⟨fun z => ?_, i8, _, C, fun _ => by rw [hk]; rfl⟩⟩
    exfalso
    have hit := bK_hit z
    have eZ : bZ (nxt t g) (mxt t g) s0 = bB (nxt t g) (mxt t g) s0 k := by rw [hk]; rfl
    rw [eZ] at hit
    exact no _ (by rw [e2, hk]; exact z) hit
  | succ n ih =>
    intro k h1 le mi hk W C no i8 i9 q1 q2 q3 q4 q5 q6 q7
    have hkE : k < bend (nxt t g) (mxt t g) s0 := by omega
    have hkc := E3 k hkE
    have H1 := W.1 H
    have c2 := C.2.2.2.1
    obtain ⟨g1, g2⟩ := bB_G (M := mxt t g) h0 hnb k
    have g2 := g2 hkc
    have hle := bG_le g1
    have bS1 : bB (nxt t g) (mxt t g) s0 (k + 1) = bX (nxt t g) k (mxt t g) (bB (nxt t g) (mxt t g) s0 k) := by rw [bB, if_pos hkc]
    have PZ := bZ_P (nx := nxt t g) (M := mxt t g) (s0 := s0) (k := k) (by omega)
    have PZ1 := bZ_P (nx := nxt t g) (M := mxt t g) (s0 := s0) (k := k + 1) (by omega)
    have deep := bB_deep (M := mxt t g) h0 hnb hkc (bend (nxt t g) (mxt t g) s0 - k)
    rw [show k + (bend (nxt t g) (mxt t g) s0 - k) = bend (nxt t g) (mxt t g) s0 by omega] at deep
    have hF : bF (bB (nxt t g) (mxt t g) s0 k) k < 102400 := by
      by_cases z : k = 0
      · rw [z]; show (0 : Nat) < 102400; omega
      · have := (g1.2.2.2.2.1 k (by omega) hkc).1; omega
    have e3 : ((102400 : Int32) ≤ nI k) = False := eq_false (by rw [show (102400 : Int32) = nI 102400 from rfl, nI_leI (by omega) (by omega)]; omega)
    have bdk := bD_le g1 k hkc
    /- from where minutes are the head's depth -/
    have go : ∀ h2 le, wq sW h h2 → CW t (bB (nxt t g) (mxt t g) s0 k) h2 → xe_I h2 29 8 = -1 → xe_I h2 29 9 = nI (bD (bB (nxt t g) (mxt t g) s0 k) k) → k < le → le ≤ (bB (nxt t g) (mxt t g) s0 k).1 → (∀ i, i < le → bD (bB (nxt t g) (mxt t g) s0 k) i ≤ bD (bB (nxt t g) (mxt t g) s0 k) k) → (∀ i, le ≤ i → i < (bB (nxt t g) (mxt t g) s0 k).1 → bD (bB (nxt t g) (mxt t g) s0 k) k + 1 ≤ bD (bB (nxt t g) (mxt t g) s0 k) i) → xe_P (d + 5) 75 121 [.ref 29, .int x, .int y, .int (nI li), .int (nI le), .int (nI k)] [] h2 (fun r h' => r = none ∧ srR t g s0 G li h h') := by
      intro h2 le W2 C2 j8 j9 r1 r2 r3 r4
      have H2 := W2.1 H
      have tv2 := tv_wq tv W2 sW29
      have gc2 : gC t G h2 := gC_c hG (W2.2.2 29 6 (by unfold sW; omega) (by omega)) (W2.2.2 29 7 (by unfold sW; omega) (by omega))
      by_cases lm : bD (bB (nxt t g) (mxt t g) s0 k) k < li
      · have e4 : (nI (bD (bB (nxt t g) (mxt t g) s0 k) k) < nI li) = True := eq_true (nI_lt lm hli)
        simp only [xs_75_121, xs_75_122, xs_75_125, xs_75_126, xs_75_129, xs_75_130, xs_75_131, xs_75_133, H2, sT_0, sT_1, sT_2, sN_2, sA_2, sT_3, sN_3, sA_3, sT_4, sN_4, sA_4, sT_5, sN_5, sA_5, sT_6, sN_6, sA_6, sT_7, sT_8, sN_8, sA_8, sT_9, sN_9, sA_9, sT_10, sN_10, sA_10, sT_11, sN_11, sA_11, sT_12, sN_12, sA_12, sT_13, sN_13, sT_14, sT_15, sN_15, sA_15, sT_16, sN_16, sA_16, sT_17, sN_17, sA_17, sT_18, sN_18, sA_18, sT_19, sN_19, sA_19, sT_20, sT_21, sN_21, sA_21, sT_22, sN_22, sA_22, sT_23, sN_23, sA_23, sT_24, sN_24, sA_24, sT_25, sN_25, sA_25, sT_26, sN_26, sB_26, sT_27, sT_28, sN_28, sB_28, sT_29, sT_30, sN_30, sT_32, sN_32, sA_32, sT_33, sT_34, sN_34, sA_34, sT_35, sN_35, sA_35, sT_36, sT_37, sN_37, sA_37, sT_38, sN_38, sA_38, sT_39, sN_39, sA_39, sT_40, sN_40, sB_40, sT_41, sN_41, sA_41, sT_42, sN_42, sA_42, sT_43, sN_43, sA_43, sT_44, sT_45, sN_45, sA_45, sT_46, sN_46, sA_46, sT_47, sN_47, sA_47, sR_1_7, sR_1_8, sR_1_9, sR_1_10, sR_1_11, sR_0_0, sR_7_7, sR_7_8, sR_7_9, sR_7_10, sR_7_11, sR_0_1, sR_0_2, sR_14_7, sR_14_8, sR_14_9, sR_14_10, sR_14_11, sR_13_0, sR_20_7, sR_20_8, sR_20_9, sR_20_10, sR_20_11, sR_13_1, sR_0_3, sR_0_4, sR_27_0, sR_0_5, sR_29_0, sR_29_3, sR_0_6, sR_33_1, sR_33_2, sR_0_7, sR_36_2, sR_36_3, sR_36_4, sR_36_5, sR_36_6, sR_36_7, sR_36_8, sR_0_8, sR_44_0, sR_44_1, sR_44_2, j9, e4, rf_some, xc_int, xc_ref, xc_ret, xc_long, xw_nil, xw_int, xw_ref, xw_long, tl_some, tl_none, true_and, and_true, Nat.zero_le, Nat.reduceAdd, Nat.reduceMul, Nat.reduceLeDiff, Nat.reduceLT, Nat.reduceEqDiff, Nat.reducePow, Int32.reduceAdd, Int32.reduceMul, Int32.reduceSub, Int32.reduceLT, Int32.reduceLE, Int32.reduceToNatClampNeg, litE, ixU, not_false_eq_true, not_true_eq_false, ↓reduceIte, eq_self, true_or, or_true, false_and, and_false, or_false, false_or, i10, i01, in10, i1n, xbT, xbF, r_lt]
        refine xe_C_mono (cl_spread (d := d + 1) hg hkc g1 g2 (bN_B M64 k) hF no H2 tv2 C2 gc2) ?_
        rintro r h3 ⟨W3, R⟩
        have W3' : wq sW h2 h3 := wq_sub W3 (fun a j z => by unfold sQ at z; unfold sW; omega)
        have W4 := wq_tr W2 W3'
        have H3 := W4.1 H
        have k8 : xe_I h3 29 8 = -1 := by rw [W3.2.2 29 8 (by unfold sQ; omega) (by omega)]; exact j8
        have k9 : xe_I h3 29 9 = nI (bD (bB (nxt t g) (mxt t g) s0 k) k) := by rw [W3.2.2 29 9 (by unfold sQ; omega) (by omega)]; exact j9
        have PX := bX_P (nxt t g) k (bB (nxt t g) (mxt t g) s0 k) (mxt t g)
        rcases R with ⟨rfl, C3, no3⟩ | ⟨rfl, b', j, C3, P3, cn3, go3, no3⟩
        · obtain ⟨x1, x2⟩ := bX_G g1 hnb hkc g2 (mxt t g)
          have xn := bX_new (nx := nxt t g) hkc (mxt t g)
          rw [← bS1] at C3 no3 PX x1 x2 xn
          have eD := (bP_S PX hkc).2.1
          have fin := ih (k + 1) h3 le (bD (bB (nxt t g) (mxt t g) s0 k) k) (by omega) W4 C3 no3 k8 k9 (by omega) (Nat.le_trans r2 PX.1) (fun i hi => by rw [(bP_S PX (show i < _ by omega)).2.1]; exact r3 i hi) (fun i h1 h2 => by
            by_cases z : i < (bB (nxt t g) (mxt t g) s0 k).1
            · rw [(bP_S PX z).2.1]; exact r4 i h1 z
            · rw [xn i (by omega) h2]; exact Nat.le_refl _) x2 (fun z => by
            have := x1.2.2.2.2.2 k (k + 1) (by omega) z
            rw [eD] at this
            exact this) (by omega)
          simp only [xs_75_136, xs_75_160, xs_75_163, nI_1, rf_some, xc_int, xc_ref, xc_ret, xc_long, xw_nil, xw_int, xw_ref, xw_long, tl_some, tl_none, true_and, and_true, Nat.zero_le, Nat.reduceAdd, Nat.reduceMul, Nat.reduceLeDiff, Nat.reduceLT, Nat.reduceEqDiff, Nat.reducePow, Int32.reduceAdd, Int32.reduceMul, Int32.reduceSub, Int32.reduceLT, Int32.reduceLE, Int32.reduceToNatClampNeg, litE, ixU, not_false_eq_true, not_true_eq_false, ↓reduceIte, eq_self, true_or, or_true, false_and, and_false, or_false, false_or, i10, i01, in10, i1n, xbT, xbF, r_lt]
          exact fin
        · rw [← bS1] at P3
          have PZ3 := bP_tr P3 PZ1
          have hj : j < b'.1 := by omega
          have sZ : ∀ i, i ≤ j → bS (bZ (nxt t g) (mxt t g) s0) i = bS b' i := fun i hi => (bP_S PZ3 (by omega)).1
          have jE : j < bend (nxt t g) (mxt t g) s0 := by have := PZ3.1; rw [E2] at this; omega
          have eK : bK (nxt t g) (mxt t g) s0 G = j := ff_at (fun i hi => decide_eq_false (by rw [sZ i (by omega)]; exact no3 i hi)) jE (decide_eq_true (by rw [sZ j (by omega)]; exact go3))
          have jb : (bB (nxt t g) (mxt t g) s0 k).1 ≤ j := Nat.le_of_not_lt (fun z => by
            have e : bS b' j = bS (bB (nxt t g) (mxt t g) s0 k) j := by rw [← sZ j (by omega)]; exact (bP_S PZ z).1
            rw [e] at go3
            exact no j z go3)
          have eD : bD (bZ (nxt t g) (mxt t g) s0) j = bD (bB (nxt t g) (mxt t g) s0 k) k + 1 := by
            have j1 : j < (bB (nxt t g) (mxt t g) s0 (k + 1)).1 := Nat.lt_of_lt_of_le hj P3.1
            rw [(bP_S PZ1 j1).2.1, bS1]
            exact bX_new hkc (mxt t g) j jb (by rw [← bS1]; exact j1)
          have d2 := C3.2.2.2.1
          rw [cn3] at d2
          have em : nI (j + 1) - 1 = nI j := nI_pred _
          have i2 : ∀ v, xe_I (xe_sI h3 29 9 v) 29 2 = nI (j + 1) := fun v => by rw [hI_sI, if_neg (by omega)]; exact d2
          simp only [xs_75_136, xs_75_139, xs_75_140, xs_75_140i, xs_75_141, xs_75_144, xs_75_145, xs_75_146, xs_75_149, xs_75_150, xs_75_151, xs_75_154, xs_75_155, xs_75_156, xs_75_159, H3, sT_0, sT_1, sT_2, sN_2, sA_2, sT_3, sN_3, sA_3, sT_4, sN_4, sA_4, sT_5, sN_5, sA_5, sT_6, sN_6, sA_6, sT_7, sT_8, sN_8, sA_8, sT_9, sN_9, sA_9, sT_10, sN_10, sA_10, sT_11, sN_11, sA_11, sT_12, sN_12, sA_12, sT_13, sN_13, sT_14, sT_15, sN_15, sA_15, sT_16, sN_16, sA_16, sT_17, sN_17, sA_17, sT_18, sN_18, sA_18, sT_19, sN_19, sA_19, sT_20, sT_21, sN_21, sA_21, sT_22, sN_22, sA_22, sT_23, sN_23, sA_23, sT_24, sN_24, sA_24, sT_25, sN_25, sA_25, sT_26, sN_26, sB_26, sT_27, sT_28, sN_28, sB_28, sT_29, sT_30, sN_30, sT_32, sN_32, sA_32, sT_33, sT_34, sN_34, sA_34, sT_35, sN_35, sA_35, sT_36, sT_37, sN_37, sA_37, sT_38, sN_38, sA_38, sT_39, sN_39, sA_39, sT_40, sN_40, sB_40, sT_41, sN_41, sA_41, sT_42, sN_42, sA_42, sT_43, sN_43, sA_43, sT_44, sT_45, sN_45, sA_45, sT_46, sN_46, sA_46, sT_47, sN_47, sA_47, sR_1_7, sR_1_8, sR_1_9, sR_1_10, sR_1_11, sR_0_0, sR_7_7, sR_7_8, sR_7_9, sR_7_10, sR_7_11, sR_0_1, sR_0_2, sR_14_7, sR_14_8, sR_14_9, sR_14_10, sR_14_11, sR_13_0, sR_20_7, sR_20_8, sR_20_9, sR_20_10, sR_20_11, sR_13_1, sR_0_3, sR_0_4, sR_27_0, sR_0_5, sR_29_0, sR_29_3, sR_0_6, sR_33_1, sR_33_2, sR_0_7, sR_36_2, sR_36_3, sR_36_4, sR_36_5, sR_36_6, sR_36_7, sR_36_8, sR_0_8, sR_44_0, sR_44_1, sR_44_2, k9, i2, em, nI_1, sh_sI, ho_sI, rf_some, xc_int, xc_ref, xc_ret, xc_long, xw_nil, xw_int, xw_ref, xw_long, tl_some, tl_none, true_and, and_true, Nat.zero_le, Nat.reduceAdd, Nat.reduceMul, Nat.reduceLeDiff, Nat.reduceLT, Nat.reduceEqDiff, Nat.reducePow, Int32.reduceAdd, Int32.reduceMul, Int32.reduceSub, Int32.reduceLT, Int32.reduceLE, Int32.reduceToNatClampNeg, litE, ixU, not_false_eq_true, not_true_eq_false, ↓reduceIte, eq_self, true_or, or_true, false_and, and_false, or_false, false_or, i10, i01, in10, i1n, xbT, xbF, r_lt]
          refine ⟨wq_sI (wq_sI W4 (by unfold sW; omega)) (by unfold sW; omega), Or.inl ⟨by rw [eK]; exact jE, by rw [eK, eD]; omega, ?_, ?_, b', CW_s9 (by decide) (by decide) (CW_s9 (by decide) (by decide) C3), PZ3, by rw [eK]; exact hj⟩⟩
          · rw [hI_sI, if_pos ⟨rfl, rfl⟩, eK]
          · rw [hI_sI, if_neg (by omega), hI_sI, if_pos ⟨rfl, rfl⟩, eK, eD]
      · have e4 : (nI (bD (bB (nxt t g) (mxt t g) s0 k) k) < nI li) = False := eq_false (by rw [nI_ltI (by omega) hli]; exact lm)
        simp only [xs_75_121, xs_75_122, xs_75_125, xs_75_126, xs_75_129, H2, sT_0, sT_1, sT_2, sN_2, sA_2, sT_3, sN_3, sA_3, sT_4, sN_4, sA_4, sT_5, sN_5, sA_5, sT_6, sN_6, sA_6, sT_7, sT_8, sN_8, sA_8, sT_9, sN_9, sA_9, sT_10, sN_10, sA_10, sT_11, sN_11, sA_11, sT_12, sN_12, sA_12, sT_13, sN_13, sT_14, sT_15, sN_15, sA_15, sT_16, sN_16, sA_16, sT_17, sN_17, sA_17, sT_18, sN_18, sA_18, sT_19, sN_19, sA_19, sT_20, sT_21, sN_21, sA_21, sT_22, sN_22, sA_22, sT_23, sN_23, sA_23, sT_24, sN_24, sA_24, sT_25, sN_25, sA_25, sT_26, sN_26, sB_26, sT_27, sT_28, sN_28, sB_28, sT_29, sT_30, sN_30, sT_32, sN_32, sA_32, sT_33, sT_34, sN_34, sA_34, sT_35, sN_35, sA_35, sT_36, sT_37, sN_37, sA_37, sT_38, sN_38, sA_38, sT_39, sN_39, sA_39, sT_40, sN_40, sB_40, sT_41, sN_41, sA_41, sT_42, sN_42, sA_42, sT_43, sN_43, sA_43, sT_44, sT_45, sN_45, sA_45, sT_46, sN_46, sA_46, sT_47, sN_47, sA_47, sR_1_7, sR_1_8, sR_1_9, sR_1_10, sR_1_11, sR_0_0, sR_7_7, sR_7_8, sR_7_9, sR_7_10, sR_7_11, sR_0_1, sR_0_2, sR_14_7, sR_14_8, sR_14_9, sR_14_10, sR_14_11, sR_13_0, sR_20_7, sR_20_8, sR_20_9, sR_20_10, sR_20_11, sR_13_1, sR_0_3, sR_0_4, sR_27_0, sR_0_5, sR_29_0, sR_29_3, sR_0_6, sR_33_1, sR_33_2, sR_0_7, sR_36_2, sR_36_3, sR_36_4, sR_36_5, sR_36_6, sR_36_7, sR_36_8, sR_0_8, sR_44_0, sR_44_1, sR_44_2, j9, e4, rf_some, xc_int, xc_ref, xc_ret, xc_long, xw_nil, xw_int, xw_ref, xw_long, tl_some, tl_none, true_and, and_true, Nat.zero_le, Nat.reduceAdd, Nat.reduceMul, Nat.reduceLeDiff, Nat.reduceLT, Nat.reduceEqDiff, Nat.reducePow, Int32.reduceAdd, Int32.reduceMul, Int32.reduceSub, Int32.reduceLT, Int32.reduceLE, Int32.reduceToNatClampNeg, litE, ixU, not_false_eq_true, not_true_eq_false, ↓reduceIte, eq_self, true_or, or_true, false_and, and_false, or_false, false_or, i10, i01, in10, i1n, xbT, xbF, r_lt]
        refine ⟨W2, Or.inr ⟨fun z => ?_, j8, _, C2, fun z => by omega⟩⟩
        have hit := bK_hit z
        have hK : (bB (nxt t g) (mxt t g) s0 k).1 ≤ bK (nxt t g) (mxt t g) s0 G := Nat.le_of_not_lt (fun y => by
          rw [(bP_S PZ y).1] at hit
          exact no _ y hit)
        have := deep _ hK (by rw [show bB (nxt t g) (mxt t g) s0 (bend (nxt t g) (mxt t g) s0) = bZ (nxt t g) (mxt t g) s0 from rfl, E2]; exact z)
        rw [show bB (nxt t g) (mxt t g) s0 (bend (nxt t g) (mxt t g) s0) = bZ (nxt t g) (mxt t g) s0 from rfl] at this
        omega
    rw [xs_75_82]
    by_cases lv : k = le
    · have e5 : (nI k = nI le) = True := by rw [nIe (by omega) (by omega)]; exact eq_true lv
      have ed : bD (bB (nxt t g) (mxt t g) s0 k) k = mi + 1 := by
        have y1 := q4 k (by omega) hkc
        have y2 := q5 k hkc
        omega
      have fin := go (xe_sI h1 29 9 (nI (mi + 1))) (bB (nxt t g) (mxt t g) s0 k).1 (wq_sI W (by unfold sW; omega)) (CW_s9 (by decide) (by decide) C) (by rw [hI_sI, if_neg (by omega)]; exact i8) (by rw [hI_sI, if_pos ⟨rfl, rfl⟩, ed]) hkc (Nat.le_refl _) (fun i hi => by rw [ed]; exact q5 i hi) (fun i z1 z2 => absurd z2 (by omega))
      have i2 : ∀ v, xe_I (xe_sI h1 29 9 v) 29 2 = nI (bB (nxt t g) (mxt t g) s0 k).1 := fun v => by rw [hI_sI, if_neg (by omega)]; exact c2
      simp only [xs_75_84, xs_75_85, xs_75_88, xs_75_91, xs_75_93, xs_75_95, xs_75_98, xs_75_100, xs_75_102, xs_75_105, xs_75_106, xs_75_106i, xs_75_107, xs_75_110, xs_75_111, xs_75_112, xs_75_115, xs_75_116, xs_75_119, H1, sT_0, sT_1, sT_2, sN_2, sA_2, sT_3, sN_3, sA_3, sT_4, sN_4, sA_4, sT_5, sN_5, sA_5, sT_6, sN_6, sA_6, sT_7, sT_8, sN_8, sA_8, sT_9, sN_9, sA_9, sT_10, sN_10, sA_10, sT_11, sN_11, sA_11, sT_12, sN_12, sA_12, sT_13, sN_13, sT_14, sT_15, sN_15, sA_15, sT_16, sN_16, sA_16, sT_17, sN_17, sA_17, sT_18, sN_18, sA_18, sT_19, sN_19, sA_19, sT_20, sT_21, sN_21, sA_21, sT_22, sN_22, sA_22, sT_23, sN_23, sA_23, sT_24, sN_24, sA_24, sT_25, sN_25, sA_25, sT_26, sN_26, sB_26, sT_27, sT_28, sN_28, sB_28, sT_29, sT_30, sN_30, sT_32, sN_32, sA_32, sT_33, sT_34, sN_34, sA_34, sT_35, sN_35, sA_35, sT_36, sT_37, sN_37, sA_37, sT_38, sN_38, sA_38, sT_39, sN_39, sA_39, sT_40, sN_40, sB_40, sT_41, sN_41, sA_41, sT_42, sN_42, sA_42, sT_43, sN_43, sA_43, sT_44, sT_45, sN_45, sA_45, sT_46, sN_46, sA_46, sT_47, sN_47, sA_47, sR_1_7, sR_1_8, sR_1_9, sR_1_10, sR_1_11, sR_0_0, sR_7_7, sR_7_8, sR_7_9, sR_7_10, sR_7_11, sR_0_1, sR_0_2, sR_14_7, sR_14_8, sR_14_9, sR_14_10, sR_14_11, sR_13_0, sR_20_7, sR_20_8, sR_20_9, sR_20_10, sR_20_11, sR_13_1, sR_0_3, sR_0_4, sR_27_0, sR_0_5, sR_29_0, sR_29_3, sR_0_6, sR_33_1, sR_33_2, sR_0_7, sR_36_2, sR_36_3, sR_36_4, sR_36_5, sR_36_6, sR_36_7, sR_36_8, sR_0_8, sR_44_0, sR_44_1, sR_44_2, c2, lt_f hkc (show (bB (nxt t g) (mxt t g) s0 k).1 < 2 ^ 31 by omega), e3, e5, i9, i2, nI_1, sh_sI, ho_sI, rf_some, xc_int, xc_ref, xc_ret, xc_long, xw_nil, xw_int, xw_ref, xw_long, tl_some, tl_none, true_and, and_true, Nat.zero_le, Nat.reduceAdd, Nat.reduceMul, Nat.reduceLeDiff, Nat.reduceLT, Nat.reduceEqDiff, Nat.reducePow, Int32.reduceAdd, Int32.reduceMul, Int32.reduceSub, Int32.reduceLT, Int32.reduceLE, Int32.reduceToNatClampNeg, litE, ixU, not_false_eq_true, not_true_eq_false, ↓reduceIte, eq_self, true_or, or_true, false_and, and_false, or_false, false_or, i10, i01, in10, i1n, xbT, xbF, r_lt]
      exact fin
    · have e5 : (nI k = nI le) = False := by rw [nIe (by omega) (by omega)]; exact eq_false lv
      have ed : bD (bB (nxt t g) (mxt t g) s0 k) k = mi := by
        have y1 := q3 k (by omega)
        have y2 := q6 hkc
        omega
      have fin := go h1 le W C i8 (by rw [ed]; exact i9) (by omega) q2 (fun i hi => by rw [ed]; exact q3 i hi) (fun i z1 z2 => by rw [ed]; exact q4 i z1 z2)
      simp only [xs_75_84, xs_75_85, xs_75_88, xs_75_91, xs_75_93, xs_75_95, xs_75_98, xs_75_100, xs_75_102, H1, sT_0, sT_1, sT_2, sN_2, sA_2, sT_3, sN_3, sA_3, sT_4, sN_4, sA_4, sT_5, sN_5, sA_5, sT_6, sN_6, sA_6, sT_7, sT_8, sN_8, sA_8, sT_9, sN_9, sA_9, sT_10, sN_10, sA_10, sT_11, sN_11, sA_11, sT_12, sN_12, sA_12, sT_13, sN_13, sT_14, sT_15, sN_15, sA_15, sT_16, sN_16, sA_16, sT_17, sN_17, sA_17, sT_18, sN_18, sA_18, sT_19, sN_19, sA_19, sT_20, sT_21, sN_21, sA_21, sT_22, sN_22, sA_22, sT_23, sN_23, sA_23, sT_24, sN_24, sA_24, sT_25, sN_25, sA_25, sT_26, sN_26, sB_26, sT_27, sT_28, sN_28, sB_28, sT_29, sT_30, sN_30, sT_32, sN_32, sA_32, sT_33, sT_34, sN_34, sA_34, sT_35, sN_35, sA_35, sT_36, sT_37, sN_37, sA_37, sT_38, sN_38, sA_38, sT_39, sN_39, sA_39, sT_40, sN_40, sB_40, sT_41, sN_41, sA_41, sT_42, sN_42, sA_42, sT_43, sN_43, sA_43, sT_44, sT_45, sN_45, sA_45, sT_46, sN_46, sA_46, sT_47, sN_47, sA_47, sR_1_7, sR_1_8, sR_1_9, sR_1_10, sR_1_11, sR_0_0, sR_7_7, sR_7_8, sR_7_9, sR_7_10, sR_7_11, sR_0_1, sR_0_2, sR_14_7, sR_14_8, sR_14_9, sR_14_10, sR_14_11, sR_13_0, sR_20_7, sR_20_8, sR_20_9, sR_20_10, sR_20_11, sR_13_1, sR_0_3, sR_0_4, sR_27_0, sR_0_5, sR_29_0, sR_29_3, sR_0_6, sR_33_1, sR_33_2, sR_0_7, sR_36_2, sR_36_3, sR_36_4, sR_36_5, sR_36_6, sR_36_7, sR_36_8, sR_0_8, sR_44_0, sR_44_1, sR_44_2, c2, lt_f hkc (show (bB (nxt t g) (mxt t g) s0 k).1 < 2 ^ 31 by omega), e3, e5, rf_some, xc_int, xc_ref, xc_ret, xc_long, xw_nil, xw_int, xw_ref, xw_long, tl_some, tl_none, true_and, and_true, Nat.zero_le, Nat.reduceAdd, Nat.reduceMul, Nat.reduceLeDiff, Nat.reduceLT, Nat.reduceEqDiff, Nat.reducePow, Int32.reduceAdd, Int32.reduceMul, Int32.reduceSub, Int32.reduceLT, Int32.reduceLE, Int32.reduceToNatClampNeg, litE, ixU, not_false_eq_true, not_true_eq_false, ↓reduceIte, eq_self, true_or, or_true, false_and, and_false, or_false, false_or, i10, i01, in10, i1n, xbT, xbF, r_lt]
      exact fin
end WU
