/-! ways: goals; both kinds of a minute at once -/
def wB (t : Bool) : Nat := if t then 25 else 5
theorem bnd_B {t : Bool} {X : Nat} : X < bnd t ↔ X / 4096 < wB t := by
  unfold bnd wB
  cases t
  · simp only [Bool.false_eq_true, if_false]; omega
  · simp only [if_true]; omega
/-- the class's goals are G -/
def gC (t : Bool) (G : Nat) (h : xe_H) : Prop := ∀ w, w < wB t → ((nI (we t w) = xe_I h 29 6 ∧ (t = false ∨ nI (wl t w) = xe_I h 29 7)) ↔ w = G)
theorem gC_c {t : Bool} {G : Nat} {h h' : xe_H} (H : gC t G h) (e6 : xe_I h' 29 6 = xe_I h 29 6) (e7 : xe_I h' 29 7 = xe_I h 29 7) : gC t G h' := by
  unfold gC
  rw [e6, e7]
  exact H
section WG
variable {d : Nat} {h : xe_H} {t : Bool} {g : Nat → Nat} {Q : Option Value → xe_H → Prop}
theorem cl_atGoals {G w : Nat} (hw : w < wB t) (H : sh h) (c5 : xe_I h 29 5 = (if t then 1 else 0)) (hG : gC t G h) : xe_C (d + 1) 77 [.ref 29, .int (nI (we t w)), .int (nI (wl t w))] h Q = Q (some (.int (xb (w = G)))) h := by
  have g1 := hG w hw
  by_cases y1 : nI (we t w) = xe_I h 29 6
  · cases t with
    | false =>
      have z : w = G := g1.mp ⟨y1, Or.inl rfl⟩
      have c5 : xe_I h 29 5 = 0 := c5
      simp only [xs_77, xs_77_0, xs_77_1, xs_77_2, xs_77_5, xs_77_8, xs_77_9, xs_77_12, xs_77_15, xs_77_16, xs_77_17, xs_77_20, xs_77_23, xs_77_24, xs_77_27, xs_77_28, H, sT_0, sT_1, sT_2, sN_2, sA_2, sT_3, sN_3, sA_3, sT_4, sN_4, sA_4, sT_5, sN_5, sA_5, sT_6, sN_6, sA_6, sT_7, sT_8, sN_8, sA_8, sT_9, sN_9, sA_9, sT_10, sN_10, sA_10, sT_11, sN_11, sA_11, sT_12, sN_12, sA_12, sT_13, sN_13, sT_14, sT_15, sN_15, sA_15, sT_16, sN_16, sA_16, sT_17, sN_17, sA_17, sT_18, sN_18, sA_18, sT_19, sN_19, sA_19, sT_20, sT_21, sN_21, sA_21, sT_22, sN_22, sA_22, sT_23, sN_23, sA_23, sT_24, sN_24, sA_24, sT_25, sN_25, sA_25, sT_26, sN_26, sB_26, sT_27, sT_28, sN_28, sB_28, sT_29, sT_30, sN_30, sT_32, sN_32, sA_32, sT_33, sT_34, sN_34, sA_34, sT_35, sN_35, sA_35, sT_36, sT_37, sN_37, sA_37, sT_38, sN_38, sA_38, sT_39, sN_39, sA_39, sT_40, sN_40, sB_40, sT_41, sN_41, sA_41, sT_42, sN_42, sA_42, sT_43, sN_43, sA_43, sT_44, sT_45, sN_45, sA_45, sT_46, sN_46, sA_46, sT_47, sN_47, sA_47, sR_1_7, sR_1_8, sR_1_9, sR_1_10, sR_1_11, sR_0_0, sR_7_7, sR_7_8, sR_7_9, sR_7_10, sR_7_11, sR_0_1, sR_0_2, sR_14_7, sR_14_8, sR_14_9, sR_14_10, sR_14_11, sR_13_0, sR_20_7, sR_20_8, sR_20_9, sR_20_10, sR_20_11, sR_13_1, sR_0_3, sR_0_4, sR_27_0, sR_0_5, sR_29_0, sR_29_3, sR_0_6, sR_33_1, sR_33_2, sR_0_7, sR_36_2, sR_36_3, sR_36_4, sR_36_5, sR_36_6, sR_36_7, sR_36_8, sR_0_8, sR_44_0, sR_44_1, sR_44_2, eq_true y1, c5, rf_some, xc_int, xc_ref, xc_ret, xc_long, xw_nil, xw_int, xw_ref, xw_long, tl_some, tl_none, true_and, and_true, Nat.zero_le, Nat.reduceAdd, Nat.reduceMul, Nat.reduceLeDiff, Nat.reduceLT, Nat.reduceEqDiff, Nat.reducePow, Int32.reduceAdd, Int32.reduceMul, Int32.reduceSub, Int32.reduceLT, Int32.reduceLE, Int32.reduceToNatClampNeg, litE, ixU, not_false_eq_true, not_true_eq_false, ↓reduceIte, eq_self, true_or, or_true, false_and, and_false, or_false, false_or, i10, i01, in10, i1n, xbT, xbF, r_lt]
      rw [xb_t z]
    | true =>
      have c5 : xe_I h 29 5 = 1 := c5
      by_cases y2 : nI (wl true w) = xe_I h 29 7
      · have z : w = G := g1.mp ⟨y1, Or.inr y2⟩
        simp only [xs_77, xs_77_0, xs_77_1, xs_77_2, xs_77_5, xs_77_8, xs_77_9, xs_77_12, xs_77_15, xs_77_16, xs_77_17, xs_77_20, xs_77_23, xs_77_24, xs_77_27, xs_77_28, H, sT_0, sT_1, sT_2, sN_2, sA_2, sT_3, sN_3, sA_3, sT_4, sN_4, sA_4, sT_5, sN_5, sA_5, sT_6, sN_6, sA_6, sT_7, sT_8, sN_8, sA_8, sT_9, sN_9, sA_9, sT_10, sN_10, sA_10, sT_11, sN_11, sA_11, sT_12, sN_12, sA_12, sT_13, sN_13, sT_14, sT_15, sN_15, sA_15, sT_16, sN_16, sA_16, sT_17, sN_17, sA_17, sT_18, sN_18, sA_18, sT_19, sN_19, sA_19, sT_20, sT_21, sN_21, sA_21, sT_22, sN_22, sA_22, sT_23, sN_23, sA_23, sT_24, sN_24, sA_24, sT_25, sN_25, sA_25, sT_26, sN_26, sB_26, sT_27, sT_28, sN_28, sB_28, sT_29, sT_30, sN_30, sT_32, sN_32, sA_32, sT_33, sT_34, sN_34, sA_34, sT_35, sN_35, sA_35, sT_36, sT_37, sN_37, sA_37, sT_38, sN_38, sA_38, sT_39, sN_39, sA_39, sT_40, sN_40, sB_40, sT_41, sN_41, sA_41, sT_42, sN_42, sA_42, sT_43, sN_43, sA_43, sT_44, sT_45, sN_45, sA_45, sT_46, sN_46, sA_46, sT_47, sN_47, sA_47, sR_1_7, sR_1_8, sR_1_9, sR_1_10, sR_1_11, sR_0_0, sR_7_7, sR_7_8, sR_7_9, sR_7_10, sR_7_11, sR_0_1, sR_0_2, sR_14_7, sR_14_8, sR_14_9, sR_14_10, sR_14_11, sR_13_0, sR_20_7, sR_20_8, sR_20_9, sR_20_10, sR_20_11, sR_13_1, sR_0_3, sR_0_4, sR_27_0, sR_0_5, sR_29_0, sR_29_3, sR_0_6, sR_33_1, sR_33_2, sR_0_7, sR_36_2, sR_36_3, sR_36_4, sR_36_5, sR_36_6, sR_36_7, sR_36_8, sR_0_8, sR_44_0, sR_44_1, sR_44_2, eq_true y1, eq_true y2, c5, rf_some, xc_int, xc_ref, xc_ret, xc_long, xw_nil, xw_int, xw_ref, xw_long, tl_some, tl_none, true_and, and_true, Nat.zero_le, Nat.reduceAdd, Nat.reduceMul, Nat.reduceLeDiff, Nat.reduceLT, Nat.reduceEqDiff, Nat.reducePow, Int32.reduceAdd, Int32.reduceMul, Int32.reduceSub, Int32.reduceLT, Int32.reduceLE, Int32.reduceToNatClampNeg, litE, ixU, not_false_eq_true, not_true_eq_false, ↓reduceIte, eq_self, true_or, or_true, false_and, and_false, or_false, false_or, i10, i01, in10, i1n, xbT, xbF, r_lt]
        rw [xb_t z]
      · have z : ¬ w = G := fun q => by
          rcases (g1.mpr q).2 with y | y
          · cases y
          · exact y2 y
        simp only [xs_77, xs_77_0, xs_77_1, xs_77_2, xs_77_5, xs_77_8, xs_77_9, xs_77_12, xs_77_15, xs_77_16, xs_77_17, xs_77_20, xs_77_23, xs_77_24, xs_77_27, xs_77_28, H, sT_0, sT_1, sT_2, sN_2, sA_2, sT_3, sN_3, sA_3, sT_4, sN_4, sA_4, sT_5, sN_5, sA_5, sT_6, sN_6, sA_6, sT_7, sT_8, sN_8, sA_8, sT_9, sN_9, sA_9, sT_10, sN_10, sA_10, sT_11, sN_11, sA_11, sT_12, sN_12, sA_12, sT_13, sN_13, sT_14, sT_15, sN_15, sA_15, sT_16, sN_16, sA_16, sT_17, sN_17, sA_17, sT_18, sN_18, sA_18, sT_19, sN_19, sA_19, sT_20, sT_21, sN_21, sA_21, sT_22, sN_22, sA_22, sT_23, sN_23, sA_23, sT_24, sN_24, sA_24, sT_25, sN_25, sA_25, sT_26, sN_26, sB_26, sT_27, sT_28, sN_28, sB_28, sT_29, sT_30, sN_30, sT_32, sN_32, sA_32, sT_33, sT_34, sN_34, sA_34, sT_35, sN_35, sA_35, sT_36, sT_37, sN_37, sA_37, sT_38, sN_38, sA_38, sT_39, sN_39, sA_39, sT_40, sN_40, sB_40, sT_41, sN_41, sA_41, sT_42, sN_42, sA_42, sT_43, sN_43, sA_43, sT_44, sT_45, sN_45, sA_45, sT_46, sN_46, sA_46, sT_47, sN_47, sA_47, sR_1_7, sR_1_8, sR_1_9, sR_1_10, sR_1_11, sR_0_0, sR_7_7, sR_7_8, sR_7_9, sR_7_10, sR_7_11, sR_0_1, sR_0_2, sR_14_7, sR_14_8, sR_14_9, sR_14_10, sR_14_11, sR_13_0, sR_20_7, sR_20_8, sR_20_9, sR_20_10, sR_20_11, sR_13_1, sR_0_3, sR_0_4, sR_27_0, sR_0_5, sR_29_0, sR_29_3, sR_0_6, sR_33_1, sR_33_2, sR_0_7, sR_36_2, sR_36_3, sR_36_4, sR_36_5, sR_36_6, sR_36_7, sR_36_8, sR_0_8, sR_44_0, sR_44_1, sR_44_2, eq_true y1, eq_false y2, c5, rf_some, xc_int, xc_ref, xc_ret, xc_long, xw_nil, xw_int, xw_ref, xw_long, tl_some, tl_none, true_and, and_true, Nat.zero_le, Nat.reduceAdd, Nat.reduceMul, Nat.reduceLeDiff, Nat.reduceLT, Nat.reduceEqDiff, Nat.reducePow, Int32.reduceAdd, Int32.reduceMul, Int32.reduceSub, Int32.reduceLT, Int32.reduceLE, Int32.reduceToNatClampNeg, litE, ixU, not_false_eq_true, not_true_eq_false, ↓reduceIte, eq_self, true_or, or_true, false_and, and_false, or_false, false_or, i10, i01, in10, i1n, xbT, xbF, r_lt]
        rw [xb_f z]
  · have z : ¬ w = G := fun q => y1 (g1.mpr q).1
    simp only [xs_77, xs_77_0, xs_77_1, xs_77_2, xs_77_5, xs_77_8, xs_77_9, xs_77_12, xs_77_15, xs_77_16, xs_77_17, xs_77_20, xs_77_23, xs_77_24, xs_77_27, xs_77_28, H, sT_0, sT_1, sT_2, sN_2, sA_2, sT_3, sN_3, sA_3, sT_4, sN_4, sA_4, sT_5, sN_5, sA_5, sT_6, sN_6, sA_6, sT_7, sT_8, sN_8, sA_8, sT_9, sN_9, sA_9, sT_10, sN_10, sA_10, sT_11, sN_11, sA_11, sT_12, sN_12, sA_12, sT_13, sN_13, sT_14, sT_15, sN_15, sA_15, sT_16, sN_16, sA_16, sT_17, sN_17, sA_17, sT_18, sN_18, sA_18, sT_19, sN_19, sA_19, sT_20, sT_21, sN_21, sA_21, sT_22, sN_22, sA_22, sT_23, sN_23, sA_23, sT_24, sN_24, sA_24, sT_25, sN_25, sA_25, sT_26, sN_26, sB_26, sT_27, sT_28, sN_28, sB_28, sT_29, sT_30, sN_30, sT_32, sN_32, sA_32, sT_33, sT_34, sN_34, sA_34, sT_35, sN_35, sA_35, sT_36, sT_37, sN_37, sA_37, sT_38, sN_38, sA_38, sT_39, sN_39, sA_39, sT_40, sN_40, sB_40, sT_41, sN_41, sA_41, sT_42, sN_42, sA_42, sT_43, sN_43, sA_43, sT_44, sT_45, sN_45, sA_45, sT_46, sN_46, sA_46, sT_47, sN_47, sA_47, sR_1_7, sR_1_8, sR_1_9, sR_1_10, sR_1_11, sR_0_0, sR_7_7, sR_7_8, sR_7_9, sR_7_10, sR_7_11, sR_0_1, sR_0_2, sR_14_7, sR_14_8, sR_14_9, sR_14_10, sR_14_11, sR_13_0, sR_20_7, sR_20_8, sR_20_9, sR_20_10, sR_20_11, sR_13_1, sR_0_3, sR_0_4, sR_27_0, sR_0_5, sR_29_0, sR_29_3, sR_0_6, sR_33_1, sR_33_2, sR_0_7, sR_36_2, sR_36_3, sR_36_4, sR_36_5, sR_36_6, sR_36_7, sR_36_8, sR_0_8, sR_44_0, sR_44_1, sR_44_2, eq_false y1, rf_some, xc_int, xc_ref, xc_ret, xc_long, xw_nil, xw_int, xw_ref, xw_long, tl_some, tl_none, true_and, and_true, Nat.zero_le, Nat.reduceAdd, Nat.reduceMul, Nat.reduceLeDiff, Nat.reduceLT, Nat.reduceEqDiff, Nat.reducePow, Int32.reduceAdd, Int32.reduceMul, Int32.reduceSub, Int32.reduceLT, Int32.reduceLE, Int32.reduceToNatClampNeg, litE, ixU, not_false_eq_true, not_true_eq_false, ↓reduceIte, eq_self, true_or, or_true, false_and, and_false, or_false, false_or, i10, i01, in10, i1n, xbT, xbF, r_lt]
    rw [xb_f z]
/-- the next, for one or for two -/
def nxt (t : Bool) (g : Nat → Nat) : Nat → Nat → Option Nat := if t then nx2 g else nx1 g
def mxt (t : Bool) (g : Nat → Nat) : Nat := if t then 64 else g 24 + 1
def jn (t : Bool) (a b : Nat) : Nat := if t then 5 * a + b else a
theorem jn_e {t : Bool} {a b : Nat} (hb : b < 5) (h0 : t = false → b = 0) : we t (jn t a b) = a ∧ wl t (jn t a b) = b := by
  unfold we wl jn
  cases t
  · simp only [Bool.false_eq_true, if_false]; exact ⟨trivial, (h0 rfl).symm⟩
  · simp only [if_true]; omega
theorem ra_0 (g f : Nat → Nat) : ra g f 0 = f := by unfold ra; rw [if_pos rfl]
theorem nxt_u {X m : Nat} (hm : t = false → m < 8) : nxt t g X m = if cb g (fd X) (we t (X / 4096)) (m % 8) && cb g (ra g (fd X) (m % 8)) (wl t (X / 4096)) (m / 8) then some (4096 * jn t (pa g (we t (X / 4096)) (m % 8)) (pa g (wl t (X / 4096)) (m / 8)) + rc (gnf g (ra g (fd X) (m % 8)) (m / 8))) else none := by
  cases t with
  | true => rfl
  | false =>
    have hm := hm rfl
    have e1 : m % 8 = m := by omega
    have e2 : m / 8 = 0 := by omega
    show nx1 g X m = _
    rw [e1, e2, show cb g (ra g (fd X) m) (wl false (X / 4096)) 0 = true from cb_t (Or.inl rfl), Bool.and_true]
    have e3 : gnf g (ra g (fd X) m) 0 = gnf g (fd X) m := by unfold gnf; rw [ra_0]
    rw [e3]
    rfl
theorem nxt_b {X m s : Nat} (hg : pg_ok g) (hX : X < bnd t) (e : nxt t g X m = some s) : s < bnd t := by
  cases t with
  | true => exact nx2_b hg X m s hX e
  | false =>
    have e : nx1 g X m = some s := e
    have hX : X < 20480 := hX
    show s < 20480
    unfold nx1 at e
    split at e
    · rename_i c
      have hr := rc_lt (gnf_3 hg (fd_4 X) m)
      have hs : 4096 * pa g (X / 4096) m + rc (gnf g (fd X) m) = s := Option.some.inj e
      rcases pa_5 hg c with ⟨-, z⟩ | z
      · rw [z] at hs; omega
      · omega
    · cases e
end WG
