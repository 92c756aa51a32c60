/-! ways: one head spread -/
def sQ (a j : Nat) : Prop := (a = 29 ∧ j = 2) ∨ a = 32
theorem CW_sI {t : Bool} {b : bL} {h : xe_H} {a j : Nat} {v : Int32} (ha : ¬ a = 29) (C : CW t b h) : CW t b (xe_sI h a j v) := by
  obtain ⟨⟨q, k, A⟩, K, c4, c2, c5⟩ := C
  refine ⟨⟨q, k, A⟩, K, c4, ?_, ?_⟩
  · rw [hI_sI, if_neg (fun z => ha z.1.symm)]; exact c2
  · rw [hI_sI, if_neg (fun z => ha z.1.symm)]; exact c5
theorem tv_wq {S : Nat → Nat → Prop} {h h' : xe_H} {g : Nat → Nat} (tv : tn_v h 1 g) (W : wq S h h') (q : ∀ a j, S a j → 29 ≤ a) : tn_v h' 1 g := tn_v_c tv (fun a j h1 h2 => W.2.2 a j (fun z => by have := q a j z; omega) (by omega))
/-- an entry read -/
theorem CW_L {t : Bool} {b : bL} {h : xe_H} (C : CW t b h) {k : Nat} (hk : k < b.1) : ∃ q, xe_R h 29 1 = some q ∧ xe_ob h q 9 ∧ k < xe_N h q ∧ xe_L h q k = lN (ent t (bS b k) (bM b k) (bF b k)) := by
  obtain ⟨⟨q, n, ⟨c1, ck, cq, co, cN, cn, cz⟩, cb, cL⟩, -⟩ := C
  exact ⟨q, c1, co, by rw [cN]; omega, cL k hk⟩
theorem nxt_no {t : Bool} {g : Nat → Nat} {X m : Nat} (hm : g 24 < m % 8) : nxt true g X m = none := by
  show nx2 g X m = none
  unfold nx2
  rw [if_neg (fun z => by
    rw [Bool.and_eq_true] at z
    have := cm_le (cb_T z.1)
    omega)]
theorem bX_skip {nx : Nat → Nat → Option Nat} {k m : Nat} {b : bL} : ∀ n, (∀ i, m ≤ i → i < m + n → nx (bS b k) i = none) → bX nx k (m + n) b = bX nx k m b
  | 0, _ => rfl
  | n + 1, h => by
    show bX nx k (m + n + 1) b = _
    rw [bX, h (m + n) (by omega) (by omega)]
    exact bX_skip n (fun i h1 h2 => h i h1 (by omega))
section WS
variable {d : Nat} {h : xe_H} {t : Bool} {g : Nat → Nat}
/-- what a spread comes to -/
def spR (t : Bool) (g : Nat → Nat) (b : bL) (k G : Nat) (h : xe_H) (r : Option Value) (h' : xe_H) : Prop := wq sQ h h' ∧ ((r = some (.int 0) ∧ CW t (bX (nxt t g) k (mxt t g) b) h' ∧ ∀ i, i < (bX (nxt t g) k (mxt t g) b).1 → ¬ bS (bX (nxt t g) k (mxt t g) b) i / 4096 = G) ∨ (r = some (.int 1) ∧ ∃ b' j, CW t b' h' ∧ bP b' (bX (nxt t g) k (mxt t g) b) ∧ b'.1 = j + 1 ∧ bS b' j / 4096 = G ∧ ∀ i, i < j → ¬ bS b' i / 4096 = G))
/-- one pair of moves tried -/
theorem cl_try {b B : bL} {k G e l : Nat} {X : Nat} {l8 l9 l10 : Value} {li : Int32} (hg : pg_ok g) (he : e ≤ g 24) (hl : l ≤ g 24) (ht : t = false → l = 0) (hX : X < bnd t) (hk : k < 102400) (hB : ∀ s, nxt t g X (8 * l + e) = some s → kn B s = false → B.1 < 102400) (H : sh h) (tv : tn_v h 1 g) (C : CW t B h) (hG : gC t G h) (hno : ∀ i, i < B.1 → ¬ bS B i / 4096 = G) (bt : xe_I h 32 e = if cb g (fd X) (we t (X / 4096)) e then nI (rp (ra g (fd X) e)) else -1) {Q : Option Value → xe_H → Prop}
    (k0 : ∀ h' l8 l9 l10 B', (match nxt t g X (8 * l + e) with | some s => bA B s k (8 * l + e) | none => B) = B' → wq (fun a j => a = 29 ∧ j = 2) h h' → CW t B' h' → (∀ i, i < B'.1 → ¬ bS B' i / 4096 = G) → xe_P (d + 3) 76 253 [.ref 29, .int (nI k), .int (nI (rp (fd X))), .int (nI (we t (X / 4096))), .int (nI (wl t (X / 4096))), .int li, .int (nI l), .int (nI e), l8, l9, l10] [] h' Q)
    (k1 : ∀ h' B', (match nxt t g X (8 * l + e) with | some s => bA B s k (8 * l + e) | none => B) = B' → wq (fun a j => a = 29 ∧ j = 2) h h' → CW t B' h' → B'.1 = B.1 + 1 → bS B' B.1 / 4096 = G → (∀ i, i < B.1 → ¬ bS B' i / 4096 = G) → Q (some (.int 1)) h') : xe_P (d + 3) 76 137 [.ref 29, .int (nI k), .int (nI (rp (fd X))), .int (nI (we t (X / 4096))), .int (nI (wl t (X / 4096))), .int li, .int (nI l), .int (nI e), l8, l9, l10] [] h Q := by
  have h24 : g 24 ≤ 6 := hg.1
  have em : (8 * l + e) % 8 = e := by omega
  have el : (8 * l + e) / 8 = l := by omega
  have nu := nxt_u (t := t) (g := g) (X := X) (m := 8 * l + e) (fun z => by have := ht z; omega)
  rw [em, el] at nu
  have c4 := C.2.2.1
  obtain ⟨w1, w2⟩ := we_5 hX
  have sw := sW_1 H
  have r1 := rp_lt (ra_ok hg (fd_rp X) e)
  by_cases y1 : cm g (fd X) (we t (X / 4096)) e
  · rw [if_pos (cb_t y1)] at bt
    have n1 : (nI (rp (ra g (fd X) e)) = -1) = False := eq_false (fun z => by
      have z2 := congrArg Int32.toInt z
      rw [nI_toInt (by omega), show Int32.toInt (-1) = -1 by decide] at z2
      omega)
    simp only [xs_76_137, xs_76_138, xs_76_141, xs_76_143, xs_76_144, xs_76_145, xs_76_148, xs_76_149, xs_76_152, xs_76_153, xs_76_156, xs_76_158, xs_76_159, xs_76_161, xs_76_163, H, sT_0, sT_1, sT_2, sN_2, sA_2, sT_3, sN_3, sA_3, sT_4, sN_4, sA_4, sT_5, sN_5, sA_5, sT_6, sN_6, sA_6, sT_7, sT_8, sN_8, sA_8, sT_9, sN_9, sA_9, sT_10, sN_10, sA_10, sT_11, sN_11, sA_11, sT_12, sN_12, sA_12, sT_13, sN_13, sT_14, sT_15, sN_15, sA_15, sT_16, sN_16, sA_16, sT_17, sN_17, sA_17, sT_18, sN_18, sA_18, sT_19, sN_19, sA_19, sT_20, sT_21, sN_21, sA_21, sT_22, sN_22, sA_22, sT_23, sN_23, sA_23, sT_24, sN_24, sA_24, sT_25, sN_25, sA_25, sT_26, sN_26, sB_26, sT_27, sT_28, sN_28, sB_28, sT_29, sT_30, sN_30, sT_32, sN_32, sA_32, sT_33, sT_34, sN_34, sA_34, sT_35, sN_35, sA_35, sT_36, sT_37, sN_37, sA_37, sT_38, sN_38, sA_38, sT_39, sN_39, sA_39, sT_40, sN_40, sB_40, sT_41, sN_41, sA_41, sT_42, sN_42, sA_42, sT_43, sN_43, sA_43, sT_44, sT_45, sN_45, sA_45, sT_46, sN_46, sA_46, sT_47, sN_47, sA_47, sR_1_7, sR_1_8, sR_1_9, sR_1_10, sR_1_11, sR_0_0, sR_7_7, sR_7_8, sR_7_9, sR_7_10, sR_7_11, sR_0_1, sR_0_2, sR_14_7, sR_14_8, sR_14_9, sR_14_10, sR_14_11, sR_13_0, sR_20_7, sR_20_8, sR_20_9, sR_20_10, sR_20_11, sR_13_1, sR_0_3, sR_0_4, sR_27_0, sR_0_5, sR_29_0, sR_29_3, sR_0_6, sR_33_1, sR_33_2, sR_0_7, sR_36_2, sR_36_3, sR_36_4, sR_36_5, sR_36_6, sR_36_7, sR_36_8, sR_0_8, sR_44_0, sR_44_1, sR_44_2, c4, nIlt0 (show e < 2 ^ 31 by omega), nI_clamp (show e < 2 ^ 31 by omega), show e < 7 by omega, bt, n1, rf_some, xc_int, xc_ref, xc_ret, xc_long, xw_nil, xw_int, xw_ref, xw_long, tl_some, tl_none, true_and, and_true, Nat.zero_le, Nat.reduceAdd, Nat.reduceMul, Nat.reduceLeDiff, Nat.reduceLT, Nat.reduceEqDiff, Nat.reducePow, Int32.reduceAdd, Int32.reduceMul, Int32.reduceSub, Int32.reduceLT, Int32.reduceLE, Int32.reduceToNatClampNeg, litE, ixU, not_false_eq_true, not_true_eq_false, ↓reduceIte, eq_self, true_or, or_true, false_and, and_false, or_false, false_or, i10, i01, in10, i1n, xbT, xbF, r_lt]
    rw [tw_canMove (d := d + 1) sw tv hg (ra_ok hg (fd_rp X) e) (show wl t (X / 4096) < 2 ^ 31 by omega) (show l < 2 ^ 31 by omega)]
    by_cases y2 : cm g (ra g (fd X) e) (wl t (X / 4096)) l
    · rw [@xb_t _ (cmD g _ _ _) y2]
      rw [cb_t y1, cb_t y2, Bool.and_true, if_pos rfl] at nu
      have p1 : pa g (we t (X / 4096)) e < 5 := by
        rcases pa_5 hg (cb_t y1) with ⟨-, z⟩ | z
        · rw [z]; exact w1
        · exact z
      have p2 : pa g (wl t (X / 4096)) l < 5 := by
        rcases pa_5 hg (cb_t y2) with ⟨-, z⟩ | z
        · rw [z]; exact w2
        · exact z
      have p0 : t = false → pa g (wl t (X / 4096)) l = 0 := fun z => by
        rw [ht z]
        unfold pa wl
        rw [if_pos rfl, z]
        rfl
      have g3 := gnf_3 hg (ra_4 hg (fd_4 X) e) l
      generalize hs : 4096 * jn t (pa g (we t (X / 4096)) e) (pa g (wl t (X / 4096)) l) + rc (gnf g (ra g (fd X) e) l) = s at nu
      have hsb := nxt_b hg hX nu
      obtain ⟨j1, j2⟩ := jn_e (t := t) (a := pa g (we t (X / 4096)) e) p2 p0
      have sp : s / 4096 = jn t (pa g (we t (X / 4096)) e) (pa g (wl t (X / 4096)) l) := by rw [← hs]; exact (st_pl g3).1
      have sr : rp (gnf g (ra g (fd X) e) l) = rp (fd s) := rp_c (fun c hc => by rw [← hs]; exact (fd_st g3 c hc).symm)
      have se : we t (s / 4096) = pa g (we t (X / 4096)) e := by rw [sp]; exact j1
      have sl : wl t (s / 4096) = pa g (wl t (X / 4096)) l := by rw [sp]; exact j2
      have ra2 := fun d Q => tw_restsAfter (d := d) (h := h) (Q := Q) sw tv hg (ra_ok hg (fd_rp X) e) hl
      have be := fun d Q => tw_behind (d := d) (h := h) (Q := Q) (ra_ok hg (ra_ok hg (fd_rp X) e) l)
      rw [show (fun b => ra g (ra g (fd X) e) l b - 1) = gnf g (ra g (fd X) e) l from rfl, sr] at be
      have pe := fun d Q => tw_placeAfter (d := d) (h := h) (Q := Q) sw tv hg (show we t (X / 4096) < 2 ^ 31 by omega) he
      have pl := fun d Q => tw_placeAfter (d := d) (h := h) (Q := Q) sw tv hg (show wl t (X / 4096) < 2 ^ 31 by omega) hl
      rw [← se] at pe
      rw [← sl] at pl
      have ei : (8 : Int32) * nI l + nI e = nI (8 * l + e) := by rw [show (8 : Int32) = nI 8 from rfl, pk_mul, nI_add]
      simp only [xs_76_166, xs_76_169, xs_76_172, xs_76_173, xs_76_176, xs_76_177, xs_76_180, xs_76_182, xs_76_183, xs_76_185, xs_76_188, xs_76_191, xs_76_193, xs_76_194, xs_76_197, xs_76_198, xs_76_200, xs_76_203, xs_76_205, xs_76_206, xs_76_209, xs_76_211, xs_76_213, xs_76_216, xs_76_218, xs_76_219, xs_76_221, xs_76_223, xs_76_225, xs_76_227, xs_76_229, xs_76_230, xs_76_232, xs_76_233, xs_76_234, H, sT_0, sT_1, sT_2, sN_2, sA_2, sT_3, sN_3, sA_3, sT_4, sN_4, sA_4, sT_5, sN_5, sA_5, sT_6, sN_6, sA_6, sT_7, sT_8, sN_8, sA_8, sT_9, sN_9, sA_9, sT_10, sN_10, sA_10, sT_11, sN_11, sA_11, sT_12, sN_12, sA_12, sT_13, sN_13, sT_14, sT_15, sN_15, sA_15, sT_16, sN_16, sA_16, sT_17, sN_17, sA_17, sT_18, sN_18, sA_18, sT_19, sN_19, sA_19, sT_20, sT_21, sN_21, sA_21, sT_22, sN_22, sA_22, sT_23, sN_23, sA_23, sT_24, sN_24, sA_24, sT_25, sN_25, sA_25, sT_26, sN_26, sB_26, sT_27, sT_28, sN_28, sB_28, sT_29, sT_30, sN_30, sT_32, sN_32, sA_32, sT_33, sT_34, sN_34, sA_34, sT_35, sN_35, sA_35, sT_36, sT_37, sN_37, sA_37, sT_38, sN_38, sA_38, sT_39, sN_39, sA_39, sT_40, sN_40, sB_40, sT_41, sN_41, sA_41, sT_42, sN_42, sA_42, sT_43, sN_43, sA_43, sT_44, sT_45, sN_45, sA_45, sT_46, sN_46, sA_46, sT_47, sN_47, sA_47, sR_1_7, sR_1_8, sR_1_9, sR_1_10, sR_1_11, sR_0_0, sR_7_7, sR_7_8, sR_7_9, sR_7_10, sR_7_11, sR_0_1, sR_0_2, sR_14_7, sR_14_8, sR_14_9, sR_14_10, sR_14_11, sR_13_0, sR_20_7, sR_20_8, sR_20_9, sR_20_10, sR_20_11, sR_13_1, sR_0_3, sR_0_4, sR_27_0, sR_0_5, sR_29_0, sR_29_3, sR_0_6, sR_33_1, sR_33_2, sR_0_7, sR_36_2, sR_36_3, sR_36_4, sR_36_5, sR_36_6, sR_36_7, sR_36_8, sR_0_8, sR_44_0, sR_44_1, sR_44_2, c4, nIlt0 (show e < 2 ^ 31 by omega), nI_clamp (show e < 2 ^ 31 by omega), show e < 7 by omega, bt, ra2, be, pe, pl, ei, rf_some, xc_int, xc_ref, xc_ret, xc_long, xw_nil, xw_int, xw_ref, xw_long, tl_some, tl_none, true_and, and_true, Nat.zero_le, Nat.reduceAdd, Nat.reduceMul, Nat.reduceLeDiff, Nat.reduceLT, Nat.reduceEqDiff, Nat.reducePow, Int32.reduceAdd, Int32.reduceMul, Int32.reduceSub, Int32.reduceLT, Int32.reduceLE, Int32.reduceToNatClampNeg, litE, ixU, not_false_eq_true, not_true_eq_false, ↓reduceIte, eq_self, true_or, or_true, false_and, and_false, or_false, false_or, i10, i01, in10, i1n, xbT, xbF, r_lt]
      rw [nu] at k0 k1
      refine xe_C_mono (cl_isNew (d := d + 1) hsb (show 8 * l + e < 64 by omega) hk (fun z => hB s nu z) H C) ?_
      rintro r h1 ⟨rfl, W, C1⟩
      have H1 := W.1 H
      have oldS : ∀ i, i < B.1 → bS (bA B s k (8 * l + e)) i = bS B i := fun i hi => (bP_S (bA_P B s k (8 * l + e)) hi).1
      cases hkn : kn B s with
      | true =>
        simp only [xs_76_237, ↓reduceIte, rf_some, xc_int, xc_ref, xc_ret, xc_long, xw_nil, xw_int, xw_ref, xw_long, tl_some, tl_none, true_and, and_true, Nat.zero_le, Nat.reduceAdd, Nat.reduceMul, Nat.reduceLeDiff, Nat.reduceLT, Nat.reduceEqDiff, Nat.reducePow, Int32.reduceAdd, Int32.reduceMul, Int32.reduceSub, Int32.reduceLT, Int32.reduceLE, Int32.reduceToNatClampNeg, litE, ixU, not_false_eq_true, not_true_eq_false, ↓reduceIte, eq_self, true_or, or_true, false_and, and_false, or_false, false_or, i10, i01, in10, i1n, xbT, xbF, r_lt]
        exact k0 h1 _ _ _ _ rfl W C1 (by
          show ∀ i, i < (bA B s k (8 * l + e)).1 → ¬ bS (bA B s k (8 * l + e)) i / 4096 = G
          rw [bA_old hkn]; exact hno)
      | false =>
        have gc : gC t G h1 := gC_c hG (W.2.2 29 6 (by omega) (by omega)) (W.2.2 29 7 (by omega) (by omega))
        have ag := fun d Q => cl_atGoals (d := d) (Q := Q) (bnd_B.mp hsb) H1 C1.2.2.2.2 gc
        have cnt : (bA B s k (8 * l + e)).1 = B.1 + 1 := by rw [bA_new hkn]
        have newS : bS (bA B s k (8 * l + e)) B.1 = s := by
          rw [bA_new hkn]
          show (if B.1 = B.1 then ((s, k, 8 * l + e, bD B k + 1) : bE4) else B.2 B.1).1 = s
          rw [if_pos rfl]
        by_cases z : s / 4096 = G
        · rw [show xb (s / 4096 = G) = 1 from xb_t z] at ag
          simp only [xs_76_237, xs_76_240, xs_76_241, xs_76_243, xs_76_245, xs_76_248, xs_76_251, xs_76_252, H1, sT_0, sT_1, sT_2, sN_2, sA_2, sT_3, sN_3, sA_3, sT_4, sN_4, sA_4, sT_5, sN_5, sA_5, sT_6, sN_6, sA_6, sT_7, sT_8, sN_8, sA_8, sT_9, sN_9, sA_9, sT_10, sN_10, sA_10, sT_11, sN_11, sA_11, sT_12, sN_12, sA_12, sT_13, sN_13, sT_14, sT_15, sN_15, sA_15, sT_16, sN_16, sA_16, sT_17, sN_17, sA_17, sT_18, sN_18, sA_18, sT_19, sN_19, sA_19, sT_20, sT_21, sN_21, sA_21, sT_22, sN_22, sA_22, sT_23, sN_23, sA_23, sT_24, sN_24, sA_24, sT_25, sN_25, sA_25, sT_26, sN_26, sB_26, sT_27, sT_28, sN_28, sB_28, sT_29, sT_30, sN_30, sT_32, sN_32, sA_32, sT_33, sT_34, sN_34, sA_34, sT_35, sN_35, sA_35, sT_36, sT_37, sN_37, sA_37, sT_38, sN_38, sA_38, sT_39, sN_39, sA_39, sT_40, sN_40, sB_40, sT_41, sN_41, sA_41, sT_42, sN_42, sA_42, sT_43, sN_43, sA_43, sT_44, sT_45, sN_45, sA_45, sT_46, sN_46, sA_46, sT_47, sN_47, sA_47, sR_1_7, sR_1_8, sR_1_9, sR_1_10, sR_1_11, sR_0_0, sR_7_7, sR_7_8, sR_7_9, sR_7_10, sR_7_11, sR_0_1, sR_0_2, sR_14_7, sR_14_8, sR_14_9, sR_14_10, sR_14_11, sR_13_0, sR_20_7, sR_20_8, sR_20_9, sR_20_10, sR_20_11, sR_13_1, sR_0_3, sR_0_4, sR_27_0, sR_0_5, sR_29_0, sR_29_3, sR_0_6, sR_33_1, sR_33_2, sR_0_7, sR_36_2, sR_36_3, sR_36_4, sR_36_5, sR_36_6, sR_36_7, sR_36_8, sR_0_8, sR_44_0, sR_44_1, sR_44_2, ag, Bool.false_eq_true, ↓reduceIte, rf_some, xc_int, xc_ref, xc_ret, xc_long, xw_nil, xw_int, xw_ref, xw_long, tl_some, tl_none, true_and, and_true, Nat.zero_le, Nat.reduceAdd, Nat.reduceMul, Nat.reduceLeDiff, Nat.reduceLT, Nat.reduceEqDiff, Nat.reducePow, Int32.reduceAdd, Int32.reduceMul, Int32.reduceSub, Int32.reduceLT, Int32.reduceLE, Int32.reduceToNatClampNeg, litE, ixU, not_false_eq_true, not_true_eq_false, ↓reduceIte, eq_self, true_or, or_true, false_and, and_false, or_false, false_or, i10, i01, in10, i1n, xbT, xbF, r_lt]
          exact k1 h1 _ rfl W C1 cnt (by
            show bS (bA B s k (8 * l + e)) B.1 / 4096 = G
            rw [newS]; exact z) (fun i hi => by
            show ¬ bS (bA B s k (8 * l + e)) i / 4096 = G
            rw [oldS i hi]; exact hno i hi)
        · rw [show xb (s / 4096 = G) = 0 from xb_f z] at ag
          simp only [xs_76_237, xs_76_240, xs_76_241, xs_76_243, xs_76_245, xs_76_248, H1, sT_0, sT_1, sT_2, sN_2, sA_2, sT_3, sN_3, sA_3, sT_4, sN_4, sA_4, sT_5, sN_5, sA_5, sT_6, sN_6, sA_6, sT_7, sT_8, sN_8, sA_8, sT_9, sN_9, sA_9, sT_10, sN_10, sA_10, sT_11, sN_11, sA_11, sT_12, sN_12, sA_12, sT_13, sN_13, sT_14, sT_15, sN_15, sA_15, sT_16, sN_16, sA_16, sT_17, sN_17, sA_17, sT_18, sN_18, sA_18, sT_19, sN_19, sA_19, sT_20, sT_21, sN_21, sA_21, sT_22, sN_22, sA_22, sT_23, sN_23, sA_23, sT_24, sN_24, sA_24, sT_25, sN_25, sA_25, sT_26, sN_26, sB_26, sT_27, sT_28, sN_28, sB_28, sT_29, sT_30, sN_30, sT_32, sN_32, sA_32, sT_33, sT_34, sN_34, sA_34, sT_35, sN_35, sA_35, sT_36, sT_37, sN_37, sA_37, sT_38, sN_38, sA_38, sT_39, sN_39, sA_39, sT_40, sN_40, sB_40, sT_41, sN_41, sA_41, sT_42, sN_42, sA_42, sT_43, sN_43, sA_43, sT_44, sT_45, sN_45, sA_45, sT_46, sN_46, sA_46, sT_47, sN_47, sA_47, sR_1_7, sR_1_8, sR_1_9, sR_1_10, sR_1_11, sR_0_0, sR_7_7, sR_7_8, sR_7_9, sR_7_10, sR_7_11, sR_0_1, sR_0_2, sR_14_7, sR_14_8, sR_14_9, sR_14_10, sR_14_11, sR_13_0, sR_20_7, sR_20_8, sR_20_9, sR_20_10, sR_20_11, sR_13_1, sR_0_3, sR_0_4, sR_27_0, sR_0_5, sR_29_0, sR_29_3, sR_0_6, sR_33_1, sR_33_2, sR_0_7, sR_36_2, sR_36_3, sR_36_4, sR_36_5, sR_36_6, sR_36_7, sR_36_8, sR_0_8, sR_44_0, sR_44_1, sR_44_2, ag, Bool.false_eq_true, ↓reduceIte, rf_some, xc_int, xc_ref, xc_ret, xc_long, xw_nil, xw_int, xw_ref, xw_long, tl_some, tl_none, true_and, and_true, Nat.zero_le, Nat.reduceAdd, Nat.reduceMul, Nat.reduceLeDiff, Nat.reduceLT, Nat.reduceEqDiff, Nat.reducePow, Int32.reduceAdd, Int32.reduceMul, Int32.reduceSub, Int32.reduceLT, Int32.reduceLE, Int32.reduceToNatClampNeg, litE, ixU, not_false_eq_true, not_true_eq_false, ↓reduceIte, eq_self, true_or, or_true, false_and, and_false, or_false, false_or, i10, i01, in10, i1n, xbT, xbF, r_lt]
          exact k0 h1 _ _ _ _ rfl W C1 (fun i hi => by
            have hi : i < (bA B s k (8 * l + e)).1 := hi
            rw [cnt] at hi
            show ¬ bS (bA B s k (8 * l + e)) i / 4096 = G
            by_cases q : i = B.1
            · rw [q, newS]; exact z
            · rw [oldS i (by omega)]; exact hno i (by omega))
    · rw [@xb_f _ (cmD g _ _ _) y2]
      have nn : nxt t g X (8 * l + e) = none := by rw [nu, if_neg (fun z => by rw [Bool.and_eq_true] at z; exact y2 (cb_T z.2))]
      rw [nn] at k0
      simp only [xs_76_166, xs_76_169, rf_some, xc_int, xc_ref, xc_ret, xc_long, xw_nil, xw_int, xw_ref, xw_long, tl_some, tl_none, true_and, and_true, Nat.zero_le, Nat.reduceAdd, Nat.reduceMul, Nat.reduceLeDiff, Nat.reduceLT, Nat.reduceEqDiff, Nat.reducePow, Int32.reduceAdd, Int32.reduceMul, Int32.reduceSub, Int32.reduceLT, Int32.reduceLE, Int32.reduceToNatClampNeg, litE, ixU, not_false_eq_true, not_true_eq_false, ↓reduceIte, eq_self, true_or, or_true, false_and, and_false, or_false, false_or, i10, i01, in10, i1n, xbT, xbF, r_lt]
      exact k0 h _ _ _ _ rfl (wq_rf _ h) C hno
  · have nn : nxt t g X (8 * l + e) = none := by rw [nu, if_neg (fun z => by rw [Bool.and_eq_true] at z; exact y1 (cb_T z.1))]
    rw [if_neg (fun z => y1 (cb_T z))] at bt
    rw [nn] at k0
    simp only [xs_76_137, xs_76_138, xs_76_141, xs_76_143, xs_76_144, xs_76_145, H, sT_0, sT_1, sT_2, sN_2, sA_2, sT_3, sN_3, sA_3, sT_4, sN_4, sA_4, sT_5, sN_5, sA_5, sT_6, sN_6, sA_6, sT_7, sT_8, sN_8, sA_8, sT_9, sN_9, sA_9, sT_10, sN_10, sA_10, sT_11, sN_11, sA_11, sT_12, sN_12, sA_12, sT_13, sN_13, sT_14, sT_15, sN_15, sA_15, sT_16, sN_16, sA_16, sT_17, sN_17, sA_17, sT_18, sN_18, sA_18, sT_19, sN_19, sA_19, sT_20, sT_21, sN_21, sA_21, sT_22, sN_22, sA_22, sT_23, sN_23, sA_23, sT_24, sN_24, sA_24, sT_25, sN_25, sA_25, sT_26, sN_26, sB_26, sT_27, sT_28, sN_28, sB_28, sT_29, sT_30, sN_30, sT_32, sN_32, sA_32, sT_33, sT_34, sN_34, sA_34, sT_35, sN_35, sA_35, sT_36, sT_37, sN_37, sA_37, sT_38, sN_38, sA_38, sT_39, sN_39, sA_39, sT_40, sN_40, sB_40, sT_41, sN_41, sA_41, sT_42, sN_42, sA_42, sT_43, sN_43, sA_43, sT_44, sT_45, sN_45, sA_45, sT_46, sN_46, sA_46, sT_47, sN_47, sA_47, sR_1_7, sR_1_8, sR_1_9, sR_1_10, sR_1_11, sR_0_0, sR_7_7, sR_7_8, sR_7_9, sR_7_10, sR_7_11, sR_0_1, sR_0_2, sR_14_7, sR_14_8, sR_14_9, sR_14_10, sR_14_11, sR_13_0, sR_20_7, sR_20_8, sR_20_9, sR_20_10, sR_20_11, sR_13_1, sR_0_3, sR_0_4, sR_27_0, sR_0_5, sR_29_0, sR_29_3, sR_0_6, sR_33_1, sR_33_2, sR_0_7, sR_36_2, sR_36_3, sR_36_4, sR_36_5, sR_36_6, sR_36_7, sR_36_8, sR_0_8, sR_44_0, sR_44_1, sR_44_2, nIlt0 (show e < 2 ^ 31 by omega), nI_clamp (show e < 2 ^ 31 by omega), show e < 7 by omega, bt, rf_some, xc_int, xc_ref, xc_ret, xc_long, xw_nil, xw_int, xw_ref, xw_long, tl_some, tl_none, true_and, and_true, Nat.zero_le, Nat.reduceAdd, Nat.reduceMul, Nat.reduceLeDiff, Nat.reduceLT, Nat.reduceEqDiff, Nat.reducePow, Int32.reduceAdd, Int32.reduceMul, Int32.reduceSub, Int32.reduceLT, Int32.reduceLE, Int32.reduceToNatClampNeg, litE, ixU, not_false_eq_true, not_true_eq_false, ↓reduceIte, eq_self, true_or, or_true, false_and, and_false, or_false, false_or, i10, i01, in10, i1n, xbT, xbF, r_lt]
    exact k0 h _ _ _ _ rfl (wq_rf _ h) C hno
end WS
