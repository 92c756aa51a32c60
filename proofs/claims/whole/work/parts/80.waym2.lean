/-! ways: the reference's search, and what it tells -/
def gH (G : Nat) (gi : Int32) : Prop := ∀ w, w < 25 → ((nI w = gi) = (w = G))
section WN
variable {d : Nat} {h : xe_H} {g : Nat → Nat}
theorem bB_M0 {nx : Nat → Nat → Option Nat} {M s0 : Nat} : ∀ h, bM (bB nx M s0 h) 0 = 0 ∧ bS (bB nx M s0 h) 0 = s0
  | 0 => ⟨rfl, rfl⟩
  | h + 1 => by
    have P := bB_P nx M s0 0 (h + 1)
    rw [Nat.zero_add] at P
    have := bP_S P (i := 0) Nat.one_pos
    exact ⟨this.2.2.2, this.1⟩
theorem bX_0 {nx : Nat → Nat → Option Nat} {k m : Nat} {b : bL} (h0 : 0 < b.1) : bM (bX nx k m b) 0 = bM b 0 := (bP_S (bX_P nx k b m) h0).2.2.2
/-- the list while head k is spread -/
theorem bX_all {nx : Nat → Nat → Option Nat} {M s0 k : Nat} (hM : M ≤ 64) (h0 : s0 < 4096 * 25) (hn : ∀ x m s, x < 4096 * 25 → nx x m = some s → s < 4096 * 25) (hk : k < (bB nx M s0 k).1) (m : Nat) (hm : m ≤ M) : bG 102400 (bX nx k m (bB nx M s0 k)) ∧ bN (bX nx k m (bB nx M s0 k)) ∧ k < (bX nx k m (bB nx M s0 k)).1 ∧ bS (bX nx k m (bB nx M s0 k)) k = bS (bB nx M s0 k) k := by
  obtain ⟨g1, g2⟩ := bB_G (M := M) h0 hn k
  have P := bX_P nx k (bB nx M s0 k) m
  refine ⟨(bX_G g1 hn hk (g2 hk) m).1, bN_V hM (bX_V (bB_V k) hk m hm) (by rw [bX_0 g1.1]; exact (bB_M0 k).1), Nat.lt_of_lt_of_le hk P.1, (bP_S P hk).1⟩
/-- one move tried -/
theorem md_tryOne {b : bL} {k m : Nat} {X : Nat} (hg : pg_ok g) (hm : m ≤ g 24) (hX : X < 4096 * 25) (hk : k < b.1) (hG : bG 102400 b) (hN : bN b) (hG2 : ∀ s, nx1 g X m = some s → bG 102400 (bA b s k m)) (H : sh h) (hp : mp h 0 g) (J : MI b h) {p gi : Int32} {l6 : Value} {Q : Option Value → xe_H → Prop}
    (k1 : ∀ h' l6, wr vS h h' → MI (match nx1 g X m with | some s => bA b s k m | none => b) h' → xe_P (d + 5) 164 117 [.ref 48, .int p, .int gi, .int (nI k), .int (nI X), .int (nI m), .int l6] [] h' Q) : xe_P (d + 5) 164 64 [.ref 48, .int p, .int gi, .int (nI k), .int (nI X), .int (nI m), l6] [] h Q := by
  have h24 : g 24 ≤ 6 := hg.1
  have h35 : g 35 ≤ 5 := hg.2.2.2.2.2.2.2.1
  have hb := bG_le hG
  have e4 : ((4096 : Int32) = 0) = False := eq_false (by decide)
  have e1 : nI X / 4096 = nI (X / 4096) := pk_div (d := 4096) (by omega) (by omega) (by omega)
  have e2 : nI X - nI (X / 4096) * 4096 = nI (X % 4096) := by
    have := pk_rem (a := X) (d := 4096) (by omega) (by omega) (by omega)
    rw [show nI 4096 = (4096 : Int32) from rfl, e1] at this
    exact this
  have w0 := fun d Q => md_works (d := d) (Q := Q) H (X % 4096) (by omega)
  rw [show (fun b => X % 4096 / 4 ^ b % 4) = fd X from rfl] at w0
  have HW : ∀ f, sh (mW h f) := fun f => by rw [mW_sh]; exact H
  simp only [xs_164_64, xs_164_65, xs_164_67, xs_164_70, xs_164_71, xs_164_74, xs_164_75, xs_164_77, xs_164_79, xs_164_82, xs_164_83, H, HW, sT_48, sT_49, sN_49, sA_49, sT_50, sN_50, sA_50, sT_51, sN_51, sA_51, sT_52, sN_52, sA_52, sT_53, sN_53, sA_53, sT_54, sN_54, sA_54, sT_55, sN_55, sA_55, sT_56, sN_56, sA_56, sT_57, sN_57, sA_57, sT_58, sN_58, sA_58, sT_59, sN_59, sA_59, sT_60, sN_60, sA_60, sT_61, sN_61, sA_61, sT_62, sN_62, sA_62, sT_63, sN_63, sA_63, sT_64, sN_64, sA_64, sT_65, sN_65, sA_65, sT_66, sN_66, sA_66, sT_67, sN_67, sA_67, sT_68, sN_68, sB_68, sT_69, sN_69, sA_69, sT_70, sN_70, sA_70, sT_71, sN_71, sA_71, sR_48_0, sR_48_2, sR_48_9, sR_48_10, sR_48_11, sR_48_20, sR_48_21, sR_48_22, sR_48_23, sR_48_24, sR_48_26, sR_48_27, sR_48_28, sR_48_29, sR_48_30, sR_48_31, sR_48_33, sR_48_34, sR_48_35, sR_48_36, sR_48_37, sR_48_38, sR_48_39, e1, e2, e4, w0, rf_some, xc_int, xc_ref, xc_ret, xc_long, xw_nil, xw_int, xw_ref, xw_long, tl_some, tl_none, true_and, and_true, Nat.zero_le, Nat.reduceAdd, Nat.reduceMul, Nat.reduceLeDiff, Nat.reduceLT, Nat.reduceEqDiff, Nat.reducePow, Int32.reduceAdd, Int32.reduceMul, Int32.reduceSub, Int32.reduceLT, Int32.reduceLE, Int32.reduceToNatClampNeg, litE, ixU, not_false_eq_true, not_true_eq_false, ↓reduceIte, eq_self, true_or, or_true, false_and, and_false, or_false, false_or, i10, i01, in10, i1n, xbT, xbF, r_lt]
  by_cases y : cm g (fd X) (X / 4096) m
  · rw [md_moves (d := d) H hp hg (fd_rp X) (show m < 2 ^ 31 by omega) (show X / 4096 < 2 ^ 31 by omega) y]
    have e5 : nx1 g X m = some (4096 * pa g (X / 4096) m + rc (gnf g (fd X) m)) := by unfold nx1; rw [if_pos (cb_t y)]
    have hs := nx1_b hg X m _ hX e5
    have g3 := gnf_3 hg (fd_4 X) m
    have hpa : pa g (X / 4096) m < 2 ^ 31 := by omega
    have me := fun d Q => md_ends (d := d) (Q := Q) H (ra_ok hg (fd_rp X) m)
    rw [show (fun b => ra g (fd X) m b - 1) = gnf g (fd X) m from rfl] at me
    have ei : (4096 : Int32) * nI (pa g (X / 4096) m) + nI (rc (gnf g (fd X) m)) = nI (4096 * pa g (X / 4096) m + rc (gnf g (fd X) m)) := by rw [show (4096 : Int32) = nI 4096 from rfl, pk_mul, nI_add]
    simp only [xs_164_86, xs_164_88, xs_164_90, xs_164_92, xs_164_95, xs_164_96, xs_164_99, xs_164_100, xs_164_103, xs_164_105, xs_164_106, xs_164_107, xs_164_110, xs_164_111, xs_164_112, xs_164_114, nI_ne4 hpa, HW, sT_48, sT_49, sN_49, sA_49, sT_50, sN_50, sA_50, sT_51, sN_51, sA_51, sT_52, sN_52, sA_52, sT_53, sN_53, sA_53, sT_54, sN_54, sA_54, sT_55, sN_55, sA_55, sT_56, sN_56, sA_56, sT_57, sN_57, sA_57, sT_58, sN_58, sA_58, sT_59, sN_59, sA_59, sT_60, sN_60, sA_60, sT_61, sN_61, sA_61, sT_62, sN_62, sA_62, sT_63, sN_63, sA_63, sT_64, sN_64, sA_64, sT_65, sN_65, sA_65, sT_66, sN_66, sA_66, sT_67, sN_67, sA_67, sT_68, sN_68, sB_68, sT_69, sN_69, sA_69, sT_70, sN_70, sA_70, sT_71, sN_71, sA_71, sR_48_0, sR_48_2, sR_48_9, sR_48_10, sR_48_11, sR_48_20, sR_48_21, sR_48_22, sR_48_23, sR_48_24, sR_48_26, sR_48_27, sR_48_28, sR_48_29, sR_48_30, sR_48_31, sR_48_33, sR_48_34, sR_48_35, sR_48_36, sR_48_37, sR_48_38, sR_48_39, me, md_codeNow H g3, ei, rf_some, xc_int, xc_ref, xc_ret, xc_long, xw_nil, xw_int, xw_ref, xw_long, tl_some, tl_none, true_and, and_true, Nat.zero_le, Nat.reduceAdd, Nat.reduceMul, Nat.reduceLeDiff, Nat.reduceLT, Nat.reduceEqDiff, Nat.reducePow, Int32.reduceAdd, Int32.reduceMul, Int32.reduceSub, Int32.reduceLT, Int32.reduceLE, Int32.reduceToNatClampNeg, litE, ixU, not_false_eq_true, not_true_eq_false, ↓reduceIte, eq_self, true_or, or_true, false_and, and_false, or_false, false_or, i10, i01, in10, i1n, xbT, xbF, r_lt]
    rw [e5] at k1
    refine xe_C_mono (md_finds (d := d + 4) hG hN (hG2 _ e5) hs hk (show m < 64 by omega) (HW _) (MI_W J)) ?_
    rintro r h' ⟨rfl, W, J'⟩
    exact k1 h' _ (wr_tr (wr_sub (mW_wr h _) (fun a j q => Or.inl q)) W) J'
  · rw [md_movesN (d := d) H hp hg (fd_rp X) (show m < 2 ^ 31 by omega) (show X / 4096 < 2 ^ 31 by omega) y]
    have e5 : nx1 g X m = none := by unfold nx1; rw [if_neg (fun q => y (cb_T q))]
    rw [e5] at k1
    simp only [xs_164_86, xs_164_88, xs_164_90, xs_164_92, e44t, rf_some, xc_int, xc_ref, xc_ret, xc_long, xw_nil, xw_int, xw_ref, xw_long, tl_some, tl_none, true_and, and_true, Nat.zero_le, Nat.reduceAdd, Nat.reduceMul, Nat.reduceLeDiff, Nat.reduceLT, Nat.reduceEqDiff, Nat.reducePow, Int32.reduceAdd, Int32.reduceMul, Int32.reduceSub, Int32.reduceLT, Int32.reduceLE, Int32.reduceToNatClampNeg, litE, ixU, not_false_eq_true, not_true_eq_false, ↓reduceIte, eq_self, true_or, or_true, false_and, and_false, or_false, false_or, i10, i01, in10, i1n, xbT, xbF, r_lt]
    exact k1 _ _ (wr_sub (mW_wr h _) (fun a j q => Or.inl q)) (MI_W J)
/-- what a search comes to -/
def mRes (nx : Nat → Nat → Option Nat) (M s0 G : Nat) (h h' : xe_H) (v : Option Value) : Prop := wr vS h h' ∧ ((bK nx M s0 G < bend nx M s0 ∧ v = some (.int (nI (bK nx M s0 G))) ∧ MI (bB nx M s0 (bK nx M s0 G)) h') ∨ (bK nx M s0 G = bend nx M s0 ∧ v = some (.int (-4)) ∧ MI (bZ nx M s0) h'))
theorem md_searchesOne {p G : Nat} {gi : Int32} (hg : pg_ok g) (hp1 : p < g 31) (hgi : gH G gi) (H : sh h) (hp : mp h 0 g) : xe_C (d + 6) 164 [.ref 48, .int (nI p), .int gi] h (fun v h' => mRes (nx1 g) (g 24 + 1) (4096 * g (25 + 2 * p) + rc (gr g)) G h h' v) := by
  have h24 : g 24 ≤ 6 := hg.1
  have h31 : g 31 ≤ 3 := hg.2.1
  have h35 : g 35 ≤ 5 := hg.2.2.2.2.2.2.2.1
  obtain ⟨hpl, -⟩ := hg.2.2.2.2.2.2.2.2.2.2.2 p hp1
  have gr3 : ∀ b, b < 6 → gr g b ≤ 3 := hg.2.2.2.2.2.2.2.2.2.1
  have hrc := rc_lt gr3
  have h0 : 4096 * g (25 + 2 * p) + rc (gr g) < 4096 * 25 := by omega
  have hn := nx1_b hg
  obtain ⟨E1, E2, E3⟩ := bend_ok (M := g 24 + 1) h0 hn
  generalize hs0 : 4096 * g (25 + 2 * p) + rc (gr g) = s0 at *
  have HW : ∀ f, sh (mW h f) := fun f => by rw [mW_sh]; exact H
  have lp : ∀ j k h1 l4 l5 l6, k + j = bend (nx1 g) (g 24 + 1) s0 → wr vS h h1 → MI (bB (nx1 g) (g 24 + 1) s0 k) h1 → (∀ i, i < k → ¬ bS (bZ (nx1 g) (g 24 + 1) s0) i / 4096 = G) → xe_P (d + 5) 164 24 [.ref 48, .int (nI p), .int gi, .int (nI k), l4, l5, l6] [] h1 (fun v h' => mRes (nx1 g) (g 24 + 1) s0 G h h' v) := by
    intro j
    induction j with
    | zero =>
      intro k h1 l4 l5 l6 hk W J hno
      have hk : k = bend (nx1 g) (g 24 + 1) s0 := by omega
      have H1 := wr_sh W H
      have j1 := J.1
      have e2 : (bB (nx1 g) (g 24 + 1) s0 k).1 = k := by rw [hk]; exact E2
      rw [e2] at j1
      simp only [xs_164_24, xs_164_25, xs_164_26, xs_164_29, xs_164_129, xs_164_131, H1, sT_48, sT_49, sN_49, sA_49, sT_50, sN_50, sA_50, sT_51, sN_51, sA_51, sT_52, sN_52, sA_52, sT_53, sN_53, sA_53, sT_54, sN_54, sA_54, sT_55, sN_55, sA_55, sT_56, sN_56, sA_56, sT_57, sN_57, sA_57, sT_58, sN_58, sA_58, sT_59, sN_59, sA_59, sT_60, sN_60, sA_60, sT_61, sN_61, sA_61, sT_62, sN_62, sA_62, sT_63, sN_63, sA_63, sT_64, sN_64, sA_64, sT_65, sN_65, sA_65, sT_66, sN_66, sA_66, sT_67, sN_67, sA_67, sT_68, sN_68, sB_68, sT_69, sN_69, sA_69, sT_70, sN_70, sA_70, sT_71, sN_71, sA_71, sR_48_0, sR_48_2, sR_48_9, sR_48_10, sR_48_11, sR_48_20, sR_48_21, sR_48_22, sR_48_23, sR_48_24, sR_48_26, sR_48_27, sR_48_28, sR_48_29, sR_48_30, sR_48_31, sR_48_33, sR_48_34, sR_48_35, sR_48_36, sR_48_37, sR_48_38, sR_48_39, j1, le_t, rf_some, xc_int, xc_ref, xc_ret, xc_long, xw_nil, xw_int, xw_ref, xw_long, tl_some, tl_none, true_and, and_true, Nat.zero_le, Nat.reduceAdd, Nat.reduceMul, Nat.reduceLeDiff, Nat.reduceLT, Nat.reduceEqDiff, Nat.reducePow, Int32.reduceAdd, Int32.reduceMul, Int32.reduceSub, Int32.reduceLT, Int32.reduceLE, Int32.reduceToNatClampNeg, litE, ixU, not_false_eq_true, not_true_eq_false, ↓reduceIte, eq_self, true_or, or_true, false_and, and_false, or_false, false_or, i10, i01, in10, i1n, xbT, xbF, r_lt]
      refine ⟨W, Or.inr ⟨?_, rfl, by unfold bZ; rw [← hk]; exact J⟩⟩
      exact ff_no (fun i hi => decide_eq_false (hno i (by omega)))
    | succ j ih =>
      intro k h1 l4 l5 l6 hk W J hno
      have hkE : k < bend (nx1 g) (g 24 + 1) s0 := by omega
      have hkc := E3 k hkE
      have H1 := wr_sh W H
      have m1 : mp h1 0 g := mp_c hg hp (fun j _ _ => W.2 49 j (by unfold vS; omega))
      obtain ⟨g1, g2⟩ := bB_G (M := g 24 + 1) h0 hn k
      have hle := bG_le g1
      have j1 := J.1
      have e58 := (J.2.1 k hkc).1
      have hX := g1.2.1 k hkc
      have P := bB_P (nx1 g) (g 24 + 1) s0 k (bend (nx1 g) (g 24 + 1) s0 - k)
      rw [show k + (bend (nx1 g) (g 24 + 1) s0 - k) = bend (nx1 g) (g 24 + 1) s0 by omega] at P
      have eZ : bS (bZ (nx1 g) (g 24 + 1) s0) k = bS (bB (nx1 g) (g 24 + 1) s0 k) k := (bP_S P hkc).1
      have e4 : ((4096 : Int32) = 0) = False := eq_false (by decide)
      have e1 : nI (bS (bB (nx1 g) (g 24 + 1) s0 k) k) / 4096 = nI (bS (bB (nx1 g) (g 24 + 1) s0 k) k / 4096) := pk_div (d := 4096) (by omega) (by omega) (by omega)
      rw [xs_164_24]
      simp only [xs_164_25, xs_164_26, xs_164_29, xs_164_32, xs_164_33, xs_164_36, xs_164_37, xs_164_38, xs_164_40, xs_164_42, xs_164_45, xs_164_46, xs_164_47, H1, sT_48, sT_49, sN_49, sA_49, sT_50, sN_50, sA_50, sT_51, sN_51, sA_51, sT_52, sN_52, sA_52, sT_53, sN_53, sA_53, sT_54, sN_54, sA_54, sT_55, sN_55, sA_55, sT_56, sN_56, sA_56, sT_57, sN_57, sA_57, sT_58, sN_58, sA_58, sT_59, sN_59, sA_59, sT_60, sN_60, sA_60, sT_61, sN_61, sA_61, sT_62, sN_62, sA_62, sT_63, sN_63, sA_63, sT_64, sN_64, sA_64, sT_65, sN_65, sA_65, sT_66, sN_66, sA_66, sT_67, sN_67, sA_67, sT_68, sN_68, sB_68, sT_69, sN_69, sA_69, sT_70, sN_70, sA_70, sT_71, sN_71, sA_71, sR_48_0, sR_48_2, sR_48_9, sR_48_10, sR_48_11, sR_48_20, sR_48_21, sR_48_22, sR_48_23, sR_48_24, sR_48_26, sR_48_27, sR_48_28, sR_48_29, sR_48_30, sR_48_31, sR_48_33, sR_48_34, sR_48_35, sR_48_36, sR_48_37, sR_48_38, sR_48_39, j1, lt_f hkc (show (bB (nx1 g) (g 24 + 1) s0 k).1 < 2 ^ 31 by omega), nIlt0 (show k < 2 ^ 31 by omega), nI_clamp (show k < 2 ^ 31 by omega), show k < 102400 by omega, e58, e1, e4, hgi _ (show bS (bB (nx1 g) (g 24 + 1) s0 k) k / 4096 < 25 by omega), rf_some, xc_int, xc_ref, xc_ret, xc_long, xw_nil, xw_int, xw_ref, xw_long, tl_some, tl_none, true_and, and_true, Nat.zero_le, Nat.reduceAdd, Nat.reduceMul, Nat.reduceLeDiff, Nat.reduceLT, Nat.reduceEqDiff, Nat.reducePow, Int32.reduceAdd, Int32.reduceMul, Int32.reduceSub, Int32.reduceLT, Int32.reduceLE, Int32.reduceToNatClampNeg, litE, ixU, not_false_eq_true, not_true_eq_false, ↓reduceIte, eq_self, true_or, or_true, false_and, and_false, or_false, false_or, i10, i01, in10, i1n, xbT, xbF, r_lt]
      by_cases z : bS (bB (nx1 g) (g 24 + 1) s0 k) k / 4096 = G
      · have eK : bK (nx1 g) (g 24 + 1) s0 G = k := ff_at (fun i hi => decide_eq_false (hno i hi)) hkE (decide_eq_true (by rw [eZ]; exact z))
        simp only [eq_true z, ↓reduceIte, xs_164_50, xs_164_51]
        exact ⟨W, Or.inl ⟨by rw [eK]; exact hkE, by rw [eK], by rw [eK]; exact J⟩⟩
      · simp only [eq_false z, ↓reduceIte, xs_164_52, xs_164_53, rf_some, xc_int, xc_ref, xc_ret, xc_long, xw_nil, xw_int, xw_ref, xw_long, tl_some, tl_none, true_and, and_true, Nat.zero_le, Nat.reduceAdd, Nat.reduceMul, Nat.reduceLeDiff, Nat.reduceLT, Nat.reduceEqDiff, Nat.reducePow, Int32.reduceAdd, Int32.reduceMul, Int32.reduceSub, Int32.reduceLT, Int32.reduceLE, Int32.reduceToNatClampNeg, litE, ixU, not_false_eq_true, not_true_eq_false, ↓reduceIte, eq_self, true_or, or_true, false_and, and_false, or_false, false_or, i10, i01, in10, i1n, xbT, xbF, r_lt]
        have lq : ∀ t m h2 l6, m + t = g 24 + 1 → wr vS h h2 → MI (bX (nx1 g) k m (bB (nx1 g) (g 24 + 1) s0 k)) h2 → xe_P (d + 5) 164 55 [.ref 48, .int (nI p), .int gi, .int (nI k), .int (nI (bS (bB (nx1 g) (g 24 + 1) s0 k) k)), .int (nI m), l6] [] h2 (fun v h' => mRes (nx1 g) (g 24 + 1) s0 G h h' v) := by
          intro t
          induction t with
          | zero =>
            intro m h2 l6 hm W2 J2
            have hm : m = g 24 + 1 := by omega
            have H2 := wr_sh W2 H
            have m2 : mp h2 0 g := mp_c hg hp (fun j _ _ => W2.2 49 j (by unfold vS; omega))
            have e3 : (nI (g 24) < nI (g 24 + 1)) = True := eq_true (nI_lt (by omega) (by omega))
            have fin := ih (k + 1) h2 (.int (nI (bS (bB (nx1 g) (g 24 + 1) s0 k) k))) (.int (nI m)) l6 (by omega) W2 (by rw [bB, if_pos hkc]; rw [hm] at J2; exact J2) (fun i hi => by
              by_cases q : i = k
              · rw [q, eZ]; exact z
              · exact hno i (by omega))
            rw [hm] at fin ⊢
            simp only [xs_164_55, xs_164_57, xs_164_58, xs_164_61, xs_164_123, xs_164_126, H2, sT_48, sT_49, sN_49, sA_49, sT_50, sN_50, sA_50, sT_51, sN_51, sA_51, sT_52, sN_52, sA_52, sT_53, sN_53, sA_53, sT_54, sN_54, sA_54, sT_55, sN_55, sA_55, sT_56, sN_56, sA_56, sT_57, sN_57, sA_57, sT_58, sN_58, sA_58, sT_59, sN_59, sA_59, sT_60, sN_60, sA_60, sT_61, sN_61, sA_61, sT_62, sN_62, sA_62, sT_63, sN_63, sA_63, sT_64, sN_64, sA_64, sT_65, sN_65, sA_65, sT_66, sN_66, sA_66, sT_67, sN_67, sA_67, sT_68, sN_68, sB_68, sT_69, sN_69, sA_69, sT_70, sN_70, sA_70, sT_71, sN_71, sA_71, sR_48_0, sR_48_2, sR_48_9, sR_48_10, sR_48_11, sR_48_20, sR_48_21, sR_48_22, sR_48_23, sR_48_24, sR_48_26, sR_48_27, sR_48_28, sR_48_29, sR_48_30, sR_48_31, sR_48_33, sR_48_34, sR_48_35, sR_48_36, sR_48_37, sR_48_38, sR_48_39, md_bridgesG H2 m2, e3, nI_1, rf_some, xc_int, xc_ref, xc_ret, xc_long, xw_nil, xw_int, xw_ref, xw_long, tl_some, tl_none, true_and, and_true, Nat.zero_le, Nat.reduceAdd, Nat.reduceMul, Nat.reduceLeDiff, Nat.reduceLT, Nat.reduceEqDiff, Nat.reducePow, Int32.reduceAdd, Int32.reduceMul, Int32.reduceSub, Int32.reduceLT, Int32.reduceLE, Int32.reduceToNatClampNeg, litE, ixU, not_false_eq_true, not_true_eq_false, ↓reduceIte, eq_self, true_or, or_true, false_and, and_false, or_false, false_or, i10, i01, in10, i1n, xbT, xbF, r_lt]
            exact fin
          | succ t iht =>
            intro m h2 l6 hm W2 J2
            have H2 := wr_sh W2 H
            have m2 : mp h2 0 g := mp_c hg hp (fun j _ _ => W2.2 49 j (by unfold vS; omega))
            have e3 : (nI (g 24) < nI m) = False := eq_false (by rw [nI_ltI (by omega) (by omega)]; omega)
            obtain ⟨b1, b2, b3, b4⟩ := bX_all (M := g 24 + 1) (by omega) h0 hn hkc m (by omega)
            obtain ⟨c1, -⟩ := bX_all (M := g 24 + 1) (by omega) h0 hn hkc (m + 1) (by omega)
            rw [xs_164_55]
            simp only [xs_164_57, xs_164_58, xs_164_61, H2, sT_48, sT_49, sN_49, sA_49, sT_50, sN_50, sA_50, sT_51, sN_51, sA_51, sT_52, sN_52, sA_52, sT_53, sN_53, sA_53, sT_54, sN_54, sA_54, sT_55, sN_55, sA_55, sT_56, sN_56, sA_56, sT_57, sN_57, sA_57, sT_58, sN_58, sA_58, sT_59, sN_59, sA_59, sT_60, sN_60, sA_60, sT_61, sN_61, sA_61, sT_62, sN_62, sA_62, sT_63, sN_63, sA_63, sT_64, sN_64, sA_64, sT_65, sN_65, sA_65, sT_66, sN_66, sA_66, sT_67, sN_67, sA_67, sT_68, sN_68, sB_68, sT_69, sN_69, sA_69, sT_70, sN_70, sA_70, sT_71, sN_71, sA_71, sR_48_0, sR_48_2, sR_48_9, sR_48_10, sR_48_11, sR_48_20, sR_48_21, sR_48_22, sR_48_23, sR_48_24, sR_48_26, sR_48_27, sR_48_28, sR_48_29, sR_48_30, sR_48_31, sR_48_33, sR_48_34, sR_48_35, sR_48_36, sR_48_37, sR_48_38, sR_48_39, md_bridgesG H2 m2, e3, rf_some, xc_int, xc_ref, xc_ret, xc_long, xw_nil, xw_int, xw_ref, xw_long, tl_some, tl_none, true_and, and_true, Nat.zero_le, Nat.reduceAdd, Nat.reduceMul, Nat.reduceLeDiff, Nat.reduceLT, Nat.reduceEqDiff, Nat.reducePow, Int32.reduceAdd, Int32.reduceMul, Int32.reduceSub, Int32.reduceLT, Int32.reduceLE, Int32.reduceToNatClampNeg, litE, ixU, not_false_eq_true, not_true_eq_false, ↓reduceIte, eq_self, true_or, or_true, false_and, and_false, or_false, false_or, i10, i01, in10, i1n, xbT, xbF, r_lt]
            refine md_tryOne hg (show m ≤ g 24 by omega) hX b3 b1 b2 (fun s es => ?_) H2 m2 J2 (fun h3 l6' W3 J3 => ?_)
            · rw [bX, es] at c1
              exact c1
            · have fin := iht (m + 1) h3 (.int l6') (by omega) (wr_tr W2 W3) (by rw [bX]; exact J3)
              simp only [xs_164_117, xs_164_120, nI_1, rf_some, xc_int, xc_ref, xc_ret, xc_long, xw_nil, xw_int, xw_ref, xw_long, tl_some, tl_none, true_and, and_true, Nat.zero_le, Nat.reduceAdd, Nat.reduceMul, Nat.reduceLeDiff, Nat.reduceLT, Nat.reduceEqDiff, Nat.reducePow, Int32.reduceAdd, Int32.reduceMul, Int32.reduceSub, Int32.reduceLT, Int32.reduceLE, Int32.reduceToNatClampNeg, litE, ixU, not_false_eq_true, not_true_eq_false, ↓reduceIte, eq_self, true_or, or_true, false_and, and_false, or_false, false_or, i10, i01, in10, i1n, xbT, xbF, r_lt]
              exact fin
        have l0 := lq (g 24 + 1) 0 h1 l6 (by omega) W J
        rw [show nI 0 = (0 : Int32) from rfl] at l0
        exact l0
  have ei : (4096 : Int32) * nI (g (25 + 2 * p)) + nI (rc (gr g)) = nI s0 := by rw [show (4096 : Int32) = nI 4096 from rfl, pk_mul, nI_add, hs0]
  simp only [xs_164, xs_164_0, xs_164_1, xs_164_4, xs_164_5, xs_164_8, xs_164_9, xs_164_10, xs_164_13, xs_164_14, xs_164_15, xs_164_18, xs_164_19, H, HW, sT_48, sT_49, sN_49, sA_49, sT_50, sN_50, sA_50, sT_51, sN_51, sA_51, sT_52, sN_52, sA_52, sT_53, sN_53, sA_53, sT_54, sN_54, sA_54, sT_55, sN_55, sA_55, sT_56, sN_56, sA_56, sT_57, sN_57, sA_57, sT_58, sN_58, sA_58, sT_59, sN_59, sA_59, sT_60, sN_60, sA_60, sT_61, sN_61, sA_61, sT_62, sN_62, sA_62, sT_63, sN_63, sA_63, sT_64, sN_64, sA_64, sT_65, sN_65, sA_65, sT_66, sN_66, sA_66, sT_67, sN_67, sA_67, sT_68, sN_68, sB_68, sT_69, sN_69, sA_69, sT_70, sN_70, sA_70, sT_71, sN_71, sA_71, sR_48_0, sR_48_2, sR_48_9, sR_48_10, sR_48_11, sR_48_20, sR_48_21, sR_48_22, sR_48_23, sR_48_24, sR_48_26, sR_48_27, sR_48_28, sR_48_29, sR_48_30, sR_48_31, sR_48_33, sR_48_34, sR_48_35, sR_48_36, sR_48_37, sR_48_38, sR_48_39, md_now H hp, md_placeW H hp hp1 (show p < 3 by omega), md_codeNow H gr3, ei, rf_some, xc_int, xc_ref, xc_ret, xc_long, xw_nil, xw_int, xw_ref, xw_long, tl_some, tl_none, true_and, and_true, Nat.zero_le, Nat.reduceAdd, Nat.reduceMul, Nat.reduceLeDiff, Nat.reduceLT, Nat.reduceEqDiff, Nat.reducePow, Int32.reduceAdd, Int32.reduceMul, Int32.reduceSub, Int32.reduceLT, Int32.reduceLE, Int32.reduceToNatClampNeg, litE, ixU, not_false_eq_true, not_true_eq_false, ↓reduceIte, eq_self, true_or, or_true, false_and, and_false, or_false, false_or, i10, i01, in10, i1n, xbT, xbF, r_lt]
  refine xe_C_mono (md_begins (d := d + 4) (show s0 < 102400 by omega) (HW _)) ?_
  rintro r h1 ⟨rfl, W, J⟩
  have l0 := lp (bend (nx1 g) (g 24 + 1) s0) 0 h1 (.retAddr 0) (.retAddr 0) (.retAddr 0) (by omega) (wr_tr (wr_sub (mW_wr h _) (fun a j q => Or.inl q)) W) J (fun i hi => absurd hi (by omega))
  rw [show nI 0 = (0 : Int32) from rfl] at l0
  simp only [xs_164_22, xs_164_23, rf_some, xc_int, xc_ref, xc_ret, xc_long, xw_nil, xw_int, xw_ref, xw_long, tl_some, tl_none, true_and, and_true, Nat.zero_le, Nat.reduceAdd, Nat.reduceMul, Nat.reduceLeDiff, Nat.reduceLT, Nat.reduceEqDiff, Nat.reducePow, Int32.reduceAdd, Int32.reduceMul, Int32.reduceSub, Int32.reduceLT, Int32.reduceLE, Int32.reduceToNatClampNeg, litE, ixU, not_false_eq_true, not_true_eq_false, ↓reduceIte, eq_self, true_or, or_true, false_and, and_false, or_false, false_or, i10, i01, in10, i1n, xbT, xbF, r_lt]
  exact l0
/-- the way back -/
theorem md_tracesBack {b : bL} {K : Nat} (hG : bG 102400 b) (hN : bN b) (hK : K < b.1) (hD : bD b K ≤ 100) (H : sh h) (J : MI b h) : xe_C (d + 1) 163 [.ref 48, .int (nI K)] h (fun r h' => r = some (.int (nI (bD b K))) ∧ wr vS h h' ∧ ∀ j, j < bD b K → xe_I h' 59 j = nI (bM b (anc b K j))) := by
  have hb := bG_le hG
  have lp : ∀ t j h1 l4, j + t = bD b K → wr (fun a _ => a = 59) h h1 → (∀ i, i < j → xe_I h1 59 i = nI (bM b (anc b K i))) → xe_P d 163 9 [.ref 48, .int (nI K), .int (nI j), .int (nI (bS b (anc b K j))), l4] [] h1 (fun r h' => r = some (.int (nI (bD b K))) ∧ wr vS h h' ∧ ∀ j, j < bD b K → xe_I h' 59 j = nI (bM b (anc b K j))) := by
    intro t
    induction t with
    | zero =>
      intro j h1 l4 hj W E
      have hj : j = bD b K := by omega
      obtain ⟨a1, a2⟩ := anc_ok hG hK j (by omega)
      have a0 : anc b K j = 0 := (dep_0 hG a1).mp (by omega)
      have H1 := wr_sh W H
      have hS := hG.2.1 _ a1
      have e57 : xe_I h1 57 (bS b (anc b K j)) = -1 := by
        rw [W.2 57 _ (show ¬ 57 = 59 by decide), (J.2.1 _ a1).2, if_pos a0]
      have em : ((-1 : Int32) = -1) = True := eq_true rfl
      simp only [xs_163_9, xs_163_10, xs_163_13, xs_163_14, xs_163_15, xs_163_16, xs_163_64, xs_163_65, H1, sT_48, sT_49, sN_49, sA_49, sT_50, sN_50, sA_50, sT_51, sN_51, sA_51, sT_52, sN_52, sA_52, sT_53, sN_53, sA_53, sT_54, sN_54, sA_54, sT_55, sN_55, sA_55, sT_56, sN_56, sA_56, sT_57, sN_57, sA_57, sT_58, sN_58, sA_58, sT_59, sN_59, sA_59, sT_60, sN_60, sA_60, sT_61, sN_61, sA_61, sT_62, sN_62, sA_62, sT_63, sN_63, sA_63, sT_64, sN_64, sA_64, sT_65, sN_65, sA_65, sT_66, sN_66, sA_66, sT_67, sN_67, sA_67, sT_68, sN_68, sB_68, sT_69, sN_69, sA_69, sT_70, sN_70, sA_70, sT_71, sN_71, sA_71, sR_48_0, sR_48_2, sR_48_9, sR_48_10, sR_48_11, sR_48_20, sR_48_21, sR_48_22, sR_48_23, sR_48_24, sR_48_26, sR_48_27, sR_48_28, sR_48_29, sR_48_30, sR_48_31, sR_48_33, sR_48_34, sR_48_35, sR_48_36, sR_48_37, sR_48_38, sR_48_39, nIlt0 (show bS b (anc b K j) < 2 ^ 31 by omega), nI_clamp (show bS b (anc b K j) < 2 ^ 31 by omega), show bS b (anc b K j) < 102400 by omega, e57, em, rf_some, xc_int, xc_ref, xc_ret, xc_long, xw_nil, xw_int, xw_ref, xw_long, tl_some, tl_none, true_and, and_true, Nat.zero_le, Nat.reduceAdd, Nat.reduceMul, Nat.reduceLeDiff, Nat.reduceLT, Nat.reduceEqDiff, Nat.reducePow, Int32.reduceAdd, Int32.reduceMul, Int32.reduceSub, Int32.reduceLT, Int32.reduceLE, Int32.reduceToNatClampNeg, litE, ixU, not_false_eq_true, not_true_eq_false, ↓reduceIte, eq_self, true_or, or_true, false_and, and_false, or_false, false_or, i10, i01, in10, i1n, xbT, xbF, r_lt]
      exact ⟨by rw [hj], wr_sub W (fun a j q => by unfold vS; omega), fun i hi => E i (by omega)⟩
    | succ t ih =>
      intro j h1 l4 hj W E
      obtain ⟨a1, a2⟩ := anc_ok hG hK j (by omega)
      obtain ⟨a3, a4⟩ := anc_ok hG hK (j + 1) (by omega)
      have a0 : ¬ anc b K j = 0 := fun q => by
        have := (dep_0 hG a1).mpr q
        omega
      have H1 := wr_sh W H
      have hS := hG.2.1 _ a1
      have hS2 := hG.2.1 _ a3
      have hM := hN _ a1
      have hF : bF b (anc b K j) < 102400 := by
        have : bF b (anc b K j) < b.1 := a3
        omega
      have e57 : xe_I h1 57 (bS b (anc b K j)) = nI (64 * bF b (anc b K j) + bM b (anc b K j) + 1) := by
        rw [W.2 57 _ (show ¬ 57 = 59 by decide), (J.2.1 _ a1).2, if_neg a0]
      have e58 : ∀ v, xe_I (xe_sI h1 59 j v) 58 (bF b (anc b K j)) = nI (bS b (bF b (anc b K j))) := fun v => by
        rw [hI_sI, if_neg (by omega), W.2 58 _ (show ¬ 58 = 59 by decide)]; exact (J.2.1 _ a3).1
      have em : (nI (64 * bF b (anc b K j) + bM b (anc b K j) + 1) = -1) = False := eq_false (fun z => by
        have z2 := congrArg Int32.toInt z
        rw [nI_toInt (by omega), show Int32.toInt (-1) = -1 by decide] at z2
        omega)
      have ep : nI (64 * bF b (anc b K j) + bM b (anc b K j) + 1) - 1 = nI (64 * bF b (anc b K j) + bM b (anc b K j)) := nI_pred _
      have e64 : ((64 : Int32) = 0) = False := eq_false (by decide)
      have ed : nI (64 * bF b (anc b K j) + bM b (anc b K j)) / 64 = nI (bF b (anc b K j)) := by
        rw [show (64 : Int32) = nI 64 from rfl, pk_div (by omega) (by omega) (by omega)]
        congr 1
        omega
      have er : nI (64 * bF b (anc b K j) + bM b (anc b K j)) - nI (bF b (anc b K j)) * 64 = nI (bM b (anc b K j)) := by
        have := pk_rem (a := 64 * bF b (anc b K j) + bM b (anc b K j)) (d := 64) (by omega) (by omega) (by omega)
        rw [show nI 64 = (64 : Int32) from rfl, ed] at this
        rw [this]
        congr 1
        omega
      have e1000 : (1000 ≤ nI j) = False := eq_false (by rw [show (1000 : Int32) = nI 1000 from rfl, nI_leI (by decide) (by omega)]; omega)
      have fin := ih (j + 1) (xe_sI h1 59 j (nI (bM b (anc b K j)))) (.int (nI (64 * bF b (anc b K j) + bM b (anc b K j)))) (by omega) (wr_sI W rfl) (fun i hi => by
        rw [hI_sI]
        by_cases q : i = j
        · rw [if_pos ⟨rfl, q⟩, q]
        · rw [if_neg (fun w => q w.2)]; exact E i (by omega))
      rw [show anc b K (j + 1) = bF b (anc b K j) from rfl] at fin
      rw [xs_163_9]
      simp only [xs_163_10, xs_163_13, xs_163_14, xs_163_15, xs_163_16, xs_163_19, xs_163_20, xs_163_23, xs_163_24, xs_163_25, xs_163_26, xs_163_27, xs_163_29, xs_163_30, xs_163_33, xs_163_36, xs_163_37, xs_163_40, xs_163_41, xs_163_43, xs_163_45, xs_163_46, xs_163_47, xs_163_50, xs_163_51, xs_163_54, xs_163_56, xs_163_58, xs_163_59, xs_163_60, xs_163_61, H1, sT_48, sT_49, sN_49, sA_49, sT_50, sN_50, sA_50, sT_51, sN_51, sA_51, sT_52, sN_52, sA_52, sT_53, sN_53, sA_53, sT_54, sN_54, sA_54, sT_55, sN_55, sA_55, sT_56, sN_56, sA_56, sT_57, sN_57, sA_57, sT_58, sN_58, sA_58, sT_59, sN_59, sA_59, sT_60, sN_60, sA_60, sT_61, sN_61, sA_61, sT_62, sN_62, sA_62, sT_63, sN_63, sA_63, sT_64, sN_64, sA_64, sT_65, sN_65, sA_65, sT_66, sN_66, sA_66, sT_67, sN_67, sA_67, sT_68, sN_68, sB_68, sT_69, sN_69, sA_69, sT_70, sN_70, sA_70, sT_71, sN_71, sA_71, sR_48_0, sR_48_2, sR_48_9, sR_48_10, sR_48_11, sR_48_20, sR_48_21, sR_48_22, sR_48_23, sR_48_24, sR_48_26, sR_48_27, sR_48_28, sR_48_29, sR_48_30, sR_48_31, sR_48_33, sR_48_34, sR_48_35, sR_48_36, sR_48_37, sR_48_38, sR_48_39, nIlt0 (show bS b (anc b K j) < 2 ^ 31 by omega), nI_clamp (show bS b (anc b K j) < 2 ^ 31 by omega), show bS b (anc b K j) < 102400 by omega, e57, em, ep, e64, ed, er, e1000, nIlt0 (show j < 2 ^ 31 by omega), nI_clamp (show j < 2 ^ 31 by omega), show j < 1000 by omega, nIlt0 (show bF b (anc b K j) < 2 ^ 31 by omega), nI_clamp (show bF b (anc b K j) < 2 ^ 31 by omega), show bF b (anc b K j) < 102400 by omega, e58, nI_1, rf_some, xc_int, xc_ref, xc_ret, xc_long, xw_nil, xw_int, xw_ref, xw_long, tl_some, tl_none, true_and, and_true, Nat.zero_le, Nat.reduceAdd, Nat.reduceMul, Nat.reduceLeDiff, Nat.reduceLT, Nat.reduceEqDiff, Nat.reducePow, Int32.reduceAdd, Int32.reduceMul, Int32.reduceSub, Int32.reduceLT, Int32.reduceLE, Int32.reduceToNatClampNeg, litE, ixU, not_false_eq_true, not_true_eq_false, ↓reduceIte, eq_self, true_or, or_true, false_and, and_false, or_false, false_or, i10, i01, in10, i1n, xbT, xbF, r_lt, hI_sI, hL_sI, hR_sI, hT_sI, hN_sI, hn_sI, ho_sI, hia_sI, hba_sI, hal_sI, hix_sI, hI_aI, hL_aI, hR_aI, hT_aI, hN_aI, hn_aI, ho_aI, hia_aI, hal_aI, hix_aI, sh_sI, sh_aI, sh_sL, sh_aL]
      exact fin
  have e58 := (J.2.1 K hK).1
  have l0 := lp (bD b K) 0 h (.retAddr 0) (by omega) (wr_rf _ h) (fun i hi => absurd hi (by omega))
  rw [show nI 0 = (0 : Int32) from rfl, show anc b K 0 = K from rfl] at l0
  simp only [xs_163, xs_163_0, xs_163_1, xs_163_2, xs_163_3, xs_163_6, xs_163_7, xs_163_8, H, sT_48, sT_49, sN_49, sA_49, sT_50, sN_50, sA_50, sT_51, sN_51, sA_51, sT_52, sN_52, sA_52, sT_53, sN_53, sA_53, sT_54, sN_54, sA_54, sT_55, sN_55, sA_55, sT_56, sN_56, sA_56, sT_57, sN_57, sA_57, sT_58, sN_58, sA_58, sT_59, sN_59, sA_59, sT_60, sN_60, sA_60, sT_61, sN_61, sA_61, sT_62, sN_62, sA_62, sT_63, sN_63, sA_63, sT_64, sN_64, sA_64, sT_65, sN_65, sA_65, sT_66, sN_66, sA_66, sT_67, sN_67, sA_67, sT_68, sN_68, sB_68, sT_69, sN_69, sA_69, sT_70, sN_70, sA_70, sT_71, sN_71, sA_71, sR_48_0, sR_48_2, sR_48_9, sR_48_10, sR_48_11, sR_48_20, sR_48_21, sR_48_22, sR_48_23, sR_48_24, sR_48_26, sR_48_27, sR_48_28, sR_48_29, sR_48_30, sR_48_31, sR_48_33, sR_48_34, sR_48_35, sR_48_36, sR_48_37, sR_48_38, sR_48_39, nIlt0 (show K < 2 ^ 31 by omega), nI_clamp (show K < 2 ^ 31 by omega), show K < 102400 by omega, e58, rf_some, xc_int, xc_ref, xc_ret, xc_long, xw_nil, xw_int, xw_ref, xw_long, tl_some, tl_none, true_and, and_true, Nat.zero_le, Nat.reduceAdd, Nat.reduceMul, Nat.reduceLeDiff, Nat.reduceLT, Nat.reduceEqDiff, Nat.reducePow, Int32.reduceAdd, Int32.reduceMul, Int32.reduceSub, Int32.reduceLT, Int32.reduceLE, Int32.reduceToNatClampNeg, litE, ixU, not_false_eq_true, not_true_eq_false, ↓reduceIte, eq_self, true_or, or_true, false_and, and_false, or_false, false_or, i10, i01, in10, i1n, xbT, xbF, r_lt]
  exact l0
/-- what is told of a way -/
def tld (b : bL) (K : Nat) (x : Int32) : Int32 := if x = 0 then nI (bD b K) else if x.toNatClampNeg - 10 < bD b K then nI (bM b (anc b K (bD b K - 1 - (x.toNatClampNeg - 10)))) else -4
theorem md_told {b : bL} {K : Nat} {x : Int32} (hx : rowQ x) (hG : bG 102400 b) (hN : bN b) (hK : K < b.1) (hD : bD b K ≤ 100) (H : sh h) (J : MI b h) : xe_C (d + 2) 165 [.ref 48, .int (nI K), .int x] h (fun r h' => r = some (.int (tld b K x)) ∧ wr vS h h') := by
  have hb := bG_le hG
  simp only [xs_165, xs_165_0, xs_165_1, xs_165_3, xs_165_6, xs_165_8, xs_165_9, xs_165_10, xs_165_11, nI_ne4 (show K < 2 ^ 31 by omega), H, sT_48, sT_49, sN_49, sA_49, sT_50, sN_50, sA_50, sT_51, sN_51, sA_51, sT_52, sN_52, sA_52, sT_53, sN_53, sA_53, sT_54, sN_54, sA_54, sT_55, sN_55, sA_55, sT_56, sN_56, sA_56, sT_57, sN_57, sA_57, sT_58, sN_58, sA_58, sT_59, sN_59, sA_59, sT_60, sN_60, sA_60, sT_61, sN_61, sA_61, sT_62, sN_62, sA_62, sT_63, sN_63, sA_63, sT_64, sN_64, sA_64, sT_65, sN_65, sA_65, sT_66, sN_66, sA_66, sT_67, sN_67, sA_67, sT_68, sN_68, sB_68, sT_69, sN_69, sA_69, sT_70, sN_70, sA_70, sT_71, sN_71, sA_71, sR_48_0, sR_48_2, sR_48_9, sR_48_10, sR_48_11, sR_48_20, sR_48_21, sR_48_22, sR_48_23, sR_48_24, sR_48_26, sR_48_27, sR_48_28, sR_48_29, sR_48_30, sR_48_31, sR_48_33, sR_48_34, sR_48_35, sR_48_36, sR_48_37, sR_48_38, sR_48_39, rf_some, xc_int, xc_ref, xc_ret, xc_long, xw_nil, xw_int, xw_ref, xw_long, tl_some, tl_none, true_and, and_true, Nat.zero_le, Nat.reduceAdd, Nat.reduceMul, Nat.reduceLeDiff, Nat.reduceLT, Nat.reduceEqDiff, Nat.reducePow, Int32.reduceAdd, Int32.reduceMul, Int32.reduceSub, Int32.reduceLT, Int32.reduceLE, Int32.reduceToNatClampNeg, litE, ixU, not_false_eq_true, not_true_eq_false, ↓reduceIte, eq_self, true_or, or_true, false_and, and_false, or_false, false_or, i10, i01, in10, i1n, xbT, xbF, r_lt]
  refine xe_C_mono (md_tracesBack (d := d) hG hN hK hD H J) ?_
  rintro r h1 ⟨rfl, W, E⟩
  have H1 := wr_sh W H
  unfold tld
  by_cases x0 : x = 0
  · simp only [xs_165_14, xs_165_15, xs_165_16, xs_165_19, xs_165_20, xs_165_49, eq_true x0, rf_some, xc_int, xc_ref, xc_ret, xc_long, xw_nil, xw_int, xw_ref, xw_long, tl_some, tl_none, true_and, and_true, Nat.zero_le, Nat.reduceAdd, Nat.reduceMul, Nat.reduceLeDiff, Nat.reduceLT, Nat.reduceEqDiff, Nat.reducePow, Int32.reduceAdd, Int32.reduceMul, Int32.reduceSub, Int32.reduceLT, Int32.reduceLE, Int32.reduceToNatClampNeg, litE, ixU, not_false_eq_true, not_true_eq_false, ↓reduceIte, eq_self, true_or, or_true, false_and, and_false, or_false, false_or, i10, i01, in10, i1n, xbT, xbF, r_lt]
    exact W
  · obtain ⟨i, hi, rfl⟩ := rowQ_n hx x0
    rw [if_neg x0, nI_clamp hi, Nat.add_sub_cancel]
    by_cases y : i < bD b K
    · have e1 : (nI (bD b K) ≤ nI i) = False := lt_f y (by omega)
      have e2 : nI (bD b K) - 1 - nI i = nI (bD b K - 1 - i) := by rw [nIp (by omega), pk_sub (by omega)]
      have e3 := E (bD b K - 1 - i) (by omega)
      rw [if_pos y]
      simp only [xs_165_14, xs_165_15, xs_165_16, xs_165_19, xs_165_20, xs_165_23, xs_165_24, xs_165_26, xs_165_27, xs_165_28, xs_165_31, xs_165_32, xs_165_35, xs_165_36, xs_165_37, xs_165_38, xs_165_39, xs_165_41, xs_165_42, xs_165_43, xs_165_44, xs_165_47, xs_165_49, eq_false x0, sub10, e1, e2, H1, sT_48, sT_49, sN_49, sA_49, sT_50, sN_50, sA_50, sT_51, sN_51, sA_51, sT_52, sN_52, sA_52, sT_53, sN_53, sA_53, sT_54, sN_54, sA_54, sT_55, sN_55, sA_55, sT_56, sN_56, sA_56, sT_57, sN_57, sA_57, sT_58, sN_58, sA_58, sT_59, sN_59, sA_59, sT_60, sN_60, sA_60, sT_61, sN_61, sA_61, sT_62, sN_62, sA_62, sT_63, sN_63, sA_63, sT_64, sN_64, sA_64, sT_65, sN_65, sA_65, sT_66, sN_66, sA_66, sT_67, sN_67, sA_67, sT_68, sN_68, sB_68, sT_69, sN_69, sA_69, sT_70, sN_70, sA_70, sT_71, sN_71, sA_71, sR_48_0, sR_48_2, sR_48_9, sR_48_10, sR_48_11, sR_48_20, sR_48_21, sR_48_22, sR_48_23, sR_48_24, sR_48_26, sR_48_27, sR_48_28, sR_48_29, sR_48_30, sR_48_31, sR_48_33, sR_48_34, sR_48_35, sR_48_36, sR_48_37, sR_48_38, sR_48_39, nIlt0 (show bD b K - 1 - i < 2 ^ 31 by omega), nI_clamp (show bD b K - 1 - i < 2 ^ 31 by omega), show bD b K - 1 - i < 1000 by omega, e3, rf_some, xc_int, xc_ref, xc_ret, xc_long, xw_nil, xw_int, xw_ref, xw_long, tl_some, tl_none, true_and, and_true, Nat.zero_le, Nat.reduceAdd, Nat.reduceMul, Nat.reduceLeDiff, Nat.reduceLT, Nat.reduceEqDiff, Nat.reducePow, Int32.reduceAdd, Int32.reduceMul, Int32.reduceSub, Int32.reduceLT, Int32.reduceLE, Int32.reduceToNatClampNeg, litE, ixU, not_false_eq_true, not_true_eq_false, ↓reduceIte, eq_self, true_or, or_true, false_and, and_false, or_false, false_or, i10, i01, in10, i1n, xbT, xbF, r_lt]
      exact W
    · have e1 : (nI (bD b K) ≤ nI i) = True := eq_true (by rw [nI_leI (by omega) (by omega)]; omega)
      rw [if_neg y]
      simp only [xs_165_14, xs_165_15, xs_165_16, xs_165_19, xs_165_20, xs_165_23, xs_165_24, xs_165_26, xs_165_27, xs_165_28, xs_165_47, xs_165_49, eq_false x0, sub10, e1, rf_some, xc_int, xc_ref, xc_ret, xc_long, xw_nil, xw_int, xw_ref, xw_long, tl_some, tl_none, true_and, and_true, Nat.zero_le, Nat.reduceAdd, Nat.reduceMul, Nat.reduceLeDiff, Nat.reduceLT, Nat.reduceEqDiff, Nat.reducePow, Int32.reduceAdd, Int32.reduceMul, Int32.reduceSub, Int32.reduceLT, Int32.reduceLE, Int32.reduceToNatClampNeg, litE, ixU, not_false_eq_true, not_true_eq_false, ↓reduceIte, eq_self, true_or, or_true, false_and, and_false, or_false, false_or, i10, i01, in10, i1n, xbT, xbF, r_lt]
      exact W
end WN
