/-! look: the reference -/
theorem rc_dig {f : Nat → Nat} (hf : ∀ b, b < 6 → f b ≤ 3) : ∀ b, b < 6 → rc f / 4 ^ b % 4 = f b := by
  have h0 := hf 0 (by omega); have h1 := hf 1 (by omega); have h2 := hf 2 (by omega); have h3 := hf 3 (by omega); have h4 := hf 4 (by omega); have h5 := hf 5 (by omega)
  intro b hb
  unfold rc
  rcases (show b = 0 ∨ b = 1 ∨ b = 2 ∨ b = 3 ∨ b = 4 ∨ b = 5 by omega) with rfl | rfl | rfl | rfl | rfl | rfl <;> simp only [Nat.reducePow] <;> omega
theorem rc_lt {f : Nat → Nat} (hf : ∀ b, b < 6 → f b ≤ 3) : rc f < 4096 := by
  have h0 := hf 0 (by omega); have h1 := hf 1 (by omega); have h2 := hf 2 (by omega); have h3 := hf 3 (by omega); have h4 := hf 4 (by omega); have h5 := hf 5 (by omega)
  unfold rc; omega
theorem md_worksC {d : Nat} {h : xe_H} {Q : Option Value → xe_H → Prop} {f : Nat → Nat} (H : sh h) (hf : ∀ b, b < 6 → f b ≤ 3) : xe_C (d + 1) 146 [.ref 48, .int (nI (rc f))] h Q = Q none (mW h f) := by
  rw [md_works H (rc f) (by have := rc_lt hf; omega), mW_c (rc_dig hf)]
def lS (a : Nat) (_ : Nat) : Prop := a = 56 ∨ a = 66 ∨ a = 67
/-- what a rig that fits tells of a look -/
def lt1 (o : Bool) (hd : Nat) (f r : Nat → Nat) (x y : Nat) : Nat := if decide (x = 6 ∨ f x = 0) && tq o hd f x (r x) y then 1 else 0
def llP (hd n : Nat) (f r : Nat → Nat) (x0 : Nat) (h h' : xe_H) : Prop := ∀ x y, (x = 6 ∨ x < n) → y < n → xe_I h' 66 (10 * x + y) = (if x < x0 then xe_I h 66 (10 * x + y) + nI (lt1 true hd f r x y) else xe_I h 66 (10 * x + y)) ∧ xe_I h' 67 (10 * x + y) = (if x < x0 then xe_I h 67 (10 * x + y) + nI (lt1 false hd f r x y) else xe_I h 67 (10 * x + y))
section LL
variable {d : Nat} {h : xe_H} {g : Nat → Nat}
theorem md_laysLooks {f r : Nat → Nat} (hg : pg_ok g) (hf : ∀ b, b < 6 → f b ≤ 3) (hr : ∀ b, b < g 24 → r b ≤ 6) (H : sh h) (hm : mp h 0 g) (i65 : ∀ b, b < g 24 → xe_I h 65 b = no4 (r b)) : xe_C (d + 4) 193 [.ref 48] (mW h f) (fun v h' => v = none ∧ wr lS h h' ∧ llP (g 33) (g 24) f r 7 h h') := by
  have h24 : g 24 ≤ 6 := hg.1
  have h33 : g 33 ≤ 3 := hg.2.2.2.2.1
  have hrc := rc_lt hf
  have lp : ∀ k x h1 l3 l4, x + k = 7 → wr lS h h1 → llP (g 33) (g 24) f r x h h1 → xe_P (d + 3) 193 7 [.ref 48, .int (nI (rc f)), .int (nI x), l3, l4] [] h1 (fun v h' => v = none ∧ wr lS h h' ∧ llP (g 33) (g 24) f r 7 h h') := by
    intro k
    induction k with
    | zero =>
      intro x h1 l3 l4 hx W P
      have : x = 7 := by omega
      subst this
      have e1 : (6 < nI 7) = True := eq_true (by decide)
      simp only [xs_193_7, xs_193_8, xs_193_10, xs_193_145, e1, rf_some, xc_int, xc_ref, xc_ret, xc_long, xw_nil, xw_int, xw_ref, xw_long, tl_some, tl_none, true_and, and_true, Nat.zero_le, Nat.reduceAdd, Nat.reduceMul, Nat.reduceLeDiff, Nat.reduceLT, Nat.reduceEqDiff, Nat.reducePow, Int32.reduceAdd, Int32.reduceMul, Int32.reduceSub, Int32.reduceLT, Int32.reduceLE, Int32.reduceToNatClampNeg, litE, ixU, not_false_eq_true, not_true_eq_false, ↓reduceIte, eq_self, true_or, or_true, false_and, and_false, or_false, false_or, i10, i01, in10, i1n, xbT, xbF, r_lt]
      exact ⟨W, P⟩
    | succ k ih =>
      intro x h1 l3 l4 hx W P
      have H1 := wr_sh W H
      have m1 : mp h1 0 g := mp_c hg hm (fun j _ _ => W.2 49 j (by unfold lS; omega))
      have j65 : ∀ b, b < g 24 → xe_I h1 65 b = no4 (r b) := fun b hb => by rw [W.2 65 b (by unfold lS; omega)]; exact i65 b hb
      have HW : ∀ f, sh (mW h1 f) := fun f => by rw [mW_sh]; exact H1
      have e1 : (6 < nI x) = False := eq_false (by rw [nI6, nI_ltI (by decide) (by omega)]; omega)
      have wc := fun d Q => md_worksC (d := d) (Q := Q) H1 hf
      /- one x that is passed over -/
      have pass : (∀ y, y < g 24 → (x = 6 ∨ x < g 24) → lt1 true (g 33) f r x y = 0 ∧ lt1 false (g 33) f r x y = 0) → ∀ f' l3 l4, xe_P (d + 3) 193 139 [.ref 48, .int (nI (rc f)), .int (nI x), .int l3, l4] [] (mW h1 f') (fun v h' => v = none ∧ wr lS h h' ∧ llP (g 33) (g 24) f r 7 h h') := by
        intro z f' l3 l4
        have fin := ih (x + 1) (mW h1 f') (.int l3) l4 (by omega) (wr_tr W (wr_sub (mW_wr h1 f') (fun a j q => Or.inl q))) (fun x' y' hx' hy' => by
          obtain ⟨p1, p2⟩ := P x' y' hx' hy'
          rw [mW_o (by decide), mW_o (by decide), p1, p2]
          by_cases e : x' = x
          · subst e
            obtain ⟨z1, z2⟩ := z y' hy' hx'
            rw [if_neg (by omega), if_pos (by omega), if_neg (by omega), if_pos (by omega), z1, z2]
            exact ⟨(ad_0 _).symm, (ad_0 _).symm⟩
          · by_cases y : x' < x
            · rw [if_pos y, if_pos (by omega), if_pos y, if_pos (by omega)]; exact ⟨rfl, rfl⟩
            · rw [if_neg y, if_neg (by omega), if_neg y, if_neg (by omega)]; exact ⟨rfl, rfl⟩)
        simp only [xs_193_139, xs_193_142, nI_1, rf_some, xc_int, xc_ref, xc_ret, xc_long, xw_nil, xw_int, xw_ref, xw_long, tl_some, tl_none, true_and, and_true, Nat.zero_le, Nat.reduceAdd, Nat.reduceMul, Nat.reduceLeDiff, Nat.reduceLT, Nat.reduceEqDiff, Nat.reducePow, Int32.reduceAdd, Int32.reduceMul, Int32.reduceSub, Int32.reduceLT, Int32.reduceLE, Int32.reduceToNatClampNeg, litE, ixU, not_false_eq_true, not_true_eq_false, ↓reduceIte, eq_self, true_or, or_true, false_and, and_false, or_false, false_or, i10, i01, in10, i1n, xbT, xbF, r_lt]
        exact fin
      by_cases may : x = 6 ∨ x < g 24
      · have beg : ∀ Q, xe_P (d + 3) 193 7 [.ref 48, .int (nI (rc f)), .int (nI x), l3, l4] [] h1 Q = xe_C (d + 3) 189 [.ref 48, .int (no4 x)] (mW h1 f) (fun r h' => xe_P (d + 3) 193 58 [.ref 48, .int (nI (rc f)), .int (nI x), .int 1, l4] (r.toList ++ []) h' Q) := by
          intro Q
          rw [xs_193_7]
          by_cases x6 : x = 6
          · have e2 : (nI x < nI (g 24)) = False := eq_false (by rw [nI_ltI (by omega) (by omega)]; omega)
            have e3 : (nI x = 6) = True := by rw [nIe6 (by omega)]; exact eq_true x6
            rw [x6, no4_6]
            rw [x6] at e1 e2 e3
            simp only [xs_193_8, xs_193_10, xs_193_13, xs_193_14, xs_193_15, xs_193_18, xs_193_21, xs_193_22, xs_193_24, xs_193_27, xs_193_28, xs_193_31, xs_193_32, xs_193_33, xs_193_34, xs_193_35, xs_193_38, xs_193_39, xs_193_42, xs_193_43, xs_193_44, xs_193_46, xs_193_49, xs_193_51, xs_193_54, xs_193_55, e1, e2, e3, HW, H1, sT_48, sT_49, sN_49, sA_49, sT_50, sN_50, sA_50, sT_51, sN_51, sA_51, sT_52, sN_52, sA_52, sT_53, sN_53, sA_53, sT_54, sN_54, sA_54, sT_55, sN_55, sA_55, sT_56, sN_56, sA_56, sT_57, sN_57, sA_57, sT_58, sN_58, sA_58, sT_59, sN_59, sA_59, sT_60, sN_60, sA_60, sT_61, sN_61, sA_61, sT_62, sN_62, sA_62, sT_63, sN_63, sA_63, sT_64, sN_64, sA_64, sT_65, sN_65, sA_65, sT_66, sN_66, sA_66, sT_67, sN_67, sA_67, sT_68, sN_68, sB_68, sT_69, sN_69, sA_69, sT_70, sN_70, sA_70, sT_71, sN_71, sA_71, sR_48_0, sR_48_2, sR_48_9, sR_48_10, sR_48_11, sR_48_20, sR_48_21, sR_48_22, sR_48_23, sR_48_24, sR_48_26, sR_48_27, sR_48_28, sR_48_29, sR_48_30, sR_48_31, sR_48_33, sR_48_34, sR_48_35, sR_48_36, sR_48_37, sR_48_38, sR_48_39, md_bridgesG H1 m1, wc, rf_some, xc_int, xc_ref, xc_ret, xc_long, xw_nil, xw_int, xw_ref, xw_long, tl_some, tl_none, true_and, and_true, Nat.zero_le, Nat.reduceAdd, Nat.reduceMul, Nat.reduceLeDiff, Nat.reduceLT, Nat.reduceEqDiff, Nat.reducePow, Int32.reduceAdd, Int32.reduceMul, Int32.reduceSub, Int32.reduceLT, Int32.reduceLE, Int32.reduceToNatClampNeg, litE, ixU, not_false_eq_true, not_true_eq_false, ↓reduceIte, eq_self, true_or, or_true, false_and, and_false, or_false, false_or, i10, i01, in10, i1n, xbT, xbF, r_lt]
          · have e2 : (nI x < nI (g 24)) = True := eq_true (in_lt (by omega) (may.resolve_left x6))
            have e3 : (nI x = 6) = False := by rw [nIe6 (by omega)]; exact eq_false x6
            rw [no4_n x6]
            simp only [xs_193_8, xs_193_10, xs_193_13, xs_193_14, xs_193_15, xs_193_18, xs_193_21, xs_193_22, xs_193_24, xs_193_27, xs_193_28, xs_193_31, xs_193_32, xs_193_33, xs_193_34, xs_193_35, xs_193_38, xs_193_39, xs_193_42, xs_193_43, xs_193_44, xs_193_46, xs_193_49, xs_193_51, xs_193_54, xs_193_55, e1, e2, e3, HW, H1, sT_48, sT_49, sN_49, sA_49, sT_50, sN_50, sA_50, sT_51, sN_51, sA_51, sT_52, sN_52, sA_52, sT_53, sN_53, sA_53, sT_54, sN_54, sA_54, sT_55, sN_55, sA_55, sT_56, sN_56, sA_56, sT_57, sN_57, sA_57, sT_58, sN_58, sA_58, sT_59, sN_59, sA_59, sT_60, sN_60, sA_60, sT_61, sN_61, sA_61, sT_62, sN_62, sA_62, sT_63, sN_63, sA_63, sT_64, sN_64, sA_64, sT_65, sN_65, sA_65, sT_66, sN_66, sA_66, sT_67, sN_67, sA_67, sT_68, sN_68, sB_68, sT_69, sN_69, sA_69, sT_70, sN_70, sA_70, sT_71, sN_71, sA_71, sR_48_0, sR_48_2, sR_48_9, sR_48_10, sR_48_11, sR_48_20, sR_48_21, sR_48_22, sR_48_23, sR_48_24, sR_48_26, sR_48_27, sR_48_28, sR_48_29, sR_48_30, sR_48_31, sR_48_33, sR_48_34, sR_48_35, sR_48_36, sR_48_37, sR_48_38, sR_48_39, md_bridgesG H1 m1, wc, rf_some, xc_int, xc_ref, xc_ret, xc_long, xw_nil, xw_int, xw_ref, xw_long, tl_some, tl_none, true_and, and_true, Nat.zero_le, Nat.reduceAdd, Nat.reduceMul, Nat.reduceLeDiff, Nat.reduceLT, Nat.reduceEqDiff, Nat.reducePow, Int32.reduceAdd, Int32.reduceMul, Int32.reduceSub, Int32.reduceLT, Int32.reduceLE, Int32.reduceToNatClampNeg, litE, ixU, not_false_eq_true, not_true_eq_false, ↓reduceIte, eq_self, true_or, or_true, false_and, and_false, or_false, false_or, i10, i01, in10, i1n, xbT, xbF, r_lt]
        rw [beg, md_goesByRig (d := d + 1) hg hf may hr H1 m1 j65]
        by_cases op : x = 6 ∨ f x = 0
        · rw [xb_t op]
          have hst := stp_3 (x := x) (c := r x) h33 hf
          have lq : ∀ j y h2, y + j = g 24 → wr lS h h2 → (∀ x' y', (x' = 6 ∨ x' < g 24) → y' < g 24 → xe_I h2 66 (10 * x' + y') = (if x' < x ∨ (x' = x ∧ y' < y) then xe_I h 66 (10 * x' + y') + nI (lt1 true (g 33) f r x' y') else xe_I h 66 (10 * x' + y')) ∧ xe_I h2 67 (10 * x' + y') = (if x' < x ∨ (x' = x ∧ y' < y) then xe_I h 67 (10 * x' + y') + nI (lt1 false (g 33) f r x' y') else xe_I h 67 (10 * x' + y'))) → xe_P (d + 3) 193 64 [.ref 48, .int (nI (rc f)), .int (nI x), .int 1, .int (nI y)] [] (mW h2 (stp (g 33) f x (r x))) (fun v h' => v = none ∧ wr lS h h' ∧ llP (g 33) (g 24) f r 7 h h') := by
            intro j
            induction j with
            | zero =>
              intro y h2 hy W2 P2
              have : y = g 24 := by omega
              subst this
              have H2 := wr_sh W2 H
              have m2 : mp h2 0 g := mp_c hg hm (fun j _ _ => W2.2 49 j (by unfold lS; omega))
              have HW2 : sh (mW h2 (stp (g 33) f x (r x))) := by rw [mW_sh]; exact H2
              have fin := ih (x + 1) (mW h2 (stp (g 33) f x (r x))) (.int 1) (.int (nI (g 24))) (by omega) (wr_tr W2 (wr_sub (mW_wr h2 _) (fun a j q => Or.inl q))) (fun x' y' hx' hy' => by
                obtain ⟨p1, p2⟩ := P2 x' y' hx' hy'
                rw [mW_o (by decide), mW_o (by decide), p1, p2]
                by_cases e : x' < x + 1
                · rw [if_pos (by omega), if_pos e, if_pos (by omega), if_pos e]; exact ⟨rfl, rfl⟩
                · rw [if_neg (by omega), if_neg e, if_neg (by omega), if_neg e]; exact ⟨rfl, rfl⟩)
              simp only [xs_193_64, xs_193_66, xs_193_67, xs_193_70, xs_193_139, xs_193_142, HW2, sT_48, sT_49, sN_49, sA_49, sT_50, sN_50, sA_50, sT_51, sN_51, sA_51, sT_52, sN_52, sA_52, sT_53, sN_53, sA_53, sT_54, sN_54, sA_54, sT_55, sN_55, sA_55, sT_56, sN_56, sA_56, sT_57, sN_57, sA_57, sT_58, sN_58, sA_58, sT_59, sN_59, sA_59, sT_60, sN_60, sA_60, sT_61, sN_61, sA_61, sT_62, sN_62, sA_62, sT_63, sN_63, sA_63, sT_64, sN_64, sA_64, sT_65, sN_65, sA_65, sT_66, sN_66, sA_66, sT_67, sN_67, sA_67, sT_68, sN_68, sB_68, sT_69, sN_69, sA_69, sT_70, sN_70, sA_70, sT_71, sN_71, sA_71, sR_48_0, sR_48_2, sR_48_9, sR_48_10, sR_48_11, sR_48_20, sR_48_21, sR_48_22, sR_48_23, sR_48_24, sR_48_26, sR_48_27, sR_48_28, sR_48_29, sR_48_30, sR_48_31, sR_48_33, sR_48_34, sR_48_35, sR_48_36, sR_48_37, sR_48_38, sR_48_39, md_bridgesW H2 m2, le_t, nI_1, rf_some, xc_int, xc_ref, xc_ret, xc_long, xw_nil, xw_int, xw_ref, xw_long, tl_some, tl_none, true_and, and_true, Nat.zero_le, Nat.reduceAdd, Nat.reduceMul, Nat.reduceLeDiff, Nat.reduceLT, Nat.reduceEqDiff, Nat.reducePow, Int32.reduceAdd, Int32.reduceMul, Int32.reduceSub, Int32.reduceLT, Int32.reduceLE, Int32.reduceToNatClampNeg, litE, ixU, not_false_eq_true, not_true_eq_false, ↓reduceIte, eq_self, true_or, or_true, false_and, and_false, or_false, false_or, i10, i01, in10, i1n, xbT, xbF, r_lt]
              exact fin
            | succ j ihj =>
              intro y h2 hy W2 P2
              have hy' : y < g 24 := by omega
              have H2 := wr_sh W2 H
              have m2 : mp h2 0 g := mp_c hg hm (fun j _ _ => W2.2 49 j (by unfold lS; omega))
              have HW2 : ∀ f, sh (mW h2 f) := fun f => by rw [mW_sh]; exact H2
              have ei : (10 : Int32) * nI x + nI y = nI (10 * x + y) := by rw [show (10 : Int32) = nI 10 from rfl, pk_mul, nI_add]
              obtain ⟨p1, p2⟩ := P2 x y may hy'
              rw [if_neg (by omega)] at p1 p2
              have sy := hst y (by omega)
              have i56 : ∀ h3, xe_I (mW h3 (stp (g 33) f x (r x))) 56 y = nI (stp (g 33) f x (r x) y) := fun h3 => mW_r (by omega)
              have i66 : ∀ f', xe_I (mW h2 f') 66 (10 * x + y) = xe_I h 66 (10 * x + y) := fun f' => by rw [mW_o (by decide)]; exact p1
              have i67 : ∀ f' v, xe_I (mW (xe_sI h2 66 (10 * x + y) v) f') 67 (10 * x + y) = xe_I h 67 (10 * x + y) := fun f' v => by rw [mW_o (by decide), hI_sI, if_neg (by omega)]; exact p2
              have HW3 : ∀ f v, sh (mW (xe_sI h2 66 (10 * x + y) v) f) := fun f v => by rw [mW_sh]; exact H2
              have t1 : ∀ o, lt1 o (g 33) f r x y = if tq o (g 33) f x (r x) y then 1 else 0 := fun o => by unfold lt1; rw [decide_eq_true op, Bool.true_and]
              have fin : ∀ u v : Int32, u = nI (lt1 true (g 33) f r x y) → v = nI (lt1 false (g 33) f r x y) → xe_P (d + 3) 193 64 [.ref 48, .int (nI (rc f)), .int (nI x), .int 1, .int (nI (y + 1))] [] (mW (xe_sI (xe_sI h2 66 (10 * x + y) (xe_I h 66 (10 * x + y) + u)) 67 (10 * x + y) (xe_I h 67 (10 * x + y) + v)) (stp (g 33) f x (r x))) (fun v h' => v = none ∧ wr lS h h' ∧ llP (g 33) (g 24) f r 7 h h') := by
                intro u v hu hv
                refine ihj (y + 1) _ (by omega) (wr_sI (wr_sI W2 (by unfold lS; omega)) (by unfold lS; omega)) (fun x' y' hx' hy2 => ?_)
                obtain ⟨b1, b2⟩ := P2 x' y' hx' hy2
                refine ⟨?_, ?_⟩
                · rw [hI_sI, if_neg (by omega), hI_sI]
                  by_cases e : x' = x ∧ y' = y
                  · obtain ⟨rfl, rfl⟩ := e
                    rw [if_pos ⟨rfl, rfl⟩, if_pos (by omega), hu]
                  · rw [if_neg (by omega), b1]
                    by_cases e2 : x' < x ∨ (x' = x ∧ y' < y)
                    · rw [if_pos e2, if_pos (by omega)]
                    · rw [if_neg e2, if_neg (by omega)]
                · rw [hI_sI]
                  by_cases e : x' = x ∧ y' = y
                  · obtain ⟨rfl, rfl⟩ := e
                    rw [if_pos ⟨rfl, rfl⟩, if_pos (by omega), hv]
                  · rw [if_neg (by omega), hI_sI, if_neg (by omega), b2]
                    by_cases e2 : x' < x ∨ (x' = x ∧ y' < y)
                    · rw [if_pos e2, if_pos (by omega)]
                    · rw [if_neg e2, if_neg (by omega)]
              rw [xs_193_64]
              by_cases z : stp (g 33) f x (r x) y = 0
              · simp only [xs_193_66, xs_193_67, xs_193_70, xs_193_73, xs_193_74, xs_193_77, xs_193_79, xs_193_80, xs_193_81, xs_193_83, xs_193_84, xs_193_85, xs_193_86, xs_193_87, xs_193_90, xs_193_92, xs_193_93, xs_193_96, xs_193_97, xs_193_100, xs_193_101, xs_193_102, xs_193_103, xs_193_104, xs_193_107, xs_193_109, xs_193_110, xs_193_111, xs_193_113, xs_193_114, xs_193_115, xs_193_116, xs_193_117, xs_193_120, xs_193_122, xs_193_123, xs_193_126, xs_193_127, xs_193_130, xs_193_131, xs_193_132, xs_193_133, xs_193_136, lt_f hy' (show g 24 < 2 ^ 31 by omega), HW2, HW3, sT_48, sT_49, sN_49, sA_49, sT_50, sN_50, sA_50, sT_51, sN_51, sA_51, sT_52, sN_52, sA_52, sT_53, sN_53, sA_53, sT_54, sN_54, sA_54, sT_55, sN_55, sA_55, sT_56, sN_56, sA_56, sT_57, sN_57, sA_57, sT_58, sN_58, sA_58, sT_59, sN_59, sA_59, sT_60, sN_60, sA_60, sT_61, sN_61, sA_61, sT_62, sN_62, sA_62, sT_63, sN_63, sA_63, sT_64, sN_64, sA_64, sT_65, sN_65, sA_65, sT_66, sN_66, sA_66, sT_67, sN_67, sA_67, sT_68, sN_68, sB_68, sT_69, sN_69, sA_69, sT_70, sN_70, sA_70, sT_71, sN_71, sA_71, sR_48_0, sR_48_2, sR_48_9, sR_48_10, sR_48_11, sR_48_20, sR_48_21, sR_48_22, sR_48_23, sR_48_24, sR_48_26, sR_48_27, sR_48_28, sR_48_29, sR_48_30, sR_48_31, sR_48_33, sR_48_34, sR_48_35, sR_48_36, sR_48_37, sR_48_38, sR_48_39, md_bridgesW H2 m2, ei, nIlt0 (show 10 * x + y < 2 ^ 31 by omega), nI_clamp (show 10 * x + y < 2 ^ 31 by omega), show 10 * x + y < 70 by omega, nIlt0 (show y < 2 ^ 31 by omega), nI_clamp (show y < 2 ^ 31 by omega), show y < 6 by omega, i56, i66, i67, nIe0 (show stp (g 33) f x (r x) y < 2 ^ 31 by omega), eq_true z, mW_sI _ _ _ (show 66 ≠ 56 by decide), mW_sI _ _ _ (show 67 ≠ 56 by decide), nI_1, rf_some, xc_int, xc_ref, xc_ret, xc_long, xw_nil, xw_int, xw_ref, xw_long, tl_some, tl_none, true_and, and_true, Nat.zero_le, Nat.reduceAdd, Nat.reduceMul, Nat.reduceLeDiff, Nat.reduceLT, Nat.reduceEqDiff, Nat.reducePow, Int32.reduceAdd, Int32.reduceMul, Int32.reduceSub, Int32.reduceLT, Int32.reduceLE, Int32.reduceToNatClampNeg, litE, ixU, not_false_eq_true, not_true_eq_false, ↓reduceIte, eq_self, true_or, or_true, false_and, and_false, or_false, false_or, i10, i01, in10, i1n, xbT, xbF, r_lt]
                refine fin 1 0 ?_ ?_
                · rw [t1, if_pos (tq_t.mpr z)]; rfl
                · rw [t1, if_neg (show ¬ tq false (g 33) f x (r x) y = true from fun q => tq_f.mp q z)]; rfl
              · simp only [xs_193_66, xs_193_67, xs_193_70, xs_193_73, xs_193_74, xs_193_77, xs_193_79, xs_193_80, xs_193_81, xs_193_83, xs_193_84, xs_193_85, xs_193_86, xs_193_87, xs_193_90, xs_193_92, xs_193_93, xs_193_96, xs_193_97, xs_193_100, xs_193_101, xs_193_102, xs_193_103, xs_193_104, xs_193_107, xs_193_109, xs_193_110, xs_193_111, xs_193_113, xs_193_114, xs_193_115, xs_193_116, xs_193_117, xs_193_120, xs_193_122, xs_193_123, xs_193_126, xs_193_127, xs_193_130, xs_193_131, xs_193_132, xs_193_133, xs_193_136, lt_f hy' (show g 24 < 2 ^ 31 by omega), HW2, HW3, sT_48, sT_49, sN_49, sA_49, sT_50, sN_50, sA_50, sT_51, sN_51, sA_51, sT_52, sN_52, sA_52, sT_53, sN_53, sA_53, sT_54, sN_54, sA_54, sT_55, sN_55, sA_55, sT_56, sN_56, sA_56, sT_57, sN_57, sA_57, sT_58, sN_58, sA_58, sT_59, sN_59, sA_59, sT_60, sN_60, sA_60, sT_61, sN_61, sA_61, sT_62, sN_62, sA_62, sT_63, sN_63, sA_63, sT_64, sN_64, sA_64, sT_65, sN_65, sA_65, sT_66, sN_66, sA_66, sT_67, sN_67, sA_67, sT_68, sN_68, sB_68, sT_69, sN_69, sA_69, sT_70, sN_70, sA_70, sT_71, sN_71, sA_71, sR_48_0, sR_48_2, sR_48_9, sR_48_10, sR_48_11, sR_48_20, sR_48_21, sR_48_22, sR_48_23, sR_48_24, sR_48_26, sR_48_27, sR_48_28, sR_48_29, sR_48_30, sR_48_31, sR_48_33, sR_48_34, sR_48_35, sR_48_36, sR_48_37, sR_48_38, sR_48_39, md_bridgesW H2 m2, ei, nIlt0 (show 10 * x + y < 2 ^ 31 by omega), nI_clamp (show 10 * x + y < 2 ^ 31 by omega), show 10 * x + y < 70 by omega, nIlt0 (show y < 2 ^ 31 by omega), nI_clamp (show y < 2 ^ 31 by omega), show y < 6 by omega, i56, i66, i67, nIe0 (show stp (g 33) f x (r x) y < 2 ^ 31 by omega), eq_false z, mW_sI _ _ _ (show 66 ≠ 56 by decide), mW_sI _ _ _ (show 67 ≠ 56 by decide), nI_1, rf_some, xc_int, xc_ref, xc_ret, xc_long, xw_nil, xw_int, xw_ref, xw_long, tl_some, tl_none, true_and, and_true, Nat.zero_le, Nat.reduceAdd, Nat.reduceMul, Nat.reduceLeDiff, Nat.reduceLT, Nat.reduceEqDiff, Nat.reducePow, Int32.reduceAdd, Int32.reduceMul, Int32.reduceSub, Int32.reduceLT, Int32.reduceLE, Int32.reduceToNatClampNeg, litE, ixU, not_false_eq_true, not_true_eq_false, ↓reduceIte, eq_self, true_or, or_true, false_and, and_false, or_false, false_or, i10, i01, in10, i1n, xbT, xbF, r_lt]
                refine fin 0 1 ?_ ?_
                · rw [t1, if_neg (show ¬ tq true (g 33) f x (r x) y = true from fun q => z (tq_t.mp q))]; rfl
                · rw [t1, if_pos (tq_f.mpr z)]; rfl
          have l0 := lq (g 24) 0 h1 (by omega) W (fun x' y' hx' hy' => by
            obtain ⟨p1, p2⟩ := P x' y' hx' hy'
            rw [p1, p2]
            by_cases e : x' < x
            · rw [if_pos e, if_pos (by omega), if_pos e, if_pos (by omega)]; exact ⟨rfl, rfl⟩
            · rw [if_neg e, if_neg (by omega), if_neg e, if_neg (by omega)]; exact ⟨rfl, rfl⟩)
          rw [show nI 0 = (0 : Int32) from rfl] at l0
          simp only [xs_193_58, xs_193_61, xs_193_62, rf_some, xc_int, xc_ref, xc_ret, xc_long, xw_nil, xw_int, xw_ref, xw_long, tl_some, tl_none, true_and, and_true, Nat.zero_le, Nat.reduceAdd, Nat.reduceMul, Nat.reduceLeDiff, Nat.reduceLT, Nat.reduceEqDiff, Nat.reducePow, Int32.reduceAdd, Int32.reduceMul, Int32.reduceSub, Int32.reduceLT, Int32.reduceLE, Int32.reduceToNatClampNeg, litE, ixU, not_false_eq_true, not_true_eq_false, ↓reduceIte, eq_self, true_or, or_true, false_and, and_false, or_false, false_or, i10, i01, in10, i1n, xbT, xbF, r_lt]
          exact l0
        · rw [xb_f op]
          simp only [xs_193_58, rf_some, xc_int, xc_ref, xc_ret, xc_long, xw_nil, xw_int, xw_ref, xw_long, tl_some, tl_none, true_and, and_true, Nat.zero_le, Nat.reduceAdd, Nat.reduceMul, Nat.reduceLeDiff, Nat.reduceLT, Nat.reduceEqDiff, Nat.reducePow, Int32.reduceAdd, Int32.reduceMul, Int32.reduceSub, Int32.reduceLT, Int32.reduceLE, Int32.reduceToNatClampNeg, litE, ixU, not_false_eq_true, not_true_eq_false, ↓reduceIte, eq_self, true_or, or_true, false_and, and_false, or_false, false_or, i10, i01, in10, i1n, xbT, xbF, r_lt]
          refine pass (fun y _ _ => ?_) _ _ _
          unfold lt1
          rw [decide_eq_false op, Bool.false_and, Bool.false_and]
          exact ⟨rfl, rfl⟩
      · have e2 : (nI x < nI (g 24)) = False := eq_false (by rw [nI_ltI (by omega) (by omega)]; omega)
        have e3 : (nI x = 6) = False := by rw [nIe6 (by omega)]; exact eq_false (fun q => may (Or.inl q))
        have ps := pass (fun y _ q => absurd q may) f 0 l4
        rw [xs_193_7]
        simp only [xs_193_8, xs_193_10, xs_193_13, xs_193_14, xs_193_15, xs_193_18, xs_193_21, xs_193_22, xs_193_24, xs_193_27, xs_193_28, xs_193_31, xs_193_32, xs_193_33, xs_193_34, xs_193_35, xs_193_38, xs_193_39, e1, e2, e3, HW, H1, sT_48, sT_49, sN_49, sA_49, sT_50, sN_50, sA_50, sT_51, sN_51, sA_51, sT_52, sN_52, sA_52, sT_53, sN_53, sA_53, sT_54, sN_54, sA_54, sT_55, sN_55, sA_55, sT_56, sN_56, sA_56, sT_57, sN_57, sA_57, sT_58, sN_58, sA_58, sT_59, sN_59, sA_59, sT_60, sN_60, sA_60, sT_61, sN_61, sA_61, sT_62, sN_62, sA_62, sT_63, sN_63, sA_63, sT_64, sN_64, sA_64, sT_65, sN_65, sA_65, sT_66, sN_66, sA_66, sT_67, sN_67, sA_67, sT_68, sN_68, sB_68, sT_69, sN_69, sA_69, sT_70, sN_70, sA_70, sT_71, sN_71, sA_71, sR_48_0, sR_48_2, sR_48_9, sR_48_10, sR_48_11, sR_48_20, sR_48_21, sR_48_22, sR_48_23, sR_48_24, sR_48_26, sR_48_27, sR_48_28, sR_48_29, sR_48_30, sR_48_31, sR_48_33, sR_48_34, sR_48_35, sR_48_36, sR_48_37, sR_48_38, sR_48_39, md_bridgesG H1 m1, wc, rf_some, xc_int, xc_ref, xc_ret, xc_long, xw_nil, xw_int, xw_ref, xw_long, tl_some, tl_none, true_and, and_true, Nat.zero_le, Nat.reduceAdd, Nat.reduceMul, Nat.reduceLeDiff, Nat.reduceLT, Nat.reduceEqDiff, Nat.reducePow, Int32.reduceAdd, Int32.reduceMul, Int32.reduceSub, Int32.reduceLT, Int32.reduceLE, Int32.reduceToNatClampNeg, litE, ixU, not_false_eq_true, not_true_eq_false, ↓reduceIte, eq_self, true_or, or_true, false_and, and_false, or_false, false_or, i10, i01, in10, i1n, xbT, xbF, r_lt]
        exact ps
  have HWf : sh (mW h f) := by rw [mW_sh]; exact H
  have l0 := lp 7 0 (mW h f) (.retAddr 0) (.retAddr 0) (by omega) (wr_sub (mW_wr h f) (fun a j q => Or.inl q)) (fun x y _ _ => by rw [if_neg (by omega), if_neg (by omega), mW_o (by decide), mW_o (by decide)]; exact ⟨rfl, rfl⟩)
  rw [show nI 0 = (0 : Int32) from rfl] at l0
  simp only [xs_193, xs_193_0, xs_193_1, xs_193_4, xs_193_5, xs_193_6, HWf, sT_48, sT_49, sN_49, sA_49, sT_50, sN_50, sA_50, sT_51, sN_51, sA_51, sT_52, sN_52, sA_52, sT_53, sN_53, sA_53, sT_54, sN_54, sA_54, sT_55, sN_55, sA_55, sT_56, sN_56, sA_56, sT_57, sN_57, sA_57, sT_58, sN_58, sA_58, sT_59, sN_59, sA_59, sT_60, sN_60, sA_60, sT_61, sN_61, sA_61, sT_62, sN_62, sA_62, sT_63, sN_63, sA_63, sT_64, sN_64, sA_64, sT_65, sN_65, sA_65, sT_66, sN_66, sA_66, sT_67, sN_67, sA_67, sT_68, sN_68, sB_68, sT_69, sN_69, sA_69, sT_70, sN_70, sA_70, sT_71, sN_71, sA_71, sR_48_0, sR_48_2, sR_48_9, sR_48_10, sR_48_11, sR_48_20, sR_48_21, sR_48_22, sR_48_23, sR_48_24, sR_48_26, sR_48_27, sR_48_28, sR_48_29, sR_48_30, sR_48_31, sR_48_33, sR_48_34, sR_48_35, sR_48_36, sR_48_37, sR_48_38, sR_48_39, md_codeNow H hf, rf_some, xc_int, xc_ref, xc_ret, xc_long, xw_nil, xw_int, xw_ref, xw_long, tl_some, tl_none, true_and, and_true, Nat.zero_le, Nat.reduceAdd, Nat.reduceMul, Nat.reduceLeDiff, Nat.reduceLT, Nat.reduceEqDiff, Nat.reducePow, Int32.reduceAdd, Int32.reduceMul, Int32.reduceSub, Int32.reduceLT, Int32.reduceLE, Int32.reduceToNatClampNeg, litE, ixU, not_false_eq_true, not_true_eq_false, ↓reduceIte, eq_self, true_or, or_true, false_and, and_false, or_false, false_or, i10, i01, in10, i1n, xbT, xbF, r_lt]
  exact l0
end LL
