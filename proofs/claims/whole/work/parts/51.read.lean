/-! minute, read -/
/-- a minute's answer, the page behind it -/
def mr (g : Nat → Nat) (c : Int32) : Int32 × (Nat → Nat) := if c < 0 then (-1, g) else @ite _ (gm g c.toNatClampNeg) (gmD _ _) (if g 34 < 999 then ((mst c.toNatClampNeg g (g 31)).2.2, mfin c.toNatClampNeg g) else (-3, g)) (-1, g)
theorem gm_511 {g : Nat → Nat} (hg : pg_ok g) {m : Nat} (h : gm g m) : m ≤ 511 := by
  have h31 : g 31 ≤ 3 := hg.2.1
  have h1 := h.1
  rcases (show g 31 = 0 ∨ g 31 = 1 ∨ g 31 = 2 ∨ g 31 = 3 by omega) with e | e | e | e <;> rw [e] at h1 <;> omega
theorem mr_ok {g : Nat → Nat} (hg : pg_ok g) (c : Int32) : pg_ok (mr g c).2 ∧ (mr g c).2 24 = g 24 ∧ (mr g c).2 35 = g 35 := by
  unfold mr
  split
  · exact ⟨hg, rfl, rfl⟩
  · split
    · split
      · rename_i h9
        obtain ⟨q1, q2, q3, -⟩ := mfin_ok (m := c.toNatClampNeg) hg h9
        exact ⟨q1, q2, q3⟩
      · exact ⟨hg, rfl, rfl⟩
    · exact ⟨hg, rfl, rfl⟩
section RD
variable {d : Nat} {h : xe_H}
theorem tw_minute {o : Nat} {g : Nat → Nat} (hs : tn_sh h o) (hv : tn_v h o g) (hg : pg_ok g) (c : Int32) : xe_C (d + 3) 53 [.ref o, .int c] h (fun v h' => v = some (.int (mr g c).1) ∧ tn_v h' o (mr g c).2 ∧ wr (pS o) h h') := by
  unfold mr
  by_cases z : c < 0
  · rw [if_pos z, tw_passB hs hv hg (fun m hm e => absurd z (by rw [e]; exact nI_pos hm))]
    exact ⟨rfl, hv, wr_rf _ h⟩
  · obtain ⟨m, hm, rfl⟩ := nI_of z
    rw [if_neg z, nI_clamp hm]
    by_cases z1 : gm g m
    · rw [@if_pos _ (gmD _ _) z1]
      by_cases z2 : g 34 < 999
      · rw [if_pos z2]
        exact tw_pass hs hv hg hm z1 z2
      · rw [if_neg z2, tw_passF hs hv hg hm z1 z2]
        exact ⟨rfl, hv, wr_rf _ h⟩
    · rw [@if_neg _ (gmD _ _) z1, tw_passB hs hv hg (fun m' hm' e => by rw [nI_eq hm hm'] at e; rw [← e]; exact z1)]
      exact ⟨rfl, hv, wr_rf _ h⟩
theorem md_minute (H : sh h) {g : Nat → Nat} (hp : mp h 0 g) (hg : pg_ok g) (c : Int32) : xe_C (d + 6) 159 [.ref 48, .int c] h (fun v h' => v = some (.int (mr g c).1) ∧ mp h' 0 (mr g c).2 ∧ wr (fun a j => mS a j ∨ a = 56) h h') := by
  unfold mr
  by_cases z : c < 0
  · rw [if_pos z, md_passB H hp hg (fun m hm e => absurd z (by rw [e]; exact nI_pos hm))]
    exact ⟨rfl, hp, wr_rf _ h⟩
  · obtain ⟨m, hm, rfl⟩ := nI_of z
    rw [if_neg z, nI_clamp hm]
    by_cases z1 : gm g m
    · rw [@if_pos _ (gmD _ _) z1]
      by_cases z2 : g 34 < 999
      · rw [if_pos z2]
        exact md_pass H hp hg (gm_511 hg z1) z1 z2
      · rw [if_neg z2, md_passF H hp hg (gm_511 hg z1) z1 z2]
        exact ⟨rfl, hp, wr_rf _ h⟩
    · rw [@if_neg _ (gmD _ _) z1, md_passB H hp hg (fun m' hm' e => by rw [nI_eq hm hm'] at e; rw [← e]; exact z1)]
      exact ⟨rfl, hp, wr_rf _ h⟩
end RD
section RE
variable {L : Nat} {xs : Nat → Int32} {s : Nat → Nat → Nat} {ce : Nat → Int32} {h : xe_H}
theorem ok_minute (HI : Inv L xs s ce h) (x : Int32) : ok2 L xs 95 160 [.int x] h := by
  intro d
  obtain ⟨H, hr, hv, hp, ⟨c1, c2, c3, c4, c5, c6⟩, ⟨⟨m1, m1'⟩, m2, m3, m4, m5, m6, m7⟩⟩ := id HI
  simp only [xs_95, xs_95_0, xs_95_1, xs_95_4, xs_95_5, H, sT_0, sT_1, sT_2, sN_2, sA_2, sT_3, sN_3, sA_3, sT_4, sN_4, sA_4, sT_5, sN_5, sA_5, sT_6, sN_6, sA_6, sT_7, sT_8, sN_8, sA_8, sT_9, sN_9, sA_9, sT_10, sN_10, sA_10, sT_11, sN_11, sA_11, sT_12, sN_12, sA_12, sT_13, sN_13, sT_14, sT_15, sN_15, sA_15, sT_16, sN_16, sA_16, sT_17, sN_17, sA_17, sT_18, sN_18, sA_18, sT_19, sN_19, sA_19, sT_20, sT_21, sN_21, sA_21, sT_22, sN_22, sA_22, sT_23, sN_23, sA_23, sT_24, sN_24, sA_24, sT_25, sN_25, sA_25, sT_26, sN_26, sB_26, sT_27, sT_28, sN_28, sB_28, sT_29, sT_30, sN_30, sT_32, sN_32, sA_32, sT_33, sT_34, sN_34, sA_34, sT_35, sN_35, sA_35, sT_36, sT_37, sN_37, sA_37, sT_38, sN_38, sA_38, sT_39, sN_39, sA_39, sT_40, sN_40, sB_40, sT_41, sN_41, sA_41, sT_42, sN_42, sA_42, sT_43, sN_43, sA_43, sT_44, sT_45, sN_45, sA_45, sT_46, sN_46, sA_46, sT_47, sN_47, sA_47, sR_1_7, sR_1_8, sR_1_9, sR_1_10, sR_1_11, sR_0_0, sR_7_7, sR_7_8, sR_7_9, sR_7_10, sR_7_11, sR_0_1, sR_0_2, sR_14_7, sR_14_8, sR_14_9, sR_14_10, sR_14_11, sR_13_0, sR_20_7, sR_20_8, sR_20_9, sR_20_10, sR_20_11, sR_13_1, sR_0_3, sR_0_4, sR_27_0, sR_0_5, sR_29_0, sR_29_3, sR_0_6, sR_33_1, sR_33_2, sR_0_7, sR_36_2, sR_36_3, sR_36_4, sR_36_5, sR_36_6, sR_36_7, sR_36_8, sR_0_8, sR_44_0, sR_44_1, sR_44_2, rf_some, xc_int, xc_ref, xc_ret, xc_long, xw_nil, xw_int, xw_ref, xw_long, tl_some, tl_none, true_and, and_true, Nat.zero_le, Nat.reduceAdd, Nat.reduceMul, Nat.reduceLeDiff, Nat.reduceLT, Nat.reduceEqDiff, Nat.reducePow, Int32.reduceAdd, Int32.reduceMul, Int32.reduceSub, Int32.reduceLT, Int32.reduceLE, Int32.reduceToNatClampNeg, litE, ixU, not_false_eq_true, not_true_eq_false, ↓reduceIte, eq_self, true_or, or_true, false_and, and_false, or_false, false_or, i10, i01, in10, i1n, xbT, xbF, r_lt]
  refine xe_C_mono (tw_minute (sW_1 H) c1 hp.1 x) ?_
  rintro v h1 ⟨rfl, t1, w1⟩
  have H1 := wr_sh w1 H
  have m1h : mp h1 0 (s 0) := mp_c hp.1 m1 (fun j _ _ => w1.2 49 j (by unfold pS; omega))
  simp only [xs_95_8, xs_160, xs_160_0, xs_160_1, xs_160_2, H1, sT_48, sT_49, sN_49, sA_49, sT_50, sN_50, sA_50, sT_51, sN_51, sA_51, sT_52, sN_52, sA_52, sT_53, sN_53, sA_53, sT_54, sN_54, sA_54, sT_55, sN_55, sA_55, sT_56, sN_56, sA_56, sT_57, sN_57, sA_57, sT_58, sN_58, sA_58, sT_59, sN_59, sA_59, sT_60, sN_60, sA_60, sT_61, sN_61, sA_61, sT_62, sN_62, sA_62, sT_63, sN_63, sA_63, sT_64, sN_64, sA_64, sT_65, sN_65, sA_65, sT_66, sN_66, sA_66, sT_67, sN_67, sA_67, sT_68, sN_68, sB_68, sT_69, sN_69, sA_69, sT_70, sN_70, sA_70, sT_71, sN_71, sA_71, sR_48_0, sR_48_2, sR_48_9, sR_48_10, sR_48_11, sR_48_20, sR_48_21, sR_48_22, sR_48_23, sR_48_24, sR_48_26, sR_48_27, sR_48_28, sR_48_29, sR_48_30, sR_48_31, sR_48_33, sR_48_34, sR_48_35, sR_48_36, sR_48_37, sR_48_38, sR_48_39, rf_some, xc_int, xc_ref, xc_ret, xc_long, xw_nil, xw_int, xw_ref, xw_long, tl_some, tl_none, true_and, and_true, Nat.zero_le, Nat.reduceAdd, Nat.reduceMul, Nat.reduceLeDiff, Nat.reduceLT, Nat.reduceEqDiff, Nat.reducePow, Int32.reduceAdd, Int32.reduceMul, Int32.reduceSub, Int32.reduceLT, Int32.reduceLE, Int32.reduceToNatClampNeg, litE, ixU, not_false_eq_true, not_true_eq_false, ↓reduceIte, eq_self, true_or, or_true, false_and, and_false, or_false, false_or, i10, i01, in10, i1n, xbT, xbF, r_lt]
  refine xe_C_mono (md_minute H1 m1h hp.1 x) ?_
  rintro v h2 ⟨rfl, t2, w2⟩
  simp only [xs_160_5, rf_some, xc_int, xc_ref, xc_ret, xc_long, xw_nil, xw_int, xw_ref, xw_long, tl_some, tl_none, true_and, and_true, Nat.zero_le, Nat.reduceAdd, Nat.reduceMul, Nat.reduceLeDiff, Nat.reduceLT, Nat.reduceEqDiff, Nat.reducePow, Int32.reduceAdd, Int32.reduceMul, Int32.reduceSub, Int32.reduceLT, Int32.reduceLE, Int32.reduceToNatClampNeg, litE, ixU, not_false_eq_true, not_true_eq_false, ↓reduceIte, eq_self, true_or, or_true, false_and, and_false, or_false, false_or, i10, i01, in10, i1n, xbT, xbF, r_lt]
  obtain ⟨q1, q2, q3⟩ := mr_ok hp.1 x
  refine ⟨⟨_, rfl, rfl⟩, _, ce, Inv_pg HI q1 q2 q3 (wr_sh w2 H1) (stq_rm w2.1 (stq_rm w1.1 hr)) (tn_v_c t1 (fun a j x1 x2 => w2.2 a j (by unfold mS; omega))) t2 (fun a j q z1 z2 => ?_) (fun a ha => ⟨(w2.1.2.2.1 a).trans (w1.1.2.2.1 a), (w2.1.2.2.2.1 a).trans (w1.1.2.2.2.1 a)⟩)⟩
  rw [w2.2 a j (by unfold mS; unfold cc cm' xe_S at q; omega), w1.2 a j (by unfold pS; omega)]
/-- what is wrong with a cell that is read -/
def rfa (s : Nat → Nat → Nat) (k : Nat) (l f : Int32) (i : Nat) : Int32 := if s 7 k = 3 then 1 else if nI (s 7 k) = l then (if 0 ≤ f + nI i ∧ f + nI i < nI (s 8 k) then 0 else 2) else 3
def rce (ce : Nat → Int32) (k : Nat) (f : Int32) (i : Nat) : Int32 := ce (40 * k + (f + nI i).toNatClampNeg)
/-- how reading goes on: the answer; the fault and the page, if it came to its end -/
def rl (s : Nat → Nat → Nat) (ce : Nat → Int32) (k : Nat) (l f : Int32) : Nat → Nat → (Nat → Nat) → Int32 × Option (Int32 × (Nat → Nat))
  | 0, i, g => (nI i, some (0, g))
  | n + 1, i, g => if rfa s k l f i = 0 then (if (mr g (rce ce k f i)).1 = 0 then rl s ce k l f n (i + 1) (mr g (rce ce k f i)).2 else (-20 - nI i, none)) else (nI i, some (rfa s k l f i, g))
def rfi (f : Int32) (i : Nat) : Prop := i = 0 ∨ ∃ fn, f = nI fn ∧ fn + i ≤ 40
theorem rfi_s {k i : Nat} {l f : Int32} (hb : s 8 k ≤ 40) (H : rfi f i) (e : rfa s k l f i = 0) : ∃ fn, f = nI fn ∧ fn + i < 40 ∧ f + nI i = nI (fn + i) := by
  unfold rfa at e
  split at e
  · exact absurd e (by decide)
  · split at e
    · split at e
      · rename_i z
        rcases H with rfl | ⟨fn, rfl, h2⟩
        · have z0 : f + nI 0 = f := Int32.add_zero f
          rw [z0] at z
          obtain ⟨fn, h3, rfl⟩ := rg (by omega) z
          exact ⟨fn, rfl, by omega, by rw [nI_add]⟩
        · rw [nI_add, nI_ltI (by omega) (by omega)] at z
          exact ⟨fn, rfl, by omega, by rw [nI_add]⟩
      · exact absurd e (by decide)
    · exact absurd e (by decide)
theorem rfi_w {i n : Nat} {f : Int32} (hn : n ≤ 40) (hi : i ≤ 20) (H : rfi f i) : (0 ≤ f.toInt64 + (nI i).toInt64 ∧ f.toInt64 + (nI i).toInt64 ≤ (nI n - 1).toInt64) ↔ (0 ≤ f + nI i ∧ f + nI i < nI n) := by
  have key : f.toInt64 + (nI i).toInt64 = (f + nI i).toInt64 := by
    rcases H with rfl | ⟨fn, rfl, h2⟩
    · rw [show f + nI 0 = f from Int32.add_zero f, show (nI 0).toInt64 = 0 by decide, Int64.add_zero]
    · rw [nI_add, nI_l (by omega), nI_l (by omega), nI_l (by omega), lN_add]
  rw [key, wide0, fa_wide_le, fa_wide_le, le_pred (by omega)]
def rpost (h : xe_H) (r : Int32 × Option (Int32 × (Nat → Nat))) (v : Option Value) (h' : xe_H) : Prop := v = some (.int r.1) ∧ (∀ fd gg, r.2 = some (fd, gg) → tn_v h' 1 gg ∧ xe_I h' 0 9 = fd ∧ wr (fun a j => a ≤ 12 ∧ (a = 0 → j = 9)) h h') ∧ (r.2 = none → wr (fun a _ => 7 ≤ a ∧ a ≤ 12) h h')
theorem cl_read (H : sh h) (c1 : tn_v h 1 (s 0)) (hg : pg_ok (s 0)) (c5 : cSh s ce h) (hb : ∀ k, k < 4 → s 7 k ≤ 3 ∧ s 8 k ≤ 40) {k n : Nat} (hk : k < 4) (hn : n ≤ 20) (l f : Int32) (ql : 0 ≤ l ∧ l ≤ 2) {d : Nat} : xe_C (d + 4) 113 [.ref 0, .int (nI k), .int l, .int f, .int (nI n)] h (rpost h (rl s ce k l f n 0 (s 0))) := by
  have lp : ∀ n' i g h1, i + n' = n → pg_ok g → tn_v h1 7 g → wr (fun a _ => 7 ≤ a ∧ a ≤ 12) h h1 → rfi f i → rl s ce k l f n' i g = rl s ce k l f n 0 (s 0) → xe_P (d + 3) 113 48 [.ref 0, .int (nI k), .int l, .int f, .int (nI n), .int 0, .int (nI i), .int (nI i)] [] h1 (rpost h (rl s ce k l f n 0 (s 0))) := by
    have fin : ∀ i j g h1 fd, pg_ok g → tn_v h1 7 g → wr (fun a _ => 7 ≤ a ∧ a ≤ 12) h h1 → rl s ce k l f n 0 (s 0) = (nI i, some (fd, g)) → xe_P (d + 3) 113 117 [.ref 0, .int (nI k), .int l, .int f, .int (nI n), .int fd, .int (nI i), .int j] [] h1 (rpost h (rl s ce k l f n 0 (s 0))) := by
      intro i j g h1 fd pg t1 w1 e
      have H1 := wr_sh w1 H
      simp only [xs_113_117, xs_113_118, xs_113_121, xs_113_122, xs_113_125, H1, sT_0, sT_1, sT_2, sN_2, sA_2, sT_3, sN_3, sA_3, sT_4, sN_4, sA_4, sT_5, sN_5, sA_5, sT_6, sN_6, sA_6, sT_7, sT_8, sN_8, sA_8, sT_9, sN_9, sA_9, sT_10, sN_10, sA_10, sT_11, sN_11, sA_11, sT_12, sN_12, sA_12, sT_13, sN_13, sT_14, sT_15, sN_15, sA_15, sT_16, sN_16, sA_16, sT_17, sN_17, sA_17, sT_18, sN_18, sA_18, sT_19, sN_19, sA_19, sT_20, sT_21, sN_21, sA_21, sT_22, sN_22, sA_22, sT_23, sN_23, sA_23, sT_24, sN_24, sA_24, sT_25, sN_25, sA_25, sT_26, sN_26, sB_26, sT_27, sT_28, sN_28, sB_28, sT_29, sT_30, sN_30, sT_32, sN_32, sA_32, sT_33, sT_34, sN_34, sA_34, sT_35, sN_35, sA_35, sT_36, sT_37, sN_37, sA_37, sT_38, sN_38, sA_38, sT_39, sN_39, sA_39, sT_40, sN_40, sB_40, sT_41, sN_41, sA_41, sT_42, sN_42, sA_42, sT_43, sN_43, sA_43, sT_44, sT_45, sN_45, sA_45, sT_46, sN_46, sA_46, sT_47, sN_47, sA_47, sR_1_7, sR_1_8, sR_1_9, sR_1_10, sR_1_11, sR_0_0, sR_7_7, sR_7_8, sR_7_9, sR_7_10, sR_7_11, sR_0_1, sR_0_2, sR_14_7, sR_14_8, sR_14_9, sR_14_10, sR_14_11, sR_13_0, sR_20_7, sR_20_8, sR_20_9, sR_20_10, sR_20_11, sR_13_1, sR_0_3, sR_0_4, sR_27_0, sR_0_5, sR_29_0, sR_29_3, sR_0_6, sR_33_1, sR_33_2, sR_0_7, sR_36_2, sR_36_3, sR_36_4, sR_36_5, sR_36_6, sR_36_7, sR_36_8, sR_0_8, sR_44_0, sR_44_1, sR_44_2, rf_some, xc_int, xc_ref, xc_ret, xc_long, xw_nil, xw_int, xw_ref, xw_long, tl_some, tl_none, true_and, and_true, Nat.zero_le, Nat.reduceAdd, Nat.reduceMul, Nat.reduceLeDiff, Nat.reduceLT, Nat.reduceEqDiff, Nat.reducePow, Int32.reduceAdd, Int32.reduceMul, Int32.reduceSub, Int32.reduceLT, Int32.reduceLE, Int32.reduceToNatClampNeg, litE, ixU, not_false_eq_true, not_true_eq_false, ↓reduceIte, eq_self, true_or, or_true, false_and, and_false, or_false, false_or, i10, i01, in10, i1n, xbT, xbF, r_lt]
      refine xe_C_mono (tw_copy (sW_1 H1) (sW_7 H1) (by omega)) ?_
      rintro v h2 ⟨rfl, C⟩
      have H2 := cpR_sh C H1
      have t2 := cpR_tn pg.1 pg.2.1 t1 C
      simp only [xs_113_128, xs_113_129, xs_113_131, xs_113_134, xs_113_136, H2, sT_0, sT_1, sT_2, sN_2, sA_2, sT_3, sN_3, sA_3, sT_4, sN_4, sA_4, sT_5, sN_5, sA_5, sT_6, sN_6, sA_6, sT_7, sT_8, sN_8, sA_8, sT_9, sN_9, sA_9, sT_10, sN_10, sA_10, sT_11, sN_11, sA_11, sT_12, sN_12, sA_12, sT_13, sN_13, sT_14, sT_15, sN_15, sA_15, sT_16, sN_16, sA_16, sT_17, sN_17, sA_17, sT_18, sN_18, sA_18, sT_19, sN_19, sA_19, sT_20, sT_21, sN_21, sA_21, sT_22, sN_22, sA_22, sT_23, sN_23, sA_23, sT_24, sN_24, sA_24, sT_25, sN_25, sA_25, sT_26, sN_26, sB_26, sT_27, sT_28, sN_28, sB_28, sT_29, sT_30, sN_30, sT_32, sN_32, sA_32, sT_33, sT_34, sN_34, sA_34, sT_35, sN_35, sA_35, sT_36, sT_37, sN_37, sA_37, sT_38, sN_38, sA_38, sT_39, sN_39, sA_39, sT_40, sN_40, sB_40, sT_41, sN_41, sA_41, sT_42, sN_42, sA_42, sT_43, sN_43, sA_43, sT_44, sT_45, sN_45, sA_45, sT_46, sN_46, sA_46, sT_47, sN_47, sA_47, sR_1_7, sR_1_8, sR_1_9, sR_1_10, sR_1_11, sR_0_0, sR_7_7, sR_7_8, sR_7_9, sR_7_10, sR_7_11, sR_0_1, sR_0_2, sR_14_7, sR_14_8, sR_14_9, sR_14_10, sR_14_11, sR_13_0, sR_20_7, sR_20_8, sR_20_9, sR_20_10, sR_20_11, sR_13_1, sR_0_3, sR_0_4, sR_27_0, sR_0_5, sR_29_0, sR_29_3, sR_0_6, sR_33_1, sR_33_2, sR_0_7, sR_36_2, sR_36_3, sR_36_4, sR_36_5, sR_36_6, sR_36_7, sR_36_8, sR_0_8, sR_44_0, sR_44_1, sR_44_2, rf_some, xc_int, xc_ref, xc_ret, xc_long, xw_nil, xw_int, xw_ref, xw_long, tl_some, tl_none, true_and, and_true, Nat.zero_le, Nat.reduceAdd, Nat.reduceMul, Nat.reduceLeDiff, Nat.reduceLT, Nat.reduceEqDiff, Nat.reducePow, Int32.reduceAdd, Int32.reduceMul, Int32.reduceSub, Int32.reduceLT, Int32.reduceLE, Int32.reduceToNatClampNeg, litE, ixU, not_false_eq_true, not_true_eq_false, ↓reduceIte, eq_self, true_or, or_true, false_and, and_false, or_false, false_or, i10, i01, in10, i1n, xbT, xbF, r_lt]
      refine ⟨by rw [e], fun fd' gg' e2 => ?_, fun e2 => (by rw [e] at e2; cases e2)⟩
      rw [e] at e2
      cases e2
      refine ⟨tn_v_c t2 (fun a j x1 x2 => by rw [hI_sI, if_neg (by omega)]), by rw [hI_sI, if_pos ⟨rfl, rfl⟩], wr_sI ⟨stq_tr w1.1 C.2.2.2.2, fun a j z => ?_⟩ ⟨by decide, fun _ => rfl⟩⟩
      rw [C.1 a j (by omega), w1.2 a j (by omega)]
    intro n'
    induction n' with
    | zero =>
      intro i g h1 hi pg t1 w1 hf e
      have : i = n := by omega
      subst this
      simp only [xs_113_48, xs_113_50, xs_113_52, le_t, rf_some, xc_int, xc_ref, xc_ret, xc_long, xw_nil, xw_int, xw_ref, xw_long, tl_some, tl_none, true_and, and_true, Nat.zero_le, Nat.reduceAdd, Nat.reduceMul, Nat.reduceLeDiff, Nat.reduceLT, Nat.reduceEqDiff, Nat.reducePow, Int32.reduceAdd, Int32.reduceMul, Int32.reduceSub, Int32.reduceLT, Int32.reduceLE, Int32.reduceToNatClampNeg, litE, ixU, not_false_eq_true, not_true_eq_false, ↓reduceIte, eq_self, true_or, or_true, false_and, and_false, or_false, false_or, i10, i01, in10, i1n, xbT, xbF, r_lt]
      exact fin i _ g h1 0 pg t1 w1 e.symm
    | succ n' ih =>
      intro i g h1 hi pg t1 w1 hf e
      have H1 := wr_sh w1 H
      have c5' : cSh s ce h1 := cSh_c c5 (fun a j x1 x2 => w1.2 a j (by omega))
      simp only [xs_113_48, xs_113_50, xs_113_52, xs_113_55, xs_113_57, lt_f (show i < n by omega) (show n < 2 ^ 31 by omega), rf_some, xc_int, xc_ref, xc_ret, xc_long, xw_nil, xw_int, xw_ref, xw_long, tl_some, tl_none, true_and, and_true, Nat.zero_le, Nat.reduceAdd, Nat.reduceMul, Nat.reduceLeDiff, Nat.reduceLT, Nat.reduceEqDiff, Nat.reducePow, Int32.reduceAdd, Int32.reduceMul, Int32.reduceSub, Int32.reduceLT, Int32.reduceLE, Int32.reduceToNatClampNeg, litE, ixU, not_false_eq_true, not_true_eq_false, ↓reduceIte, eq_self, true_or, or_true, false_and, and_false, or_false, false_or, i10, i01, in10, i1n, xbT, xbF, r_lt]
      have fa := fun Q => cl_faultAs (d := d + 2) (Q := Q) H1 c5' hb hk l (f + nI i)
      simp only [xs_113_60, xs_113_61, xs_113_64, xs_113_65, xs_113_66, xs_113_67, xs_113_69, xs_113_70, H1, sT_0, sT_1, sT_2, sN_2, sA_2, sT_3, sN_3, sA_3, sT_4, sN_4, sA_4, sT_5, sN_5, sA_5, sT_6, sN_6, sA_6, sT_7, sT_8, sN_8, sA_8, sT_9, sN_9, sA_9, sT_10, sN_10, sA_10, sT_11, sN_11, sA_11, sT_12, sN_12, sA_12, sT_13, sN_13, sT_14, sT_15, sN_15, sA_15, sT_16, sN_16, sA_16, sT_17, sN_17, sA_17, sT_18, sN_18, sA_18, sT_19, sN_19, sA_19, sT_20, sT_21, sN_21, sA_21, sT_22, sN_22, sA_22, sT_23, sN_23, sA_23, sT_24, sN_24, sA_24, sT_25, sN_25, sA_25, sT_26, sN_26, sB_26, sT_27, sT_28, sN_28, sB_28, sT_29, sT_30, sN_30, sT_32, sN_32, sA_32, sT_33, sT_34, sN_34, sA_34, sT_35, sN_35, sA_35, sT_36, sT_37, sN_37, sA_37, sT_38, sN_38, sA_38, sT_39, sN_39, sA_39, sT_40, sN_40, sB_40, sT_41, sN_41, sA_41, sT_42, sN_42, sA_42, sT_43, sN_43, sA_43, sT_44, sT_45, sN_45, sA_45, sT_46, sN_46, sA_46, sT_47, sN_47, sA_47, sR_1_7, sR_1_8, sR_1_9, sR_1_10, sR_1_11, sR_0_0, sR_7_7, sR_7_8, sR_7_9, sR_7_10, sR_7_11, sR_0_1, sR_0_2, sR_14_7, sR_14_8, sR_14_9, sR_14_10, sR_14_11, sR_13_0, sR_20_7, sR_20_8, sR_20_9, sR_20_10, sR_20_11, sR_13_1, sR_0_3, sR_0_4, sR_27_0, sR_0_5, sR_29_0, sR_29_3, sR_0_6, sR_33_1, sR_33_2, sR_0_7, sR_36_2, sR_36_3, sR_36_4, sR_36_5, sR_36_6, sR_36_7, sR_36_8, sR_0_8, sR_44_0, sR_44_1, sR_44_2, rf_some, xc_int, xc_ref, xc_ret, xc_long, xw_nil, xw_int, xw_ref, xw_long, tl_some, tl_none, true_and, and_true, Nat.zero_le, Nat.reduceAdd, Nat.reduceMul, Nat.reduceLeDiff, Nat.reduceLT, Nat.reduceEqDiff, Nat.reducePow, Int32.reduceAdd, Int32.reduceMul, Int32.reduceSub, Int32.reduceLT, Int32.reduceLE, Int32.reduceToNatClampNeg, litE, ixU, not_false_eq_true, not_true_eq_false, ↓reduceIte, eq_self, true_or, or_true, false_and, and_false, or_false, false_or, i10, i01, in10, i1n, xbT, xbF, r_lt, fa]
      rw [show (if s 7 k = 3 then (1 : Int32) else if nI (s 7 k) = l then (if 0 ≤ f + nI i ∧ f + nI i < nI (s 8 k) then 0 else 2) else 3) = rfa s k l f i from rfl]
      rw [rl] at e
      by_cases z : rfa s k l f i = 0
      · rw [if_pos z] at e
        obtain ⟨fn, rfl, hfn, e1⟩ := rfi_s (hb k hk).2 hf z
        have e2 : nI k * 40 + nI (fn + i) = nI (40 * k + (fn + i)) := by rw [show (40 : Int32) = nI 40 from rfl, pk_mul, nI_add, Nat.mul_comm]
        have e3 : xe_I h1 45 (40 * k + (fn + i)) = rce ce k (nI fn) i := by
          rw [c5'.2 _ (by omega)]
          unfold rce
          rw [e1, nI_clamp (by omega)]
        simp only [xs_113_73, xs_113_75, xs_113_77, xs_113_80, xs_113_81, xs_113_84, xs_113_85, xs_113_88, xs_113_89, xs_113_90, xs_113_92, xs_113_93, xs_113_96, xs_18, xs_18_0, xs_18_1, xs_18_4, xs_18_5, xs_18_7, xs_18_8, xs_18_9, xs_18_10, xs_18_11, z, H1, sT_0, sT_1, sT_2, sN_2, sA_2, sT_3, sN_3, sA_3, sT_4, sN_4, sA_4, sT_5, sN_5, sA_5, sT_6, sN_6, sA_6, sT_7, sT_8, sN_8, sA_8, sT_9, sN_9, sA_9, sT_10, sN_10, sA_10, sT_11, sN_11, sA_11, sT_12, sN_12, sA_12, sT_13, sN_13, sT_14, sT_15, sN_15, sA_15, sT_16, sN_16, sA_16, sT_17, sN_17, sA_17, sT_18, sN_18, sA_18, sT_19, sN_19, sA_19, sT_20, sT_21, sN_21, sA_21, sT_22, sN_22, sA_22, sT_23, sN_23, sA_23, sT_24, sN_24, sA_24, sT_25, sN_25, sA_25, sT_26, sN_26, sB_26, sT_27, sT_28, sN_28, sB_28, sT_29, sT_30, sN_30, sT_32, sN_32, sA_32, sT_33, sT_34, sN_34, sA_34, sT_35, sN_35, sA_35, sT_36, sT_37, sN_37, sA_37, sT_38, sN_38, sA_38, sT_39, sN_39, sA_39, sT_40, sN_40, sB_40, sT_41, sN_41, sA_41, sT_42, sN_42, sA_42, sT_43, sN_43, sA_43, sT_44, sT_45, sN_45, sA_45, sT_46, sN_46, sA_46, sT_47, sN_47, sA_47, sR_1_7, sR_1_8, sR_1_9, sR_1_10, sR_1_11, sR_0_0, sR_7_7, sR_7_8, sR_7_9, sR_7_10, sR_7_11, sR_0_1, sR_0_2, sR_14_7, sR_14_8, sR_14_9, sR_14_10, sR_14_11, sR_13_0, sR_20_7, sR_20_8, sR_20_9, sR_20_10, sR_20_11, sR_13_1, sR_0_3, sR_0_4, sR_27_0, sR_0_5, sR_29_0, sR_29_3, sR_0_6, sR_33_1, sR_33_2, sR_0_7, sR_36_2, sR_36_3, sR_36_4, sR_36_5, sR_36_6, sR_36_7, sR_36_8, sR_0_8, sR_44_0, sR_44_1, sR_44_2, rf_some, xc_int, xc_ref, xc_ret, xc_long, xw_nil, xw_int, xw_ref, xw_long, tl_some, tl_none, true_and, and_true, Nat.zero_le, Nat.reduceAdd, Nat.reduceMul, Nat.reduceLeDiff, Nat.reduceLT, Nat.reduceEqDiff, Nat.reducePow, Int32.reduceAdd, Int32.reduceMul, Int32.reduceSub, Int32.reduceLT, Int32.reduceLE, Int32.reduceToNatClampNeg, litE, ixU, not_false_eq_true, not_true_eq_false, ↓reduceIte, eq_self, true_or, or_true, false_and, and_false, or_false, false_or, i10, i01, in10, i1n, xbT, xbF, r_lt, e1, e2, nIlt0 (show 40 * k + (fn + i) < 2 ^ 31 by omega), nI_clamp (show 40 * k + (fn + i) < 2 ^ 31 by omega), show 40 * k + (fn + i) < 160 by omega, e3]
        refine xe_C_mono (tw_minute (sW_7 H1) t1 pg _) ?_
        rintro v h2 ⟨rfl, t2, w2⟩
        have H2 := wr_sh w2 H1
        have w3 : wr (fun a _ => 7 ≤ a ∧ a ≤ 12) h h2 := wr_tr w1 (wr_sub w2 (fun a j q => by unfold pS at q; omega))
        by_cases y : (mr g (rce ce k (nI fn) i)).1 = 0
        · rw [if_pos y] at e
          simp only [xs_113_99, xs_113_102, xs_113_104, xs_113_106, xs_113_107, xs_113_108, xs_113_111, xs_113_114, y, nI_1, rf_some, xc_int, xc_ref, xc_ret, xc_long, xw_nil, xw_int, xw_ref, xw_long, tl_some, tl_none, true_and, and_true, Nat.zero_le, Nat.reduceAdd, Nat.reduceMul, Nat.reduceLeDiff, Nat.reduceLT, Nat.reduceEqDiff, Nat.reducePow, Int32.reduceAdd, Int32.reduceMul, Int32.reduceSub, Int32.reduceLT, Int32.reduceLE, Int32.reduceToNatClampNeg, litE, ixU, not_false_eq_true, not_true_eq_false, ↓reduceIte, eq_self, true_or, or_true, false_and, and_false, or_false, false_or, i10, i01, in10, i1n, xbT, xbF, r_lt]
          exact ih (i + 1) _ h2 (by omega) (mr_ok pg _).1 t2 w3 (Or.inr ⟨fn, rfl, by omega⟩) e
        · rw [if_neg y] at e
          simp only [xs_113_99, xs_113_102, xs_113_104, xs_113_106, xs_113_107, y, rf_some, xc_int, xc_ref, xc_ret, xc_long, xw_nil, xw_int, xw_ref, xw_long, tl_some, tl_none, true_and, and_true, Nat.zero_le, Nat.reduceAdd, Nat.reduceMul, Nat.reduceLeDiff, Nat.reduceLT, Nat.reduceEqDiff, Nat.reducePow, Int32.reduceAdd, Int32.reduceMul, Int32.reduceSub, Int32.reduceLT, Int32.reduceLE, Int32.reduceToNatClampNeg, litE, ixU, not_false_eq_true, not_true_eq_false, ↓reduceIte, eq_self, true_or, or_true, false_and, and_false, or_false, false_or, i10, i01, in10, i1n, xbT, xbF, r_lt]
          refine ⟨by rw [← e], fun fd gg e2 => (by rw [← e] at e2; cases e2), fun _ => w3⟩
      · rw [if_neg z] at e
        simp only [xs_113_73, xs_113_75, xs_113_77, xs_113_111, xs_113_114, z, nI_1, rf_some, xc_int, xc_ref, xc_ret, xc_long, xw_nil, xw_int, xw_ref, xw_long, tl_some, tl_none, true_and, and_true, Nat.zero_le, Nat.reduceAdd, Nat.reduceMul, Nat.reduceLeDiff, Nat.reduceLT, Nat.reduceEqDiff, Nat.reducePow, Int32.reduceAdd, Int32.reduceMul, Int32.reduceSub, Int32.reduceLT, Int32.reduceLE, Int32.reduceToNatClampNeg, litE, ixU, not_false_eq_true, not_true_eq_false, ↓reduceIte, eq_self, true_or, or_true, false_and, and_false, or_false, false_or, i10, i01, in10, i1n, xbT, xbF, r_lt]
        by_cases y : nI n ≤ nI (i + 1)
        · simp only [xs_113_48, xs_113_50, xs_113_52, y, rf_some, xc_int, xc_ref, xc_ret, xc_long, xw_nil, xw_int, xw_ref, xw_long, tl_some, tl_none, true_and, and_true, Nat.zero_le, Nat.reduceAdd, Nat.reduceMul, Nat.reduceLeDiff, Nat.reduceLT, Nat.reduceEqDiff, Nat.reducePow, Int32.reduceAdd, Int32.reduceMul, Int32.reduceSub, Int32.reduceLT, Int32.reduceLE, Int32.reduceToNatClampNeg, litE, ixU, not_false_eq_true, not_true_eq_false, ↓reduceIte, eq_self, true_or, or_true, false_and, and_false, or_false, false_or, i10, i01, in10, i1n, xbT, xbF, r_lt]
          exact fin i _ g h1 _ pg t1 w1 e.symm
        · simp only [xs_113_48, xs_113_50, xs_113_52, xs_113_55, xs_113_57, y, z, rf_some, xc_int, xc_ref, xc_ret, xc_long, xw_nil, xw_int, xw_ref, xw_long, tl_some, tl_none, true_and, and_true, Nat.zero_le, Nat.reduceAdd, Nat.reduceMul, Nat.reduceLeDiff, Nat.reduceLT, Nat.reduceEqDiff, Nat.reducePow, Int32.reduceAdd, Int32.reduceMul, Int32.reduceSub, Int32.reduceLT, Int32.reduceLE, Int32.reduceToNatClampNeg, litE, ixU, not_false_eq_true, not_true_eq_false, ↓reduceIte, eq_self, true_or, or_true, false_and, and_false, or_false, false_or, i10, i01, in10, i1n, xbT, xbF, r_lt]
          exact fin i _ g h1 _ pg t1 w1 e.symm
  have q1 : (0 ≤ nI k ∧ nI k ≤ 3) := ⟨nI_pos' (by omega), by rw [show (3 : Int32) = nI 3 from rfl, nI_leI (by omega) (by decide)]; omega⟩
  have q3 : nI n ≤ 20 := by rw [show (20 : Int32) = nI 20 from rfl, nI_leI (by omega) (by decide)]; exact hn
  simp only [xs_113, xs_113_0, xs_113_1, xs_113_4, xs_113_7, xs_113_8, xs_113_11, xs_113_14, xs_113_16, xs_113_19, xs_113_21, xs_113_23, xs_113_26, xs_113_27, xs_113_28, xs_113_29, xs_113_32, xs_113_33, xs_113_36, sh_isSheet, sh_isLane, q1.1, q1.2, ql.1, ql.2, nIlt0 (show n < 2 ^ 31 by omega), q3, H, sT_0, sT_1, sT_2, sN_2, sA_2, sT_3, sN_3, sA_3, sT_4, sN_4, sA_4, sT_5, sN_5, sA_5, sT_6, sN_6, sA_6, sT_7, sT_8, sN_8, sA_8, sT_9, sN_9, sA_9, sT_10, sN_10, sA_10, sT_11, sN_11, sA_11, sT_12, sN_12, sA_12, sT_13, sN_13, sT_14, sT_15, sN_15, sA_15, sT_16, sN_16, sA_16, sT_17, sN_17, sA_17, sT_18, sN_18, sA_18, sT_19, sN_19, sA_19, sT_20, sT_21, sN_21, sA_21, sT_22, sN_22, sA_22, sT_23, sN_23, sA_23, sT_24, sN_24, sA_24, sT_25, sN_25, sA_25, sT_26, sN_26, sB_26, sT_27, sT_28, sN_28, sB_28, sT_29, sT_30, sN_30, sT_32, sN_32, sA_32, sT_33, sT_34, sN_34, sA_34, sT_35, sN_35, sA_35, sT_36, sT_37, sN_37, sA_37, sT_38, sN_38, sA_38, sT_39, sN_39, sA_39, sT_40, sN_40, sB_40, sT_41, sN_41, sA_41, sT_42, sN_42, sA_42, sT_43, sN_43, sA_43, sT_44, sT_45, sN_45, sA_45, sT_46, sN_46, sA_46, sT_47, sN_47, sA_47, sR_1_7, sR_1_8, sR_1_9, sR_1_10, sR_1_11, sR_0_0, sR_7_7, sR_7_8, sR_7_9, sR_7_10, sR_7_11, sR_0_1, sR_0_2, sR_14_7, sR_14_8, sR_14_9, sR_14_10, sR_14_11, sR_13_0, sR_20_7, sR_20_8, sR_20_9, sR_20_10, sR_20_11, sR_13_1, sR_0_3, sR_0_4, sR_27_0, sR_0_5, sR_29_0, sR_29_3, sR_0_6, sR_33_1, sR_33_2, sR_0_7, sR_36_2, sR_36_3, sR_36_4, sR_36_5, sR_36_6, sR_36_7, sR_36_8, sR_0_8, sR_44_0, sR_44_1, sR_44_2, rf_some, xc_int, xc_ref, xc_ret, xc_long, xw_nil, xw_int, xw_ref, xw_long, tl_some, tl_none, true_and, and_true, Nat.zero_le, Nat.reduceAdd, Nat.reduceMul, Nat.reduceLeDiff, Nat.reduceLT, Nat.reduceEqDiff, Nat.reducePow, Int32.reduceAdd, Int32.reduceMul, Int32.reduceSub, Int32.reduceLT, Int32.reduceLE, Int32.reduceToNatClampNeg, litE, ixU, not_false_eq_true, not_true_eq_false, ↓reduceIte, eq_self, true_or, or_true, false_and, and_false, or_false, false_or, i10, i01, in10, i1n, xbT, xbF, r_lt]
  refine xe_C_mono (tw_copy (sW_7 H) (sW_1 H) (by omega)) ?_
  rintro v h1 ⟨rfl, C⟩
  simp only [xs_113_39, xs_113_40, xs_113_42, xs_113_43, xs_113_45, xs_113_46, rf_some, xc_int, xc_ref, xc_ret, xc_long, xw_nil, xw_int, xw_ref, xw_long, tl_some, tl_none, true_and, and_true, Nat.zero_le, Nat.reduceAdd, Nat.reduceMul, Nat.reduceLeDiff, Nat.reduceLT, Nat.reduceEqDiff, Nat.reducePow, Int32.reduceAdd, Int32.reduceMul, Int32.reduceSub, Int32.reduceLT, Int32.reduceLE, Int32.reduceToNatClampNeg, litE, ixU, not_false_eq_true, not_true_eq_false, ↓reduceIte, eq_self, true_or, or_true, false_and, and_false, or_false, false_or, i10, i01, in10, i1n, xbT, xbF, r_lt]
  exact lp n 0 (s 0) h1 (by omega) hg (cpR_tn hg.1 hg.2.1 c1 C) ⟨C.2.2.2.2, fun a j z => C.1 a j (by omega)⟩ (Or.inl rfl) rfl
def rpostm (h : xe_H) (g0 : Nat → Nat) (r : Int32 × Option (Int32 × (Nat → Nat))) (v : Option Value) (h' : xe_H) : Prop := v = some (.int r.1) ∧ (∀ fd gg, r.2 = some (fd, gg) → mp h' 0 gg ∧ xe_I h' 48 40 = fd) ∧ (r.2 = none → mp h' 0 g0 ∧ xe_I h' 48 40 = xe_I h 48 40) ∧ wr (fun a j => (a = 49 ∧ (j < 35 ∨ 105 ≤ j)) ∨ a = 56 ∨ (a = 48 ∧ j = 40)) h h'
theorem md_read (H : sh h) (m1 : mp h 0 (s 0)) (hg : pg_ok (s 0)) (m5 : mSh s ce h) (hb : ∀ k, k < 4 → s 7 k ≤ 3 ∧ s 8 k ≤ 40) {k n : Nat} (hk : k < 4) (hn : n ≤ 20) (l f : Int32) (ql : 0 ≤ l ∧ l ≤ 2) {d : Nat} : xe_C (d + 7) 200 [.ref 48, .int (nI k), .int l, .int f, .int (nI n)] h (rpostm h (s 0) (rl s ce k l f n 0 (s 0))) := by
  have lp : ∀ n' i g h1, i + n' = n → pg_ok g → mp h1 0 g → mp h1 105 (s 0) → wr (fun a j => (a = 49 ∧ (j < 35 ∨ 105 ≤ j)) ∨ a = 56) h h1 → rfi f i → rl s ce k l f n' i g = rl s ce k l f n 0 (s 0) → xe_P (d + 6) 200 52 [.ref 48, .int (nI k), .int l, .int f, .int (nI n), .int 0, .int (nI i)] [] h1 (rpostm h (s 0) (rl s ce k l f n 0 (s 0))) := by
    have fin : ∀ i g h1 fd, mp h1 0 g → wr (fun a j => (a = 49 ∧ (j < 35 ∨ 105 ≤ j)) ∨ a = 56) h h1 → pg_ok g → rl s ce k l f n 0 (s 0) = (nI i, some (fd, g)) → xe_P (d + 6) 200 167 [.ref 48, .int (nI k), .int l, .int f, .int (nI n), .int fd, .int (nI i)] [] h1 (rpostm h (s 0) (rl s ce k l f n 0 (s 0))) := by
      intro i g h1 fd t1 w1 pg e
      have H1 := wr_sh w1 H
      simp only [xs_200_167, xs_200_168, xs_200_170, xs_200_173, xs_200_175, H1, sT_48, sT_49, sN_49, sA_49, sT_50, sN_50, sA_50, sT_51, sN_51, sA_51, sT_52, sN_52, sA_52, sT_53, sN_53, sA_53, sT_54, sN_54, sA_54, sT_55, sN_55, sA_55, sT_56, sN_56, sA_56, sT_57, sN_57, sA_57, sT_58, sN_58, sA_58, sT_59, sN_59, sA_59, sT_60, sN_60, sA_60, sT_61, sN_61, sA_61, sT_62, sN_62, sA_62, sT_63, sN_63, sA_63, sT_64, sN_64, sA_64, sT_65, sN_65, sA_65, sT_66, sN_66, sA_66, sT_67, sN_67, sA_67, sT_68, sN_68, sB_68, sT_69, sN_69, sA_69, sT_70, sN_70, sA_70, sT_71, sN_71, sA_71, sR_48_0, sR_48_2, sR_48_9, sR_48_10, sR_48_11, sR_48_20, sR_48_21, sR_48_22, sR_48_23, sR_48_24, sR_48_26, sR_48_27, sR_48_28, sR_48_29, sR_48_30, sR_48_31, sR_48_33, sR_48_34, sR_48_35, sR_48_36, sR_48_37, sR_48_38, sR_48_39, rf_some, xc_int, xc_ref, xc_ret, xc_long, xw_nil, xw_int, xw_ref, xw_long, tl_some, tl_none, true_and, and_true, Nat.zero_le, Nat.reduceAdd, Nat.reduceMul, Nat.reduceLeDiff, Nat.reduceLT, Nat.reduceEqDiff, Nat.reducePow, Int32.reduceAdd, Int32.reduceMul, Int32.reduceSub, Int32.reduceLT, Int32.reduceLE, Int32.reduceToNatClampNeg, litE, ixU, not_false_eq_true, not_true_eq_false, ↓reduceIte, eq_self, true_or, or_true, false_and, and_false, or_false, false_or, i10, i01, in10, i1n, xbT, xbF, r_lt]
      refine ⟨by rw [e], fun fd' gg' e2 => ?_, fun e2 => (by rw [e] at e2; cases e2), wr_sI (wr_sub w1 (fun a j q => by omega)) (by omega)⟩
      rw [e] at e2
      cases e2
      exact ⟨mp_c pg t1 (fun j _ _ => by rw [hI_sI, if_neg (by omega)]), by rw [hI_sI, if_pos ⟨rfl, rfl⟩]⟩
    intro n'
    induction n' with
    | zero =>
      intro i g h1 hi pg t1 t0 w1 hf e
      have : i = n := by omega
      subst this
      simp only [xs_200_52, xs_200_54, xs_200_56, le_t, rf_some, xc_int, xc_ref, xc_ret, xc_long, xw_nil, xw_int, xw_ref, xw_long, tl_some, tl_none, true_and, and_true, Nat.zero_le, Nat.reduceAdd, Nat.reduceMul, Nat.reduceLeDiff, Nat.reduceLT, Nat.reduceEqDiff, Nat.reducePow, Int32.reduceAdd, Int32.reduceMul, Int32.reduceSub, Int32.reduceLT, Int32.reduceLE, Int32.reduceToNatClampNeg, litE, ixU, not_false_eq_true, not_true_eq_false, ↓reduceIte, eq_self, true_or, or_true, false_and, and_false, or_false, false_or, i10, i01, in10, i1n, xbT, xbF, r_lt]
      exact fin i g h1 0 t1 w1 pg e.symm
    | succ n' ih =>
      intro i g h1 hi pg t1 t0 w1 hf e
      have H1 := wr_sh w1 H
      have m5' : mSh s ce h1 := mSh_c m5 (fun a j x1 x2 => w1.2 a j (by omega))
      obtain ⟨b7, b8⟩ := hb k hk
      obtain ⟨e7, e8⟩ := m5'.1 k hk
      have beg : xe_P (d + 6) 200 52 [.ref 48, .int (nI k), .int l, .int f, .int (nI n), .int 0, .int (nI i)] [] h1 (rpostm h (s 0) (rl s ce k l f n 0 (s 0))) = xe_P (d + 6) 200 120 [.ref 48, .int (nI k), .int l, .int f, .int (nI n), .int 0, .int (nI i)] [.int (rfa s k l f i)] h1 (rpostm h (s 0) (rl s ce k l f n 0 (s 0))) := by
        unfold rfa
        simp only [xs_200_52, xs_200_54, xs_200_56, xs_200_59, xs_200_61, lt_f (show i < n by omega) (show n < 2 ^ 31 by omega), rf_some, xc_int, xc_ref, xc_ret, xc_long, xw_nil, xw_int, xw_ref, xw_long, tl_some, tl_none, true_and, and_true, Nat.zero_le, Nat.reduceAdd, Nat.reduceMul, Nat.reduceLeDiff, Nat.reduceLT, Nat.reduceEqDiff, Nat.reducePow, Int32.reduceAdd, Int32.reduceMul, Int32.reduceSub, Int32.reduceLT, Int32.reduceLE, Int32.reduceToNatClampNeg, litE, ixU, not_false_eq_true, not_true_eq_false, ↓reduceIte, eq_self, true_or, or_true, false_and, and_false, or_false, false_or, i10, i01, in10, i1n, xbT, xbF, r_lt]
        by_cases y1 : s 7 k = 3
        · rw [if_pos y1] at e7
          simp only [xs_200_64, xs_200_65, xs_200_68, xs_200_69, xs_200_70, xs_200_72, xs_200_75, xs_200_76, H1, sT_48, sT_49, sN_49, sA_49, sT_50, sN_50, sA_50, sT_51, sN_51, sA_51, sT_52, sN_52, sA_52, sT_53, sN_53, sA_53, sT_54, sN_54, sA_54, sT_55, sN_55, sA_55, sT_56, sN_56, sA_56, sT_57, sN_57, sA_57, sT_58, sN_58, sA_58, sT_59, sN_59, sA_59, sT_60, sN_60, sA_60, sT_61, sN_61, sA_61, sT_62, sN_62, sA_62, sT_63, sN_63, sA_63, sT_64, sN_64, sA_64, sT_65, sN_65, sA_65, sT_66, sN_66, sA_66, sT_67, sN_67, sA_67, sT_68, sN_68, sB_68, sT_69, sN_69, sA_69, sT_70, sN_70, sA_70, sT_71, sN_71, sA_71, sR_48_0, sR_48_2, sR_48_9, sR_48_10, sR_48_11, sR_48_20, sR_48_21, sR_48_22, sR_48_23, sR_48_24, sR_48_26, sR_48_27, sR_48_28, sR_48_29, sR_48_30, sR_48_31, sR_48_33, sR_48_34, sR_48_35, sR_48_36, sR_48_37, sR_48_38, sR_48_39, rf_some, xc_int, xc_ref, xc_ret, xc_long, xw_nil, xw_int, xw_ref, xw_long, tl_some, tl_none, true_and, and_true, Nat.zero_le, Nat.reduceAdd, Nat.reduceMul, Nat.reduceLeDiff, Nat.reduceLT, Nat.reduceEqDiff, Nat.reducePow, Int32.reduceAdd, Int32.reduceMul, Int32.reduceSub, Int32.reduceLT, Int32.reduceLE, Int32.reduceToNatClampNeg, litE, ixU, not_false_eq_true, not_true_eq_false, ↓reduceIte, eq_self, true_or, or_true, false_and, and_false, or_false, false_or, i10, i01, in10, i1n, xbT, xbF, r_lt, nIlt0 (show k < 2 ^ 31 by omega), nI_clamp (show k < 2 ^ 31 by omega), show k < 4 by omega, e7, y1]
        · rw [if_neg y1] at e7
          by_cases y2 : nI (s 7 k) = l
          · have mi := fun d Q => md_in (d := d) (h := h1) (Q := Q) (f.toInt64 + (nI i).toInt64) 0 (nI (s 8 k) - 1).toInt64
            by_cases y3 : 0 ≤ f + nI i ∧ f + nI i < nI (s 8 k)
            · have y4 := (rfi_w b8 (by omega) hf).mpr y3
              subst y2
              simp only [xs_200_64, xs_200_65, xs_200_68, xs_200_69, xs_200_70, xs_200_72, xs_200_75, xs_200_76, xs_200_79, xs_200_80, xs_200_83, xs_200_84, xs_200_85, xs_200_86, xs_200_89, xs_200_90, xs_200_93, xs_200_94, xs_200_95, xs_200_97, xs_200_98, xs_200_99, xs_200_100, xs_200_101, xs_200_104, xs_200_105, xs_200_106, xs_200_107, xs_200_108, xs_200_109, xs_200_112, xs_200_115, xs_200_116, xs_200_119, H1, sT_48, sT_49, sN_49, sA_49, sT_50, sN_50, sA_50, sT_51, sN_51, sA_51, sT_52, sN_52, sA_52, sT_53, sN_53, sA_53, sT_54, sN_54, sA_54, sT_55, sN_55, sA_55, sT_56, sN_56, sA_56, sT_57, sN_57, sA_57, sT_58, sN_58, sA_58, sT_59, sN_59, sA_59, sT_60, sN_60, sA_60, sT_61, sN_61, sA_61, sT_62, sN_62, sA_62, sT_63, sN_63, sA_63, sT_64, sN_64, sA_64, sT_65, sN_65, sA_65, sT_66, sN_66, sA_66, sT_67, sN_67, sA_67, sT_68, sN_68, sB_68, sT_69, sN_69, sA_69, sT_70, sN_70, sA_70, sT_71, sN_71, sA_71, sR_48_0, sR_48_2, sR_48_9, sR_48_10, sR_48_11, sR_48_20, sR_48_21, sR_48_22, sR_48_23, sR_48_24, sR_48_26, sR_48_27, sR_48_28, sR_48_29, sR_48_30, sR_48_31, sR_48_33, sR_48_34, sR_48_35, sR_48_36, sR_48_37, sR_48_38, sR_48_39, rf_some, xc_int, xc_ref, xc_ret, xc_long, xw_nil, xw_int, xw_ref, xw_long, tl_some, tl_none, true_and, and_true, Nat.zero_le, Nat.reduceAdd, Nat.reduceMul, Nat.reduceLeDiff, Nat.reduceLT, Nat.reduceEqDiff, Nat.reducePow, Int32.reduceAdd, Int32.reduceMul, Int32.reduceSub, Int32.reduceLT, Int32.reduceLE, Int32.reduceToNatClampNeg, litE, ixU, not_false_eq_true, not_true_eq_false, ↓reduceIte, eq_self, true_or, or_true, false_and, and_false, or_false, false_or, i10, i01, in10, i1n, xbT, xbF, r_lt, nIlt0 (show k < 2 ^ 31 by omega), nI_clamp (show k < 2 ^ 31 by omega), show k < 4 by omega, e7, e8, y1, nI_ne4 (show s 7 k < 2 ^ 31 by omega), mi, xb_t y4, y3, and_self]
            · have y4 := fun z => y3 ((rfi_w b8 (by omega) hf).mp z)
              subst y2
              simp only [xs_200_64, xs_200_65, xs_200_68, xs_200_69, xs_200_70, xs_200_72, xs_200_75, xs_200_76, xs_200_79, xs_200_80, xs_200_83, xs_200_84, xs_200_85, xs_200_86, xs_200_89, xs_200_90, xs_200_93, xs_200_94, xs_200_95, xs_200_97, xs_200_98, xs_200_99, xs_200_100, xs_200_101, xs_200_104, xs_200_105, xs_200_106, xs_200_107, xs_200_108, xs_200_109, xs_200_112, xs_200_115, xs_200_116, xs_200_119, H1, sT_48, sT_49, sN_49, sA_49, sT_50, sN_50, sA_50, sT_51, sN_51, sA_51, sT_52, sN_52, sA_52, sT_53, sN_53, sA_53, sT_54, sN_54, sA_54, sT_55, sN_55, sA_55, sT_56, sN_56, sA_56, sT_57, sN_57, sA_57, sT_58, sN_58, sA_58, sT_59, sN_59, sA_59, sT_60, sN_60, sA_60, sT_61, sN_61, sA_61, sT_62, sN_62, sA_62, sT_63, sN_63, sA_63, sT_64, sN_64, sA_64, sT_65, sN_65, sA_65, sT_66, sN_66, sA_66, sT_67, sN_67, sA_67, sT_68, sN_68, sB_68, sT_69, sN_69, sA_69, sT_70, sN_70, sA_70, sT_71, sN_71, sA_71, sR_48_0, sR_48_2, sR_48_9, sR_48_10, sR_48_11, sR_48_20, sR_48_21, sR_48_22, sR_48_23, sR_48_24, sR_48_26, sR_48_27, sR_48_28, sR_48_29, sR_48_30, sR_48_31, sR_48_33, sR_48_34, sR_48_35, sR_48_36, sR_48_37, sR_48_38, sR_48_39, rf_some, xc_int, xc_ref, xc_ret, xc_long, xw_nil, xw_int, xw_ref, xw_long, tl_some, tl_none, true_and, and_true, Nat.zero_le, Nat.reduceAdd, Nat.reduceMul, Nat.reduceLeDiff, Nat.reduceLT, Nat.reduceEqDiff, Nat.reducePow, Int32.reduceAdd, Int32.reduceMul, Int32.reduceSub, Int32.reduceLT, Int32.reduceLE, Int32.reduceToNatClampNeg, litE, ixU, not_false_eq_true, not_true_eq_false, ↓reduceIte, eq_self, true_or, or_true, false_and, and_false, or_false, false_or, i10, i01, in10, i1n, xbT, xbF, r_lt, nIlt0 (show k < 2 ^ 31 by omega), nI_clamp (show k < 2 ^ 31 by omega), show k < 4 by omega, e7, e8, y1, nI_ne4 (show s 7 k < 2 ^ 31 by omega), mi, xb_f y4, y3]
          · simp only [xs_200_64, xs_200_65, xs_200_68, xs_200_69, xs_200_70, xs_200_72, xs_200_75, xs_200_76, xs_200_79, xs_200_80, xs_200_83, xs_200_84, xs_200_85, xs_200_86, xs_200_89, xs_200_90, xs_200_93, xs_200_94, xs_200_95, xs_200_97, xs_200_98, xs_200_99, xs_200_100, xs_200_101, xs_200_104, xs_200_105, xs_200_106, xs_200_107, xs_200_108, xs_200_109, xs_200_112, xs_200_115, xs_200_116, xs_200_119, H1, sT_48, sT_49, sN_49, sA_49, sT_50, sN_50, sA_50, sT_51, sN_51, sA_51, sT_52, sN_52, sA_52, sT_53, sN_53, sA_53, sT_54, sN_54, sA_54, sT_55, sN_55, sA_55, sT_56, sN_56, sA_56, sT_57, sN_57, sA_57, sT_58, sN_58, sA_58, sT_59, sN_59, sA_59, sT_60, sN_60, sA_60, sT_61, sN_61, sA_61, sT_62, sN_62, sA_62, sT_63, sN_63, sA_63, sT_64, sN_64, sA_64, sT_65, sN_65, sA_65, sT_66, sN_66, sA_66, sT_67, sN_67, sA_67, sT_68, sN_68, sB_68, sT_69, sN_69, sA_69, sT_70, sN_70, sA_70, sT_71, sN_71, sA_71, sR_48_0, sR_48_2, sR_48_9, sR_48_10, sR_48_11, sR_48_20, sR_48_21, sR_48_22, sR_48_23, sR_48_24, sR_48_26, sR_48_27, sR_48_28, sR_48_29, sR_48_30, sR_48_31, sR_48_33, sR_48_34, sR_48_35, sR_48_36, sR_48_37, sR_48_38, sR_48_39, rf_some, xc_int, xc_ref, xc_ret, xc_long, xw_nil, xw_int, xw_ref, xw_long, tl_some, tl_none, true_and, and_true, Nat.zero_le, Nat.reduceAdd, Nat.reduceMul, Nat.reduceLeDiff, Nat.reduceLT, Nat.reduceEqDiff, Nat.reducePow, Int32.reduceAdd, Int32.reduceMul, Int32.reduceSub, Int32.reduceLT, Int32.reduceLE, Int32.reduceToNatClampNeg, litE, ixU, not_false_eq_true, not_true_eq_false, ↓reduceIte, eq_self, true_or, or_true, false_and, and_false, or_false, false_or, i10, i01, in10, i1n, xbT, xbF, r_lt, nIlt0 (show k < 2 ^ 31 by omega), nI_clamp (show k < 2 ^ 31 by omega), show k < 4 by omega, e7, y1, y2, nI_ne4 (show s 7 k < 2 ^ 31 by omega)]
      rw [beg]
      rw [rl] at e
      by_cases z : rfa s k l f i = 0
      · rw [if_pos z] at e
        obtain ⟨fn, rfl, hfn, e1⟩ := rfi_s b8 hf z
        have e2 : (40 : Int32) * nI k + nI fn + nI i = nI (40 * k + (fn + i)) := by rw [show (40 : Int32) = nI 40 from rfl, pk_mul, nI_add, nI_add, Nat.add_assoc]
        have e3 : xe_I h1 71 (40 * k + (fn + i)) = rce ce k (nI fn) i := by
          rw [m5'.2 _ (by omega)]
          unfold rce
          rw [e1, nI_clamp (by omega)]
        simp only [xs_200_120, xs_200_122, xs_200_124, xs_200_127, xs_200_128, xs_200_129, xs_200_132, xs_200_134, xs_200_135, xs_200_136, xs_200_137, xs_200_138, xs_200_140, xs_200_141, xs_200_142, z, H1, sT_48, sT_49, sN_49, sA_49, sT_50, sN_50, sA_50, sT_51, sN_51, sA_51, sT_52, sN_52, sA_52, sT_53, sN_53, sA_53, sT_54, sN_54, sA_54, sT_55, sN_55, sA_55, sT_56, sN_56, sA_56, sT_57, sN_57, sA_57, sT_58, sN_58, sA_58, sT_59, sN_59, sA_59, sT_60, sN_60, sA_60, sT_61, sN_61, sA_61, sT_62, sN_62, sA_62, sT_63, sN_63, sA_63, sT_64, sN_64, sA_64, sT_65, sN_65, sA_65, sT_66, sN_66, sA_66, sT_67, sN_67, sA_67, sT_68, sN_68, sB_68, sT_69, sN_69, sA_69, sT_70, sN_70, sA_70, sT_71, sN_71, sA_71, sR_48_0, sR_48_2, sR_48_9, sR_48_10, sR_48_11, sR_48_20, sR_48_21, sR_48_22, sR_48_23, sR_48_24, sR_48_26, sR_48_27, sR_48_28, sR_48_29, sR_48_30, sR_48_31, sR_48_33, sR_48_34, sR_48_35, sR_48_36, sR_48_37, sR_48_38, sR_48_39, rf_some, xc_int, xc_ref, xc_ret, xc_long, xw_nil, xw_int, xw_ref, xw_long, tl_some, tl_none, true_and, and_true, Nat.zero_le, Nat.reduceAdd, Nat.reduceMul, Nat.reduceLeDiff, Nat.reduceLT, Nat.reduceEqDiff, Nat.reducePow, Int32.reduceAdd, Int32.reduceMul, Int32.reduceSub, Int32.reduceLT, Int32.reduceLE, Int32.reduceToNatClampNeg, litE, ixU, not_false_eq_true, not_true_eq_false, ↓reduceIte, eq_self, true_or, or_true, false_and, and_false, or_false, false_or, i10, i01, in10, i1n, xbT, xbF, r_lt, e2, nIlt0 (show 40 * k + (fn + i) < 2 ^ 31 by omega), nI_clamp (show 40 * k + (fn + i) < 2 ^ 31 by omega), show 40 * k + (fn + i) < 160 by omega, e3]
        refine xe_C_mono (md_minute H1 t1 pg _) ?_
        rintro v h2 ⟨rfl, t2, w2⟩
        have H2 := wr_sh w2 H1
        have w3 : wr (fun a j => (a = 49 ∧ (j < 35 ∨ 105 ≤ j)) ∨ a = 56) h h2 := wr_tr w1 (wr_sub w2 (fun a j q => by unfold mS at q; omega))
        have t02 : mp h2 105 (s 0) := mp_c hg t0 (fun j x1 x2 => w2.2 49 j (by unfold mS; omega))
        by_cases y : (mr g (rce ce k (nI fn) i)).1 = 0
        · rw [if_pos y] at e
          simp only [xs_200_145, xs_200_161, xs_200_164, y, nI_1, rf_some, xc_int, xc_ref, xc_ret, xc_long, xw_nil, xw_int, xw_ref, xw_long, tl_some, tl_none, true_and, and_true, Nat.zero_le, Nat.reduceAdd, Nat.reduceMul, Nat.reduceLeDiff, Nat.reduceLT, Nat.reduceEqDiff, Nat.reducePow, Int32.reduceAdd, Int32.reduceMul, Int32.reduceSub, Int32.reduceLT, Int32.reduceLE, Int32.reduceToNatClampNeg, litE, ixU, not_false_eq_true, not_true_eq_false, ↓reduceIte, eq_self, true_or, or_true, false_and, and_false, or_false, false_or, i10, i01, in10, i1n, xbT, xbF, r_lt]
          exact ih (i + 1) _ h2 (by omega) (mr_ok pg _).1 t2 t02 w3 (Or.inr ⟨fn, rfl, by omega⟩) e
        · rw [if_neg y] at e
          have mc : ∀ (d : Nat) (Q : Option Value → xe_H → Prop), xe_C (d + 1) 195 [.ref 48, .int 105, .int 0] h2 Q = Q none (xe_aI h2 49 (fb_put (xe_I h2 49) (fun j => xe_I h2 49 (105 + j)) 0 35)) := fun d Q => md_copies (f := 105) (t := 0) H2 (by omega) (by omega) (by omega)
          simp only [xs_200_145, xs_200_148, xs_200_149, xs_200_151, xs_200_152, xs_200_155, xs_200_157, xs_200_159, xs_200_160, y, H2, sT_48, sT_49, sN_49, sA_49, sT_50, sN_50, sA_50, sT_51, sN_51, sA_51, sT_52, sN_52, sA_52, sT_53, sN_53, sA_53, sT_54, sN_54, sA_54, sT_55, sN_55, sA_55, sT_56, sN_56, sA_56, sT_57, sN_57, sA_57, sT_58, sN_58, sA_58, sT_59, sN_59, sA_59, sT_60, sN_60, sA_60, sT_61, sN_61, sA_61, sT_62, sN_62, sA_62, sT_63, sN_63, sA_63, sT_64, sN_64, sA_64, sT_65, sN_65, sA_65, sT_66, sN_66, sA_66, sT_67, sN_67, sA_67, sT_68, sN_68, sB_68, sT_69, sN_69, sA_69, sT_70, sN_70, sA_70, sT_71, sN_71, sA_71, sR_48_0, sR_48_2, sR_48_9, sR_48_10, sR_48_11, sR_48_20, sR_48_21, sR_48_22, sR_48_23, sR_48_24, sR_48_26, sR_48_27, sR_48_28, sR_48_29, sR_48_30, sR_48_31, sR_48_33, sR_48_34, sR_48_35, sR_48_36, sR_48_37, sR_48_38, sR_48_39, rf_some, xc_int, xc_ref, xc_ret, xc_long, xw_nil, xw_int, xw_ref, xw_long, tl_some, tl_none, true_and, and_true, Nat.zero_le, Nat.reduceAdd, Nat.reduceMul, Nat.reduceLeDiff, Nat.reduceLT, Nat.reduceEqDiff, Nat.reducePow, Int32.reduceAdd, Int32.reduceMul, Int32.reduceSub, Int32.reduceLT, Int32.reduceLE, Int32.reduceToNatClampNeg, litE, ixU, not_false_eq_true, not_true_eq_false, ↓reduceIte, eq_self, true_or, or_true, false_and, and_false, or_false, false_or, i10, i01, in10, i1n, xbT, xbF, r_lt, mc]
          refine ⟨by rw [← e], fun fd gg e2 => (by rw [← e] at e2; cases e2), fun _ => ⟨mp_put hg t02, ?_⟩, wr_aI (wr_sub w3 (fun a j q => by omega)) (fun j => ?_)⟩
          · rw [hI_aI, if_neg (by decide)]; exact w3.2 48 40 (by omega)
          · by_cases x : j < 35
            · exact Or.inl (by omega)
            · exact Or.inr (fb_put_out (by omega))
      · rw [if_neg z] at e
        have y : (nI n ≤ nI i) = False := lt_f (by omega) (by omega)
        simp only [xs_200_120, xs_200_122, xs_200_124, xs_200_52, xs_200_54, xs_200_56, xs_200_59, xs_200_61, z, y, rf_some, xc_int, xc_ref, xc_ret, xc_long, xw_nil, xw_int, xw_ref, xw_long, tl_some, tl_none, true_and, and_true, Nat.zero_le, Nat.reduceAdd, Nat.reduceMul, Nat.reduceLeDiff, Nat.reduceLT, Nat.reduceEqDiff, Nat.reducePow, Int32.reduceAdd, Int32.reduceMul, Int32.reduceSub, Int32.reduceLT, Int32.reduceLE, Int32.reduceToNatClampNeg, litE, ixU, not_false_eq_true, not_true_eq_false, ↓reduceIte, eq_self, true_or, or_true, false_and, and_false, or_false, false_or, i10, i01, in10, i1n, xbT, xbF, r_lt]
        exact fin i g h1 _ t1 w1 pg e.symm
  have q1 : (0 ≤ nI k ∧ nI k ≤ 3) := ⟨nI_pos' (by omega), by rw [show (3 : Int32) = nI 3 from rfl, nI_leI (by omega) (by decide)]; omega⟩
  have q3 : 0 ≤ nI n ∧ nI n ≤ 20 := ⟨nI_pos' (by omega), by rw [show (20 : Int32) = nI 20 from rfl, nI_leI (by omega) (by decide)]; exact hn⟩
  have mc : ∀ (d : Nat) (Q : Option Value → xe_H → Prop), xe_C (d + 1) 195 [.ref 48, .int 0, .int 105] h Q = Q none (xe_aI h 49 (fb_put (xe_I h 49) (fun j => xe_I h 49 (0 + j)) 105 35)) := fun d Q => md_copies (f := 0) (t := 105) H (by omega) (by omega) (by omega)
  simp only [xs_200, xs_200_0, xs_200_1, xs_200_2, xs_200_3, xs_200_6, xs_200_9, xs_200_12, xs_200_13, xs_200_14, xs_200_15, xs_200_18, xs_200_21, xs_200_24, xs_200_26, xs_200_27, xs_200_28, xs_200_31, xs_200_34, xs_200_37, xs_200_38, xs_200_39, xs_200_40, xs_200_41, xs_200_43, xs_200_46, xs_200_47, xs_200_49, xs_200_50, md_in03, md_in02, md_in020, q1.1, q1.2, ql.1, ql.2, q3.1, q3.2, H, sT_48, sT_49, sN_49, sA_49, sT_50, sN_50, sA_50, sT_51, sN_51, sA_51, sT_52, sN_52, sA_52, sT_53, sN_53, sA_53, sT_54, sN_54, sA_54, sT_55, sN_55, sA_55, sT_56, sN_56, sA_56, sT_57, sN_57, sA_57, sT_58, sN_58, sA_58, sT_59, sN_59, sA_59, sT_60, sN_60, sA_60, sT_61, sN_61, sA_61, sT_62, sN_62, sA_62, sT_63, sN_63, sA_63, sT_64, sN_64, sA_64, sT_65, sN_65, sA_65, sT_66, sN_66, sA_66, sT_67, sN_67, sA_67, sT_68, sN_68, sB_68, sT_69, sN_69, sA_69, sT_70, sN_70, sA_70, sT_71, sN_71, sA_71, sR_48_0, sR_48_2, sR_48_9, sR_48_10, sR_48_11, sR_48_20, sR_48_21, sR_48_22, sR_48_23, sR_48_24, sR_48_26, sR_48_27, sR_48_28, sR_48_29, sR_48_30, sR_48_31, sR_48_33, sR_48_34, sR_48_35, sR_48_36, sR_48_37, sR_48_38, sR_48_39, rf_some, xc_int, xc_ref, xc_ret, xc_long, xw_nil, xw_int, xw_ref, xw_long, tl_some, tl_none, true_and, and_true, Nat.zero_le, Nat.reduceAdd, Nat.reduceMul, Nat.reduceLeDiff, Nat.reduceLT, Nat.reduceEqDiff, Nat.reducePow, Int32.reduceAdd, Int32.reduceMul, Int32.reduceSub, Int32.reduceLT, Int32.reduceLE, Int32.reduceToNatClampNeg, litE, ixU, not_false_eq_true, not_true_eq_false, ↓reduceIte, eq_self, true_or, or_true, false_and, and_false, or_false, false_or, i10, i01, in10, i1n, xbT, xbF, r_lt, mc]
  refine lp n 0 (s 0) _ (by omega) hg (mp_c hg m1 (fun j x1 x2 => by rw [hI_aI, if_pos rfl, fb_put_out (by omega)])) (mp_put hg m1) (wr_aI (wr_rf _ h) (fun j => ?_)) (Or.inl rfl) rfl
  by_cases x : 105 ≤ j
  · exact Or.inl (by omega)
  · exact Or.inr (fb_put_out (by omega))
end RE
