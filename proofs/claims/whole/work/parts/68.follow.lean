/-! rigs: those that fit, gathered by the recursion -/
def rn (hd : Nat) (sn r : Nat → Nat) : Nat → Nat → (Nat → Nat) → Option (Nat → Nat)
  | 0, _, f => some f
  | k + 1, i, f => if (sn (3 * i) = 6 ∨ f (sn (3 * i)) = 0) ∧ (stp hd f (sn (3 * i)) (r (sn (3 * i))) (sn (3 * i + 1)) = 0 ↔ sn (3 * i + 2) = 1) then rn hd sn r k (i + 1) (stp hd f (sn (3 * i)) (r (sn (3 * i)))) else none
def finv (hd : Nat) (sn : Nat → Nat) (n m v : Nat) : Option (Nat → Nat) := rn hd sn (rv n v) m 0 (fun _ => 0)
def opn (o : Bool) (hd : Nat) (sn : Nat → Nat) (n m x y v : Nat) : Bool := match finv hd sn n m v with
  | some f => decide (x = 6 ∨ f x = 0) && tq o hd f x (rv n v x) y
  | none => false
def WP (n : Nat) (D : Nat → Bool) (b : Nat) (x : Int32) : Prop := ∃ k, x = nI k ∧ k < 128 ∧ ∀ c, c < 7 → (k.testBit c = true ↔ ∃ v, v < n ^ n ∧ D v = true ∧ rv n v b = c)
def WF (n : Nat) (D : Nat → Bool) (x : Int32) : Prop := ((∀ v, v < n ^ n → D v = false) ∧ x = 117649) ∨ ∃ v, v < n ^ n ∧ D v = true ∧ x = nI (nm (rv n v) n) ∧ ∀ u, u < n ^ n → D u = true → nm (rv n v) n ≤ nm (rv n u) n
def WJ (n hd m : Nat) (sn : Nat → Nat) (ah : Bool) (D : Nat → Bool) (h : xe_H) : Prop := xe_I h 36 1 = nI (fb_ct D (n ^ n)) ∧ (∀ b, b < n → WP n D b (xe_I h 37 b)) ∧ WF n D (xe_I h 36 12) ∧
  (ah = true → ∀ x y, (x = 6 ∨ x < n) → y < n → xe_I h 42 (6 * x + y) = nI (fb_ct (fun v => D v && opn true hd sn n m x y v) (n ^ n)) ∧ xe_I h 43 (6 * x + y) = nI (fb_ct (fun v => D v && opn false hd sn n m x y v) (n ^ n)))
def HG (hg : Nat → Nat) (h : xe_H) : Prop := ∀ b, b < 6 → xe_I h 41 b = nI (hg b)
def CI (n hd m : Nat) (sn : Nat → Nat) (ah : Bool) (h : xe_H) : Prop := xe_I h 36 9 = nI n ∧ xe_I h 36 10 = nI hd ∧ xe_I h 36 11 = (if ah then 1 else 0) ∧ xe_I h 36 0 = nI m ∧ ∀ k, k < m → xe_I h 38 k = nI (sn (3 * k)) ∧ xe_I h 39 k = nI (sn (3 * k + 1)) ∧ xe_I h 40 k = nI (sn (3 * k + 2))
def rS (a j : Nat) : Prop := (a = 36 ∧ (j = 1 ∨ j = 12)) ∨ a = 37 ∨ a = 41 ∨ a = 42 ∨ a = 43
theorem CI_w {n hd m : Nat} {sn : Nat → Nat} {ah : Bool} {h h' : xe_H} (C : CI n hd m sn ah h) (W : wr rS h h') : CI n hd m sn ah h' := by
  obtain ⟨c1, c2, c3, c4, c5⟩ := C
  refine ⟨?_, ?_, ?_, ?_, fun k hk => ⟨?_, ?_, ?_⟩⟩
  · rw [W.2 36 9 (by unfold rS; omega)]; exact c1
  · rw [W.2 36 10 (by unfold rS; omega)]; exact c2
  · rw [W.2 36 11 (by unfold rS; omega)]; exact c3
  · rw [W.2 36 0 (by unfold rS; omega)]; exact c4
  · rw [W.2 38 k (by unfold rS; omega)]; exact (c5 k hk).1
  · rw [W.2 39 k (by unfold rS; omega)]; exact (c5 k hk).2.1
  · rw [W.2 40 k (by unfold rS; omega)]; exact (c5 k hk).2.2
theorem WJ_c {n hd m : Nat} {sn : Nat → Nat} {ah : Bool} {D D' : Nat → Bool} {h : xe_H} (H : WJ n hd m sn ah D h) (e : ∀ v, v < n ^ n → D v = D' v) : WJ n hd m sn ah D' h := by
  obtain ⟨h1, h2, h3, h4⟩ := H
  refine ⟨?_, fun b hb => ?_, ?_, fun q x y hx hy => ?_⟩
  · rw [h1, fb_ct_cong e]
  · obtain ⟨k, k1, k2, k3⟩ := h2 b hb
    refine ⟨k, k1, k2, fun c hc => (k3 c hc).trans ⟨fun ⟨v, q1, q2, q3⟩ => ⟨v, q1, by rw [← e v q1]; exact q2, q3⟩, fun ⟨v, q1, q2, q3⟩ => ⟨v, q1, by rw [e v q1]; exact q2, q3⟩⟩⟩
  · rcases h3 with ⟨q1, q2⟩ | ⟨v, q1, q2, q3, q4⟩
    · exact Or.inl ⟨fun v hv => by rw [← e v hv]; exact q1 v hv, q2⟩
    · exact Or.inr ⟨v, q1, by rw [← e v q1]; exact q2, q3, fun u hu hd => q4 u hu (by rw [e u hu]; exact hd)⟩
  · obtain ⟨t1, t2⟩ := h4 q x y hx hy
    exact ⟨t1.trans (congrArg nI (fb_ct_cong (fun v hv => by rw [e v hv]))), t2.trans (congrArg nI (fb_ct_cong (fun v hv => by rw [e v hv])))⟩
theorem WJ_h {n hd m : Nat} {sn : Nat → Nat} {ah : Bool} {D : Nat → Bool} {h h' : xe_H} (H : WJ n hd m sn ah D h) (e : ∀ a j, a ≠ 41 → rS a j → xe_I h' a j = xe_I h a j) : WJ n hd m sn ah D h' := by
  obtain ⟨h1, h2, h3, h4⟩ := H
  refine ⟨?_, fun b hb => ?_, ?_, fun q x y hx hy => ?_⟩
  · rw [e 36 1 (by omega) (by unfold rS; omega)]; exact h1
  · rw [e 37 b (by omega) (by unfold rS; omega)]; exact h2 b hb
  · rw [e 36 12 (by omega) (by unfold rS; omega)]; exact h3
  · rw [e 42 _ (by omega) (by unfold rS; omega), e 43 _ (by omega) (by unfold rS; omega)]; exact h4 q x y hx hy
theorem ag_bit {n : Nat} {hg : Nat → Nat} (hn : n ≤ 6) (hk : hgk n hg) {b c : Nat} (hb : b < n) (hc : c < 7) : (mk n hg b).testBit c = true ↔ ∃ v, v < n ^ n ∧ ag n hg v = true ∧ rv n v b = c := by
  unfold mk
  by_cases z : hg b = 7
  · rw [if_pos z, mk_b n (by omega) b hb c hc]
    constructor
    · intro q
      have q := @of_decide_eq_true _ (mhD n b c) q
      obtain ⟨v, v1, v2, -⟩ := ag_least hn (hgk_up (x := b) hk q)
      obtain ⟨v3, v4⟩ := (ag_up hb z (by have := mh_7 hn q; omega)).mp v2
      exact ⟨v, v1, v3, v4⟩
    · rintro ⟨v, v1, v2, rfl⟩
      exact @decide_eq_true _ (mhD n b _) (rv_mh hn hb)
  · have h7 := mh_7 hn ((hk b hb).resolve_left z)
    rw [if_neg z, p2_b _ h7 c hc]
    constructor
    · intro q
      have q := of_decide_eq_true q
      obtain ⟨v, v1, v2, -⟩ := ag_least hn hk
      exact ⟨v, v1, v2, by rw [q]; exact ag_t v2 hb z⟩
    · rintro ⟨v, v1, v2, rfl⟩
      exact decide_eq_true (ag_t v2 hb z)
theorem mk_128 {n : Nat} {hg : Nat → Nat} (hn : n ≤ 6) (hk : hgk n hg) {b : Nat} (hb : b < n) : mk n hg b < 128 := by
  unfold mk
  split
  · exact (mk_i n (by omega) b hb).2
  · rename_i z
    exact (p2_i _ (mh_7 hn ((hk b hb).resolve_left z))).2
theorem WP_or {n : Nat} {hg : Nat → Nat} {D : Nat → Bool} {b : Nat} {x : Int32} (hn : n ≤ 6) (hk : hgk n hg) (hb : b < n) (H : WP n D b x) : WP n (fun v => D v || ag n hg v) b (x ||| nI (mk n hg b)) := by
  obtain ⟨k, rfl, k2, k3⟩ := H
  refine ⟨k ||| mk n hg b, fa_or _ _, Nat.or_lt_two_pow (n := 7) k2 (mk_128 hn hk hb), fun c hc => ?_⟩
  rw [Nat.testBit_or, Bool.or_eq_true, k3 c hc, ag_bit hn hk hb hc]
  constructor
  · rintro (⟨v, q1, q2, q3⟩ | ⟨v, q1, q2, q3⟩)
    · exact ⟨v, q1, by show (D v || ag n hg v) = true; rw [q2]; rfl, q3⟩
    · exact ⟨v, q1, by show (D v || ag n hg v) = true; rw [q2, Bool.or_true], q3⟩
  · rintro ⟨v, q1, q2, q3⟩
    have q2 : (D v || ag n hg v) = true := q2
    rw [Bool.or_eq_true] at q2
    rcases q2 with q | q
    · exact Or.inl ⟨v, q1, q, q3⟩
    · exact Or.inr ⟨v, q1, q, q3⟩
theorem nm_s {n v : Nat} (hn : n ≤ 6) : nm (rv n v) n < 117649 := by
  have h1 := nm_lt (r := rv n v) (k := n) (fun b hb => rv_6 hn hb)
  have h2 : 7 ^ n ≤ 7 ^ 6 := Nat.pow_le_pow_right (by omega) hn
  omega
theorem WF_min {n : Nat} {hg : Nat → Nat} {D : Nat → Bool} {x : Int32} (hn : n ≤ 6) (hk : hgk n hg) (H : WF n D x) : WF n (fun v => D v || ag n hg v) (if nI (nm (rlo n hg) n) < x then nI (nm (rlo n hg) n) else x) := by
  obtain ⟨v0, a1, a2, a3, a4⟩ := ag_least hn hk
  have s0 := nm_s (v := v0) hn
  rw [a3] at s0
  rcases H with ⟨q1, rfl⟩ | ⟨v, q1, q2, rfl, q4⟩
  · rw [if_pos (by rw [fa_lt, nI_toInt (by omega), show Int32.toInt 117649 = 117649 by decide]; omega)]
    refine Or.inr ⟨v0, a1, by show (D v0 || ag n hg v0) = true; rw [a2, Bool.or_true], by rw [a3], fun u hu hd => ?_⟩
    have hd : (D u || ag n hg u) = true := hd
    rw [q1 u hu, Bool.false_or] at hd
    rw [a3]; exact a4 u hd
  · have s1 := nm_s (v := v) hn
    by_cases z : nm (rlo n hg) n < nm (rv n v) n
    · rw [if_pos (nI_lt z (by omega))]
      refine Or.inr ⟨v0, a1, by show (D v0 || ag n hg v0) = true; rw [a2, Bool.or_true], by rw [a3], fun u hu hd => ?_⟩
      have hd : (D u || ag n hg u) = true := hd
      rw [Bool.or_eq_true] at hd
      rw [a3]
      rcases hd with y | y
      · exact Nat.le_trans (Nat.le_of_lt z) (q4 u hu y)
      · exact a4 u y
    · rw [if_neg (by rw [nI_ltI (by omega) (by omega)]; exact z)]
      refine Or.inr ⟨v, q1, by show (D v || ag n hg v) = true; rw [q2]; rfl, rfl, fun u hu hd => ?_⟩
      have hd : (D u || ag n hg u) = true := hd
      rw [Bool.or_eq_true] at hd
      rcases hd with y | y
      · exact q4 u hu y
      · exact Nat.le_trans (by omega) (a4 u y)
theorem pr_b {n : Nat} {hg : Nat → Nat} (hn : n ≤ 6) : ∀ k, k ≤ n → pr n hg k ≤ 6 ^ k
  | 0, _ => by rw [Nat.pow_zero]; exact Nat.le_refl _
  | k + 1, hk => by
    have s1 : pr n hg (k + 1) = pr n hg k * (if hg k = 7 then n else 1) := rfl
    rw [s1, Nat.pow_succ]
    refine Nat.mul_le_mul (pr_b hn k (by omega)) ?_
    split <;> omega
section FW
variable {h : xe_H}
theorem cl_leastOn {n b d : Nat} {Q : Option Value → xe_H → Prop} (hn : n ≤ 6) (hb : b < n) (H : sh h) (h9 : xe_I h 36 9 = nI n) : xe_C (d + 1) 65 [.ref 36, .int (nI b)] h Q = Q (some (.int (nI (lo n b)))) h := by
  unfold lo
  by_cases z : 0 < b
  · have e1 : (nI b ≤ 0) = False := by rw [nIle0 (by omega)]; exact eq_false (by omega)
    simp only [xs_65, xs_65_0, xs_65_1, xs_65_4, xs_65_5, xs_65_6, xs_65_7, xs_65_10, xs_65_11, xs_65_14, xs_65_15, xs_65_18, xs_65_20, e1, z, rf_some, xc_int, xc_ref, xc_ret, xc_long, xw_nil, xw_int, xw_ref, xw_long, tl_some, tl_none, true_and, and_true, Nat.zero_le, Nat.reduceAdd, Nat.reduceMul, Nat.reduceLeDiff, Nat.reduceLT, Nat.reduceEqDiff, Nat.reducePow, Int32.reduceAdd, Int32.reduceMul, Int32.reduceSub, Int32.reduceLT, Int32.reduceLE, Int32.reduceToNatClampNeg, litE, ixU, not_false_eq_true, not_true_eq_false, ↓reduceIte, eq_self, true_or, or_true, false_and, and_false, or_false, false_or, i10, i01, in10, i1n, xbT, xbF, r_lt]
    rfl
  · have e1 : (nI b ≤ 0) = True := by rw [nIle0 (by omega)]; exact eq_true (by omega)
    by_cases y : 1 < n
    · have e2 : (nI n ≤ 1) = False := eq_false (by rw [nI1, nI_leI (by omega) (by decide)]; omega)
      simp only [xs_65, xs_65_0, xs_65_1, xs_65_4, xs_65_5, xs_65_6, xs_65_7, xs_65_10, xs_65_11, xs_65_14, xs_65_15, xs_65_18, xs_65_20, e1, e2, z, y, H, sT_0, sT_1, sT_2, sN_2, sA_2, sT_3, sN_3, sA_3, sT_4, sN_4, sA_4, sT_5, sN_5, sA_5, sT_6, sN_6, sA_6, sT_7, sT_8, sN_8, sA_8, sT_9, sN_9, sA_9, sT_10, sN_10, sA_10, sT_11, sN_11, sA_11, sT_12, sN_12, sA_12, sT_13, sN_13, sT_14, sT_15, sN_15, sA_15, sT_16, sN_16, sA_16, sT_17, sN_17, sA_17, sT_18, sN_18, sA_18, sT_19, sN_19, sA_19, sT_20, sT_21, sN_21, sA_21, sT_22, sN_22, sA_22, sT_23, sN_23, sA_23, sT_24, sN_24, sA_24, sT_25, sN_25, sA_25, sT_26, sN_26, sB_26, sT_27, sT_28, sN_28, sB_28, sT_29, sT_30, sN_30, sT_32, sN_32, sA_32, sT_33, sT_34, sN_34, sA_34, sT_35, sN_35, sA_35, sT_36, sT_37, sN_37, sA_37, sT_38, sN_38, sA_38, sT_39, sN_39, sA_39, sT_40, sN_40, sB_40, sT_41, sN_41, sA_41, sT_42, sN_42, sA_42, sT_43, sN_43, sA_43, sT_44, sT_45, sN_45, sA_45, sT_46, sN_46, sA_46, sT_47, sN_47, sA_47, sR_1_7, sR_1_8, sR_1_9, sR_1_10, sR_1_11, sR_0_0, sR_7_7, sR_7_8, sR_7_9, sR_7_10, sR_7_11, sR_0_1, sR_0_2, sR_14_7, sR_14_8, sR_14_9, sR_14_10, sR_14_11, sR_13_0, sR_20_7, sR_20_8, sR_20_9, sR_20_10, sR_20_11, sR_13_1, sR_0_3, sR_0_4, sR_27_0, sR_0_5, sR_29_0, sR_29_3, sR_0_6, sR_33_1, sR_33_2, sR_0_7, sR_36_2, sR_36_3, sR_36_4, sR_36_5, sR_36_6, sR_36_7, sR_36_8, sR_0_8, sR_44_0, sR_44_1, sR_44_2, h9, rf_some, xc_int, xc_ref, xc_ret, xc_long, xw_nil, xw_int, xw_ref, xw_long, tl_some, tl_none, true_and, and_true, Nat.zero_le, Nat.reduceAdd, Nat.reduceMul, Nat.reduceLeDiff, Nat.reduceLT, Nat.reduceEqDiff, Nat.reducePow, Int32.reduceAdd, Int32.reduceMul, Int32.reduceSub, Int32.reduceLT, Int32.reduceLE, Int32.reduceToNatClampNeg, litE, ixU, not_false_eq_true, not_true_eq_false, ↓reduceIte, eq_self, true_or, or_true, false_and, and_false, or_false, false_or, i10, i01, in10, i1n, xbT, xbF, r_lt]
      rfl
    · have e2 : (nI n ≤ 1) = True := eq_true (by rw [nI1, nI_leI (by omega) (by decide)]; omega)
      simp only [xs_65, xs_65_0, xs_65_1, xs_65_4, xs_65_5, xs_65_6, xs_65_7, xs_65_10, xs_65_11, xs_65_14, xs_65_15, xs_65_18, xs_65_20, e1, e2, z, y, H, sT_0, sT_1, sT_2, sN_2, sA_2, sT_3, sN_3, sA_3, sT_4, sN_4, sA_4, sT_5, sN_5, sA_5, sT_6, sN_6, sA_6, sT_7, sT_8, sN_8, sA_8, sT_9, sN_9, sA_9, sT_10, sN_10, sA_10, sT_11, sN_11, sA_11, sT_12, sN_12, sA_12, sT_13, sN_13, sT_14, sT_15, sN_15, sA_15, sT_16, sN_16, sA_16, sT_17, sN_17, sA_17, sT_18, sN_18, sA_18, sT_19, sN_19, sA_19, sT_20, sT_21, sN_21, sA_21, sT_22, sN_22, sA_22, sT_23, sN_23, sA_23, sT_24, sN_24, sA_24, sT_25, sN_25, sA_25, sT_26, sN_26, sB_26, sT_27, sT_28, sN_28, sB_28, sT_29, sT_30, sN_30, sT_32, sN_32, sA_32, sT_33, sT_34, sN_34, sA_34, sT_35, sN_35, sA_35, sT_36, sT_37, sN_37, sA_37, sT_38, sN_38, sA_38, sT_39, sN_39, sA_39, sT_40, sN_40, sB_40, sT_41, sN_41, sA_41, sT_42, sN_42, sA_42, sT_43, sN_43, sA_43, sT_44, sT_45, sN_45, sA_45, sT_46, sN_46, sA_46, sT_47, sN_47, sA_47, sR_1_7, sR_1_8, sR_1_9, sR_1_10, sR_1_11, sR_0_0, sR_7_7, sR_7_8, sR_7_9, sR_7_10, sR_7_11, sR_0_1, sR_0_2, sR_14_7, sR_14_8, sR_14_9, sR_14_10, sR_14_11, sR_13_0, sR_20_7, sR_20_8, sR_20_9, sR_20_10, sR_20_11, sR_13_1, sR_0_3, sR_0_4, sR_27_0, sR_0_5, sR_29_0, sR_29_3, sR_0_6, sR_33_1, sR_33_2, sR_0_7, sR_36_2, sR_36_3, sR_36_4, sR_36_5, sR_36_6, sR_36_7, sR_36_8, sR_0_8, sR_44_0, sR_44_1, sR_44_2, h9, rf_some, xc_int, xc_ref, xc_ret, xc_long, xw_nil, xw_int, xw_ref, xw_long, tl_some, tl_none, true_and, and_true, Nat.zero_le, Nat.reduceAdd, Nat.reduceMul, Nat.reduceLeDiff, Nat.reduceLT, Nat.reduceEqDiff, Nat.reducePow, Int32.reduceAdd, Int32.reduceMul, Int32.reduceSub, Int32.reduceLT, Int32.reduceLE, Int32.reduceToNatClampNeg, litE, ixU, not_false_eq_true, not_true_eq_false, ↓reduceIte, eq_self, true_or, or_true, false_and, and_false, or_false, false_or, i10, i01, in10, i1n, xbT, xbF, r_lt]
      rfl
theorem cl_fits {n hd m d : Nat} {sn f hg : Nat → Nat} {ah : Bool} {D : Nat → Bool} (hn : n ≤ 6) (hh : hd ≤ 3) (hf : ∀ b, b < 6 → f b ≤ 3) (hk : hgk n hg) (H : sh h) (C : CI n hd m sn ah h) (J : WJ n hd m sn ah D h) (G : HG hg h) (hv : ∀ v, v < n ^ n → ag n hg v = true → D v = false ∧ finv hd sn n m v = some f) : xe_C (d + 5) 64 [.ref 36, .int (nI (rp f))] h (fun r h' => r = none ∧ wr rS h h' ∧ WJ n hd m sn ah (fun v => D v || ag n hg v) h' ∧ HG hg h') := by
  obtain ⟨c1, c2, c3, c4, c5⟩ := id C
  have lp : ∀ k b h1, b + k = n → wr (fun a _ => a = 37) h h1 → (∀ c, c < b → xe_I h1 37 c = xe_I h 37 c ||| nI (mk n hg c)) → (∀ c, b ≤ c → xe_I h1 37 c = xe_I h 37 c) → xe_P (d + 4) 64 7 [.ref 36, .int (nI (rp f)), .int (nI (pr n hg b)), .int (nI (nm (rlo n hg) b)), .int (nI b)] [] h1 (fun r h' => r = none ∧ wr rS h h' ∧ WJ n hd m sn ah (fun v => D v || ag n hg v) h' ∧ HG hg h') := by
    intro k
    induction k with
    | zero =>
      intro b h1 hb W E1 E2
      have : b = n := by omega
      subst this
      have H1 := wr_sh W H
      have i9 : xe_I h1 36 9 = nI b := by rw [W.2 36 9 (by decide)]; exact c1
      have i11 : xe_I h1 36 11 = (if ah then 1 else 0) := by rw [W.2 36 11 (by decide)]; exact c3
      have i1' : xe_I h1 36 1 = nI (fb_ct D (b ^ b)) := by rw [W.2 36 1 (by decide)]; exact J.1
      have i12 : xe_I h1 36 12 = xe_I h 36 12 := W.2 36 12 (by decide)
      have hpr := ag_ct hn hk
      have h1d : fb_ct (fun v => D v || ag b hg v) (b ^ b) = fb_ct D (b ^ b) + pr b hg b := by
        rw [← hpr]
        refine fb_ct_or (fun v hv1 q => ?_)
        have := (hv v hv1 q.2).1
        rw [q.1] at this
        cases this
      have W2 : wr rS h (xe_sI (xe_sI h1 36 1 (nI (fb_ct D (b ^ b) + pr b hg b))) 36 12 (if nI (nm (rlo b hg) b) < xe_I h 36 12 then nI (nm (rlo b hg) b) else xe_I h 36 12)) := wr_sI (wr_sI (wr_sub W (fun a j q => by unfold rS; omega)) (by unfold rS; omega)) (by unfold rS; omega)
      have J2 : (∀ h3, wr tS (xe_sI (xe_sI h1 36 1 (nI (fb_ct D (b ^ b) + pr b hg b))) 36 12 (if nI (nm (rlo b hg) b) < xe_I h 36 12 then nI (nm (rlo b hg) b) else xe_I h 36 12)) h3 → (ah = true → ∀ x y, (x = 6 ∨ x < b) → y < b → xe_I h3 42 (6 * x + y) = nI (fb_ct (fun v => (D v || ag b hg v) && opn true hd sn b m x y v) (b ^ b)) ∧ xe_I h3 43 (6 * x + y) = nI (fb_ct (fun v => (D v || ag b hg v) && opn false hd sn b m x y v) (b ^ b))) → wr rS h h3 ∧ WJ b hd m sn ah (fun v => D v || ag b hg v) h3 ∧ HG hg h3) := by
        intro h3 W3 T
        have W4 := wr_tr W2 (wr_sub W3 (fun a j q => by unfold tS at q; unfold rS; omega))
        refine ⟨W4, ⟨?_, fun c hc => ?_, ?_, T⟩, fun c hc => ?_⟩
        · rw [W3.2 36 1 (by unfold tS; omega), hI_sI, if_neg (by omega), hI_sI, if_pos ⟨rfl, rfl⟩, h1d]
        · rw [W3.2 37 c (by unfold tS; omega), hI_sI, if_neg (by omega), hI_sI, if_neg (by omega), E1 c hc]
          exact WP_or hn hk hc (J.2.1 c hc)
        · rw [W3.2 36 12 (by unfold tS; omega), hI_sI, if_pos ⟨rfl, rfl⟩]
          exact WF_min hn hk J.2.2.1
        · rw [W3.2 41 c (by unfold tS; omega), hI_sI, if_neg (by omega), hI_sI, if_neg (by omega), W.2 41 c (show ¬ 41 = 37 by decide)]
          exact G c hc
      have hm : xe_w [] ≤ 8 := by decide
      cases ah with
      | false =>
        simp only [Bool.false_eq_true, ↓reduceIte] at i11
        simp only [xs_64_7, xs_64_9, xs_64_10, xs_64_13, xs_64_125, xs_64_126, xs_64_126i, xs_64_127, xs_64_130, xs_64_131, xs_64_132, xs_64_135, xs_64_136, xs_64_137, xs_64_140, xs_64_141, xs_64_144, xs_64_147, xs_64_148, xs_64_151, xs_64_154, xs_64_155, xs_64_156, xs_64_157, xs_64_160, H1, sT_0, sT_1, sT_2, sN_2, sA_2, sT_3, sN_3, sA_3, sT_4, sN_4, sA_4, sT_5, sN_5, sA_5, sT_6, sN_6, sA_6, sT_7, sT_8, sN_8, sA_8, sT_9, sN_9, sA_9, sT_10, sN_10, sA_10, sT_11, sN_11, sA_11, sT_12, sN_12, sA_12, sT_13, sN_13, sT_14, sT_15, sN_15, sA_15, sT_16, sN_16, sA_16, sT_17, sN_17, sA_17, sT_18, sN_18, sA_18, sT_19, sN_19, sA_19, sT_20, sT_21, sN_21, sA_21, sT_22, sN_22, sA_22, sT_23, sN_23, sA_23, sT_24, sN_24, sA_24, sT_25, sN_25, sA_25, sT_26, sN_26, sB_26, sT_27, sT_28, sN_28, sB_28, sT_29, sT_30, sN_30, sT_32, sN_32, sA_32, sT_33, sT_34, sN_34, sA_34, sT_35, sN_35, sA_35, sT_36, sT_37, sN_37, sA_37, sT_38, sN_38, sA_38, sT_39, sN_39, sA_39, sT_40, sN_40, sB_40, sT_41, sN_41, sA_41, sT_42, sN_42, sA_42, sT_43, sN_43, sA_43, sT_44, sT_45, sN_45, sA_45, sT_46, sN_46, sA_46, sT_47, sN_47, sA_47, sR_1_7, sR_1_8, sR_1_9, sR_1_10, sR_1_11, sR_0_0, sR_7_7, sR_7_8, sR_7_9, sR_7_10, sR_7_11, sR_0_1, sR_0_2, sR_14_7, sR_14_8, sR_14_9, sR_14_10, sR_14_11, sR_13_0, sR_20_7, sR_20_8, sR_20_9, sR_20_10, sR_20_11, sR_13_1, sR_0_3, sR_0_4, sR_27_0, sR_0_5, sR_29_0, sR_29_3, sR_0_6, sR_33_1, sR_33_2, sR_0_7, sR_36_2, sR_36_3, sR_36_4, sR_36_5, sR_36_6, sR_36_7, sR_36_8, sR_0_8, sR_44_0, sR_44_1, sR_44_2, i9, le_t, i1', i11, i12, nI_add, rf_some, xc_int, xc_ref, xc_ret, xc_long, xw_nil, xw_int, xw_ref, xw_long, tl_some, tl_none, true_and, and_true, Nat.zero_le, Nat.reduceAdd, Nat.reduceMul, Nat.reduceLeDiff, Nat.reduceLT, Nat.reduceEqDiff, Nat.reducePow, Int32.reduceAdd, Int32.reduceMul, Int32.reduceSub, Int32.reduceLT, Int32.reduceLE, Int32.reduceToNatClampNeg, litE, ixU, not_false_eq_true, not_true_eq_false, ↓reduceIte, eq_self, true_or, or_true, false_and, and_false, or_false, false_or, i10, i01, in10, i1n, xbT, xbF, r_lt, hI_sI, hL_sI, hR_sI, hT_sI, hN_sI, hn_sI, ho_sI, hia_sI, hba_sI, hal_sI, hix_sI, hI_aI, hL_aI, hR_aI, hT_aI, hN_aI, hn_aI, ho_aI, hia_aI, hal_aI, hix_aI, sh_sI, sh_aI, sh_sL, sh_aL]
        exact J2 _ (wr_rf _ _) (fun q => by cases q)
      | true =>
        simp only [↓reduceIte] at i11
        have hpb := pr_b (hg := hg) hn b (Nat.le_refl _)
        have h66 : 6 ^ b ≤ 6 ^ 6 := Nat.pow_le_pow_right (by omega) hn
        have G1 : ∀ c, c < 6 → xe_I (xe_sI (xe_sI h1 36 1 (nI (fb_ct D (b ^ b) + pr b hg b))) 36 12 (if nI (nm (rlo b hg) b) < xe_I h 36 12 then nI (nm (rlo b hg) b) else xe_I h 36 12)) 41 c = nI (hg c) := fun c hc => by
          rw [hI_sI, if_neg (by omega), hI_sI, if_neg (by omega), W.2 41 c (show ¬ 41 = 37 by decide)]; exact G c hc
        have k9 : xe_I (xe_sI (xe_sI h1 36 1 (nI (fb_ct D (b ^ b) + pr b hg b))) 36 12 (if nI (nm (rlo b hg) b) < xe_I h 36 12 then nI (nm (rlo b hg) b) else xe_I h 36 12)) 36 9 = nI b := by rw [hI_sI, if_neg (by omega), hI_sI, if_neg (by omega)]; exact i9
        have k10 : xe_I (xe_sI (xe_sI h1 36 1 (nI (fb_ct D (b ^ b) + pr b hg b))) 36 12 (if nI (nm (rlo b hg) b) < xe_I h 36 12 then nI (nm (rlo b hg) b) else xe_I h 36 12)) 36 10 = nI hd := by rw [hI_sI, if_neg (by omega), hI_sI, if_neg (by omega), W.2 36 10 (by decide)]; exact c2
        have H2 : sh (xe_sI (xe_sI h1 36 1 (nI (fb_ct D (b ^ b) + pr b hg b))) 36 12 (if nI (nm (rlo b hg) b) < xe_I h 36 12 then nI (nm (rlo b hg) b) else xe_I h 36 12)) := H1
        simp only [xs_64_7, xs_64_9, xs_64_10, xs_64_13, xs_64_125, xs_64_126, xs_64_126i, xs_64_127, xs_64_130, xs_64_131, xs_64_132, xs_64_135, xs_64_136, xs_64_137, xs_64_140, xs_64_141, xs_64_144, xs_64_147, xs_64_148, xs_64_151, xs_64_154, xs_64_155, xs_64_156, xs_64_157, H1, sT_0, sT_1, sT_2, sN_2, sA_2, sT_3, sN_3, sA_3, sT_4, sN_4, sA_4, sT_5, sN_5, sA_5, sT_6, sN_6, sA_6, sT_7, sT_8, sN_8, sA_8, sT_9, sN_9, sA_9, sT_10, sN_10, sA_10, sT_11, sN_11, sA_11, sT_12, sN_12, sA_12, sT_13, sN_13, sT_14, sT_15, sN_15, sA_15, sT_16, sN_16, sA_16, sT_17, sN_17, sA_17, sT_18, sN_18, sA_18, sT_19, sN_19, sA_19, sT_20, sT_21, sN_21, sA_21, sT_22, sN_22, sA_22, sT_23, sN_23, sA_23, sT_24, sN_24, sA_24, sT_25, sN_25, sA_25, sT_26, sN_26, sB_26, sT_27, sT_28, sN_28, sB_28, sT_29, sT_30, sN_30, sT_32, sN_32, sA_32, sT_33, sT_34, sN_34, sA_34, sT_35, sN_35, sA_35, sT_36, sT_37, sN_37, sA_37, sT_38, sN_38, sA_38, sT_39, sN_39, sA_39, sT_40, sN_40, sB_40, sT_41, sN_41, sA_41, sT_42, sN_42, sA_42, sT_43, sN_43, sA_43, sT_44, sT_45, sN_45, sA_45, sT_46, sN_46, sA_46, sT_47, sN_47, sA_47, sR_1_7, sR_1_8, sR_1_9, sR_1_10, sR_1_11, sR_0_0, sR_7_7, sR_7_8, sR_7_9, sR_7_10, sR_7_11, sR_0_1, sR_0_2, sR_14_7, sR_14_8, sR_14_9, sR_14_10, sR_14_11, sR_13_0, sR_20_7, sR_20_8, sR_20_9, sR_20_10, sR_20_11, sR_13_1, sR_0_3, sR_0_4, sR_27_0, sR_0_5, sR_29_0, sR_29_3, sR_0_6, sR_33_1, sR_33_2, sR_0_7, sR_36_2, sR_36_3, sR_36_4, sR_36_5, sR_36_6, sR_36_7, sR_36_8, sR_0_8, sR_44_0, sR_44_1, sR_44_2, i9, le_t, i1', i11, i12, nI_add, rf_some, xc_int, xc_ref, xc_ret, xc_long, xw_nil, xw_int, xw_ref, xw_long, tl_some, tl_none, true_and, and_true, Nat.zero_le, Nat.reduceAdd, Nat.reduceMul, Nat.reduceLeDiff, Nat.reduceLT, Nat.reduceEqDiff, Nat.reducePow, Int32.reduceAdd, Int32.reduceMul, Int32.reduceSub, Int32.reduceLT, Int32.reduceLE, Int32.reduceToNatClampNeg, litE, ixU, not_false_eq_true, not_true_eq_false, ↓reduceIte, eq_self, true_or, or_true, false_and, and_false, or_false, false_or, i10, i01, in10, i1n, xbT, xbF, r_lt, hI_sI, hL_sI, hR_sI, hT_sI, hN_sI, hn_sI, ho_sI, hia_sI, hba_sI, hal_sI, hix_sI, hI_aI, hL_aI, hR_aI, hT_aI, hN_aI, hn_aI, ho_aI, hia_aI, hal_aI, hix_aI, sh_sI, sh_aI, sh_sL, sh_aL]
        refine xe_C_mono (cl_tellNext (d := d) hn hf hh hk H2 k9 k10 G1 (show pr b hg b < 2 ^ 31 by omega)) ?_
        rintro r h3 ⟨rfl, W3, P⟩
        simp only [xs_64_160, rf_some, xc_int, xc_ref, xc_ret, xc_long, xw_nil, xw_int, xw_ref, xw_long, tl_some, tl_none, true_and, and_true, Nat.zero_le, Nat.reduceAdd, Nat.reduceMul, Nat.reduceLeDiff, Nat.reduceLT, Nat.reduceEqDiff, Nat.reducePow, Int32.reduceAdd, Int32.reduceMul, Int32.reduceSub, Int32.reduceLT, Int32.reduceLE, Int32.reduceToNatClampNeg, litE, ixU, not_false_eq_true, not_true_eq_false, ↓reduceIte, eq_self, true_or, or_true, false_and, and_false, or_false, false_or, i10, i01, in10, i1n, xbT, xbF, r_lt]
        refine J2 h3 W3 (fun _ x y hx hy => ?_)
        obtain ⟨p1, p2⟩ := P x y hx hy
        obtain ⟨t1, t2⟩ := J.2.2.2 rfl x y hx hy
        rw [p1, p2, hI_sI, if_neg (by omega), hI_sI, if_neg (by omega), hI_sI, if_neg (by omega), hI_sI, if_neg (by omega), W.2 42 _ (show ¬ 42 = 37 by decide), W.2 43 _ (show ¬ 43 = 37 by decide), t1, t2, nI_add, nI_add]
        have key : ∀ o, fb_ct (fun v => (D v || ag b hg v) && opn o hd sn b m x y v) (b ^ b) = fb_ct (fun v => D v && opn o hd sn b m x y v) (b ^ b) + tn o hd f hg b (pr b hg b) x y := by
          intro o
          rw [tn_ct hn hk hx, ← fb_ct_or]
          · refine fb_ct_cong (fun v hv1 => ?_)
            cases ha : ag b hg v with
            | false => rw [Bool.or_false, Bool.false_and, Bool.or_false]
            | true =>
              obtain ⟨e1, e2⟩ := hv v hv1 ha
              unfold opn
              rw [e2, e1]
              simp
          · intro v hv1 q
            obtain ⟨q1, q2⟩ := q
            rw [Bool.and_eq_true] at q1 q2
            have := (hv v hv1 q2.1).1
            rw [q1.1] at this
            cases this
        rw [key true, key false]
        exact ⟨rfl, rfl⟩
    | succ k ih =>
      intro b h1 hb W E1 E2
      have hb' : b < n := by omega
      have H1 := wr_sh W H
      have i9 : xe_I h1 36 9 = nI n := by rw [W.2 36 9 (by decide)]; exact c1
      have i41 : xe_I h1 41 b = nI (hg b) := by rw [W.2 41 b (show ¬ 41 = 37 by decide)]; exact G b (by omega)
      have i37 : xe_I h1 37 b = xe_I h 37 b := E2 b (Nat.le_refl _)
      have hgb : hg b ≤ 7 := by
        have := hk b hb'
        unfold mh at this
        omega
      have nx : ∀ y, y = nI (mk n hg b) → wr (fun a _ => a = 37) h (xe_sI h1 37 b (xe_I h 37 b ||| y)) ∧ (∀ c, c < b + 1 → xe_I (xe_sI h1 37 b (xe_I h 37 b ||| y)) 37 c = xe_I h 37 c ||| nI (mk n hg c)) ∧ (∀ c, b + 1 ≤ c → xe_I (xe_sI h1 37 b (xe_I h 37 b ||| y)) 37 c = xe_I h 37 c) := by
        intro y hy
        refine ⟨wr_sI W rfl, fun c hc => ?_, fun c hc => ?_⟩
        · rw [hI_sI]
          by_cases e : c = b
          · rw [if_pos ⟨rfl, e⟩, hy, e]
          · rw [if_neg (fun z => e z.2)]; exact E1 c (by omega)
        · rw [hI_sI, if_neg (by omega)]; exact E2 c (by omega)
      have epr : pr n hg (b + 1) = pr n hg b * (if hg b = 7 then n else 1) := rfl
      have enm : nm (rlo n hg) (b + 1) = 7 * nm (rlo n hg) b + rlo n hg b := rfl
      have e7n : (7 : Int32) * nI (nm (rlo n hg) b) = nI (7 * nm (rlo n hg) b) := by rw [show (7 : Int32) = nI 7 from rfl, pk_mul]
      by_cases z : hg b = 7
      · have e7 : nI (hg b) = 7 := by rw [z]; rfl
        obtain ⟨q1, q2, q3⟩ := nx _ ((mk_i n (by omega) b hb').1.trans (congrArg nI (if_pos z).symm))
        have fin := ih (b + 1) _ (by omega) q1 q2 q3
        rw [epr, if_pos z, enm, show rlo n hg b = lo n b from if_pos z, ← nI_add, ← pk_mul] at fin
        rw [xs_64_7]
        simp only [xs_64_9, xs_64_10, xs_64_13, xs_64_16, xs_64_18, xs_64_19, xs_64_20, xs_64_21, xs_64_24, xs_64_26, xs_64_27, xs_64_29, xs_64_32, xs_64_33, xs_64_35, xs_64_38, xs_64_41, xs_64_42, xs_64_45, xs_64_47, xs_64_48, xs_64_49, xs_64_50, xs_64_51, xs_64_54, xs_64_56, xs_64_57, xs_64_59, xs_64_62, xs_64_63, xs_64_64, xs_64_67, xs_64_68, xs_64_69, xs_64_70, xs_64_73, xs_64_75, xs_64_76, xs_64_77, xs_64_78, xs_64_79, xs_64_82, xs_64_83, xs_64_84, xs_64_85, xs_64_86, xs_64_88, xs_64_89, xs_64_90, xs_64_91, xs_64_92, xs_64_94, xs_64_95, xs_64_96, xs_64_97, xs_64_100, xs_64_101, xs_64_104, xs_64_106, xs_64_107, xs_64_108, xs_64_109, xs_64_110, xs_64_113, xs_64_115, xs_64_116, xs_64_117, xs_64_118, xs_64_119, xs_64_122, lt_f hb' (show n < 2 ^ 31 by omega), H1, sT_0, sT_1, sT_2, sN_2, sA_2, sT_3, sN_3, sA_3, sT_4, sN_4, sA_4, sT_5, sN_5, sA_5, sT_6, sN_6, sA_6, sT_7, sT_8, sN_8, sA_8, sT_9, sN_9, sA_9, sT_10, sN_10, sA_10, sT_11, sN_11, sA_11, sT_12, sN_12, sA_12, sT_13, sN_13, sT_14, sT_15, sN_15, sA_15, sT_16, sN_16, sA_16, sT_17, sN_17, sA_17, sT_18, sN_18, sA_18, sT_19, sN_19, sA_19, sT_20, sT_21, sN_21, sA_21, sT_22, sN_22, sA_22, sT_23, sN_23, sA_23, sT_24, sN_24, sA_24, sT_25, sN_25, sA_25, sT_26, sN_26, sB_26, sT_27, sT_28, sN_28, sB_28, sT_29, sT_30, sN_30, sT_32, sN_32, sA_32, sT_33, sT_34, sN_34, sA_34, sT_35, sN_35, sA_35, sT_36, sT_37, sN_37, sA_37, sT_38, sN_38, sA_38, sT_39, sN_39, sA_39, sT_40, sN_40, sB_40, sT_41, sN_41, sA_41, sT_42, sN_42, sA_42, sT_43, sN_43, sA_43, sT_44, sT_45, sN_45, sA_45, sT_46, sN_46, sA_46, sT_47, sN_47, sA_47, sR_1_7, sR_1_8, sR_1_9, sR_1_10, sR_1_11, sR_0_0, sR_7_7, sR_7_8, sR_7_9, sR_7_10, sR_7_11, sR_0_1, sR_0_2, sR_14_7, sR_14_8, sR_14_9, sR_14_10, sR_14_11, sR_13_0, sR_20_7, sR_20_8, sR_20_9, sR_20_10, sR_20_11, sR_13_1, sR_0_3, sR_0_4, sR_27_0, sR_0_5, sR_29_0, sR_29_3, sR_0_6, sR_33_1, sR_33_2, sR_0_7, sR_36_2, sR_36_3, sR_36_4, sR_36_5, sR_36_6, sR_36_7, sR_36_8, sR_0_8, sR_44_0, sR_44_1, sR_44_2, i9, i41, e7, nIlt0 (show b < 2 ^ 31 by omega), nI_clamp (show b < 2 ^ 31 by omega), show b < 6 by omega, cl_leastOn hn hb' H1 i9, i37, nI_1, e7n, rf_some, xc_int, xc_ref, xc_ret, xc_long, xw_nil, xw_int, xw_ref, xw_long, tl_some, tl_none, true_and, and_true, Nat.zero_le, Nat.reduceAdd, Nat.reduceMul, Nat.reduceLeDiff, Nat.reduceLT, Nat.reduceEqDiff, Nat.reducePow, Int32.reduceAdd, Int32.reduceMul, Int32.reduceSub, Int32.reduceLT, Int32.reduceLE, Int32.reduceToNatClampNeg, litE, ixU, not_false_eq_true, not_true_eq_false, ↓reduceIte, eq_self, true_or, or_true, false_and, and_false, or_false, false_or, i10, i01, in10, i1n, xbT, xbF, r_lt, hI_sI, hL_sI, hR_sI, hT_sI, hN_sI, hn_sI, ho_sI, hia_sI, hba_sI, hal_sI, hix_sI, hI_aI, hL_aI, hR_aI, hT_aI, hN_aI, hn_aI, ho_aI, hia_aI, hal_aI, hix_aI, sh_sI, sh_aI, sh_sL, sh_aL]
        exact fin
      · have e7 : (nI (hg b) = 7) = False := eq_false (by rw [show (7 : Int32) = nI 7 from rfl, nI_eq (by omega) (by decide)]; exact z)
        obtain ⟨q1, q2, q3⟩ := nx _ ((p2_i (hg b) (by omega)).1.trans (congrArg nI (if_neg z).symm))
        have fin := ih (b + 1) _ (by omega) q1 q2 q3
        rw [epr, if_neg z, Nat.mul_one, enm, show rlo n hg b = hg b from if_neg z, ← nI_add] at fin
        rw [xs_64_7]
        simp only [xs_64_9, xs_64_10, xs_64_13, xs_64_16, xs_64_18, xs_64_19, xs_64_20, xs_64_21, xs_64_24, xs_64_26, xs_64_27, xs_64_29, xs_64_32, xs_64_33, xs_64_35, xs_64_38, xs_64_41, xs_64_42, xs_64_45, xs_64_47, xs_64_48, xs_64_49, xs_64_50, xs_64_51, xs_64_54, xs_64_56, xs_64_57, xs_64_59, xs_64_62, xs_64_63, xs_64_64, xs_64_67, xs_64_68, xs_64_69, xs_64_70, xs_64_73, xs_64_75, xs_64_76, xs_64_77, xs_64_78, xs_64_79, xs_64_82, xs_64_83, xs_64_84, xs_64_85, xs_64_86, xs_64_88, xs_64_89, xs_64_90, xs_64_91, xs_64_92, xs_64_94, xs_64_95, xs_64_96, xs_64_97, xs_64_100, xs_64_101, xs_64_104, xs_64_106, xs_64_107, xs_64_108, xs_64_109, xs_64_110, xs_64_113, xs_64_115, xs_64_116, xs_64_117, xs_64_118, xs_64_119, xs_64_122, lt_f hb' (show n < 2 ^ 31 by omega), H1, sT_0, sT_1, sT_2, sN_2, sA_2, sT_3, sN_3, sA_3, sT_4, sN_4, sA_4, sT_5, sN_5, sA_5, sT_6, sN_6, sA_6, sT_7, sT_8, sN_8, sA_8, sT_9, sN_9, sA_9, sT_10, sN_10, sA_10, sT_11, sN_11, sA_11, sT_12, sN_12, sA_12, sT_13, sN_13, sT_14, sT_15, sN_15, sA_15, sT_16, sN_16, sA_16, sT_17, sN_17, sA_17, sT_18, sN_18, sA_18, sT_19, sN_19, sA_19, sT_20, sT_21, sN_21, sA_21, sT_22, sN_22, sA_22, sT_23, sN_23, sA_23, sT_24, sN_24, sA_24, sT_25, sN_25, sA_25, sT_26, sN_26, sB_26, sT_27, sT_28, sN_28, sB_28, sT_29, sT_30, sN_30, sT_32, sN_32, sA_32, sT_33, sT_34, sN_34, sA_34, sT_35, sN_35, sA_35, sT_36, sT_37, sN_37, sA_37, sT_38, sN_38, sA_38, sT_39, sN_39, sA_39, sT_40, sN_40, sB_40, sT_41, sN_41, sA_41, sT_42, sN_42, sA_42, sT_43, sN_43, sA_43, sT_44, sT_45, sN_45, sA_45, sT_46, sN_46, sA_46, sT_47, sN_47, sA_47, sR_1_7, sR_1_8, sR_1_9, sR_1_10, sR_1_11, sR_0_0, sR_7_7, sR_7_8, sR_7_9, sR_7_10, sR_7_11, sR_0_1, sR_0_2, sR_14_7, sR_14_8, sR_14_9, sR_14_10, sR_14_11, sR_13_0, sR_20_7, sR_20_8, sR_20_9, sR_20_10, sR_20_11, sR_13_1, sR_0_3, sR_0_4, sR_27_0, sR_0_5, sR_29_0, sR_29_3, sR_0_6, sR_33_1, sR_33_2, sR_0_7, sR_36_2, sR_36_3, sR_36_4, sR_36_5, sR_36_6, sR_36_7, sR_36_8, sR_0_8, sR_44_0, sR_44_1, sR_44_2, i9, i41, e7, nIlt0 (show b < 2 ^ 31 by omega), nI_clamp (show b < 2 ^ 31 by omega), show b < 6 by omega, i37, nI_1, e7n, rf_some, xc_int, xc_ref, xc_ret, xc_long, xw_nil, xw_int, xw_ref, xw_long, tl_some, tl_none, true_and, and_true, Nat.zero_le, Nat.reduceAdd, Nat.reduceMul, Nat.reduceLeDiff, Nat.reduceLT, Nat.reduceEqDiff, Nat.reducePow, Int32.reduceAdd, Int32.reduceMul, Int32.reduceSub, Int32.reduceLT, Int32.reduceLE, Int32.reduceToNatClampNeg, litE, ixU, not_false_eq_true, not_true_eq_false, ↓reduceIte, eq_self, true_or, or_true, false_and, and_false, or_false, false_or, i10, i01, in10, i1n, xbT, xbF, r_lt, hI_sI, hL_sI, hR_sI, hT_sI, hN_sI, hn_sI, ho_sI, hia_sI, hba_sI, hal_sI, hix_sI, hI_aI, hL_aI, hR_aI, hT_aI, hN_aI, hn_aI, ho_aI, hia_aI, hal_aI, hix_aI, sh_sI, sh_aI, sh_sL, sh_aL]
        exact fin
  have l0 := lp n 0 h (by omega) (wr_rf _ h) (fun c hc => absurd hc (by omega)) (fun c _ => rfl)
  rw [show nI (pr n hg 0) = (1 : Int32) from rfl, show nI (nm (rlo n hg) 0) = (0 : Int32) from rfl, show nI 0 = (0 : Int32) from rfl] at l0
  simp only [xs_64, xs_64_0, xs_64_1, xs_64_2, xs_64_3, xs_64_4, xs_64_5, rf_some, xc_int, xc_ref, xc_ret, xc_long, xw_nil, xw_int, xw_ref, xw_long, tl_some, tl_none, true_and, and_true, Nat.zero_le, Nat.reduceAdd, Nat.reduceMul, Nat.reduceLeDiff, Nat.reduceLT, Nat.reduceEqDiff, Nat.reducePow, Int32.reduceAdd, Int32.reduceMul, Int32.reduceSub, Int32.reduceLT, Int32.reduceLE, Int32.reduceToNatClampNeg, litE, ixU, not_false_eq_true, not_true_eq_false, ↓reduceIte, eq_self, true_or, or_true, false_and, and_false, or_false, false_or, i10, i01, in10, i1n, xbT, xbF, r_lt]
  exact l0
end FW
