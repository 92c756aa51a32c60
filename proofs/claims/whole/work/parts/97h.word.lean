/-! text: which word -/
def wLen (w : Nat) : Nat := cutL.getD (w + 1) 0 - cutL.getD w 0
def wLet (w k : Nat) : Nat := letL.getD (cutL.getD w 0 + k) 0
def wag (T : Nat → Nat) (j w : Nat) : Nat → Nat → Bool
  | 0, _ => true
  | t + 1, k => if T (j + k) = wLet w k then wag T j w t (k + 1) else false
/-- where the loop over the letters stops -/
def wfl (T : Nat → Nat) (j w : Nat) : Nat → Nat → Nat
  | 0, k => k
  | t + 1, k => if T (j + k) = wLet w k then wfl T j w t (k + 1) else k + 1
def spl (T : Nat → Nat) (j e w : Nat) : Bool := if e - j = wLen w then wag T j w (wLen w) 0 else false
def nspl (T : Nat → Nat) (j e w : Nat) : Bool := if spl T j e w then false else true
def wdO (T : Nat → Nat) (j e : Nat) : Nat := rr (nspl T j e) 7 0
theorem wdO_7 (T : Nat → Nat) (j e : Nat) : wdO T j e ≤ 7 := (rr_b _ 7 0).2
theorem wcut : ∀ w, w < 7 → cutL.getD w 0 + wLen w ≤ 31 ∧ cutL.getD w 0 ≤ cutL.getD (w + 1) 0 ∧ cutL.getD (w + 1) 0 ≤ 31 ∧ 3 ≤ wLen w ∧ wLen w ≤ 6 := by decide +kernel
theorem wlet : ∀ w, w < 7 → ∀ k, k < 6 → wLet w k < 128 := by decide +kernel
/-- the Strings and the static rows -/
def stS (h : xe_H) : Prop := (∀ w, w < 7 → xe_T h (xe_S + 12 + w) = 10 ∧ xe_N h (xe_S + 12 + w) = wLen w ∧ ∀ k, k < wLen w → xe_I h (xe_S + 12 + w) k = nI (wLet w k)) ∧ ∀ r, r < 4 → xe_T h (xe_S + 1 + r) = 8 ∧ xe_N h (xe_S + 1 + r) = 7 ∧ ∀ k, xe_I h (xe_S + 1 + r) k = (xe_sa.getD r []).getD k 0
theorem byt_e : ∀ w, w < 7 → xe_len.getD w 0 = wLen w ∧ ∀ k, k < wLen w → (xe_byt.getD w []).getD k 0 = nI (wLet w k) := by decide +kernel
theorem stS_of {L : Nat} {xs : Nat → Int32} {h : xe_H} (V : sV L xs h) : stS h := by
  refine ⟨fun w hw => ?_, fun r hr => ?_⟩
  · obtain ⟨v1, v2, v3⟩ := V (xe_S + 12 + w) (by omega)
    have n1 : ¬ xe_S + 12 + w = xe_S := by omega
    have n2 : ¬ (xe_S + 1 ≤ xe_S + 12 + w ∧ xe_S + 12 + w < xe_S + 5) := by omega
    have n3 : xe_S + 12 ≤ xe_S + 12 + w ∧ xe_S + 12 + w < xe_S + 19 := by omega
    have n4 : xe_S + 12 + w - (xe_S + 12) = w := by omega
    obtain ⟨b1, b2⟩ := byt_e w hw
    refine ⟨?_, ?_, fun k hk => ?_⟩
    · rw [v2]; simp only [xe_T, xe_h0, if_neg n1, if_neg n2, if_pos n3]
    · rw [v3]; simp only [xe_N, xe_h0, if_neg n1, if_neg n2, if_pos n3, n4]; exact b1
    · rw [v1]; simp only [xe_I, xe_h0, if_neg n1, if_neg n2, n4]; exact b2 k hk
  · obtain ⟨v1, v2, v3⟩ := V (xe_S + 1 + r) (by omega)
    have n1 : ¬ xe_S + 1 + r = xe_S := by omega
    have n2 : (xe_S + 1 ≤ xe_S + 1 + r ∧ xe_S + 1 + r < xe_S + 5) := by omega
    have n4 : xe_S + 1 + r - (xe_S + 1) = r := by omega
    refine ⟨?_, ?_, fun k => ?_⟩
    · rw [v2]; simp only [xe_T, xe_h0, if_neg n1, if_pos n2]
    · rw [v3]; simp only [xe_N, xe_h0, if_neg n1, if_pos n2]
    · rw [v1]; simp only [xe_I, xe_h0, if_neg n1, if_pos n2, n4]
theorem stS_w {S : Nat → Nat → Prop} {h h' : xe_H} (C : stS h) (W : wr S h h') (q : ∀ a j, S a j → a < xe_S) : stS h' := by
  refine ⟨fun w hw => ?_, fun r hr => ?_⟩
  · obtain ⟨a1, a2, a3⟩ := C.1 w hw
    exact ⟨by rw [W.1.2.2.1]; exact a1, by rw [W.1.2.2.2.1]; exact a2, fun k hk => by rw [W.2 _ _ (fun z => by have := q _ _ z; omega)]; exact a3 k hk⟩
  · obtain ⟨a1, a2, a3⟩ := C.2 r hr
    exact ⟨by rw [W.1.2.2.1]; exact a1, by rw [W.1.2.2.2.1]; exact a2, fun k => by rw [W.2 _ _ (fun z => by have := q _ _ z; omega)]; exact a3 k⟩
section TD
variable {d : Nat} {h : xe_H} {Q : Option Value → xe_H → Prop} {T : Nat → Nat} {n : Nat}
theorem c_nameOf {w : Nat} (hw : w < 7) : xe_C (d + 1) 36 [.int (nI w)] h Q = Q (some (.ref (xe_S + 5 + w))) h := by
  have a5 : ∀ k, xe_S + 5 ≤ xe_S + (5 + k) := fun k => by omega
  have a6 : ∀ k, k < 7 → xe_S + (5 + k) < xe_S + 12 := fun k hk => by omega
  rw [Nat.add_assoc]
  have c : ∀ k, k < 7 → (xe_S + 5 ≤ xe_S + (5 + k) ∧ xe_S + (5 + k) < xe_S + 12) = True := fun k hk => eq_true ⟨a5 k, a6 k hk⟩
  rcases (show w = 0 ∨ w = 1 ∨ w = 2 ∨ w = 3 ∨ w = 4 ∨ w = 5 ∨ w = 6 by omega) with rfl | rfl | rfl | rfl | rfl | rfl | rfl
  · simp only [xs_36, xs_36_0, xs_36_1, xs_36_40, xs_36_42, c 0 (by decide), show nI 0 = (0 : Int32) from rfl, true_and, ↓reduceIte]
  · simp only [xs_36, xs_36_0, xs_36_1, xs_36_43, xs_36_45, c 1 (by decide), show (nI 1 = 0) = False from eq_false (by decide), show (nI 1 = 1) = True from eq_true rfl, true_and, ↓reduceIte]
  · simp only [xs_36, xs_36_0, xs_36_1, xs_36_46, xs_36_48, c 2 (by decide), show (nI 2 = 0) = False from eq_false (by decide), show (nI 2 = 1) = False from eq_false (by decide), show (nI 2 = 2) = True from eq_true rfl, true_and, ↓reduceIte]
  · simp only [xs_36, xs_36_0, xs_36_1, xs_36_49, xs_36_51, c 3 (by decide), show (nI 3 = 0) = False from eq_false (by decide), show (nI 3 = 1) = False from eq_false (by decide), show (nI 3 = 2) = False from eq_false (by decide), show (nI 3 = 3) = True from eq_true rfl, true_and, ↓reduceIte]
  · simp only [xs_36, xs_36_0, xs_36_1, xs_36_52, xs_36_54, c 4 (by decide), show (nI 4 = 0) = False from eq_false (by decide), show (nI 4 = 1) = False from eq_false (by decide), show (nI 4 = 2) = False from eq_false (by decide), show (nI 4 = 3) = False from eq_false (by decide), show (nI 4 = 4) = True from eq_true rfl, true_and, ↓reduceIte]
  · simp only [xs_36, xs_36_0, xs_36_1, xs_36_55, xs_36_57, c 5 (by decide), show (nI 5 = 0) = False from eq_false (by decide), show (nI 5 = 1) = False from eq_false (by decide), show (nI 5 = 2) = False from eq_false (by decide), show (nI 5 = 3) = False from eq_false (by decide), show (nI 5 = 4) = False from eq_false (by decide), show (nI 5 = 5) = True from eq_true rfl, true_and, ↓reduceIte]
  · simp only [xs_36, xs_36_0, xs_36_1, xs_36_58, xs_36_60, c 6 (by decide), show (nI 6 = 0) = False from eq_false (by decide), show (nI 6 = 1) = False from eq_false (by decide), show (nI 6 = 2) = False from eq_false (by decide), show (nI 6 = 3) = False from eq_false (by decide), show (nI 6 = 4) = False from eq_false (by decide), show (nI 6 = 5) = False from eq_false (by decide), true_and, ↓reduceIte]
theorem c_len {w : Nat} (hw : w < 7) (C : stS h) : xe_C (d + 2) 203 [.ref (xe_S + 5 + w)] h Q = Q (some (.int (nI (wLen w)))) h := by
  obtain ⟨c1, c2, c3⟩ := C.1 w hw
  have a1 : (xe_S + 5 ≤ xe_S + 5 + w) = True := eq_true (by omega)
  have a2 : (xe_S + 5 + w < xe_S + 12) = True := eq_true (by omega)
  have a3 : xe_S + 5 + w + 7 = xe_S + 12 + w := by omega
  have al : xe_al h (xe_S + 12 + w) := ⟨by rw [c1]; decide, by rw [c1]; decide, Or.inr (Or.inr ⟨by omega, by omega, c1⟩)⟩
  have s0 : (nI (wLen w)) >>> ((0 : Int32) &&& 31) = nI (wLen w) := by rw [show ((0 : Int32) &&& 31) = 0 from rfl, Int32.shiftRight_zero]
  simp only [xs_203, xs_203_0, xs_203_1, xs_203_4, xs_203_5, xs_203_6, xs_203_9, xs_203_10, xs_205, xs_205_0, xs_205_3, xs_205_6, xs_205_7, xs_205_10, xs_205_13, xs_205_14, a1, a2, a3, al, c2, show Int32.ofNat (wLen w) = nI (wLen w) from rfl, s0, rf_some, xc_int, xc_ref, xc_ret, xc_long, xw_nil, xw_int, xw_ref, xw_long, tl_some, tl_none, true_and, and_true, Nat.zero_le, Nat.reduceAdd, Nat.reduceMul, Nat.reduceLeDiff, Nat.reduceLT, Nat.reduceEqDiff, Nat.reducePow, Int32.reduceAdd, Int32.reduceMul, Int32.reduceSub, Int32.reduceLT, Int32.reduceLE, Int32.reduceToNatClampNeg, litE, ixU, not_false_eq_true, not_true_eq_false, ↓reduceIte, eq_self, true_or, or_true, false_and, and_false, or_false, false_or, i10, i01, in10, i1n, xbT, xbF, r_lt]
theorem c_chr {w k : Nat} (hw : w < 7) (hk : k < wLen w) (C : stS h) : xe_C (d + 4) 204 [.ref (xe_S + 5 + w), .int (nI k)] h Q = Q (some (.int (nI (wLet w k)))) h := by
  obtain ⟨c1, c2, c3⟩ := C.1 w hw
  have c3 := c3 k hk
  have hl := (wcut w hw).2.2.2.2
  have hL := wlet w hw k (by omega)
  have a1 : (xe_S + 5 ≤ xe_S + 5 + w) = True := eq_true (by omega)
  have a2 : (xe_S + 5 + w < xe_S + 12) = True := eq_true (by omega)
  have a3 : xe_S + 5 + w + 7 = xe_S + 12 + w := by omega
  have al : xe_al h (xe_S + 12 + w) := ⟨by rw [c1]; decide, by rw [c1]; decide, Or.inr (Or.inr ⟨by omega, by omega, c1⟩)⟩
  have ab : xe_ba h (xe_S + 12 + w) := Or.inl ⟨c1, Or.inr ⟨by omega, by omega⟩⟩
  have ai : xe_ix h (xe_S + 12 + w) (nI k) := by
    unfold xe_ix
    rw [nI_clamp (by omega), c2, decide_eq_false (nI_pos (by omega)), decide_eq_false (by omega)]
    rfl
  have cc : ∀ x, x < 128 → (((nI x &&& 255).toUInt32 % 65536).toInt32 = nI x) ∧ ¬ nI x < 0 ∧ nI x ≤ 255 := by decide +kernel
  obtain ⟨q1, q2, q3⟩ := cc _ hL
  have q2 := eq_false q2
  have q3 := eq_true q3
  have kl : (nI k < nI (wLen w)) = True := eq_true (in_lt (by omega) hk)
  simp only [xs_204, xs_204_0, xs_204_1, xs_204_4, xs_204_7, xs_204_8, xs_204_11, xs_204_12, xs_204_15, xs_204_16, xs_204_17, xs_204_20, xs_204_21, xs_204_24, xs_206, xs_206_0, xs_206_3, xs_206_6, xs_206_7, xs_206_10, xs_206_13, xs_206_14, xs_206_17, xs_206_18, xs_208, xs_208_0, xs_208_1, xs_208_2, xs_208_3, xs_208_6, xs_208_7, xs_208_8, xs_208_9, xs_208_12, xs_208_13, xs_208_14, xs_207, xs_207_0, xs_207_1, xs_207_2, xs_207_5, xs_207_8, xs_207_9, xs_218, xs_218_0, xs_218_1, xs_218_4, xs_218_5, xs_218_6, xs_218_9, xs_218_10, xs_218_11, xs_218_16, xs_218_17, a1, a2, a3, al, ab, ai, c2, c3, show Int32.ofNat (wLen w) = nI (wLen w) from rfl, q1, q2, q3, kl, nIlt0 (show k < 2 ^ 31 by omega), nI_clamp (show k < 2 ^ 31 by omega), hk, rf_some, xc_int, xc_ref, xc_ret, xc_long, xw_nil, xw_int, xw_ref, xw_long, tl_some, tl_none, true_and, and_true, Nat.zero_le, Nat.reduceAdd, Nat.reduceMul, Nat.reduceLeDiff, Nat.reduceLT, Nat.reduceEqDiff, Nat.reducePow, Int32.reduceAdd, Int32.reduceMul, Int32.reduceSub, Int32.reduceLT, Int32.reduceLE, Int32.reduceToNatClampNeg, litE, ixU, not_false_eq_true, not_true_eq_false, ↓reduceIte, eq_self, true_or, or_true, false_and, and_false, or_false, false_or, i10, i01, in10, i1n, xbT, xbF, r_lt]
end TD
