/-! text: the tokens, as numbers -/
def rr (p : Nat → Bool) : Nat → Nat → Nat
  | 0, i => i
  | t + 1, i => if p i then rr p t (i + 1) else i
theorem rr_b (p : Nat → Bool) : ∀ t i, i ≤ rr p t i ∧ rr p t i ≤ i + t
  | 0, i => ⟨Nat.le_refl _, Nat.le_refl _⟩
  | t + 1, i => by
    rw [rr]
    by_cases z : p i = true
    · rw [if_pos z]
      have := rr_b p t (i + 1)
      omega
    · rw [if_neg z]; omega
theorem rr_t {p : Nat → Bool} {t i : Nat} (h : p i = true) : rr p (t + 1) i = rr p t (i + 1) := by rw [rr, if_pos h]
theorem rr_f {p : Nat → Bool} {t i : Nat} (h : p i = false) : rr p (t + 1) i = i := by rw [rr, if_neg (by rw [h]; decide)]
def isL (T : Nat → Nat) (i : Nat) : Bool := decide (97 ≤ T i ∧ T i ≤ 122)
def isF (T : Nat → Nat) (i : Nat) : Bool := decide (48 ≤ T i ∧ T i ≤ 57)
def isB (T : Nat → Nat) (i : Nat) : Bool := decide (T i = 32)
def vv (T : Nat → Nat) (j : Nat) : Nat → Nat
  | 0 => 0
  | k + 1 => 10 * vv T j k + (T (j + k) - 48)
/-- where a token begins -/
def tkS (T : Nat → Nat) (n i : Nat) : Nat := rr (isB T) (n - i) i
/-- where it ends, by its begin -/
def eE (T : Nat → Nat) (n j : Nat) : Nat := if j = n then n else if isL T j then rr (isL T) (n - j) j else if isF T j then rr (isF T) (n - j) j else j + 1
def eK (T : Nat → Nat) (n j : Nat) : Nat := if j = n then 0 else if isL T j then 1 else if isF T j then (if eE T n j - j ≤ 2 then 2 else 4) else if T j = 59 then 3 else 4
def eV (T : Nat → Nat) (n j : Nat) : Nat := vv T j (eE T n j - j)
def tkE (T : Nat → Nat) (n i : Nat) : Nat := eE T n (tkS T n i)
def tkK (T : Nat → Nat) (n i : Nat) : Nat := eK T n (tkS T n i)
def tkV (T : Nat → Nat) (n i : Nat) : Nat := eV T n (tkS T n i)
theorem tkS_b {T : Nat → Nat} {n i : Nat} (hi : i ≤ n) : i ≤ tkS T n i ∧ tkS T n i ≤ n := by
  have := rr_b (isB T) (n - i) i
  unfold tkS
  omega
theorem eE_b {T : Nat → Nat} {n j : Nat} (hj : j ≤ n) : j ≤ eE T n j ∧ eE T n j ≤ n ∧ (j < n → j < eE T n j) := by
  unfold eE
  by_cases z : j = n
  · rw [if_pos z]; omega
  · rw [if_neg z]
    have go : ∀ p : Nat → Bool, p j = true → j ≤ rr p (n - j) j ∧ rr p (n - j) j ≤ n ∧ (j < n → j < rr p (n - j) j) := fun p hp => by
      obtain ⟨t, ht⟩ : ∃ t, n - j = t + 1 := ⟨n - j - 1, by omega⟩
      rw [ht, rr_t hp]
      have := rr_b p t (j + 1)
      omega
    by_cases z1 : isL T j = true
    · rw [if_pos z1]; exact go _ z1
    · rw [if_neg z1]
      by_cases z2 : isF T j = true
      · rw [if_pos z2]; exact go _ z2
      · rw [if_neg z2]; omega
theorem tkE_b {T : Nat → Nat} {n i : Nat} (hi : i ≤ n) : i ≤ tkE T n i ∧ tkE T n i ≤ n ∧ tkS T n i ≤ tkE T n i := by
  have h1 := tkS_b (T := T) hi
  have h2 := eE_b (T := T) h1.2
  unfold tkE
  omega
theorem eK_0 {T : Nat → Nat} {n j : Nat} : eK T n j = 0 ↔ j = n := by
  unfold eK
  by_cases z : j = n
  · rw [if_pos z]; exact ⟨fun _ => z, fun _ => rfl⟩
  · rw [if_neg z]
    refine ⟨fun y => ?_, fun y => absurd y z⟩
    by_cases z1 : isL T j = true
    · rw [if_pos z1] at y; omega
    · rw [if_neg z1] at y
      by_cases z2 : isF T j = true
      · rw [if_pos z2] at y
        by_cases z3 : eE T n j - j ≤ 2
        · rw [if_pos z3] at y; omega
        · rw [if_neg z3] at y; omega
      · rw [if_neg z2] at y
        by_cases z3 : T j = 59
        · rw [if_pos z3] at y; omega
        · rw [if_neg z3] at y; omega
theorem tkE_lt {T : Nat → Nat} {n i : Nat} (hi : i ≤ n) (hk : ¬ tkK T n i = 0) : i < tkE T n i := by
  have h1 := tkS_b (T := T) hi
  have h2 := eE_b (T := T) h1.2
  have h3 : ¬ tkS T n i = n := fun z => hk (eK_0.mpr z)
  unfold tkE
  omega
theorem eK_4 (T : Nat → Nat) (n j : Nat) : eK T n j ≤ 4 := by
  unfold eK
  repeat' split
  all_goals omega
/-- two figures at most -/
theorem vv_99 {T : Nat → Nat} (hT : ∀ k, T k < 256) (j : Nat) : ∀ k, k ≤ 2 → vv T j k ≤ 11 * 207
  | 0, _ => by rw [vv]; omega
  | 1, _ => by rw [vv, vv]; have := hT (j + 0); omega
  | 2, _ => by rw [vv, vv, vv]; have := hT (j + 0); have := hT (j + 1); omega
/-- the bytes as the class has them -/
theorem sx_e : ∀ v, v < 256 → ((sx v = 32) ↔ v = 32) ∧ ((sx v = 59) ↔ v = 59) ∧ ((sx v < 97) ↔ (v < 97 ∨ 127 < v)) ∧ ((122 < sx v) ↔ (122 < v ∧ v < 128)) ∧ ((sx v < 48) ↔ (v < 48 ∨ 127 < v)) ∧ ((57 < sx v) ↔ (57 < v ∧ v < 128)) := by decide +kernel
theorem sx_n : ∀ v, v < 128 → sx v = nI v := by decide +kernel
theorem sx_m : ∀ v, v < 256 → 127 < v → sx v < 0 := by decide +kernel
theorem sx_i {c v : Nat} (hc : c < 128) (hv : v < 256) : (sx v = nI c) = (v = c) := by
  by_cases z : v < 128
  · rw [sx_n v z, nIe (by omega) (by omega)]
  · refine propext ⟨fun y => ?_, fun y => by omega⟩
    have := sx_m v hv (by omega)
    rw [y] at this
    exact absurd this (nI_pos (by omega))
section TA
variable {d : Nat} {h : xe_H} {Q : Option Value → xe_H → Prop}
theorem c_isL {T : Nat → Nat} {i : Nat} (hv : T i < 256) : xe_C (d + 1) 32 [.int (sx (T i))] h Q = Q (some (.int (xb (isL T i = true)))) h := by
  obtain ⟨-, -, e1, e2, -⟩ := sx_e _ hv
  have e1 := propext e1
  have e2 := propext e2
  by_cases z1 : T i < 97 ∨ 127 < T i
  · rw [xb_f (by unfold isL; intro y; have := of_decide_eq_true y; omega)]
    simp only [xs_32, xs_32_0, xs_32_1, xs_32_3, xs_32_6, xs_32_7, xs_32_9, xs_32_12, xs_32_13, xs_32_16, xs_32_17, e1, eq_true z1, rf_some, xc_int, xc_ref, xc_ret, xc_long, xw_nil, xw_int, xw_ref, xw_long, tl_some, tl_none, true_and, and_true, Nat.zero_le, Nat.reduceAdd, Nat.reduceMul, Nat.reduceLeDiff, Nat.reduceLT, Nat.reduceEqDiff, Nat.reducePow, Int32.reduceAdd, Int32.reduceMul, Int32.reduceSub, Int32.reduceLT, Int32.reduceLE, Int32.reduceToNatClampNeg, litE, ixU, not_false_eq_true, not_true_eq_false, ↓reduceIte, eq_self, true_or, or_true, false_and, and_false, or_false, false_or, i10, i01, in10, i1n, xbT, xbF, r_lt]
  · by_cases z2 : 122 < T i ∧ T i < 128
    · rw [xb_f (by unfold isL; intro y; have := of_decide_eq_true y; omega)]
      simp only [xs_32, xs_32_0, xs_32_1, xs_32_3, xs_32_6, xs_32_7, xs_32_9, xs_32_12, xs_32_13, xs_32_16, xs_32_17, e1, eq_false z1, e2, eq_true z2, rf_some, xc_int, xc_ref, xc_ret, xc_long, xw_nil, xw_int, xw_ref, xw_long, tl_some, tl_none, true_and, and_true, Nat.zero_le, Nat.reduceAdd, Nat.reduceMul, Nat.reduceLeDiff, Nat.reduceLT, Nat.reduceEqDiff, Nat.reducePow, Int32.reduceAdd, Int32.reduceMul, Int32.reduceSub, Int32.reduceLT, Int32.reduceLE, Int32.reduceToNatClampNeg, litE, ixU, not_false_eq_true, not_true_eq_false, ↓reduceIte, eq_self, true_or, or_true, false_and, and_false, or_false, false_or, i10, i01, in10, i1n, xbT, xbF, r_lt]
    · rw [xb_t (by unfold isL; exact decide_eq_true (by omega))]
      simp only [xs_32, xs_32_0, xs_32_1, xs_32_3, xs_32_6, xs_32_7, xs_32_9, xs_32_12, xs_32_13, xs_32_16, xs_32_17, e1, eq_false z1, e2, eq_false z2, rf_some, xc_int, xc_ref, xc_ret, xc_long, xw_nil, xw_int, xw_ref, xw_long, tl_some, tl_none, true_and, and_true, Nat.zero_le, Nat.reduceAdd, Nat.reduceMul, Nat.reduceLeDiff, Nat.reduceLT, Nat.reduceEqDiff, Nat.reducePow, Int32.reduceAdd, Int32.reduceMul, Int32.reduceSub, Int32.reduceLT, Int32.reduceLE, Int32.reduceToNatClampNeg, litE, ixU, not_false_eq_true, not_true_eq_false, ↓reduceIte, eq_self, true_or, or_true, false_and, and_false, or_false, false_or, i10, i01, in10, i1n, xbT, xbF, r_lt]
theorem c_isF {T : Nat → Nat} {i : Nat} (hv : T i < 256) : xe_C (d + 1) 33 [.int (sx (T i))] h Q = Q (some (.int (xb (isF T i = true)))) h := by
  obtain ⟨-, -, -, -, e1, e2⟩ := sx_e _ hv
  have e1 := propext e1
  have e2 := propext e2
  by_cases z1 : T i < 48 ∨ 127 < T i
  · rw [xb_f (by unfold isF; intro y; have := of_decide_eq_true y; omega)]
    simp only [xs_33, xs_33_0, xs_33_1, xs_33_3, xs_33_6, xs_33_7, xs_33_9, xs_33_12, xs_33_13, xs_33_16, xs_33_17, e1, eq_true z1, rf_some, xc_int, xc_ref, xc_ret, xc_long, xw_nil, xw_int, xw_ref, xw_long, tl_some, tl_none, true_and, and_true, Nat.zero_le, Nat.reduceAdd, Nat.reduceMul, Nat.reduceLeDiff, Nat.reduceLT, Nat.reduceEqDiff, Nat.reducePow, Int32.reduceAdd, Int32.reduceMul, Int32.reduceSub, Int32.reduceLT, Int32.reduceLE, Int32.reduceToNatClampNeg, litE, ixU, not_false_eq_true, not_true_eq_false, ↓reduceIte, eq_self, true_or, or_true, false_and, and_false, or_false, false_or, i10, i01, in10, i1n, xbT, xbF, r_lt]
  · by_cases z2 : 57 < T i ∧ T i < 128
    · rw [xb_f (by unfold isF; intro y; have := of_decide_eq_true y; omega)]
      simp only [xs_33, xs_33_0, xs_33_1, xs_33_3, xs_33_6, xs_33_7, xs_33_9, xs_33_12, xs_33_13, xs_33_16, xs_33_17, e1, eq_false z1, e2, eq_true z2, rf_some, xc_int, xc_ref, xc_ret, xc_long, xw_nil, xw_int, xw_ref, xw_long, tl_some, tl_none, true_and, and_true, Nat.zero_le, Nat.reduceAdd, Nat.reduceMul, Nat.reduceLeDiff, Nat.reduceLT, Nat.reduceEqDiff, Nat.reducePow, Int32.reduceAdd, Int32.reduceMul, Int32.reduceSub, Int32.reduceLT, Int32.reduceLE, Int32.reduceToNatClampNeg, litE, ixU, not_false_eq_true, not_true_eq_false, ↓reduceIte, eq_self, true_or, or_true, false_and, and_false, or_false, false_or, i10, i01, in10, i1n, xbT, xbF, r_lt]
    · rw [xb_t (by unfold isF; exact decide_eq_true (by omega))]
      simp only [xs_33, xs_33_0, xs_33_1, xs_33_3, xs_33_6, xs_33_7, xs_33_9, xs_33_12, xs_33_13, xs_33_16, xs_33_17, e1, eq_false z1, e2, eq_false z2, rf_some, xc_int, xc_ref, xc_ret, xc_long, xw_nil, xw_int, xw_ref, xw_long, tl_some, tl_none, true_and, and_true, Nat.zero_le, Nat.reduceAdd, Nat.reduceMul, Nat.reduceLeDiff, Nat.reduceLT, Nat.reduceEqDiff, Nat.reducePow, Int32.reduceAdd, Int32.reduceMul, Int32.reduceSub, Int32.reduceLT, Int32.reduceLE, Int32.reduceToNatClampNeg, litE, ixU, not_false_eq_true, not_true_eq_false, ↓reduceIte, eq_self, true_or, or_true, false_and, and_false, or_false, false_or, i10, i01, in10, i1n, xbT, xbF, r_lt]
end TA
