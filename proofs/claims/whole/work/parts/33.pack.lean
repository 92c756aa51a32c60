/-! six RESTS in one int, three bits each -/
def rp (f : Nat → Nat) : Nat := f 0 + 8 * f 1 + 64 * f 2 + 512 * f 3 + 4096 * f 4 + 32768 * f 5
def rp_ok (f : Nat → Nat) : Prop := ∀ b, b < 6 → f b < 8
/-- a value of a function changed -/
def up (f : Nat → Nat) (k v : Nat) : Nat → Nat := fun j => if j = k then v else f j
theorem rp_lt {f : Nat → Nat} (h : rp_ok f) : rp f < 262144 := by
  have h0 := h 0 (by omega); have h1 := h 1 (by omega); have h2 := h 2 (by omega); have h3 := h 3 (by omega); have h4 := h 4 (by omega); have h5 := h 5 (by omega)
  unfold rp; omega
theorem rp_dig {f : Nat → Nat} (h : rp_ok f) {b : Nat} (hb : b < 6) : rp f / 2 ^ (3 * b) % 8 = f b := by
  have h0 := h 0 (by omega); have h1 := h 1 (by omega); have h2 := h 2 (by omega); have h3 := h 3 (by omega); have h4 := h 4 (by omega); have h5 := h 5 (by omega)
  unfold rp
  rcases (show b = 0 ∨ b = 1 ∨ b = 2 ∨ b = 3 ∨ b = 4 ∨ b = 5 by omega) with rfl | rfl | rfl | rfl | rfl | rfl <;> simp only [Nat.reduceMul, Nat.reducePow] <;> omega
theorem rp_up {f : Nat → Nat} (h : rp_ok f) {b v : Nat} (hb : b < 6) : rp (up f b v) + f b * 2 ^ (3 * b) = rp f + v * 2 ^ (3 * b) := by
  unfold rp up
  rcases (show b = 0 ∨ b = 1 ∨ b = 2 ∨ b = 3 ∨ b = 4 ∨ b = 5 by omega) with rfl | rfl | rfl | rfl | rfl | rfl <;> simp <;> omega
theorem up_ok {f : Nat → Nat} (h : rp_ok f) {b v : Nat} (hv : v < 8) : rp_ok (up f b v) := by
  intro j hj
  unfold up
  split
  · exact hv
  · exact h j hj
/-- bits of a block -/
theorem and_block (n s : Nat) : n &&& 7 * 2 ^ s = (n / 2 ^ s % 8) * 2 ^ s := by
  apply Nat.eq_of_testBit_eq
  intro i
  rw [Nat.testBit_and, Nat.testBit_mul_two_pow, Nat.testBit_mul_two_pow, show (8 : Nat) = 2 ^ 3 from rfl, Nat.testBit_mod_two_pow, Nat.testBit_div_two_pow]
  by_cases h : s ≤ i
  · have h7 : Nat.testBit 7 (i - s) = decide (i - s < 3) := by
      rw [show (7 : Nat) = 2 ^ 3 - 1 from rfl, Nat.testBit_two_pow_sub_one]
    rw [h7]
    simp [h, Bool.and_comm]
  · simp [h]
theorem bit_rp {f : Nat → Nat} (h : rp_ok f) (i : Nat) : (rp f).testBit i = (decide (i < 18) && (f (i / 3)).testBit (i % 3)) := by
  by_cases hi : i < 18
  · have hd := rp_dig h (b := i / 3) (by omega)
    have e1 : (f (i / 3)).testBit (i % 3) = (rp f).testBit i := by
      rw [← hd, show (8 : Nat) = 2 ^ 3 from rfl, Nat.testBit_mod_two_pow, Nat.testBit_div_two_pow]
      have h3 : i % 3 < 3 := Nat.mod_lt _ (by omega)
      rw [show i % 3 + 3 * (i / 3) = i by omega]
      simp [h3]
    rw [e1]
    simp [hi]
  · have h1 : (rp f).testBit i = false := Nat.testBit_lt_two_pow (Nat.lt_of_lt_of_le (rp_lt h) (by
      rw [show (262144 : Nat) = 2 ^ 18 from rfl]
      exact Nat.pow_le_pow_right (by omega) (by omega)))
    rw [h1]
    simp [hi]
/-- a block taken out and another put in -/
theorem put_block {f : Nat → Nat} (h : rp_ok f) {b v : Nat} (hb : b < 6) (hv : v < 8) : (rp f &&& (2 ^ 32 - 1 - 7 * 2 ^ (3 * b))) ||| v * 2 ^ (3 * b) = rp (up f b v) := by
  apply Nat.eq_of_testBit_eq
  intro i
  rw [bit_rp (up_ok h hv), Nat.testBit_or, Nat.testBit_and, Nat.testBit_mul_two_pow, bit_rp h]
  have hle : 7 * 2 ^ (3 * b) ≤ 2 ^ 32 - 1 := by
    rcases (show b = 0 ∨ b = 1 ∨ b = 2 ∨ b = 3 ∨ b = 4 ∨ b = 5 by omega) with rfl | rfl | rfl | rfl | rfl | rfl <;> decide
  have hc : (2 ^ 32 - 1 - 7 * 2 ^ (3 * b)).testBit i = (decide (i < 32) && !(7 * 2 ^ (3 * b)).testBit i) := by
    rw [show 2 ^ 32 - 1 - 7 * 2 ^ (3 * b) = 2 ^ 32 - (7 * 2 ^ (3 * b) + 1) by omega]
    exact Nat.testBit_two_pow_sub_succ (by omega) i
  rw [hc, Nat.testBit_mul_two_pow]
  by_cases hi : i < 18
  · by_cases hs : 3 * b ≤ i
    · have h7 : Nat.testBit 7 (i - 3 * b) = decide (i - 3 * b < 3) := by
        rw [show (7 : Nat) = 2 ^ 3 - 1 from rfl, Nat.testBit_two_pow_sub_one]
      rw [h7]
      by_cases hq : i / 3 = b
      · have e1 : i - 3 * b = i % 3 := by omega
        have e2 : i % 3 < 3 := by omega
        simp [up, hq, hs, hi, e1, e2]
      · have e1 : ¬ i - 3 * b < 3 := by omega
        have e2 : v.testBit (i - 3 * b) = false := Nat.testBit_lt_two_pow (Nat.lt_of_lt_of_le hv (by
          rw [show (8 : Nat) = 2 ^ 3 from rfl]
          exact Nat.pow_le_pow_right (by omega) (by omega)))
        have e3 : i < 32 := by omega
        simp [up, hq, hs, hi, e1, e2, e3]
    · have hq : ¬ i / 3 = b := by omega
      have e3 : i < 32 := by omega
      simp [up, hq, hs, hi, e3]
  · have e2 : v.testBit (i - 3 * b) = false := Nat.testBit_lt_two_pow (Nat.lt_of_lt_of_le hv (by
      rw [show (8 : Nat) = 2 ^ 3 from rfl]
      exact Nat.pow_le_pow_right (by omega) (by omega)))
    simp [hi, e2]
/-- ones where a block is not 0 -/
theorem ones_block {f : Nat → Nat} (h : rp_ok f) : (rp f ||| rp f / 2 ||| rp f / 4) &&& 37449 = rp (fun b => if f b = 0 then 0 else 1) := by
  have ho : rp_ok (fun b => if f b = 0 then 0 else 1) := by
    intro b hb
    dsimp only
    split <;> omega
  apply Nat.eq_of_testBit_eq
  intro i
  rw [bit_rp ho, Nat.testBit_and, Nat.testBit_or, Nat.testBit_or]
  have d1 : (rp f / 2).testBit i = (rp f).testBit (i + 1) := by
    rw [show rp f / 2 = rp f / 2 ^ 1 from rfl, Nat.testBit_div_two_pow]
  have d2 : (rp f / 4).testBit i = (rp f).testBit (i + 2) := by
    rw [show rp f / 4 = rp f / 2 ^ 2 from rfl, Nat.testBit_div_two_pow]
  rw [d1, d2, bit_rp h, bit_rp h, bit_rp h]
  have hm : Nat.testBit 37449 i = (decide (i < 18) && decide (i % 3 = 0)) := by
    by_cases hi : i < 18
    · have : ∀ j, j < 18 → Nat.testBit 37449 j = (decide (j < 18) && decide (j % 3 = 0)) := by decide
      exact this i hi
    · have h1 : Nat.testBit 37449 i = false := Nat.testBit_lt_two_pow (Nat.lt_of_lt_of_le (show 37449 < 2 ^ 18 by decide) (Nat.pow_le_pow_right (by omega) (by omega)))
      rw [h1]; simp [hi]
  rw [hm]
  by_cases hi : i < 18
  · by_cases h3 : i % 3 = 0
    · have e1 : (i + 1) / 3 = i / 3 := by omega
      have e2 : (i + 2) / 3 = i / 3 := by omega
      have e3 : (i + 1) % 3 = 1 := by omega
      have e4 : (i + 2) % 3 = 2 := by omega
      have e5 : i + 1 < 18 := by omega
      have e6 : i + 2 < 18 := by omega
      rw [e1, e2, e3, e4, h3]
      have hf := h (i / 3) (by omega)
      have key : ∀ n, n < 8 → (n.testBit 0 || n.testBit 1 || n.testBit 2) = (if n = 0 then 0 else 1).testBit 0 := by decide
      simp only [hi, e5, e6, decide_true, Bool.true_and, Bool.and_true]
      exact key _ hf
    · have hf : ∀ n, n < 3 → n ≠ 0 → ∀ c : Bool, ((if c then 0 else 1 : Nat)).testBit n = false := by decide
      have h4 : ((fun b => if f b = 0 then 0 else 1) (i / 3) : Nat).testBit (i % 3) = false := by
        have := hf (i % 3) (by omega) h3 (decide (f (i / 3) = 0))
        simpa using this
      rw [h4]
      simp [h3]
  · simp [hi]
theorem rp_sub_ones {f : Nat → Nat} : rp f - rp (fun b => if f b = 0 then 0 else 1) = rp (fun b => f b - 1) := by
  have key : ∀ b, f b = (f b - 1) + (if f b = 0 then 0 else 1) := by intro b; split <;> omega
  unfold rp
  have k0 := key 0; have k1 := key 1; have k2 := key 2; have k3 := key 3; have k4 := key 4; have k5 := key 5
  dsimp only
  omega
/-! the same over ints -/
theorem rp_sh {b : Nat} (hb : b < 6) (v : Nat) (hv : v < 8) : (nI v : Int32) <<< (3 * nI b &&& 31) = nI (v * 2 ^ (3 * b)) := by
  have hv2 : v * 2 ^ (3 * b) < 2 ^ 32 := by
    rcases (show b = 0 ∨ b = 1 ∨ b = 2 ∨ b = 3 ∨ b = 4 ∨ b = 5 by omega) with rfl | rfl | rfl | rfl | rfl | rfl <;> simp only [Nat.reduceMul, Nat.reducePow] <;> omega
  refine pk_shlN _ (3 * b) ?_ hv2
  rcases (show b = 0 ∨ b = 1 ∨ b = 2 ∨ b = 3 ∨ b = 4 ∨ b = 5 by omega) with rfl | rfl | rfl | rfl | rfl | rfl <;> decide
theorem rp_open {f : Nat → Nat} (h : rp_ok f) {b : Nat} (hb : b < 6) : (nI (rp f) &&& 7 <<< (3 * nI b &&& 31) = 0) ↔ f b = 0 := by
  have h7 : (7 : Int32) <<< (3 * nI b &&& 31) = nI (7 * 2 ^ (3 * b)) := rp_sh hb 7 (by omega)
  rw [h7, fa_and, and_block, rp_dig h hb]
  have hlt := h b hb
  have hpos : 0 < 2 ^ (3 * b) := Nat.pos_of_ne_zero (by simp)
  have hv2 : f b * 2 ^ (3 * b) < 2 ^ 31 := by
    rcases (show b = 0 ∨ b = 1 ∨ b = 2 ∨ b = 3 ∨ b = 4 ∨ b = 5 by omega) with rfl | rfl | rfl | rfl | rfl | rfl <;> simp only [Nat.reduceMul, Nat.reducePow] <;> omega
  rw [show (0 : Int32) = nI 0 from rfl, nI_eq hv2 (by decide)]
  constructor
  · intro q
    rcases Nat.mul_eq_zero.mp q with q | q
    · exact q
    · omega
  · intro q; rw [q, Nat.zero_mul]
theorem rp_get {f : Nat → Nat} (h : rp_ok f) {b : Nat} (hb : b < 6) : nI (rp f) >>> (3 * nI b &&& 31) &&& 7 = nI (f b) := by
  have e1 : nI (rp f) >>> (3 * nI b &&& 31) = nI (rp f / 2 ^ (3 * b)) := by
    refine pk_shrN (Nat.lt_of_lt_of_le (rp_lt h) (by decide)) _ (3 * b) ?_
    rcases (show b = 0 ∨ b = 1 ∨ b = 2 ∨ b = 3 ∨ b = 4 ∨ b = 5 by omega) with rfl | rfl | rfl | rfl | rfl | rfl <;> decide
  rw [e1, show (7 : Int32) = nI (2 ^ 3 - 1) from rfl, fa_mask, show (2 : Nat) ^ 3 = 8 from rfl, rp_dig h hb]
theorem rp_not {b : Nat} (hb : b < 6) : (7 <<< (3 * nI b &&& 31) : Int32) ^^^ (-1) = nI (2 ^ 32 - 1 - 7 * 2 ^ (3 * b)) := by
  rcases (show b = 0 ∨ b = 1 ∨ b = 2 ∨ b = 3 ∨ b = 4 ∨ b = 5 by omega) with rfl | rfl | rfl | rfl | rfl | rfl <;> decide
theorem rp_put {f : Nat → Nat} (h : rp_ok f) {b v : Nat} (hb : b < 6) (hv : v < 8) : nI (rp f) &&& ((7 <<< (3 * nI b &&& 31)) ^^^ (-1)) ||| nI v <<< (3 * nI b &&& 31) = nI (rp (up f b v)) := by
  rw [rp_not hb, rp_sh hb v hv, fa_and, fa_or, put_block h hb hv]
theorem rp_tick {f : Nat → Nat} (h : rp_ok f) : nI (rp f) - ((nI (rp f) ||| nI (rp f) >>> (1 &&& 31) ||| nI (rp f) >>> (2 &&& 31)) &&& 37449) = nI (rp (fun b => f b - 1)) := by
  have hl := rp_lt h
  have e1 : nI (rp f) >>> ((1 : Int32) &&& 31) = nI (rp f / 2) := pk_shrN (by omega) _ 1 (by decide)
  have e2 : nI (rp f) >>> ((2 : Int32) &&& 31) = nI (rp f / 4) := pk_shrN (by omega) _ 2 (by decide)
  rw [e1, e2, fa_or, fa_or, show (37449 : Int32) = nI 37449 from rfl, fa_and, ones_block h, pk_sub ?_, rp_sub_ones]
  have key : ∀ b, (if f b = 0 then 0 else 1) ≤ f b := by intro b; split <;> omega
  unfold rp
  have k0 := key 0; have k1 := key 1; have k2 := key 2; have k3 := key 3; have k4 := key 4; have k5 := key 5
  dsimp only
  omega
