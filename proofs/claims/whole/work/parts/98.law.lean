/-! the law's loop, and the law -/
theorem ite_c {c : Prop} [Decidable c] {p q : Prop} (hp : p) (hq : q) : if c then p else q := by
  split
  · exact hp
  · exact hq
section LL
variable {d L i : Nat} {xs : Nat → Int32} {s : Nat → Nat → Nat} {ce : Nat → Int32} {h : xe_H} {Q : Option Value → xe_H → Prop}
theorem law_lt (hL : L ≤ 2560) (hi : i ≤ L + 5) : (Int32.ofNat L - 5 < nI i) = (L < i + 5) := by
  show (nI L - nI 5 < nI i) = _
  by_cases h5 : 5 ≤ L
  · rw [pk_sub h5, nIlt (by omega) (by omega)]
    exact propext ⟨fun _ => by omega, fun _ => by omega⟩
  · refine propext ⟨fun _ => by omega, fun _ => ?_⟩
    rw [fa_lt, nI_toInt (show i < 2 ^ 31 by omega)]
    have hz : (nI L - nI 5).toInt < 0 := by
      rcases (show L = 0 ∨ L = 1 ∨ L = 2 ∨ L = 3 ∨ L = 4 by omega) with e | e | e | e | e <;> rw [e] <;> decide
    omega
theorem law_head (R : rd L xs h) (hL : L ≤ 2560) (hi : i ≤ L + 5) : xe_P (d + 40) 219 18 [.ref xe_S, .ref 0, .ref 48, .int (nI i)] [] h Q = (if L < i + 5 then xe_P (d + 40) 219 1222 [.ref xe_S, .ref 0, .ref 48, .int (nI i)] [] h Q else xe_P (d + 40) 219 26 [.ref xe_S, .ref 0, .ref 48, .int (nI i)] [] h Q) := by
  have a := rd_al R
  rw [xs_219_18, xs_219_19, xs_219_20, xs_219_21, xs_219_22, xs_219_23, R.2.2.1]
  simp only [a, true_and, law_lt hL hi]
theorem law_body (HI : Inv L xs s ce h) (hi : i + 5 ≤ L) (hL : L ≤ 2560) (K : ∀ h', (∃ s ce, Inv L xs s ce h') → xe_P (d + 40) 219 1216 [.ref xe_S, .ref 0, .ref 48, .int (nI i)] [] h' Q) : xe_P (d + 40) 219 26 [.ref xe_S, .ref 0, .ref 48, .int (nI i)] [] h Q := by
  have R := rd_Inv HI
  rw [xs_219_26, xs_219_27, xs_219_28]
  refine ⟨⟨rd_ia R, rd_ix0 R (by omega) hL⟩, ?_⟩
  rw [xs_219_29, xs_219_31]
  generalize xe_I h xe_S (nI i).toNatClampNeg &&& 63 = t
  rw [xs_219_32]
  exact (ite_c (lc_0 HI hi hL K) (ite_c (lc_1 HI hi hL K) (ite_c (lc_2 HI hi hL K) (ite_c (lc_3 HI hi hL K) (ite_c (lc_4 HI hi hL K) (ite_c (lc_5 HI hi hL K) (ite_c (lc_6 HI hi hL K) (ite_c (lc_7 HI hi hL K) (ite_c (lc_8 HI hi hL K) (ite_c (lc_9 HI hi hL K) (ite_c (lc_10 HI hi hL K) (ite_c (lc_11 HI hi hL K) (ite_c (lc_12 HI hi hL K) (ite_c (lc_13 HI hi hL K) (ite_c (lc_14 HI hi hL K) (ite_c (lc_15 HI hi hL K) (ite_c (lc_16 HI hi hL K) (ite_c (lc_17 HI hi hL K) (ite_c (lc_18 HI hi hL K) (ite_c (lc_19 HI hi hL K) (ite_c (lc_20 HI hi hL K) (ite_c (lc_21 HI hi hL K) (ite_c (lc_22 HI hi hL K) (ite_c (lc_23 HI hi hL K) (ite_c (lc_24 HI hi hL K) (ite_c (lc_25 HI hi hL K) (ite_c (lc_26 HI hi hL K) (ite_c (lc_27 HI hi hL K) (ite_c (lc_28 HI hi hL K) (ite_c (lc_29 HI hi hL K) (ite_c (lc_30 HI hi hL K) (ite_c (lc_31 HI hi hL K) (ite_c (lc_32 HI hi hL K) (K h ⟨s, ce, HI⟩))))))))))))))))))))))))))))))))))
theorem law_loop (hL : L ≤ 2560) (Z : ∀ i h, (∃ s ce, Inv L xs s ce h) → xe_P (d + 40) 219 1222 [.ref xe_S, .ref 0, .ref 48, .int (nI i)] [] h Q) : ∀ n i h, i ≤ L + 5 → L + 5 - i ≤ n → (∃ s ce, Inv L xs s ce h) → xe_P (d + 40) 219 18 [.ref xe_S, .ref 0, .ref 48, .int (nI i)] [] h Q := by
  intro n
  induction n with
  | zero =>
    intro i h h1 h2 hI
    obtain ⟨s, ce, HI⟩ := hI
    rw [law_head (rd_Inv HI) hL h1, if_pos (by omega)]
    exact Z i h ⟨s, ce, HI⟩
  | succ n ih =>
    intro i h h1 h2 hI
    obtain ⟨s, ce, HI⟩ := hI
    rw [law_head (rd_Inv HI) hL h1]
    by_cases hc : L < i + 5
    · rw [if_pos hc]
      exact Z i h ⟨s, ce, HI⟩
    · rw [if_neg hc]
      refine law_body HI (by omega) hL (fun h' I' => ?_)
      rw [xs_219_1216, xs_219_1219, xc_ref, show nI i + 5 = nI (i + 5) from by rw [show (5 : Int32) = nI 5 from rfl, nI_add]]
      exact ih (i + 5) h' (by omega) (by omega) I'
end LL
/-- the law, on the small machine -/
theorem xe_law (L : Nat) (xs : Nat → Int32) (hL : L ≤ 2560) : ∃ d, d ≤ 1000 ∧ xe_C (d + 1) 219 [.ref xe_S] (xe_h0 L xs) (fun v h => v = some (.int 1) ∧ xe_n h ≤ 600000 ∧ xe_z h ≤ 7302250) := by
  refine ⟨40, by omega, ?_⟩
  refine law_start (d := 0) (fun h I => ?_)
  refine law_loop hL (fun i h' I' => ?_) (L + 5) 0 h (by omega) (by omega) ⟨_, _, I⟩
  obtain ⟨s, ce, HI⟩ := I'
  rw [xs_219_1222, xs_219_1223]
  obtain ⟨q, k, -, hk, -, -, -, n1, z1⟩ := HI.2.1
  have hp : 2 ^ k ≤ 2 ^ 9 := Nat.pow_le_pow_right (by decide) hk
  exact ⟨Or.inr rfl, rfl, by omega, by omega⟩
