/-- the law, on the small machine -/
theorem xe_law (L : Nat) (xs : Nat → Int32) (hL : L ≤ 2560) : ∃ d, d ≤ 1000 ∧ xe_C (d + 1) 219 [.ref xe_S] (xe_h0 L xs) (fun v h => v = some (.int 1) ∧ xe_n h ≤ 600000 ∧ xe_z h ≤ 7302250) := sorry
