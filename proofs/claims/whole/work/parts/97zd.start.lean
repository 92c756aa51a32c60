/-! the start: what holds behind the two constructors -/
def s00 : Nat → Nat → Nat := fun r => if r = 0 then pg0 else if r = 7 then (fun _ => 3) else (fun _ => 0)
theorem sh_clT : ∀ e ∈ shT, e.1 < 72 ∧ (clT.getD e.1 (0, 0)).1 = e.2.1 ∧ (clT.getD e.1 (0, 0)).2 = e.2.2 := by decide +kernel
theorem sh_clR : ∀ e ∈ shR, e ∈ clR.take 70 := by decide +kernel
theorem clZ_72 : clZ 72 ≤ 210012 := by decide +kernel
section ST
variable {L : Nat} {xs : Nat → Int32} {h : xe_H}
theorem Inv_0 (B : BK L xs 72 70 h) (tv : tn_v h 1 pg0) (l46 : ∀ j, j < 4 → xe_I h 46 j = -1) (z48 : ∀ j, ¬ j = 1 → xe_I h 48 j = 0) (z1 : xe_I h 48 1 = 2) (wd : mWd h) (z69 : ∀ j, j < 4 → xe_I h 69 j = -4) : Inv L xs s00 (fun _ => 0) h := by
  obtain ⟨hb, h24, h31, h32, h33, h34, h35, h36, h37, -⟩ := pg0_v
  have pg : pg_ok pg0 := gq_pg gq_0 (by omega) (by omega)
  obtain ⟨⟨b1, b2, -⟩, b3, b4, b5, b6⟩ := id B
  have o : ∀ a j, a < 72 → a ∉ clS → xe_I h a j = nI 0 := fun a j h1 h2 => b6 a j h1 h2
  refine ⟨⟨⟨by rw [b1]; exact Nat.le_refl _, by rw [b1]; unfold xe_S; omega⟩, fun e he => ?_, fun e he => b5 e (sh_clR e he)⟩, ⟨31, 0, BK_R B (by decide), by omega, Or.inl rfl, BK_ob B (by decide) (by decide), BK_N B (by decide) (by decide), by rw [b1]; exact Nat.le_refl _, by rw [b2]; exact clZ_72⟩, b4, ⟨pg, ⟨⟨Nat.zero_le _, fun z => absurd z (by show ¬ (0 : Nat) = 1; decide)⟩, ⟨Nat.zero_le _, fun z => absurd z (by show ¬ (0 : Nat) = 1; decide)⟩⟩, ⟨Nat.zero_le _, fun k hk => absurd hk (Nat.not_lt_zero k)⟩, ⟨Nat.zero_le _, fun k hk => absurd hk (Nat.not_lt_zero k)⟩, fun k hk => ⟨Nat.le_refl _, Nat.zero_le _⟩, Nat.zero_le _, Nat.zero_le _⟩, ⟨tv, ⟨⟨o 26 0 (by decide) (by decide), o 26 1 (by decide) (by decide)⟩, fun z => absurd z (by show ¬ (0 : Nat) = 1; decide), fun z => absurd z (by show ¬ (0 : Nat) = 1; decide)⟩, ⟨o 27 1 (by decide) (by decide), o 27 2 (by decide) (by decide), fun k hk => absurd hk (Nat.not_lt_zero k)⟩, ⟨o 36 0 (by decide) (by decide), fun k hk => absurd hk (Nat.not_lt_zero k)⟩, ⟨fun k hk => ⟨l46 k hk, o 47 k (by decide) (by decide)⟩, fun j hj => o 45 j (by decide) (by decide)⟩, o 0 9 (by decide) (by decide)⟩, ⟨⟨⟨⟨?_, ?_, ?_, ?_, ?_⟩, fun b hb' => ?_, fun b hb' => ⟨fun y => ?_, ?_⟩, fun p hp => ?_⟩, ?_⟩, ⟨⟨o 68 0 (by decide) (by decide), o 68 1 (by decide) (by decide)⟩, fun z => absurd z (by show ¬ (0 : Nat) = 1; decide), fun z => absurd z (by show ¬ (0 : Nat) = 1; decide)⟩, ⟨z48 12 (by decide), z48 13 (by decide), fun k hk => absurd hk (Nat.not_lt_zero k)⟩, ⟨z48 32 (by decide), fun k hk => absurd hk (Nat.not_lt_zero k)⟩, ⟨fun k hk => ⟨z69 k hk, o 70 k (by decide) (by decide)⟩, fun j hj => o 71 j (by decide) (by decide)⟩, z48 40 (by decide), wd⟩⟩
  · obtain ⟨e1, e2, e3⟩ := sh_clT e he
    have := b3 e.1 e1
    rw [e2, e3] at this
    exact this
  · show xe_I h 49 (0 + 24) = nI (pg0 24); rw [h24]; exact o 49 _ (by decide) (by decide)
  · show xe_I h 49 (0 + 31) = nI (pg0 31); rw [h31]; exact o 49 _ (by decide) (by decide)
  · show xe_I h 49 (0 + 32) = nI (pg0 32); rw [h32]; exact o 49 _ (by decide) (by decide)
  · show xe_I h 49 (0 + 33) = nI (pg0 33) - 2; rw [h33]; exact o 49 _ (by decide) (by decide)
  · show xe_I h 49 (0 + 34) = nI (pg0 34); rw [h34]; exact o 49 _ (by decide) (by decide)
  · exact absurd (show b < pg0 24 from hb') (by omega)
  · exact absurd (show b < pg0 24 from y) (by omega)
  · show xe_I h 49 (0 + (4 * b + 3)) = nI (pg0 (4 * b + 3)); rw [(hb b hb').2]; exact o 49 _ (by decide) (by decide)
  · exact absurd (show p < pg0 31 from hp) (by omega)
  · show xe_I h 48 1 = nI (pg0 35); rw [h35]; exact z1
end ST
