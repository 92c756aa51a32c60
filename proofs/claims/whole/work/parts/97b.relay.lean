/-! relay: how far, as a number -/
def wyN (g : Nat → Nat) (p : Nat) : Nat := if bK (nxt false g) (mxt false g) (4096 * g (25 + 2 * p) + rc (gr g)) (g (26 + 2 * p)) < bend (nxt false g) (mxt false g) (4096 * g (25 + 2 * p) + rc (gr g)) then bD (bZ (nxt false g) (mxt false g) (4096 * g (25 + 2 * p) + rc (gr g))) (bK (nxt false g) (mxt false g) (4096 * g (25 + 2 * p) + rc (gr g)) (g (26 + 2 * p))) else 1000000
theorem wz {nx : Nat → Nat → Option Nat} {M s0 G : Nat} (h0 : s0 < 4096 * 25) (hn : ∀ x m s, x < 4096 * 25 → nx x m = some s → s < 4096 * 25) : (bK nx M s0 G < bend nx M s0 ∧ bD (bZ nx M s0) (bK nx M s0 G) = 0) ↔ s0 / 4096 = G := by
  obtain ⟨E1, E2, E3⟩ := bend_ok (M := M) h0 hn
  have gZ : bG (4096 * 25) (bZ nx M s0) := (bB_G (M := M) h0 hn (bend nx M s0)).1
  have bpos : 0 < bend nx M s0 := by rw [← E2]; exact gZ.1
  have PZ := bZ_P (nx := nx) (M := M) (s0 := s0) (k := 0) (by omega)
  have eS : bS (bZ nx M s0) 0 = s0 := (bP_S PZ (show 0 < 1 by decide)).1
  constructor
  · rintro ⟨k1, k2⟩
    have e := bK_hit k1
    rw [(dep_0 gZ (by rw [E2]; exact k1)).mp k2, eS] at e
    exact e
  · intro e
    have eK : bK nx M s0 G = 0 := ff_at (fun i hi => absurd hi (by omega)) bpos (decide_eq_true (by rw [eS]; exact e))
    rw [eK]
    exact ⟨bpos, gZ.2.2.2.1⟩
section RA
variable {g : Nat → Nat} {p : Nat}
theorem ry_s0 (hg : pg_ok g) (hp : p < g 31) : 4096 * g (25 + 2 * p) + rc (gr g) < 4096 * 5 ∧ (4096 * g (25 + 2 * p) + rc (gr g)) / 4096 = g (25 + 2 * p) := by
  have h35 : g 35 ≤ 5 := hg.2.2.2.2.2.2.2.1
  obtain ⟨hpl, hgo⟩ := hg.2.2.2.2.2.2.2.2.2.2.2 p hp
  have hrc := rc_lt (f := gr g) hg.2.2.2.2.2.2.2.2.2.1
  omega
theorem ry_100 (hg : pg_ok g) (hp : p < g 31) (z : bK (nxt false g) (mxt false g) (4096 * g (25 + 2 * p) + rc (gr g)) (g (26 + 2 * p)) < bend (nxt false g) (mxt false g) (4096 * g (25 + 2 * p) + rc (gr g))) : bD (bZ (nxt false g) (mxt false g) (4096 * g (25 + 2 * p) + rc (gr g))) (bK (nxt false g) (mxt false g) (4096 * g (25 + 2 * p) + rc (gr g)) (g (26 + 2 * p))) ≤ 100 := by
  have := (ry_s0 hg hp).1
  exact bK_100 (nx := nx1 g) (show 4096 * g (25 + 2 * p) + rc (gr g) < 4096 * 25 by omega) (nx1_b hg) (show 0 < g 24 + 1 by omega) (fun x _ => stay3 (fun w f hf => stay_1 hf) x) (weak_1 hg) z
theorem wyN_c (hg : pg_ok g) (hp : p < g 31) : wyN g p ≤ 100 ∨ wyN g p = 1000000 := by
  unfold wyN
  by_cases z : bK (nxt false g) (mxt false g) (4096 * g (25 + 2 * p) + rc (gr g)) (g (26 + 2 * p)) < bend (nxt false g) (mxt false g) (4096 * g (25 + 2 * p) + rc (gr g))
  · rw [if_pos z]; exact Or.inl (ry_100 hg hp z)
  · rw [if_neg z]; exact Or.inr rfl
theorem wyG_N (hg : pg_ok g) (hp : p < g 31) : wyG g p = if wyN g p = 1000000 then -4 else nI (wyN g p) := by
  unfold wyG wyA wyN
  rw [show nx1 g = nxt false g from rfl, show g 24 + 1 = mxt false g from rfl]
  by_cases z : bK (nxt false g) (mxt false g) (4096 * g (25 + 2 * p) + rc (gr g)) (g (26 + 2 * p)) < bend (nxt false g) (mxt false g) (4096 * g (25 + 2 * p) + rc (gr g))
  · have := ry_100 hg hp z
    rw [if_pos z, if_pos z, if_neg (by omega)]
    unfold tld
    rw [if_pos rfl]
  · rw [if_neg z, if_neg z, if_pos rfl]
theorem wyN_0 (hg : pg_ok g) (hp : p < g 31) : wyN g p = 0 ↔ g (25 + 2 * p) = g (26 + 2 * p) := by
  obtain ⟨s1, s2⟩ := ry_s0 hg hp
  have w := wz (nx := nxt false g) (M := mxt false g) (s0 := 4096 * g (25 + 2 * p) + rc (gr g)) (G := g (26 + 2 * p)) (by omega) (nxt_B (t := false) hg)
  rw [s2] at w
  rw [← w]
  unfold wyN
  by_cases z : bK (nxt false g) (mxt false g) (4096 * g (25 + 2 * p) + rc (gr g)) (g (26 + 2 * p)) < bend (nxt false g) (mxt false g) (4096 * g (25 + 2 * p) + rc (gr g))
  · rw [if_pos z]; exact ⟨fun y => ⟨z, y⟩, fun y => y.2⟩
  · rw [if_neg z]; exact ⟨fun y => absurd y (by decide), fun y => absurd y.1 z⟩
/-- the best so far, as a number -/
def rkn (g : Nat → Nat) (p : Nat) : Nat → Nat × Int32
  | 0 => (wyN g p, -4)
  | k + 1 => if (¬ k % 10 = k / 10 ∧ (k % 10 < g 24 ∨ k % 10 = 6)) ∧ wyN (up g (4 * (k / 10) + 2) (k % 10)) p < (rkn g p k).1 then (wyN (up g (4 * (k / 10) + 2) (k % 10)) p, nI k) else rkn g p k
theorem rkn_ok (hg : pg_ok g) (hp : p < g 31) : ∀ k, k ≤ 10 * g 24 → ((rkn g p k).1 ≤ 100 ∨ (rkn g p k).1 = 1000000) ∧ (rkn g p k).1 ≤ wyN g p ∧ rlk g p k = (if (rkn g p k).1 = 1000000 then -4 else nI (rkn g p k).1, (rkn g p k).2) ∧ (0 < wyN g p → 0 < (rkn g p k).1) ∧ (wyN g p = 0 → (rkn g p k).2 = -4)
  | 0, _ => by
    have a := wyN_c hg hp
    have b := wyG_N hg hp
    rw [rlk, rkn, b]
    generalize wyN g p = W at a ⊢
    exact ⟨a, Nat.le_refl _, rfl, fun z => z, fun _ => rfl⟩
  | k + 1, hk => by
    obtain ⟨i1, i2, i3, i4, i5⟩ := rkn_ok hg hp k (by omega)
    have h24 : g 24 ≤ 6 := hg.1
    have h31 : g 31 ≤ 3 := hg.2.1
    rw [rlk, rkn]
    by_cases c : ¬ k % 10 = k / 10 ∧ (k % 10 < g 24 ∨ k % 10 = 6)
    · have hv : k % 10 = 6 ∨ (k % 10 < g 24 ∧ k % 10 ≠ k / 10) := c.2.elim (fun y => Or.inr ⟨y, c.1⟩) Or.inl
      have g' := pg_hang hg (show k / 10 < g 24 by omega) hv
      have u31 : p < up g (4 * (k / 10) + 2) (k % 10) 31 := by rw [up_ne (by omega)]; exact hp
      have u26 : up g (4 * (k / 10) + 2) (k % 10) (26 + 2 * p) = g (26 + 2 * p) := up_ne (by omega)
      have u25 : up g (4 * (k / 10) + 2) (k % 10) (25 + 2 * p) = g (25 + 2 * p) := up_ne (by omega)
      have w1 := wyN_c g' u31
      have w2 := wyG_N g' u31
      have w3 : wyN (up g (4 * (k / 10) + 2) (k % 10)) p = 0 ↔ wyN g p = 0 := by
        rw [wyN_0 g' u31, wyN_0 hg hp, u26, u25]
      rw [w2, i3]
      generalize wyN (up g (4 * (k / 10) + 2) (k % 10)) p = W at w1 w2 w3 ⊢
      generalize rkn g p k = R at i1 i2 i3 i4 i5 ⊢
      obtain ⟨r, e⟩ := R
      dsimp only at i1 i2 i3 i4 i5 ⊢
      by_cases y : W < r
      · have e1 : (if W = 1000000 then (-4 : Int32) else nI W) = nI W := if_neg (by omega)
        rw [if_pos ⟨c, y⟩]
        rw [if_pos ⟨c, by rw [e1, nI_ne4 (by omega)]; exact id, by
          by_cases q : r = 1000000
          · left; rw [if_pos q]
          · right; rw [if_neg q, e1, nIlt (by omega) (by omega)]; exact y⟩]
        exact ⟨w1, by dsimp only; omega, rfl, fun z => by dsimp only; omega, fun z => by omega⟩
      · rw [if_neg (fun q => y q.2)]
        rw [if_neg]
        · exact ⟨i1, i2, rfl, i4, i5⟩
        · rintro ⟨-, q1, q2⟩
          by_cases q : W = 1000000
          · exact q1 (if_pos q)
          · rw [if_neg q] at q2
            by_cases q3 : r = 1000000
            · omega
            · rw [if_neg q3, nI_ne4 (by omega), nIlt (by omega) (by omega)] at q2
              exact q2.elim id y
    · rw [if_neg (fun z => c z.1), if_neg (fun z => c z.1)]
      exact ⟨i1, i2, i3, i4, i5⟩
theorem rkn_no {k : Nat} (c : ¬ ((¬ k % 10 = k / 10 ∧ (k % 10 < g 24 ∨ k % 10 = 6)) ∧ wyN (up g (4 * (k / 10) + 2) (k % 10)) p < (rkn g p k).1)) : rkn g p (k + 1) = rkn g p k := by rw [rkn, if_neg c]
theorem rkn_yes {k : Nat} (c : (¬ k % 10 = k / 10 ∧ (k % 10 < g 24 ∨ k % 10 = 6)) ∧ wyN (up g (4 * (k / 10) + 2) (k % 10)) p < (rkn g p k).1) : rkn g p (k + 1) = (wyN (up g (4 * (k / 10) + 2) (k % 10)) p, nI k) := by rw [rkn, if_pos c]
theorem rkn_lt (hg : pg_ok g) (hp : p < g 31) : ∀ k, ¬ 1000000 < (rkn g p k).1
  | 0 => by
    have := wyN_c hg hp
    rw [rkn]
    dsimp only
    omega
  | k + 1 => by
    have := rkn_lt hg hp k
    rw [rkn]
    split
    · rename_i c
      have c2 := c.2
      dsimp only
      omega
    · exact this
theorem rkn_small (hg : pg_ok g) (hp : p < g 31) : ∀ k, ¬ (rkn g p k).2 = -4 → ¬ (rkn g p k).1 = 1000000
  | 0 => fun z => absurd rfl z
  | k + 1 => by
    rw [rkn]
    split
    · rename_i c
      intro _ e
      dsimp only at e
      have c2 := c.2
      rw [e] at c2
      exact absurd c2 (rkn_lt hg hp k)
    · exact rkn_small hg hp k
end RA
