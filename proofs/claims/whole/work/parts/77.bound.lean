/-! no way is long -/
theorem ct_more {p q : Nat → Bool} {n p0 : Nat} (h : ∀ k, k < n → p k = true → q k = true) (h0 : p0 < n) (hp : p p0 = false) (hq : q p0 = true) : fb_ct p n + 1 ≤ fb_ct q n := by
  rw [← ct_one h0, ← fb_ct_or (fun k _ z => ?_)]
  · refine fb_ct_sub (fun k hk z => ?_)
    rw [Bool.or_eq_true] at z
    rcases z with z | z
    · exact h k hk z
    · rw [of_decide_eq_true z]; exact hq
  · obtain ⟨z1, z2⟩ := z
    rw [of_decide_eq_true z2, hp] at z1
    cases z1
section BD
variable {nx : Nat → Nat → Option Nat} {S M s0 H : Nat}
def cov (nx : Nat → Nat → Option Nat) (M s0 H t p : Nat) : Prop := ∃ j, j < H ∧ bS (bB nx M s0 H) j / 4096 = p ∧ bD (bB nx M s0 H) j ≤ t
noncomputable def covB (nx : Nat → Nat → Option Nat) (M s0 H t p : Nat) : Bool := @decide (cov nx M s0 H t p) (Classical.propDecidable _)
theorem covB_t {t p : Nat} : covB nx M s0 H t p = true ↔ cov nx M s0 H t p := ⟨fun h => @of_decide_eq_true _ (Classical.propDecidable _) h, fun h => @decide_eq_true _ (Classical.propDecidable _) h⟩
theorem bound_step {t : Nat} (hS : S = 4096 * 25) (h0 : s0 < S) (hn : ∀ x m s, x < S → nx x m = some s → s < S) (hM : 0 < M) (hH : (bB nx M s0 H).1 = H) (hh : ∀ h, h < H → h < (bB nx M s0 h).1)
    (st : ∀ x, x < S → ∃ x1 x2, nx x 0 = some x1 ∧ nx x1 0 = some x2 ∧ nx x2 0 = some (4096 * (x / 4096))) (wk : ∀ x m s, x < S → nx x m = some s → ∃ s', nx (4096 * (x / 4096)) m = some s' ∧ s' / 4096 = s / 4096) (mM : ∀ i, 0 < i → i < H → bM (bB nx M s0 H) i < M ∧ nx (bS (bB nx M s0 H) (bF (bB nx M s0 H) i)) (bM (bB nx M s0 H) i) = some (bS (bB nx M s0 H) i))
    (hx : ∃ i, i < H ∧ ¬ cov nx M s0 H t (bS (bB nx M s0 H) i / 4096)) : ∃ p, p < 25 ∧ cov nx M s0 H (t + 4) p ∧ ¬ cov nx M s0 H t p := by
  obtain ⟨g0, g1, g2, g3, g4, g5⟩ := (bB_G (M := M) h0 hn H).1
  rw [hH] at g0 g1 g2 g4 g5
  obtain ⟨i, i1, i2, i3⟩ := @fb_first (fun i => ¬ cov nx M s0 H t (bS (bB nx M s0 H) i / 4096)) (fun _ => Classical.propDecidable _) H hx
  have hi0 : 0 < i := by
    by_cases z : i = 0
    · subst z
      exact absurd ⟨0, g0, rfl, by rw [g3]; omega⟩ i2
    · omega
  obtain ⟨f1, f2⟩ := g4 i hi0 i1
  obtain ⟨m1, m2⟩ := mM i hi0 i1
  have cf : cov nx M s0 H t (bS (bB nx M s0 H) (bF (bB nx M s0 H) i) / 4096) := Classical.byContradiction fun z => i3 _ f1 z
  obtain ⟨j, j1, j2, j3⟩ := cf
  obtain ⟨x1, x2, e1, e2, e3⟩ := st _ (g1 j j1)
  obtain ⟨j4, a1, a2, a3⟩ := bB_in h0 hn hH hh j1 hM e1
  rw [← a2] at e2
  obtain ⟨j5, b1, b2, b3⟩ := bB_in h0 hn hH hh a1 hM e2
  rw [← b2] at e3
  obtain ⟨j6, c1, c2, c3⟩ := bB_in h0 hn hH hh b1 hM e3
  obtain ⟨s', w1, w2⟩ := wk _ _ _ (g1 _ (by omega)) m2
  rw [← j2, ← c2] at w1
  obtain ⟨j7, d1, d2, d3⟩ := bB_in h0 hn hH hh c1 m1 w1
  refine ⟨bS (bB nx M s0 H) i / 4096, ?_, ⟨j7, d1, by rw [d2]; exact w2, by omega⟩, i2⟩
  have := g1 i i1
  omega
theorem bound_all (hS : S = 4096 * 25) (h0 : s0 < S) (hn : ∀ x m s, x < S → nx x m = some s → s < S) (hM : 0 < M) (hH : (bB nx M s0 H).1 = H) (hh : ∀ h, h < H → h < (bB nx M s0 h).1)
    (st : ∀ x, x < S → ∃ x1 x2, nx x 0 = some x1 ∧ nx x1 0 = some x2 ∧ nx x2 0 = some (4096 * (x / 4096))) (wk : ∀ x m s, x < S → nx x m = some s → ∃ s', nx (4096 * (x / 4096)) m = some s' ∧ s' / 4096 = s / 4096) (mM : ∀ i, 0 < i → i < H → bM (bB nx M s0 H) i < M ∧ nx (bS (bB nx M s0 H) (bF (bB nx M s0 H) i)) (bM (bB nx M s0 H) i) = some (bS (bB nx M s0 H) i)) : ∀ i, i < H → cov nx M s0 H 100 (bS (bB nx M s0 H) i / 4096) := by
  have g := (bB_G (M := M) h0 hn H).1
  have key : ∀ j, (∃ i, i < H ∧ ¬ cov nx M s0 H (4 * j) (bS (bB nx M s0 H) i / 4096)) → j + 1 ≤ fb_ct (covB nx M s0 H (4 * j)) 25 := by
    intro j
    induction j with
    | zero =>
      intro _
      refine fb_ct_pos.mpr ⟨bS (bB nx M s0 H) 0 / 4096, ?_, covB_t.mpr ⟨0, by rw [← hH]; exact g.1, rfl, by rw [g.2.2.2.1]; omega⟩⟩
      have := g.2.1 0 g.1
      omega
    | succ j ih =>
      rintro ⟨i, i1, i2⟩
      have hx : ∃ i, i < H ∧ ¬ cov nx M s0 H (4 * j) (bS (bB nx M s0 H) i / 4096) := ⟨i, i1, fun ⟨k, k1, k2, k3⟩ => i2 ⟨k, k1, k2, by omega⟩⟩
      obtain ⟨p, p1, p2, p3⟩ := bound_step hS h0 hn hM hH hh st wk mM hx
      have c := ct_more (p := covB nx M s0 H (4 * j)) (q := covB nx M s0 H (4 * (j + 1))) (n := 25) (p0 := p) (fun k _ z => by
        obtain ⟨a, a1, a2, a3⟩ := covB_t.mp z
        exact covB_t.mpr ⟨a, a1, a2, by omega⟩) p1 (by
        cases e : covB nx M s0 H (4 * j) p with
        | false => rfl
        | true => exact absurd (covB_t.mp e) p3) (covB_t.mpr p2)
      have := ih hx
      omega
  intro i hi
  refine Classical.byContradiction fun z => ?_
  have h1 := key 25 ⟨i, hi, z⟩
  have h2 := fb_ct_le (covB nx M s0 H (4 * 25)) 25
  omega
/-- whence an entry came, it came by its move -/
def bV (nx : Nat → Nat → Option Nat) (M : Nat) (b : bL) : Prop := ∀ i, 0 < i → i < b.1 → bF b i < b.1 ∧ bM b i < M ∧ nx (bS b (bF b i)) (bM b i) = some (bS b i)
theorem bA_V {b : bL} {s k m : Nat} (H : bV nx M b) (hk : k < b.1) (hm : m < M) (e : nx (bS b k) m = some s) : bV nx M (bA b s k m) := by
  cases hkn : kn b s with
  | true => rw [bA_old hkn]; exact H
  | false =>
    rw [bA_new hkn]
    intro i h1 h2
    have h2 : i < b.1 + 1 := h2
    show (if i = b.1 then ((s, k, m, bD b k + 1) : bE4) else b.2 i).2.1 < b.1 + 1 ∧ (if i = b.1 then ((s, k, m, bD b k + 1) : bE4) else b.2 i).2.2.1 < M ∧ nx ((if (if i = b.1 then ((s, k, m, bD b k + 1) : bE4) else b.2 i).2.1 = b.1 then ((s, k, m, bD b k + 1) : bE4) else b.2 ((if i = b.1 then ((s, k, m, bD b k + 1) : bE4) else b.2 i).2.1)).1) ((if i = b.1 then ((s, k, m, bD b k + 1) : bE4) else b.2 i).2.2.1) = some ((if i = b.1 then ((s, k, m, bD b k + 1) : bE4) else b.2 i).1)
    by_cases z : i = b.1
    · rw [if_pos z]
      refine ⟨by show k < _; omega, hm, ?_⟩
      rw [if_neg (show ¬ k = b.1 by omega)]
      exact e
    · rw [if_neg z]
      obtain ⟨q1, q2, q3⟩ := H i h1 (by omega)
      refine ⟨by show bF b i < _; omega, q2, ?_⟩
      have q4 : ¬ (b.2 i).2.1 = b.1 := fun w => by have : (b.2 i).2.1 < b.1 := q1; omega
      rw [if_neg q4]
      exact q3
theorem bX_V {k : Nat} {b : bL} (H : bV nx M b) (hk : k < b.1) : ∀ m, m ≤ M → bV nx M (bX nx k m b)
  | 0, _ => H
  | m + 1, hm => by
    have i1 := bX_V H hk m (by omega)
    have P := bX_P nx k b m
    rw [bX]
    split
    · rename_i s e
      refine bA_V i1 (Nat.lt_of_lt_of_le hk P.1) (by omega) ?_
      rw [(bP_S P hk).1]; exact e
    · exact i1
theorem bB_V : ∀ h, bV nx M (bB nx M s0 h)
  | 0 => fun i h1 h2 => absurd h2 (by show ¬ i < 1; omega)
  | h + 1 => by
    rw [bB]
    split
    · rename_i hh
      exact bX_V (bB_V h) hh M (Nat.le_refl _)
    · exact bB_V h
end BD
