/-! breadth first: the mathematics. A list of entries: a state, whence, by which move, how deep -/
abbrev bE4 : Type := Nat × Nat × Nat × Nat
abbrev bL : Type := Nat × (Nat → bE4)
def bS (b : bL) (i : Nat) : Nat := (b.2 i).1
def bF (b : bL) (i : Nat) : Nat := (b.2 i).2.1
def bM (b : bL) (i : Nat) : Nat := (b.2 i).2.2.1
def bD (b : bL) (i : Nat) : Nat := (b.2 i).2.2.2
def kn (b : bL) (s : Nat) : Bool := decide (0 < fb_ct (fun i => decide (bS b i = s)) b.1)
theorem kn_t {b : bL} {s : Nat} : kn b s = true ↔ ∃ i, i < b.1 ∧ bS b i = s := by
  unfold kn
  rw [decide_eq_true_iff, fb_ct_pos]
  constructor
  · rintro ⟨i, h1, h2⟩; exact ⟨i, h1, of_decide_eq_true h2⟩
  · rintro ⟨i, h1, h2⟩; exact ⟨i, h1, decide_eq_true h2⟩
def bA (b : bL) (s k m : Nat) : bL := if kn b s then b else (b.1 + 1, fun j => if j = b.1 then (s, k, m, bD b k + 1) else b.2 j)
/-- a head's successors, the first m moves -/
def bX (nx : Nat → Nat → Option Nat) (k : Nat) : Nat → bL → bL
  | 0, b => b
  | m + 1, b => match nx (bS b k) m with
    | some s => bA (bX nx k m b) s k m
    | none => bX nx k m b
def bB (nx : Nat → Nat → Option Nat) (M s0 : Nat) : Nat → bL
  | 0 => (1, fun _ => (s0, 0, 0, 0))
  | h + 1 => if h < (bB nx M s0 h).1 then bX nx h M (bB nx M s0 h) else bB nx M s0 h
/-- b' goes on from b -/
def bP (b b' : bL) : Prop := b.1 ≤ b'.1 ∧ ∀ i, i < b.1 → b'.2 i = b.2 i
theorem bP_rf (b : bL) : bP b b := ⟨Nat.le_refl _, fun _ _ => rfl⟩
theorem bP_tr {a b c : bL} (H1 : bP a b) (H2 : bP b c) : bP a c := ⟨Nat.le_trans H1.1 H2.1, fun i hi => (H2.2 i (Nat.lt_of_lt_of_le hi H1.1)).trans (H1.2 i hi)⟩
theorem bA_P (b : bL) (s k m : Nat) : bP b (bA b s k m) := by
  unfold bA
  split
  · exact bP_rf b
  · exact ⟨Nat.le_succ _, fun i hi => by show (if i = b.1 then _ else b.2 i) = b.2 i; rw [if_neg (by omega)]⟩
theorem bX_P (nx : Nat → Nat → Option Nat) (k : Nat) (b : bL) : ∀ m, bP b (bX nx k m b)
  | 0 => bP_rf b
  | m + 1 => by
    rw [bX]
    split
    · exact bP_tr (bX_P nx k b m) (bA_P _ _ _ _)
    · exact bX_P nx k b m
theorem bX_mono (nx : Nat → Nat → Option Nat) (k : Nat) (b : bL) (m : Nat) : ∀ n, bP (bX nx k m b) (bX nx k (m + n) b)
  | 0 => bP_rf _
  | n + 1 => by
    refine bP_tr (bX_mono nx k b m n) ?_
    show bP _ (bX nx k (m + n + 1) b)
    rw [bX]
    split
    · exact bA_P _ _ _ _
    · exact bP_rf _
theorem bB_P (nx : Nat → Nat → Option Nat) (M s0 h : Nat) : ∀ n, bP (bB nx M s0 h) (bB nx M s0 (h + n))
  | 0 => bP_rf _
  | n + 1 => by
    refine bP_tr (bB_P nx M s0 h n) ?_
    show bP _ (bB nx M s0 (h + n + 1))
    rw [bB]
    split
    · exact bX_P _ _ _ _
    · exact bP_rf _
/-- good lists: states below a bound, all unlike; whence is before; deeper by one; depths in order -/
def bG (S : Nat) (b : bL) : Prop := 0 < b.1 ∧ (∀ i, i < b.1 → bS b i < S) ∧ (∀ i j, i < j → j < b.1 → bS b i ≠ bS b j) ∧ bD b 0 = 0 ∧ (∀ i, 0 < i → i < b.1 → bF b i < i ∧ bD b i = bD b (bF b i) + 1) ∧ ∀ i j, i ≤ j → j < b.1 → bD b i ≤ bD b j
theorem bG_le {S : Nat} {b : bL} (H : bG S b) : b.1 ≤ S := fb_holes S b.1 (bS b) H.2.1 H.2.2.1
theorem bA_new {b : bL} {s k m : Nat} (h : kn b s = false) : bA b s k m = (b.1 + 1, fun j => if j = b.1 then (s, k, m, bD b k + 1) else b.2 j) := by
  unfold bA; rw [h]; rfl
theorem bA_old {b : bL} {s k m : Nat} (h : kn b s = true) : bA b s k m = b := by unfold bA; rw [if_pos h]
theorem bA_G {S : Nat} {b : bL} {s k m : Nat} (H : bG S b) (hs : s < S) (hk : k < b.1) (hd : ∀ i, i < b.1 → bD b i ≤ bD b k + 1) : bG S (bA b s k m) := by
  cases hkn : kn b s with
  | true => rw [bA_old hkn]; exact H
  | false =>
    obtain ⟨h0, h1, h2, h3, h4, h5⟩ := H
    have hn : ∀ i, i < b.1 → bS b i ≠ s := fun i hi e => by
      have := kn_t.mpr ⟨i, hi, e⟩
      rw [hkn] at this
      cases this
    rw [bA_new hkn]
    have eo : ∀ i, i < b.1 → (if i = b.1 then ((s, k, m, bD b k + 1) : bE4) else b.2 i) = b.2 i := fun i hi => if_neg (by omega)
    have en : (if b.1 = b.1 then ((s, k, m, bD b k + 1) : bE4) else b.2 b.1) = (s, k, m, bD b k + 1) := if_pos rfl
    refine ⟨Nat.succ_pos _, fun i hi => ?_, fun i j hij hj => ?_, ?_, fun i hi1 hi2 => ?_, fun i j hij hj => ?_⟩
    · show (if i = b.1 then ((s, k, m, bD b k + 1) : bE4) else b.2 i).1 < S
      by_cases e : i = b.1
      · rw [e, en]; exact hs
      · rw [if_neg e]; exact h1 i (by have : i < b.1 + 1 := hi; omega)
    · have hj : j < b.1 + 1 := hj
      show (if i = b.1 then ((s, k, m, bD b k + 1) : bE4) else b.2 i).1 ≠ (if j = b.1 then ((s, k, m, bD b k + 1) : bE4) else b.2 j).1
      rw [eo i (by omega)]
      by_cases e : j = b.1
      · rw [e, en]; exact hn i (by omega)
      · rw [if_neg e]; exact h2 i j hij (by omega)
    · show (if 0 = b.1 then ((s, k, m, bD b k + 1) : bE4) else b.2 0).2.2.2 = 0
      rw [eo 0 h0]; exact h3
    · have hi2 : i < b.1 + 1 := hi2
      by_cases e : i = b.1
      · refine ⟨?_, ?_⟩
        · show (if i = b.1 then ((s, k, m, bD b k + 1) : bE4) else b.2 i).2.1 < i
          rw [e, en]; exact hk
        · have ef : bF (b.1 + 1, fun j => if j = b.1 then (s, k, m, bD b k + 1) else b.2 j) i = k := by
            show (if i = b.1 then ((s, k, m, bD b k + 1) : bE4) else b.2 i).2.1 = k
            rw [e, en]
          rw [ef]
          show (if i = b.1 then ((s, k, m, bD b k + 1) : bE4) else b.2 i).2.2.2 = (if k = b.1 then ((s, k, m, bD b k + 1) : bE4) else b.2 k).2.2.2 + 1
          rw [e, en, eo k hk]; rfl
      · obtain ⟨q1, q2⟩ := h4 i hi1 (by omega)
        have ef : bF (b.1 + 1, fun j => if j = b.1 then (s, k, m, bD b k + 1) else b.2 j) i = bF b i := by
          show (if i = b.1 then ((s, k, m, bD b k + 1) : bE4) else b.2 i).2.1 = (b.2 i).2.1
          rw [if_neg e]
        rw [ef]
        refine ⟨q1, ?_⟩
        show (if i = b.1 then ((s, k, m, bD b k + 1) : bE4) else b.2 i).2.2.2 = (if bF b i = b.1 then ((s, k, m, bD b k + 1) : bE4) else b.2 (bF b i)).2.2.2 + 1
        rw [if_neg e, eo _ (by omega)]; exact q2
    · have hj : j < b.1 + 1 := hj
      show (if i = b.1 then ((s, k, m, bD b k + 1) : bE4) else b.2 i).2.2.2 ≤ (if j = b.1 then ((s, k, m, bD b k + 1) : bE4) else b.2 j).2.2.2
      by_cases e : j = b.1
      · rw [e, en]
        by_cases e2 : i = b.1
        · rw [e2, en]; exact Nat.le_refl _
        · rw [if_neg e2]; exact hd i (by omega)
      · rw [if_neg e, eo i (by omega)]; exact h5 i j hij (by omega)
theorem bA_D {b : bL} {s k m : Nat} (hk : k < b.1) (hd : ∀ i, i < b.1 → bD b i ≤ bD b k + 1) : ∀ i, i < (bA b s k m).1 → bD (bA b s k m) i ≤ bD b k + 1 := by
  cases hkn : kn b s with
  | true => rw [bA_old hkn]; exact hd
  | false =>
    rw [bA_new hkn]
    intro i hi
    have hi : i < b.1 + 1 := hi
    show (if i = b.1 then ((s, k, m, bD b k + 1) : bE4) else b.2 i).2.2.2 ≤ _
    by_cases e : i = b.1
    · rw [if_pos e]; exact Nat.le_refl _
    · rw [if_neg e]; exact hd i (by omega)
theorem bP_S {b b' : bL} (P : bP b b') {i : Nat} (hi : i < b.1) : bS b' i = bS b i ∧ bD b' i = bD b i ∧ bF b' i = bF b i ∧ bM b' i = bM b i := by
  have := P.2 i hi
  unfold bS bD bF bM
  rw [this]
  exact ⟨rfl, rfl, rfl, rfl⟩
/-- what the first m moves from head k leave good -/
theorem bX_G {nx : Nat → Nat → Option Nat} {S k : Nat} {b : bL} (H : bG S b) (hn : ∀ x m s, x < S → nx x m = some s → s < S) (hk : k < b.1) (hd : ∀ i, i < b.1 → bD b i ≤ bD b k + 1) : ∀ m, bG S (bX nx k m b) ∧ ∀ i, i < (bX nx k m b).1 → bD (bX nx k m b) i ≤ bD b k + 1
  | 0 => ⟨H, hd⟩
  | m + 1 => by
    obtain ⟨i1, i2⟩ := bX_G H hn hk hd m
    have P := bX_P nx k b m
    rw [bX]
    split
    · rename_i s e
      have hk' : k < (bX nx k m b).1 := Nat.lt_of_lt_of_le hk P.1
      have ed := (bP_S P hk).2.1
      refine ⟨bA_G i1 (hn _ _ _ (H.2.1 k hk) e) hk' (by rw [ed]; exact i2), ?_⟩
      have := bA_D (s := s) (m := m) hk' (by rw [ed]; exact i2)
      rw [ed] at this
      exact this
    · exact ⟨i1, i2⟩
/-- a list before head h is spread: all is at most one deeper than h -/
theorem bB_G {nx : Nat → Nat → Option Nat} {S M s0 : Nat} (h0 : s0 < S) (hn : ∀ x m s, x < S → nx x m = some s → s < S) : ∀ h, bG S (bB nx M s0 h) ∧ (h < (bB nx M s0 h).1 → ∀ i, i < (bB nx M s0 h).1 → bD (bB nx M s0 h) i ≤ bD (bB nx M s0 h) h + 1)
  | 0 => by
    refine ⟨⟨Nat.one_pos, fun i _ => h0, fun i j hij hj => absurd hj (by show ¬ j < 1; omega), rfl, fun i h1 h2 => absurd h2 (by show ¬ i < 1; omega), fun i j _ _ => Nat.le_refl _⟩, fun _ i _ => by show 0 ≤ _; omega⟩
  | h + 1 => by
    obtain ⟨i1, i2⟩ := bB_G (M := M) h0 hn h
    rw [bB]
    split
    · rename_i hh
      obtain ⟨j1, j2⟩ := bX_G i1 hn hh (i2 hh) M
      refine ⟨j1, fun hh2 i hi => ?_⟩
      have P := bX_P nx h (bB nx M s0 h) M
      have h1 := j2 i hi
      have h2 := j1.2.2.2.2.2 h (h + 1) (by omega) hh2
      rw [(bP_S P hh).2.1] at h2
      omega
    · exact ⟨i1, fun q => by omega⟩
/-- where it comes to its end -/
theorem bB_end {nx : Nat → Nat → Option Nat} {S M s0 : Nat} (h0 : s0 < S) (hn : ∀ x m s, x < S → nx x m = some s → s < S) : ∃ H, H ≤ S ∧ (bB nx M s0 H).1 = H ∧ ∀ h, h < H → h < (bB nx M s0 h).1 := by
  have hx : ∃ i, i < S + 1 ∧ ¬ i < (bB nx M s0 i).1 := ⟨S, by omega, fun z => by have := bG_le (bB_G (M := M) h0 hn S).1; omega⟩
  obtain ⟨H, h1, h2, h3⟩ := fb_first (p := fun i => ¬ i < (bB nx M s0 i).1) hx
  have h3' : ∀ h, h < H → h < (bB nx M s0 h).1 := fun h hh => Classical.byContradiction fun z => h3 h hh z
  refine ⟨H, by omega, ?_, h3'⟩
  cases H with
  | zero => exact absurd Nat.one_pos h2
  | succ h =>
    have q1 := h3' h (by omega)
    have q2 := (bB_P nx M s0 h 1).1
    omega
/-- successors are there, at most one deeper -/
theorem bX_in {nx : Nat → Nat → Option Nat} {k : Nat} {b : bL} {s m : Nat} (e : nx (bS b k) m = some s) : ∀ n, m < n → ∃ j, j < (bX nx k n b).1 ∧ bS (bX nx k n b) j = s
  | 0, h => absurd h (by omega)
  | n + 1, h => by
    by_cases z : m < n
    · obtain ⟨j, j1, j2⟩ := bX_in e n z
      have P := bX_mono nx k b n 1
      exact ⟨j, Nat.lt_of_lt_of_le j1 P.1, (bP_S P j1).1.trans j2⟩
    · have : m = n := by omega
      subst this
      rw [bX, e]
      show ∃ j, j < (bA (bX nx k m b) s k m).1 ∧ bS (bA (bX nx k m b) s k m) j = s
      cases hkn : kn (bX nx k m b) s with
      | true =>
        rw [bA_old hkn]
        exact kn_t.mp hkn
      | false =>
        rw [bA_new hkn]
        exact ⟨(bX nx k m b).1, Nat.lt_succ_self _, by show (if _ = _ then _ else _ : bE4).1 = s; rw [if_pos rfl]⟩
theorem bB_in {nx : Nat → Nat → Option Nat} {S M s0 H i s m : Nat} (h0 : s0 < S) (hn : ∀ x m s, x < S → nx x m = some s → s < S) (hH : (bB nx M s0 H).1 = H) (hh : ∀ h, h < H → h < (bB nx M s0 h).1) (hi : i < H) (hm : m < M) (e : nx (bS (bB nx M s0 H) i) m = some s) : ∃ j, j < H ∧ bS (bB nx M s0 H) j = s ∧ bD (bB nx M s0 H) j ≤ bD (bB nx M s0 H) i + 1 := by
  have P1 := bB_P nx M s0 i (H - i)
  rw [show i + (H - i) = H by omega] at P1
  have P2 := bB_P nx M s0 (i + 1) (H - (i + 1))
  rw [show i + 1 + (H - (i + 1)) = H by omega] at P2
  have q1 := hh i hi
  have e1 : bB nx M s0 (i + 1) = bX nx i M (bB nx M s0 i) := by rw [bB, if_pos q1]
  rw [(bP_S P1 q1).1] at e
  obtain ⟨j, j1, j2⟩ := bX_in e M hm
  obtain ⟨g1, g2⟩ := bB_G (M := M) h0 hn i
  have g3 := (bX_G g1 hn q1 (g2 q1) M).2 j j1
  rw [← e1] at j1 j2 g3
  refine ⟨j, by have := P2.1; omega, (bP_S P2 j1).1.trans j2, ?_⟩
  rw [(bP_S P2 j1).2.1, (bP_S P1 q1).2.1]
  exact g3
