/-! the states of a way: 4096 times the place, or 5 times the early one's and the late one's, and the rests -/
def fd (x : Nat) : Nat → Nat := fun b => x % 4096 / 4 ^ b % 4
theorem fd_3 (x : Nat) : ∀ b, b < 6 → fd x b ≤ 3 := fun b _ => by have : x % 4096 / 4 ^ b % 4 < 4 := Nat.mod_lt _ (by decide); show x % 4096 / 4 ^ b % 4 ≤ 3; omega
theorem fd_rp (x : Nat) : rp_ok (fd x) := fun b hb => Nat.lt_of_le_of_lt (fd_3 x b hb) (by decide)
theorem rc_c {f f' : Nat → Nat} (h : ∀ b, b < 6 → f b = f' b) : rc f = rc f' := by
  unfold rc
  rw [h 0 (by omega), h 1 (by omega), h 2 (by omega), h 3 (by omega), h 4 (by omega), h 5 (by omega)]
theorem st_pl {w : Nat} {f : Nat → Nat} (hf : ∀ b, b < 6 → f b ≤ 3) : (4096 * w + rc f) / 4096 = w ∧ (4096 * w + rc f) % 4096 = rc f := by
  have := rc_lt hf
  omega
theorem fd_st {w : Nat} {f : Nat → Nat} (hf : ∀ b, b < 6 → f b ≤ 3) : ∀ b, b < 6 → fd (4096 * w + rc f) b = f b := by
  intro b hb
  show (4096 * w + rc f) % 4096 / 4 ^ b % 4 = f b
  rw [(st_pl hf).2]
  exact rc_dig hf b hb
theorem rc_fd (x : Nat) : rc (fd x) = x % 4096 := by
  unfold rc fd
  simp only [Nat.pow_zero, Nat.div_one, Nat.pow_one, Nat.reducePow]
  omega
theorem ra_4 {g f : Nat → Nat} (hg : pg_ok g) (hf : ∀ b, b < 6 → f b ≤ 4) (m : Nat) : ∀ b, b < 6 → ra g f m b ≤ 4 := by
  have h33 : g 33 ≤ 3 := hg.2.2.2.2.1
  have u : ∀ (f : Nat → Nat) c v, (∀ b, b < 6 → f b ≤ 4) → v ≤ 4 → ∀ b, b < 6 → up f c v b ≤ 4 := fun f c v h hv b hb => by
    unfold up
    split
    · exact hv
    · exact h b hb
  unfold ra sf
  split
  · exact hf
  · split
    · split
      · exact u _ _ _ hf (by omega)
      · exact u _ _ _ (u _ _ _ hf (by omega)) (by omega)
    · split
      · split
        · split
          · exact hf
          · exact u _ _ _ hf (by omega)
        · refine u _ _ _ ?_ (by omega)
          split
          · exact hf
          · exact u _ _ _ hf (by omega)
      · split
        · exact hf
        · exact u _ _ _ hf (by omega)
theorem up_mono {f f' : Nat → Nat} (h : ∀ c, f' c ≤ f c) (b v : Nat) : ∀ c, up f' b v c ≤ up f b v c := fun c => by
  unfold up
  split
  · exact Nat.le_refl _
  · exact h c
theorem ra_mono {g f f' : Nat → Nat} (h : ∀ c, f' c ≤ f c) (m : Nat) : ∀ c, ra g f' m c ≤ ra g f m c := by
  unfold ra sf
  by_cases m0 : m = 0
  · rw [if_pos m0, if_pos m0]; exact h
  · rw [if_neg m0, if_neg m0]
    by_cases l1 : g 32 = 1
    · rw [if_pos l1, if_pos l1]
      by_cases c6 : g (4 * (m - 1) + 2) = 6
      · rw [if_pos c6, if_pos c6]; exact up_mono h _ _
      · rw [if_neg c6, if_neg c6]; exact up_mono (up_mono h _ _) _ _
    · rw [if_neg l1, if_neg l1]
      by_cases l2 : g 32 = 2
      · rw [if_pos l2, if_pos l2]
        by_cases e : m = g 24
        · rw [if_pos e, if_pos e]
          by_cases e1 : m = 1
          · rw [if_pos e1, if_pos e1]; exact h
          · rw [if_neg e1, if_neg e1]; exact up_mono h _ _
        · rw [if_neg e, if_neg e]
          by_cases e1 : m = 1
          · rw [if_pos e1, if_pos e1]; exact up_mono h _ _
          · rw [if_neg e1, if_neg e1]; exact up_mono (up_mono h _ _) _ _
      · rw [if_neg l2, if_neg l2]
        by_cases c6 : g (4 * (m - 1) + 2) = 6
        · rw [if_pos c6, if_pos c6]; exact h
        · rw [if_neg c6, if_neg c6]; exact up_mono h _ _
theorem cb_mono {g f f' : Nat → Nat} {w m : Nat} (h : ∀ c, f' c ≤ f c) (hc : cb g f w m = true) : cb g f' w m = true := by
  rcases cb_T hc with q | ⟨q1, q2, q3⟩
  · exact cb_t (Or.inl q)
  · exact cb_t (Or.inr ⟨q1, q2, by have := h (m - 1); omega⟩)
theorem gnf_3 {g f : Nat → Nat} (hg : pg_ok g) (hf : ∀ b, b < 6 → f b ≤ 4) (m : Nat) : ∀ b, b < 6 → gnf g f m b ≤ 3 := fun b hb => by
  have := ra_4 hg hf m b hb
  show ra g f m b - 1 ≤ 3
  omega
def nx1 (g : Nat → Nat) (x m : Nat) : Option Nat := if cb g (fd x) (x / 4096) m then some (4096 * pa g (x / 4096) m + rc (gnf g (fd x) m)) else none
def nx2 (g : Nat → Nat) (x m : Nat) : Option Nat := if cb g (fd x) (x / 4096 / 5) (m % 8) && cb g (ra g (fd x) (m % 8)) (x / 4096 % 5) (m / 8) then some (4096 * (5 * pa g (x / 4096 / 5) (m % 8) + pa g (x / 4096 % 5) (m / 8)) + rc (gnf g (ra g (fd x) (m % 8)) (m / 8))) else none
theorem pa_5 {g f : Nat → Nat} (hg : pg_ok g) {w m : Nat} (hc : cb g f w m = true) : (m = 0 ∧ pa g w m = w) ∨ pa g w m < 5 := by
  have h35 : g 35 ≤ 5 := hg.2.2.2.2.2.2.2.1
  by_cases m0 : m = 0
  · exact Or.inl ⟨m0, if_pos m0⟩
  · right
    rcases cb_T hc with q | ⟨q1, q2, q3⟩
    · exact absurd q m0
    · obtain ⟨b1, b2, -⟩ := hg.2.2.2.2.2.2.2.2.1 (m - 1) (by omega)
      unfold pa
      rw [if_neg m0]
      split <;> omega
theorem fd_4 (x : Nat) : ∀ b, b < 6 → fd x b ≤ 4 := fun b hb => Nat.le_trans (fd_3 x b hb) (by decide)
section NX
variable {g : Nat → Nat}
theorem nx1_b (hg : pg_ok g) : ∀ x m s, x < 4096 * 25 → nx1 g x m = some s → s < 4096 * 25 := by
  intro x m s hx e
  unfold nx1 at e
  split at e
  · rename_i z
    injection e with e
    have h1 := rc_lt (gnf_3 hg (fd_4 x) m)
    rcases pa_5 hg z with ⟨-, q⟩ | q
    · rw [q] at e; omega
    · omega
  · cases e
theorem nx2_b (hg : pg_ok g) : ∀ x m s, x < 4096 * 25 → nx2 g x m = some s → s < 4096 * 25 := by
  intro x m s hx e
  unfold nx2 at e
  split at e
  · rename_i z
    injection e with e
    rw [Bool.and_eq_true] at z
    have h1 := rc_lt (gnf_3 hg (ra_4 hg (fd_4 x) (m % 8)) (m / 8))
    have h2 : pa g (x / 4096 / 5) (m % 8) < 5 := by
      rcases pa_5 hg z.1 with ⟨-, q⟩ | q
      · rw [q]; omega
      · exact q
    have h3 : pa g (x / 4096 % 5) (m / 8) < 5 := by
      rcases pa_5 hg z.2 with ⟨-, q⟩ | q
      · rw [q]; omega
      · exact q
    omega
  · cases e
theorem stay_1 {w : Nat} {f : Nat → Nat} (hf : ∀ b, b < 6 → f b ≤ 3) : nx1 g (4096 * w + rc f) 0 = some (4096 * w + rc (fun b => f b - 1)) := by
  unfold nx1
  rw [cb_t (Or.inl rfl), if_pos rfl, (st_pl hf).1, show pa g w 0 = w from if_pos rfl, rc_c (f' := fun b => f b - 1) (fun b hb => ?_)]
  show ra g (fd (4096 * w + rc f)) 0 b - 1 = f b - 1
  rw [show ra g (fd (4096 * w + rc f)) 0 = fd (4096 * w + rc f) from if_pos rfl, fd_st hf b hb]
theorem stay_2 {w : Nat} {f : Nat → Nat} (hf : ∀ b, b < 6 → f b ≤ 3) : nx2 g (4096 * w + rc f) 0 = some (4096 * w + rc (fun b => f b - 1)) := by
  unfold nx2
  rw [show 0 % 8 = 0 from rfl, show 0 / 8 = 0 from rfl, cb_t (Or.inl rfl), cb_t (Or.inl rfl), Bool.true_and, if_pos rfl, (st_pl hf).1, show pa g (w / 5) 0 = w / 5 from if_pos rfl, show pa g (w % 5) 0 = w % 5 from if_pos rfl, show 5 * (w / 5) + w % 5 = w by omega, rc_c (f' := fun b => f b - 1) (fun b hb => ?_)]
  show ra g (ra g (fd (4096 * w + rc f)) 0) 0 b - 1 = f b - 1
  rw [show ra g (fd (4096 * w + rc f)) 0 = fd (4096 * w + rc f) from if_pos rfl, show ra g (fd (4096 * w + rc f)) 0 = fd (4096 * w + rc f) from if_pos rfl, fd_st hf b hb]
theorem x_form (x : Nat) : x = 4096 * (x / 4096) + rc (fd x) := by rw [rc_fd]; omega
theorem stay3 {nx : Nat → Nat → Option Nat} (h : ∀ w f, (∀ b, b < 6 → f b ≤ 3) → nx (4096 * w + rc f) 0 = some (4096 * w + rc (fun b => f b - 1))) (x : Nat) : ∃ x1 x2, nx x 0 = some x1 ∧ nx x1 0 = some x2 ∧ nx x2 0 = some (4096 * (x / 4096)) := by
  have f0 := fd_3 x
  have f1 : ∀ b, b < 6 → fd x b - 1 ≤ 3 := fun b hb => by have := f0 b hb; omega
  have f2 : ∀ b, b < 6 → fd x b - 1 - 1 ≤ 3 := fun b hb => by have := f0 b hb; omega
  refine ⟨4096 * (x / 4096) + rc (fun b => fd x b - 1), 4096 * (x / 4096) + rc (fun b => fd x b - 1 - 1), ?_, h _ _ f1, ?_⟩
  · have := h (x / 4096) (fd x) f0
    rw [← x_form] at this
    exact this
  · rw [h _ _ f2]
    congr 1
    rw [rc_c (f' := fun _ => 0) (fun b hb => by have := f0 b hb; omega)]
    rfl
theorem fd_0 (w : Nat) : ∀ c, fd (4096 * w) c = 0 := fun c => by
  show 4096 * w % 4096 / 4 ^ c % 4 = 0
  rw [Nat.mul_mod_right, Nat.zero_div]
theorem weak_1 (hg : pg_ok g) : ∀ x m s, x < 4096 * 25 → nx1 g x m = some s → ∃ s', nx1 g (4096 * (x / 4096)) m = some s' ∧ s' / 4096 = s / 4096 := by
  intro x m s hx e
  unfold nx1 at e ⊢
  split at e
  · rename_i z
    injection e with e
    have z' := cb_mono (f' := fd (4096 * (x / 4096))) (fun c => by rw [fd_0]; omega) z
    rw [show 4096 * (x / 4096) / 4096 = x / 4096 by omega, if_pos z']
    refine ⟨_, rfl, ?_⟩
    rw [← e, (st_pl (gnf_3 hg (fd_4 _) m)).1, (st_pl (gnf_3 hg (fd_4 _) m)).1]
  · cases e
theorem weak_2 (hg : pg_ok g) : ∀ x m s, x < 4096 * 25 → nx2 g x m = some s → ∃ s', nx2 g (4096 * (x / 4096)) m = some s' ∧ s' / 4096 = s / 4096 := by
  intro x m s hx e
  unfold nx2 at e ⊢
  split at e
  · rename_i z
    injection e with e
    rw [Bool.and_eq_true] at z
    have h0 : ∀ c, fd (4096 * (x / 4096)) c ≤ fd x c := fun c => by rw [fd_0]; omega
    have z1 := cb_mono h0 z.1
    have z2 := cb_mono (ra_mono h0 (m % 8)) z.2
    rw [show 4096 * (x / 4096) / 4096 = x / 4096 by omega, z1, z2, Bool.true_and, if_pos rfl]
    refine ⟨_, rfl, ?_⟩
    rw [← e, (st_pl (gnf_3 hg (ra_4 hg (fd_4 _) _) _)).1, (st_pl (gnf_3 hg (ra_4 hg (fd_4 _) _) _)).1]
  · cases e
end NX
/-- the end of the list, the first goal in it, its depth -/
def bend (nx : Nat → Nat → Option Nat) (M s0 : Nat) : Nat := fa_first (fun h => decide (¬ h < (bB nx M s0 h).1)) 102401
def bZ (nx : Nat → Nat → Option Nat) (M s0 : Nat) : bL := bB nx M s0 (bend nx M s0)
def bK (nx : Nat → Nat → Option Nat) (M s0 G : Nat) : Nat := fa_first (fun i => decide (bS (bZ nx M s0) i / 4096 = G)) (bend nx M s0)
theorem bend_ok {nx : Nat → Nat → Option Nat} {M s0 : Nat} (h0 : s0 < 4096 * 25) (hn : ∀ x m s, x < 4096 * 25 → nx x m = some s → s < 4096 * 25) : bend nx M s0 ≤ 102400 ∧ (bZ nx M s0).1 = bend nx M s0 ∧ ∀ h, h < bend nx M s0 → h < (bB nx M s0 h).1 := by
  obtain ⟨H, h1, h2, h3⟩ := bB_end (M := M) h0 hn
  have e : bend nx M s0 = H := ff_at (fun j hj => decide_eq_false (fun z => z (h3 j hj))) (by omega) (decide_eq_true (by omega))
  unfold bZ
  rw [e]
  exact ⟨by omega, h2, h3⟩
/-- which entry led there, j minutes before -/
def anc (b : bL) (k : Nat) : Nat → Nat
  | 0 => k
  | j + 1 => bF b (anc b k j)
theorem anc_ok {S : Nat} {b : bL} (H : bG S b) {k : Nat} (hk : k < b.1) : ∀ j, j ≤ bD b k → anc b k j < b.1 ∧ bD b (anc b k j) = bD b k - j
  | 0, _ => ⟨hk, rfl⟩
  | j + 1, hj => by
    obtain ⟨i1, i2⟩ := anc_ok H hk j (by omega)
    have h0 : 0 < anc b k j := by
      by_cases z : anc b k j = 0
      · rw [z, H.2.2.2.1] at i2; omega
      · omega
    obtain ⟨q1, q2⟩ := H.2.2.2.2.1 _ h0 i1
    rw [anc]
    exact ⟨by omega, by omega⟩
theorem dep_0 {S : Nat} {b : bL} (H : bG S b) {i : Nat} (hi : i < b.1) : bD b i = 0 ↔ i = 0 := by
  constructor
  · intro e
    by_cases z : i = 0
    · exact z
    · have := (H.2.2.2.2.1 i (by omega) hi).2
      omega
  · intro e; rw [e]; exact H.2.2.2.1
/-- the first goal is not deep -/
theorem bK_100 {nx : Nat → Nat → Option Nat} {M s0 G : Nat} (h0 : s0 < 4096 * 25) (hn : ∀ x m s, x < 4096 * 25 → nx x m = some s → s < 4096 * 25) (hM : 0 < M) (st : ∀ x, x < 4096 * 25 → ∃ x1 x2, nx x 0 = some x1 ∧ nx x1 0 = some x2 ∧ nx x2 0 = some (4096 * (x / 4096))) (wk : ∀ x m s, x < 4096 * 25 → nx x m = some s → ∃ s', nx (4096 * (x / 4096)) m = some s' ∧ s' / 4096 = s / 4096) (hK : bK nx M s0 G < bend nx M s0) : bD (bZ nx M s0) (bK nx M s0 G) ≤ 100 := by
  obtain ⟨e1, e2, e3⟩ := bend_ok (M := M) h0 hn
  have g := (bB_G (M := M) h0 hn (bend nx M s0)).1
  have v := bB_V (nx := nx) (M := M) (s0 := s0) (bend nx M s0)
  have hc := bound_all (S := 4096 * 25) rfl h0 hn hM e2 e3 st wk (fun i h1 h2 => by
    have := v i h1 (by rw [show (bB nx M s0 (bend nx M s0)).1 = bend nx M s0 from e2]; exact h2)
    exact ⟨this.2.1, this.2.2⟩) (bK nx M s0 G) hK
  obtain ⟨j, j1, j2, j3⟩ := hc
  have hy := of_decide_eq_true (fa_first_yes (fun i => decide (bS (bZ nx M s0) i / 4096 = G)) (bend nx M s0) hK)
  have hle : bK nx M s0 G ≤ j := by
    by_cases z : j < bK nx M s0 G
    · have := of_decide_eq_false (fa_first_no (fun i => decide (bS (bZ nx M s0) i / 4096 = G)) (bend nx M s0) j z)
      exact absurd (j2.trans hy) this
    · omega
  have := g.2.2.2.2.2 (bK nx M s0 G) j hle (by rw [show (bB nx M s0 (bend nx M s0)).1 = bend nx M s0 from e2]; exact j1)
  exact Nat.le_trans this j3
