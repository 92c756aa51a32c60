/-! ways by chance: the mathematics -/
def tb (g : Nat → Nat) (w b : Nat) : Bool := decide (g (4 * b) = w ∨ g (4 * b + 1) = w)
def nb (g : Nat → Nat) (w : Nat) : Nat := fb_ct (tb g w) (g 24)
def lm (f : Nat → Nat) (b : Nat) : Nat := if f b = 0 then b + 1 else 0
def lk (g : Nat → Nat) (G : Nat) : Nat → Nat → (Nat → Nat) → Nat
  | 0, w, _ => if w = G then 1 else 0
  | n + 1, w, f => if w = G then 60 ^ (n + 1) else if nb g w = 0 then 0 else 60 / nb g w * fb_sm (fun b => if tb g w b then lk g G n (pa g w (lm f b)) (gnf g f (lm f b)) else 0) (g 24)
/-- the j-th of those with p -/
def nth (p : Nat → Bool) (n j : Nat) : Nat := fa_first (fun b => p b && decide (fb_ct p b = j)) n
theorem nth_at {p : Nat → Bool} {n b : Nat} (hb : b < n) (hp : p b = true) : nth p n (fb_ct p b) = b := by
  unfold nth
  refine ff_at (fun j hj => ?_) hb (by rw [hp]; simp)
  cases e : p j with
  | false => rfl
  | true =>
    rw [Bool.true_and]
    refine decide_eq_false (fun z => ?_)
    have := fb_ct_kth_one e hp z
    omega
theorem nth_ok {p : Nat → Bool} {n j : Nat} (hj : j < fb_ct p n) : nth p n j < n ∧ p (nth p n j) = true ∧ fb_ct p (nth p n j) = j := by
  obtain ⟨i, h1, h2, h3⟩ := fb_ct_kth hj
  have := nth_at h1 h2
  rw [h3] at this
  rw [this]
  exact ⟨h1, h2, h3⟩
theorem nth_no {p : Nat → Bool} {n j : Nat} (hj : ¬ j < fb_ct p n) : nth p n j = n := by
  unfold nth
  refine ff_no (fun b hb => ?_)
  cases e : p b with
  | false => rfl
  | true =>
    rw [Bool.true_and]
    refine decide_eq_false (fun z => hj ?_)
    have h1 := fb_ct_mono p (show b + 1 ≤ n by omega)
    rw [fb_ct_succ, e] at h1
    simp at h1
    omega
theorem sm_nth (p : Nat → Bool) (X : Nat → Nat) : ∀ n, fb_sm (fun b => if p b then X b else 0) n = fb_sm (fun j => X (nth p n j)) (fb_ct p n)
  | 0 => rfl
  | n + 1 => by
    rw [fb_sm_succ, sm_nth p X n, fb_ct_succ]
    cases e : p n with
    | false =>
      simp only [Bool.false_eq_true, ↓reduceIte, Nat.add_zero]
      refine fb_sm_cong (fun j hj => ?_)
      obtain ⟨h1, h2, h3⟩ := nth_ok hj
      have := nth_at (n := n + 1) (show nth p n j < n + 1 by omega) h2
      rw [h3] at this
      rw [this]
    | true =>
      simp only [↓reduceIte]
      rw [fb_sm_succ]
      have h4 := nth_at (n := n + 1) (Nat.lt_succ_self n) e
      rw [h4]
      congr 1
      refine fb_sm_cong (fun j hj => ?_)
      obtain ⟨h1, h2, h3⟩ := nth_ok hj
      have := nth_at (n := n + 1) (show nth p n j < n + 1 by omega) h2
      rw [h3] at this
      rw [this]
theorem nb_le {g : Nat → Nat} (hg : pg_ok g) (w : Nat) : nb g w ≤ 6 := Nat.le_trans (fb_ct_le _ _) hg.1
theorem lk_le {g : Nat → Nat} {G : Nat} : ∀ (n w : Nat) (f : Nat → Nat), lk g G n w f ≤ 60 ^ n
  | 0, w, f => by rw [lk]; split <;> simp
  | n + 1, w, f => by
    rw [lk]
    split
    · exact Nat.le_refl _
    · split
      · exact Nat.zero_le _
      · rename_i z
        rw [sm_nth]
        have h1 : fb_sm (fun j => lk g G n (pa g w (lm f (nth (tb g w) (g 24) j))) (gnf g f (lm f (nth (tb g w) (g 24) j)))) (fb_ct (tb g w) (g 24)) ≤ fb_ct (tb g w) (g 24) * 60 ^ n := fb_sm_bound (fun j _ => lk_le n _ _)
        have h2 : 60 / nb g w * nb g w ≤ 60 := Nat.div_mul_le_self 60 (nb g w)
        have h3 := Nat.mul_le_mul_left (60 / nb g w) h1
        refine Nat.le_trans h3 ?_
        rw [← Nat.mul_assoc, Nat.pow_succ, Nat.mul_comm (60 ^ n)]
        exact Nat.mul_le_mul_right _ h2
/-- a row's weight -/
def wv (g : Nat → Nat) (G : Nat) : Nat → Nat → (Nat → Nat) → Bool → Nat → Nat
  | 0, _, _, th, _ => if th then 1 else 0
  | n + 1, w, f, th, v => if th || decide (nb g w = 0) then (if v / 6 ^ n % 6 = 0 then 60 * wv g G n w (gnf g f 0) th v else 0)
    else if v / 6 ^ n % 6 < nb g w then 60 / nb g w * wv g G n (pa g w (lm f (nth (tb g w) (g 24) (v / 6 ^ n % 6)))) (gnf g f (lm f (nth (tb g w) (g 24) (v / 6 ^ n % 6)))) (decide (pa g w (lm f (nth (tb g w) (g 24) (v / 6 ^ n % 6))) = G)) v else 0
theorem sm_scale (c : Nat) (f : Nat → Nat) : ∀ n, fb_sm (fun k => c * f k) n = c * fb_sm f n
  | 0 => rfl
  | n + 1 => by rw [fb_sm_succ, fb_sm_succ, sm_scale c f n, Nat.mul_add]
theorem sm_blk (F : Nat → Nat) (s : Nat) : ∀ m, fb_sm F (m * s) = fb_sm (fun j => fb_sm (fun k => F (j * s + k)) s) m
  | 0 => by rw [Nat.zero_mul]; rfl
  | m + 1 => by rw [Nat.succ_mul, fb_sm_split, sm_blk F s m, fb_sm_succ]
theorem sm_cut {Y : Nat → Nat} {M N : Nat} (h : M ≤ N) : fb_sm (fun j => if j < M then Y j else 0) N = fb_sm Y M := by
  obtain ⟨k, rfl⟩ := Nat.le.dest h
  rw [fb_sm_split]
  have e1 : fb_sm (fun j => if j < M then Y j else 0) M = fb_sm Y M := fb_sm_cong (fun j hj => by rw [if_pos hj])
  have e2 : fb_sm (fun j => (fun j => if j < M then Y j else 0) (M + j)) k = 0 := by
    rw [fb_sm_cong (g := fun _ => 0) (fun j _ => by dsimp only; rw [if_neg (by omega)]), fb_sm_const, Nat.mul_zero]
  rw [e1, e2, Nat.add_zero]
theorem lk_G {g : Nat → Nat} (G n : Nat) (f : Nat → Nat) : lk g G n G f = 60 ^ n := by
  cases n with
  | zero => rw [lk, if_pos rfl, Nat.pow_zero]
  | succ n => rw [lk, if_pos rfl]
theorem lk_0 {g : Nat → Nat} {G w : Nat} (hw : ¬ w = G) (hn : nb g w = 0) : ∀ (n : Nat) (f : Nat → Nat), lk g G n w f = 0
  | 0, f => by rw [lk, if_neg hw]
  | n + 1, f => by rw [lk, if_neg hw, if_pos hn]
theorem dg6 {P n j k : Nat} (hj : j < 6) (hk : k < 6 ^ n) : (P * 6 ^ (n + 1) + (j * 6 ^ n + k)) / 6 ^ n % 6 = j := by
  have hB : 0 < 6 ^ n := Nat.pow_pos (by omega)
  rw [Nat.pow_succ, show P * (6 ^ n * 6) + (j * 6 ^ n + k) = 6 ^ n * (6 * P + j) + k by
    rw [Nat.mul_comm P, Nat.mul_assoc, Nat.mul_comm j, Nat.mul_add, Nat.add_assoc], Nat.mul_add_div hB, Nat.div_eq_of_lt hk, Nat.add_zero, Nat.mul_add_mod, Nat.mod_eq_of_lt hj]
/-- all rows together -/
theorem wv_sum {g : Nat → Nat} {G : Nat} (hg : pg_ok g) : ∀ (n w : Nat) (f : Nat → Nat) (th : Bool) (P : Nat), (th = false → ¬ w = G) → fb_sm (fun k => wv g G n w f th (P * 6 ^ n + k)) (6 ^ n) = if th then 60 ^ n else lk g G n w f
  | 0, w, f, th, P, hw => by
    rw [Nat.pow_zero]
    show 0 + wv g G 0 w f th _ = _
    rw [wv, lk]
    cases th with
    | true => rfl
    | false => simp [hw rfl]
  | n + 1, w, f, th, P, hw => by
    have e6 : 6 ^ (n + 1) = 6 * 6 ^ n := by rw [Nat.pow_succ, Nat.mul_comm]
    have blk := sm_blk (fun k => wv g G (n + 1) w f th (P * 6 ^ (n + 1) + k)) (6 ^ n) 6
    rw [← e6] at blk
    rw [blk]
    have eb : ∀ j k, P * 6 ^ (n + 1) + (j * 6 ^ n + k) = (6 * P + j) * 6 ^ n + k := fun j k => by rw [e6, ← Nat.mul_assoc, ← Nat.add_assoc, ← Nat.add_mul, Nat.mul_comm P 6]
    by_cases z : (th || decide (nb g w = 0)) = true
    · have inn : ∀ j, j < 6 → fb_sm (fun k => wv g G (n + 1) w f th (P * 6 ^ (n + 1) + (j * 6 ^ n + k))) (6 ^ n) = if j < 1 then 60 * (if th then 60 ^ n else lk g G n w (gnf g f 0)) else 0 := by
        intro j hj
        by_cases j0 : j < 1
        · have j0' : j = 0 := by omega
          rw [if_pos j0, ← wv_sum hg n w (gnf g f 0) th (6 * P + j) hw, ← sm_scale]
          refine fb_sm_cong (fun k hk => ?_)
          rw [wv, if_pos z, dg6 hj hk, if_pos j0', eb]
        · rw [if_neg j0, fb_sm_cong (g := fun _ => 0) (fun k hk => ?_), fb_sm_const, Nat.mul_zero]
          rw [wv, if_pos z, dg6 hj hk, if_neg (by omega)]
      rw [fb_sm_cong (g := fun j => if j < 1 then (fun _ => 60 * (if th then 60 ^ n else lk g G n w (gnf g f 0))) j else 0) inn, sm_cut (by omega)]
      show 0 + 60 * (if th then 60 ^ n else lk g G n w (gnf g f 0)) = _
      rw [Nat.zero_add]
      cases th with
      | true => simp only [↓reduceIte]; rw [Nat.pow_succ, Nat.mul_comm]
      | false =>
        have hn : nb g w = 0 := by simpa using z
        simp only [Bool.false_eq_true, ↓reduceIte]
        rw [lk_0 (hw rfl) hn, lk_0 (hw rfl) hn]
    · have hth : th = false := by cases th with
        | true => simp at z
        | false => rfl
      subst hth
      have hn : ¬ nb g w = 0 := by simpa using z
      have hw' := hw rfl
      have inn : ∀ j, j < 6 → fb_sm (fun k => wv g G (n + 1) w f false (P * 6 ^ (n + 1) + (j * 6 ^ n + k))) (6 ^ n) = if j < nb g w then 60 / nb g w * lk g G n (pa g w (lm f (nth (tb g w) (g 24) j))) (gnf g f (lm f (nth (tb g w) (g 24) j))) else 0 := by
        intro j hj
        by_cases jm : j < nb g w
        · have hs := wv_sum hg n (pa g w (lm f (nth (tb g w) (g 24) j))) (gnf g f (lm f (nth (tb g w) (g 24) j))) (decide (pa g w (lm f (nth (tb g w) (g 24) j)) = G)) (6 * P + j) (fun q => of_decide_eq_false q)
          have hs2 : (if decide (pa g w (lm f (nth (tb g w) (g 24) j)) = G) = true then 60 ^ n else lk g G n (pa g w (lm f (nth (tb g w) (g 24) j))) (gnf g f (lm f (nth (tb g w) (g 24) j)))) = lk g G n (pa g w (lm f (nth (tb g w) (g 24) j))) (gnf g f (lm f (nth (tb g w) (g 24) j))) := by
            by_cases q : pa g w (lm f (nth (tb g w) (g 24) j)) = G
            · rw [if_pos (decide_eq_true q), q, lk_G]
            · rw [if_neg (by rw [decide_eq_false q]; decide)]
          rw [hs2] at hs
          rw [if_pos jm, ← hs, ← sm_scale]
          refine fb_sm_cong (fun k hk => ?_)
          rw [wv, if_neg z, dg6 hj hk, if_pos jm, eb]
        · rw [if_neg jm, fb_sm_cong (g := fun _ => 0) (fun k hk => ?_), fb_sm_const, Nat.mul_zero]
          rw [wv, if_neg z, dg6 hj hk, if_neg jm]
      rw [fb_sm_cong (g := fun j => if j < nb g w then (fun j => 60 / nb g w * lk g G n (pa g w (lm f (nth (tb g w) (g 24) j))) (gnf g f (lm f (nth (tb g w) (g 24) j)))) j else 0) inn, sm_cut (nb_le hg w), sm_scale]
      simp only [Bool.false_eq_true, ↓reduceIte]
      rw [lk, if_neg hw', if_neg hn, sm_nth]
      rfl
