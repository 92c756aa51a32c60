/-! text: a line, as numbers -/
def mx (a b : Nat) : Nat := if a < b then b else a
theorem mx_b (a b : Nat) : a ≤ mx a b ∧ b ≤ mx a b ∧ (mx a b = a ∨ mx a b = b) := by
  unfold mx
  by_cases z : a < b
  · rw [if_pos z]; omega
  · rw [if_neg z]; omega
def nC (T : Nat → Nat) (n j lo hi : Nat) : Nat := if eK T n j = 4 then 1 else if ¬ eK T n j = 2 then 2 else if ¬ (lo ≤ eV T n j ∧ eV T n j ≤ hi) then 3 else 0
theorem nC_0 {T : Nat → Nat} {n j lo hi : Nat} (h : nC T n j lo hi = 0) : eK T n j = 2 ∧ lo ≤ eV T n j ∧ eV T n j ≤ hi := by
  unfold nC at h
  by_cases z : eK T n j = 4
  · rw [if_pos z] at h; omega
  · rw [if_neg z] at h
    by_cases z1 : eK T n j = 2
    · rw [if_neg (fun y => y z1)] at h
      by_cases z2 : lo ≤ eV T n j ∧ eV T n j ≤ hi
      · exact ⟨z1, z2⟩
      · rw [if_pos z2] at h; omega
    · rw [if_pos z1] at h; omega
theorem nC_b (T : Nat → Nat) (n j lo hi : Nat) : nC T n j lo hi ≤ 3 := by
  unfold nC
  repeat' split
  all_goals omega
def lo1 (w : Nat) : Nat := [2, 1, 0, 0, 0, 0, 0].getD w 0
def hi1 (w : Nat) : Nat := [5, 3, 2, 4, 5, 5, 4].getD w 0
def lo2 (w : Nat) : Nat := [0, 0, 0, 0, 0, 1, 0].getD w 0
def hi2 (w : Nat) : Nat := [0, 0, 0, 4, 5, 3, 4].getD w 0
def tkn (w : Nat) (g : Nat → Nat) (a : Nat) : Bool := decide ((w = 4 ∧ ¬ g (4 * a + 2) = 6) ∨ (w = 5 ∧ ¬ g (4 * a + 3) = 0))
def tlg (w a b : Nat) (g : Nat → Nat) : Nat → Nat :=
  if w = 0 then up (up g 35 a) 38 1 else if w = 1 then up (up g 33 a) 39 1 else if w = 2 then up (up g 32 a) 40 1
  else if w = 3 then up (up (up (up g (4 * g 24) a) (4 * g 24 + 1) b) 24 (g 24 + 1)) 36 (mx (g 36) (mx (a + 1) (b + 1)))
  else if w = 4 then up (up g (4 * a + 2) b) 37 (mx (g 37) (mx (a + 1) (b + 1)))
  else if w = 5 then up (up g (4 * a + 3) b) 37 (mx (g 37) (a + 1))
  else up (up (up (up g (25 + 2 * g 31) a) (26 + 2 * g 31) b) 31 (g 31 + 1)) 36 (mx (g 36) (mx (a + 1) (b + 1)))
def linF (T : Nat → Nat) (n w a b i : Nat) (g : Nat → Nat) : Nat × Nat × (Nat → Nat) := if eK T n (tkS T n i) = 4 then (1, tkS T n i, g) else if ¬ eK T n (tkS T n i) = 3 then (2, tkS T n i, g) else (0, eE T n (tkS T n i), tlg w a b g)
def lin2 (T : Nat → Nat) (n w a i : Nat) (g : Nat → Nat) : Nat × Nat × (Nat → Nat) := if ¬ nC T n (tkS T n i) (lo2 w) (hi2 w) = 0 then (nC T n (tkS T n i) (lo2 w) (hi2 w), tkS T n i, g) else if (w = 3 ∨ w = 4) ∧ a = eV T n (tkS T n i) then (4, tkS T n i, g) else linF T n w a (eV T n (tkS T n i)) (eE T n (tkS T n i)) g
def lin1 (T : Nat → Nat) (n w i : Nat) (g : Nat → Nat) : Nat × Nat × (Nat → Nat) := if ¬ nC T n (tkS T n i) (lo1 w) (hi1 w) = 0 then (nC T n (tkS T n i) (lo1 w) (hi1 w), tkS T n i, g) else if tkn w g (eV T n (tkS T n i)) then (4, tkS T n i, g) else if w < 3 then linF T n w (eV T n (tkS T n i)) 0 (eE T n (tkS T n i)) g else lin2 T n w (eV T n (tkS T n i)) (eE T n (tkS T n i)) g
def linW (T : Nat → Nat) (n j w : Nat) (g : Nat → Nat) : Nat × Nat × (Nat → Nat) := if w = 7 then (2, j, g) else if w < 3 ∧ g (38 + w) = 1 then (4, j, g) else if (w = 3 ∧ g 24 = 6) ∨ (w = 6 ∧ g 31 = 3) then (5, j, g) else lin1 T n w (eE T n j) g
def lin0 (T : Nat → Nat) (n j : Nat) (g : Nat → Nat) : Nat × Nat × (Nat → Nat) := if eK T n j = 4 then (1, j, g) else if ¬ eK T n j = 1 then (2, j, g) else linW T n j (wdO T j (eE T n j)) g
def txL (T : Nat → Nat) (n : Nat) : Nat → Nat → Nat → (Nat → Nat) → Nat × Nat × Nat × (Nat → Nat)
  | 0, l, i, g => (0, i, l, g)
  | t + 1, l, i, g => if eK T n (tkS T n i) = 0 then (0, i, l, g) else if (lin0 T n (tkS T n i) g).1 = 0 then txL T n t (l + 1) (lin0 T n (tkS T n i) g).2.1 (lin0 T n (tkS T n i) g).2.2 else ((lin0 T n (tkS T n i) g).1, (lin0 T n (tkS T n i) g).2.1, l, g)
/-- what holds of what was told -/
def gq (g : Nat → Nat) : Prop := (g 24 ≤ 6 ∧ g 31 ≤ 3 ∧ g 32 ≤ 2 ∧ (1 ≤ g 33 ∧ g 33 ≤ 3) ∧ g 34 = 0 ∧ (2 ≤ g 35 ∧ g 35 ≤ 5) ∧ g 36 ≤ 5 ∧ g 37 ≤ 6 ∧ g 38 ≤ 1 ∧ g 39 ≤ 1 ∧ g 40 ≤ 1) ∧ (∀ b, b < 6 → (b < g 24 → g (4 * b) < g 36 ∧ g (4 * b + 1) < g 36 ∧ g (4 * b) ≠ g (4 * b + 1)) ∧ (g (4 * b + 2) = 6 ∨ (b < g 37 ∧ g (4 * b + 2) < g 37 ∧ g (4 * b + 2) ≠ b)) ∧ g (4 * b + 3) ≤ 3 ∧ (g (4 * b + 3) = 0 ∨ b < g 37)) ∧ (∀ p, p < 3 → p < g 31 → g (25 + 2 * p) < g 36 ∧ g (26 + 2 * p) < g 36)
def lnR (w a b : Nat) (g : Nat → Nat) : Prop := (w = 0 → 2 ≤ a ∧ a ≤ 5) ∧ (w = 1 → 1 ≤ a ∧ a ≤ 3) ∧ (w = 2 → a ≤ 2) ∧ (w = 3 → g 24 < 6 ∧ a ≤ 4 ∧ b ≤ 4 ∧ a ≠ b) ∧ (w = 4 → a ≤ 5 ∧ b ≤ 5 ∧ a ≠ b ∧ g (4 * a + 2) = 6) ∧ (w = 5 → a ≤ 5 ∧ 1 ≤ b ∧ b ≤ 3 ∧ g (4 * a + 3) = 0) ∧ (w = 6 → g 31 < 3 ∧ a ≤ 4 ∧ b ≤ 4)
theorem tlg_gq {w a b : Nat} {g : Nat → Nat} (hw : w < 7) (H : gq g) (R : lnR w a b g) : gq (tlg w a b g) := by
  obtain ⟨⟨q24, q31, q32, q33, q34, q35, q36, q37, q38, q39, q40⟩, Hb, Hp⟩ := H
  obtain ⟨r0, r1, r2, r3, r4, r5, r6⟩ := R
  unfold tlg
  rcases (show w = 0 ∨ w = 1 ∨ w = 2 ∨ w = 3 ∨ w = 4 ∨ w = 5 ∨ w = 6 by omega) with rfl | rfl | rfl | rfl | rfl | rfl | rfl
  · have r := r0 rfl
    rw [if_pos rfl]
    generalize hG : up (up g (35) (a)) (38) (1) = G
    have e24 : G (24) = g (24) := by rw [← hG, up_ne (by omega), up_ne (by omega)]
    have e31 : G (31) = g (31) := by rw [← hG, up_ne (by omega), up_ne (by omega)]
    have e32 : G (32) = g (32) := by rw [← hG, up_ne (by omega), up_ne (by omega)]
    have e33 : G (33) = g (33) := by rw [← hG, up_ne (by omega), up_ne (by omega)]
    have e34 : G (34) = g (34) := by rw [← hG, up_ne (by omega), up_ne (by omega)]
    have e35 : G (35) = a := by rw [← hG, up_ne (by omega), up_eq]
    have e36 : G (36) = g (36) := by rw [← hG, up_ne (by omega), up_ne (by omega)]
    have e37 : G (37) = g (37) := by rw [← hG, up_ne (by omega), up_ne (by omega)]
    have e38 : G (38) = 1 := by rw [← hG, up_eq]
    have e39 : G (39) = g (39) := by rw [← hG, up_ne (by omega), up_ne (by omega)]
    have e40 : G (40) = g (40) := by rw [← hG, up_ne (by omega), up_ne (by omega)]
    refine ⟨by omega, fun k hk => ?_, fun k hk hk2 => ?_⟩
    · have hh := Hb k hk
      have f0 : G (4 * k) = g (4 * k) := by rw [← hG, up_ne (by omega), up_ne (by omega)]
      have f1 : G (4 * k + 1) = g (4 * k + 1) := by rw [← hG, up_ne (by omega), up_ne (by omega)]
      have f2 : G (4 * k + 2) = g (4 * k + 2) := by rw [← hG, up_ne (by omega), up_ne (by omega)]
      have f3 : G (4 * k + 3) = g (4 * k + 3) := by rw [← hG, up_ne (by omega), up_ne (by omega)]
      omega
    · have hh := Hp k hk (by omega)
      have f0 : G (25 + 2 * k) = g (25 + 2 * k) := by rw [← hG, up_ne (by omega), up_ne (by omega)]
      have f1 : G (26 + 2 * k) = g (26 + 2 * k) := by rw [← hG, up_ne (by omega), up_ne (by omega)]
      omega
  · have r := r1 rfl
    rw [if_neg (by omega), if_pos rfl]
    generalize hG : up (up g (33) (a)) (39) (1) = G
    have e24 : G (24) = g (24) := by rw [← hG, up_ne (by omega), up_ne (by omega)]
    have e31 : G (31) = g (31) := by rw [← hG, up_ne (by omega), up_ne (by omega)]
    have e32 : G (32) = g (32) := by rw [← hG, up_ne (by omega), up_ne (by omega)]
    have e33 : G (33) = a := by rw [← hG, up_ne (by omega), up_eq]
    have e34 : G (34) = g (34) := by rw [← hG, up_ne (by omega), up_ne (by omega)]
    have e35 : G (35) = g (35) := by rw [← hG, up_ne (by omega), up_ne (by omega)]
    have e36 : G (36) = g (36) := by rw [← hG, up_ne (by omega), up_ne (by omega)]
    have e37 : G (37) = g (37) := by rw [← hG, up_ne (by omega), up_ne (by omega)]
    have e38 : G (38) = g (38) := by rw [← hG, up_ne (by omega), up_ne (by omega)]
    have e39 : G (39) = 1 := by rw [← hG, up_eq]
    have e40 : G (40) = g (40) := by rw [← hG, up_ne (by omega), up_ne (by omega)]
    refine ⟨by omega, fun k hk => ?_, fun k hk hk2 => ?_⟩
    · have hh := Hb k hk
      have f0 : G (4 * k) = g (4 * k) := by rw [← hG, up_ne (by omega), up_ne (by omega)]
      have f1 : G (4 * k + 1) = g (4 * k + 1) := by rw [← hG, up_ne (by omega), up_ne (by omega)]
      have f2 : G (4 * k + 2) = g (4 * k + 2) := by rw [← hG, up_ne (by omega), up_ne (by omega)]
      have f3 : G (4 * k + 3) = g (4 * k + 3) := by rw [← hG, up_ne (by omega), up_ne (by omega)]
      omega
    · have hh := Hp k hk (by omega)
      have f0 : G (25 + 2 * k) = g (25 + 2 * k) := by rw [← hG, up_ne (by omega), up_ne (by omega)]
      have f1 : G (26 + 2 * k) = g (26 + 2 * k) := by rw [← hG, up_ne (by omega), up_ne (by omega)]
      omega
  · have r := r2 rfl
    rw [if_neg (by omega), if_neg (by omega), if_pos rfl]
    generalize hG : up (up g (32) (a)) (40) (1) = G
    have e24 : G (24) = g (24) := by rw [← hG, up_ne (by omega), up_ne (by omega)]
    have e31 : G (31) = g (31) := by rw [← hG, up_ne (by omega), up_ne (by omega)]
    have e32 : G (32) = a := by rw [← hG, up_ne (by omega), up_eq]
    have e33 : G (33) = g (33) := by rw [← hG, up_ne (by omega), up_ne (by omega)]
    have e34 : G (34) = g (34) := by rw [← hG, up_ne (by omega), up_ne (by omega)]
    have e35 : G (35) = g (35) := by rw [← hG, up_ne (by omega), up_ne (by omega)]
    have e36 : G (36) = g (36) := by rw [← hG, up_ne (by omega), up_ne (by omega)]
    have e37 : G (37) = g (37) := by rw [← hG, up_ne (by omega), up_ne (by omega)]
    have e38 : G (38) = g (38) := by rw [← hG, up_ne (by omega), up_ne (by omega)]
    have e39 : G (39) = g (39) := by rw [← hG, up_ne (by omega), up_ne (by omega)]
    have e40 : G (40) = 1 := by rw [← hG, up_eq]
    refine ⟨by omega, fun k hk => ?_, fun k hk hk2 => ?_⟩
    · have hh := Hb k hk
      have f0 : G (4 * k) = g (4 * k) := by rw [← hG, up_ne (by omega), up_ne (by omega)]
      have f1 : G (4 * k + 1) = g (4 * k + 1) := by rw [← hG, up_ne (by omega), up_ne (by omega)]
      have f2 : G (4 * k + 2) = g (4 * k + 2) := by rw [← hG, up_ne (by omega), up_ne (by omega)]
      have f3 : G (4 * k + 3) = g (4 * k + 3) := by rw [← hG, up_ne (by omega), up_ne (by omega)]
      omega
    · have hh := Hp k hk (by omega)
      have f0 : G (25 + 2 * k) = g (25 + 2 * k) := by rw [← hG, up_ne (by omega), up_ne (by omega)]
      have f1 : G (26 + 2 * k) = g (26 + 2 * k) := by rw [← hG, up_ne (by omega), up_ne (by omega)]
      omega
  · have r := r3 rfl
    rw [if_neg (by omega), if_neg (by omega), if_neg (by omega), if_pos rfl]
    have m1 := mx_b (a + 1) (b + 1)
    have m2 := mx_b (g 36) (mx (a + 1) (b + 1))
    generalize mx (g 36) (mx (a + 1) (b + 1)) = m at *
    generalize mx (a + 1) (b + 1) = m2 at *
    generalize hq : g 24 = q at *
    generalize hG : up (up (up (up g (4 * q) (a)) (4 * q + 1) (b)) (24) (q + 1)) (36) (m) = G
    have e24 : G (24) = q + 1 := by rw [← hG, up_ne (by omega), up_eq]
    have e31 : G (31) = g (31) := by rw [← hG, up_ne (by omega), up_ne (by omega), up_ne (by omega), up_ne (by omega)]
    have e32 : G (32) = g (32) := by rw [← hG, up_ne (by omega), up_ne (by omega), up_ne (by omega), up_ne (by omega)]
    have e33 : G (33) = g (33) := by rw [← hG, up_ne (by omega), up_ne (by omega), up_ne (by omega), up_ne (by omega)]
    have e34 : G (34) = g (34) := by rw [← hG, up_ne (by omega), up_ne (by omega), up_ne (by omega), up_ne (by omega)]
    have e35 : G (35) = g (35) := by rw [← hG, up_ne (by omega), up_ne (by omega), up_ne (by omega), up_ne (by omega)]
    have e36 : G (36) = m := by rw [← hG, up_eq]
    have e37 : G (37) = g (37) := by rw [← hG, up_ne (by omega), up_ne (by omega), up_ne (by omega), up_ne (by omega)]
    have e38 : G (38) = g (38) := by rw [← hG, up_ne (by omega), up_ne (by omega), up_ne (by omega), up_ne (by omega)]
    have e39 : G (39) = g (39) := by rw [← hG, up_ne (by omega), up_ne (by omega), up_ne (by omega), up_ne (by omega)]
    have e40 : G (40) = g (40) := by rw [← hG, up_ne (by omega), up_ne (by omega), up_ne (by omega), up_ne (by omega)]
    refine ⟨by omega, fun k hk => ?_, fun k hk hk2 => ?_⟩
    · have hh := Hb k hk
      by_cases z : k = q
      · rw [z] at hh hk ⊢
        have f0 : G (4 * q) = a := by rw [← hG, up_ne (by omega), up_ne (by omega), up_ne (by omega), up_eq]
        have f1 : G (4 * q + 1) = b := by rw [← hG, up_ne (by omega), up_ne (by omega), up_eq]
        have f2 : G (4 * q + 2) = g (4 * q + 2) := by rw [← hG, up_ne (by omega), up_ne (by omega), up_ne (by omega), up_ne (by omega)]
        have f3 : G (4 * q + 3) = g (4 * q + 3) := by rw [← hG, up_ne (by omega), up_ne (by omega), up_ne (by omega), up_ne (by omega)]
        omega
      · have f0 : G (4 * k) = g (4 * k) := by rw [← hG, up_ne (by omega), up_ne (by omega), up_ne (by omega), up_ne (by omega)]
        have f1 : G (4 * k + 1) = g (4 * k + 1) := by rw [← hG, up_ne (by omega), up_ne (by omega), up_ne (by omega), up_ne (by omega)]
        have f2 : G (4 * k + 2) = g (4 * k + 2) := by rw [← hG, up_ne (by omega), up_ne (by omega), up_ne (by omega), up_ne (by omega)]
        have f3 : G (4 * k + 3) = g (4 * k + 3) := by rw [← hG, up_ne (by omega), up_ne (by omega), up_ne (by omega), up_ne (by omega)]
        omega
    · have hh := Hp k hk (by omega)
      have f0 : G (25 + 2 * k) = g (25 + 2 * k) := by rw [← hG, up_ne (by omega), up_ne (by omega), up_ne (by omega), up_ne (by omega)]
      have f1 : G (26 + 2 * k) = g (26 + 2 * k) := by rw [← hG, up_ne (by omega), up_ne (by omega), up_ne (by omega), up_ne (by omega)]
      omega
  · have r := r4 rfl
    rw [if_neg (by omega), if_neg (by omega), if_neg (by omega), if_neg (by omega), if_pos rfl]
    have m1 := mx_b (a + 1) (b + 1)
    have m2 := mx_b (g 37) (mx (a + 1) (b + 1))
    generalize mx (g 37) (mx (a + 1) (b + 1)) = m at *
    generalize mx (a + 1) (b + 1) = m2 at *
    generalize hG : up (up g (4 * a + 2) (b)) (37) (m) = G
    have e24 : G (24) = g (24) := by rw [← hG, up_ne (by omega), up_ne (by omega)]
    have e31 : G (31) = g (31) := by rw [← hG, up_ne (by omega), up_ne (by omega)]
    have e32 : G (32) = g (32) := by rw [← hG, up_ne (by omega), up_ne (by omega)]
    have e33 : G (33) = g (33) := by rw [← hG, up_ne (by omega), up_ne (by omega)]
    have e34 : G (34) = g (34) := by rw [← hG, up_ne (by omega), up_ne (by omega)]
    have e35 : G (35) = g (35) := by rw [← hG, up_ne (by omega), up_ne (by omega)]
    have e36 : G (36) = g (36) := by rw [← hG, up_ne (by omega), up_ne (by omega)]
    have e37 : G (37) = m := by rw [← hG, up_eq]
    have e38 : G (38) = g (38) := by rw [← hG, up_ne (by omega), up_ne (by omega)]
    have e39 : G (39) = g (39) := by rw [← hG, up_ne (by omega), up_ne (by omega)]
    have e40 : G (40) = g (40) := by rw [← hG, up_ne (by omega), up_ne (by omega)]
    refine ⟨by omega, fun k hk => ?_, fun k hk hk2 => ?_⟩
    · have hh := Hb k hk
      by_cases z : k = a
      · rw [z] at hh hk ⊢
        have f0 : G (4 * a) = g (4 * a) := by rw [← hG, up_ne (by omega), up_ne (by omega)]
        have f1 : G (4 * a + 1) = g (4 * a + 1) := by rw [← hG, up_ne (by omega), up_ne (by omega)]
        have f2 : G (4 * a + 2) = b := by rw [← hG, up_ne (by omega), up_eq]
        have f3 : G (4 * a + 3) = g (4 * a + 3) := by rw [← hG, up_ne (by omega), up_ne (by omega)]
        omega
      · have f0 : G (4 * k) = g (4 * k) := by rw [← hG, up_ne (by omega), up_ne (by omega)]
        have f1 : G (4 * k + 1) = g (4 * k + 1) := by rw [← hG, up_ne (by omega), up_ne (by omega)]
        have f2 : G (4 * k + 2) = g (4 * k + 2) := by rw [← hG, up_ne (by omega), up_ne (by omega)]
        have f3 : G (4 * k + 3) = g (4 * k + 3) := by rw [← hG, up_ne (by omega), up_ne (by omega)]
        omega
    · have hh := Hp k hk (by omega)
      have f0 : G (25 + 2 * k) = g (25 + 2 * k) := by rw [← hG, up_ne (by omega), up_ne (by omega)]
      have f1 : G (26 + 2 * k) = g (26 + 2 * k) := by rw [← hG, up_ne (by omega), up_ne (by omega)]
      omega
  · have r := r5 rfl
    rw [if_neg (by omega), if_neg (by omega), if_neg (by omega), if_neg (by omega), if_neg (by omega), if_pos rfl]
    have m2 := mx_b (g 37) (a + 1)
    generalize mx (g 37) (a + 1) = m at *
    generalize hG : up (up g (4 * a + 3) (b)) (37) (m) = G
    have e24 : G (24) = g (24) := by rw [← hG, up_ne (by omega), up_ne (by omega)]
    have e31 : G (31) = g (31) := by rw [← hG, up_ne (by omega), up_ne (by omega)]
    have e32 : G (32) = g (32) := by rw [← hG, up_ne (by omega), up_ne (by omega)]
    have e33 : G (33) = g (33) := by rw [← hG, up_ne (by omega), up_ne (by omega)]
    have e34 : G (34) = g (34) := by rw [← hG, up_ne (by omega), up_ne (by omega)]
    have e35 : G (35) = g (35) := by rw [← hG, up_ne (by omega), up_ne (by omega)]
    have e36 : G (36) = g (36) := by rw [← hG, up_ne (by omega), up_ne (by omega)]
    have e37 : G (37) = m := by rw [← hG, up_eq]
    have e38 : G (38) = g (38) := by rw [← hG, up_ne (by omega), up_ne (by omega)]
    have e39 : G (39) = g (39) := by rw [← hG, up_ne (by omega), up_ne (by omega)]
    have e40 : G (40) = g (40) := by rw [← hG, up_ne (by omega), up_ne (by omega)]
    refine ⟨by omega, fun k hk => ?_, fun k hk hk2 => ?_⟩
    · have hh := Hb k hk
      by_cases z : k = a
      · rw [z] at hh hk ⊢
        have f0 : G (4 * a) = g (4 * a) := by rw [← hG, up_ne (by omega), up_ne (by omega)]
        have f1 : G (4 * a + 1) = g (4 * a + 1) := by rw [← hG, up_ne (by omega), up_ne (by omega)]
        have f2 : G (4 * a + 2) = g (4 * a + 2) := by rw [← hG, up_ne (by omega), up_ne (by omega)]
        have f3 : G (4 * a + 3) = b := by rw [← hG, up_ne (by omega), up_eq]
        omega
      · have f0 : G (4 * k) = g (4 * k) := by rw [← hG, up_ne (by omega), up_ne (by omega)]
        have f1 : G (4 * k + 1) = g (4 * k + 1) := by rw [← hG, up_ne (by omega), up_ne (by omega)]
        have f2 : G (4 * k + 2) = g (4 * k + 2) := by rw [← hG, up_ne (by omega), up_ne (by omega)]
        have f3 : G (4 * k + 3) = g (4 * k + 3) := by rw [← hG, up_ne (by omega), up_ne (by omega)]
        omega
    · have hh := Hp k hk (by omega)
      have f0 : G (25 + 2 * k) = g (25 + 2 * k) := by rw [← hG, up_ne (by omega), up_ne (by omega)]
      have f1 : G (26 + 2 * k) = g (26 + 2 * k) := by rw [← hG, up_ne (by omega), up_ne (by omega)]
      omega
  · have r := r6 rfl
    rw [if_neg (by omega), if_neg (by omega), if_neg (by omega), if_neg (by omega), if_neg (by omega), if_neg (by omega)]
    have m1 := mx_b (a + 1) (b + 1)
    have m2 := mx_b (g 36) (mx (a + 1) (b + 1))
    generalize mx (g 36) (mx (a + 1) (b + 1)) = m at *
    generalize mx (a + 1) (b + 1) = m2 at *
    generalize hq : g 31 = q at *
    generalize hG : up (up (up (up g (25 + 2 * q) (a)) (26 + 2 * q) (b)) (31) (q + 1)) (36) (m) = G
    have e24 : G (24) = g (24) := by rw [← hG, up_ne (by omega), up_ne (by omega), up_ne (by omega), up_ne (by omega)]
    have e31 : G (31) = q + 1 := by rw [← hG, up_ne (by omega), up_eq]
    have e32 : G (32) = g (32) := by rw [← hG, up_ne (by omega), up_ne (by omega), up_ne (by omega), up_ne (by omega)]
    have e33 : G (33) = g (33) := by rw [← hG, up_ne (by omega), up_ne (by omega), up_ne (by omega), up_ne (by omega)]
    have e34 : G (34) = g (34) := by rw [← hG, up_ne (by omega), up_ne (by omega), up_ne (by omega), up_ne (by omega)]
    have e35 : G (35) = g (35) := by rw [← hG, up_ne (by omega), up_ne (by omega), up_ne (by omega), up_ne (by omega)]
    have e36 : G (36) = m := by rw [← hG, up_eq]
    have e37 : G (37) = g (37) := by rw [← hG, up_ne (by omega), up_ne (by omega), up_ne (by omega), up_ne (by omega)]
    have e38 : G (38) = g (38) := by rw [← hG, up_ne (by omega), up_ne (by omega), up_ne (by omega), up_ne (by omega)]
    have e39 : G (39) = g (39) := by rw [← hG, up_ne (by omega), up_ne (by omega), up_ne (by omega), up_ne (by omega)]
    have e40 : G (40) = g (40) := by rw [← hG, up_ne (by omega), up_ne (by omega), up_ne (by omega), up_ne (by omega)]
    refine ⟨by omega, fun k hk => ?_, fun k hk hk2 => ?_⟩
    · have hh := Hb k hk
      have f0 : G (4 * k) = g (4 * k) := by rw [← hG, up_ne (by omega), up_ne (by omega), up_ne (by omega), up_ne (by omega)]
      have f1 : G (4 * k + 1) = g (4 * k + 1) := by rw [← hG, up_ne (by omega), up_ne (by omega), up_ne (by omega), up_ne (by omega)]
      have f2 : G (4 * k + 2) = g (4 * k + 2) := by rw [← hG, up_ne (by omega), up_ne (by omega), up_ne (by omega), up_ne (by omega)]
      have f3 : G (4 * k + 3) = g (4 * k + 3) := by rw [← hG, up_ne (by omega), up_ne (by omega), up_ne (by omega), up_ne (by omega)]
      omega
    · by_cases z : k = q
      · rw [z] at hk hk2 ⊢
        have f0 : G (25 + 2 * q) = a := by rw [← hG, up_ne (by omega), up_ne (by omega), up_ne (by omega), up_eq]
        have f1 : G (26 + 2 * q) = b := by rw [← hG, up_ne (by omega), up_ne (by omega), up_eq]
        omega
      · have hh := Hp k hk (by omega)
        have f0 : G (25 + 2 * k) = g (25 + 2 * k) := by rw [← hG, up_ne (by omega), up_ne (by omega), up_ne (by omega), up_ne (by omega)]
        have f1 : G (26 + 2 * k) = g (26 + 2 * k) := by rw [← hG, up_ne (by omega), up_ne (by omega), up_ne (by omega), up_ne (by omega)]
        omega
theorem gq_pg {g : Nat → Nat} (H : gq g) (h1 : g 36 ≤ g 35) (h2 : g 37 ≤ g 24) : pg_ok g := by
  obtain ⟨⟨q24, q31, q32, q33, q34, q35, q36, q37, q38, q39, q40⟩, Hb, Hp⟩ := H
  refine ⟨q24, q31, q32, q33.1, q33.2, by omega, q35.1, q35.2, fun b hb => ?_, fun b hb => ?_, fun b hb hb2 => ?_, fun p hp => ?_⟩
  · have := Hb b (by omega); omega
  · have := Hb b hb; omega
  · have := Hb b hb2; omega
  · have := Hp p (by omega) hp; omega
section TF
variable {T : Nat → Nat} {n : Nat} {g : Nat → Nat}
theorem linF_ok {w a b i : Nat} (hi : i ≤ n) (hw : w < 7) (H : gq g) (R : lnR w a b g) (e : (linF T n w a b i g).1 = 0) : gq (linF T n w a b i g).2.2 ∧ i < (linF T n w a b i g).2.1 ∧ (linF T n w a b i g).2.1 ≤ n := by
  have hS := tkS_b (T := T) hi
  have hE := eE_b (T := T) hS.2
  unfold linF at e ⊢
  by_cases z1 : eK T n (tkS T n i) = 4
  · rw [if_pos z1] at e; dsimp only at e; omega
  · rw [if_neg z1] at e ⊢
    by_cases z2 : eK T n (tkS T n i) = 3
    · rw [if_neg (fun y => y z2)]
      have : ¬ tkS T n i = n := fun y => by have := (eK_0 (T := T) (n := n)).mpr y; omega
      exact ⟨tlg_gq hw H R, by dsimp only; omega, by dsimp only; omega⟩
    · rw [if_pos z2] at e; dsimp only at e; omega
theorem lin2_ok {w a i : Nat} (hi : i ≤ n) (hw : w < 7) (H : gq g) (R : ∀ b, lo2 w ≤ b → b ≤ hi2 w → ¬ ((w = 3 ∨ w = 4) ∧ a = b) → lnR w a b g) (e : (lin2 T n w a i g).1 = 0) : gq (lin2 T n w a i g).2.2 ∧ i < (lin2 T n w a i g).2.1 ∧ (lin2 T n w a i g).2.1 ≤ n := by
  have hS := tkS_b (T := T) hi
  have hE := eE_b (T := T) hS.2
  unfold lin2 at e ⊢
  by_cases z1 : nC T n (tkS T n i) (lo2 w) (hi2 w) = 0
  · rw [if_neg (fun y => y z1)] at e ⊢
    by_cases z2 : (w = 3 ∨ w = 4) ∧ a = eV T n (tkS T n i)
    · rw [if_pos z2] at e; dsimp only at e; omega
    · rw [if_neg z2] at e ⊢
      have c := nC_0 z1
      have := linF_ok hE.2.1 hw H (R _ c.2.1 c.2.2 z2) e
      exact ⟨this.1, by omega, this.2.2⟩
  · rw [if_pos z1] at e; exact absurd e z1
theorem lnR_3 : ∀ w, w < 7 → w = 0 ∨ w = 1 ∨ w = 2 ∨ w = 3 ∨ w = 4 ∨ w = 5 ∨ w = 6 := by omega
theorem lin1_ok {w i : Nat} (hi : i ≤ n) (hw : w < 7) (H : gq g) (h3 : ¬ ((w = 3 ∧ g 24 = 6) ∨ (w = 6 ∧ g 31 = 3))) (e : (lin1 T n w i g).1 = 0) : gq (lin1 T n w i g).2.2 ∧ i < (lin1 T n w i g).2.1 ∧ (lin1 T n w i g).2.1 ≤ n := by
  have hS := tkS_b (T := T) hi
  have hE := eE_b (T := T) hS.2
  have q24 := H.1.1
  have q31 := H.1.2.1
  unfold lin1 at e ⊢
  by_cases z1 : nC T n (tkS T n i) (lo1 w) (hi1 w) = 0
  · rw [if_neg (fun y => y z1)] at e ⊢
    have c := nC_0 z1
    generalize eV T n (tkS T n i) = a at *
    by_cases z2 : tkn w g a = true
    · rw [if_pos z2] at e; dsimp only at e; omega
    · rw [if_neg z2] at e ⊢
      have z2 : ¬ ((w = 4 ∧ ¬ g (4 * a + 2) = 6) ∨ (w = 5 ∧ ¬ g (4 * a + 3) = 0)) := fun y => z2 (decide_eq_true y)
      have R : ∀ b, (3 ≤ w → lo2 w ≤ b ∧ b ≤ hi2 w ∧ ¬ ((w = 3 ∨ w = 4) ∧ a = b)) → lnR w a b g := fun b hb => by
        have hb2 : 3 ≤ w → w = 3 ∨ w = 4 → a ≠ b := fun y z q => (hb y).2.2 ⟨z, q⟩
        unfold lnR
        rcases lnR_3 w hw with rfl | rfl | rfl | rfl | rfl | rfl | rfl <;> simp only [lo1, hi1, lo2, hi2, List.getD_cons_zero, List.getD_cons_succ] at c hb <;> first | omega | (have h9 := hb2 (by omega) (by omega); omega)
      by_cases z3 : w < 3
      · rw [if_pos z3] at e ⊢
        have := linF_ok hE.2.1 hw H (R 0 (fun y => by omega)) e
        exact ⟨this.1, by omega, this.2.2⟩
      · rw [if_neg z3] at e ⊢
        have := lin2_ok hE.2.1 hw H (fun b b1 b2 b3 => R b (fun _ => ⟨b1, b2, b3⟩)) e
        exact ⟨this.1, by omega, this.2.2⟩
  · rw [if_pos z1] at e; exact absurd e z1
theorem lin0_ok {j : Nat} (hj : j ≤ n) (H : gq g) (e : (lin0 T n j g).1 = 0) : gq (lin0 T n j g).2.2 ∧ j < (lin0 T n j g).2.1 ∧ (lin0 T n j g).2.1 ≤ n := by
  have hE := eE_b (T := T) hj
  have h7 := wdO_7 T j (eE T n j)
  unfold lin0 at e ⊢
  by_cases z1 : eK T n j = 4
  · rw [if_pos z1] at e; dsimp only at e; omega
  · rw [if_neg z1] at e ⊢
    by_cases z2 : eK T n j = 1
    · rw [if_neg (fun y => y z2)] at e ⊢
      generalize wdO T j (eE T n j) = w at *
      unfold linW at e ⊢
      by_cases z3 : w = 7
      · rw [if_pos z3] at e; dsimp only at e; omega
      · rw [if_neg z3] at e ⊢
        by_cases z4 : w < 3 ∧ g (38 + w) = 1
        · rw [if_pos z4] at e; dsimp only at e; omega
        · rw [if_neg z4] at e ⊢
          by_cases z5 : (w = 3 ∧ g 24 = 6) ∨ (w = 6 ∧ g 31 = 3)
          · rw [if_pos z5] at e; dsimp only at e; omega
          · rw [if_neg z5] at e ⊢
            have := lin1_ok hE.2.1 (by omega) H z5 e
            exact ⟨this.1, by omega, this.2.2⟩
    · rw [if_pos z2] at e; dsimp only at e; omega
end TF
