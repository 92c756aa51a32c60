/-! text: the reference's side of what was told -/
def msQ (g : Nat → Nat) (h : xe_H) : Prop := (xe_I h 48 3 = nI (g 35) ∧ xe_I h 50 24 = nI (g 24) ∧ xe_I h 50 31 = nI (g 31) ∧ xe_I h 50 32 = nI (g 32) ∧ xe_I h 50 33 = nI (g 33) - 2 ∧ xe_I h 50 34 = nI (g 34)) ∧
  (∀ b, b < g 24 → xe_I h 50 (4 * b) = nI (g (4 * b)) ∧ xe_I h 50 (4 * b + 1) = nI (g (4 * b + 1))) ∧
  (∀ b, b < 6 → xe_I h 51 b = no4 (g (4 * b + 2)) ∧ xe_I h 52 b = nI (g (4 * b + 3))) ∧
  (∀ p, p < g 31 → xe_I h 50 (25 + 2 * p) = nI (g (25 + 2 * p)) ∧ xe_I h 50 (26 + 2 * p) = nI (g (26 + 2 * p))) ∧
  (∃ m, m < 128 ∧ xe_I h 48 4 = nI m ∧ ∀ w, w < 3 → m / 2 ^ w % 2 = g (38 + w)) ∧
  (xe_I h 48 5 = nI (g 36) - 1 ∧ xe_I h 48 6 = nI (g 37) - 1) ∧
  (∃ m, m < 128 ∧ xe_I h 48 7 = nI m ∧ ∀ b, b < 6 → m / 2 ^ b % 2 = if g (4 * b + 3) = 0 then 0 else 1) ∧
  (∃ m, m < 128 ∧ xe_I h 48 8 = nI m ∧ ∀ b, b < 6 → m / 2 ^ b % 2 = if g (4 * b + 2) = 6 then 0 else 1)
theorem mx_as (a b c : Nat) : mx (mx a b) c = mx a (mx b c) := by
  have h1 := mx_b (mx a b) c
  have h2 := mx_b a b
  have h3 := mx_b a (mx b c)
  have h4 := mx_b b c
  omega
section TL
variable {h h1 : xe_H} {g : Nat → Nat} {a b : Nat}
theorem msQ_c (M : msQ g h) (e : ∀ c j, (c = 48 ∧ 3 ≤ j ∧ j ≤ 8) ∨ (50 ≤ c ∧ c ≤ 52) → xe_I h1 c j = xe_I h c j) : msQ g h1 := by
  have e50 : ∀ j, xe_I h1 50 j = xe_I h 50 j := fun j => e 50 j (by omega)
  have e51 : ∀ j, xe_I h1 51 j = xe_I h 51 j := fun j => e 51 j (by omega)
  have e52 : ∀ j, xe_I h1 52 j = xe_I h 52 j := fun j => e 52 j (by omega)
  unfold msQ
  simp only [e 48 3 (by omega), e 48 4 (by omega), e 48 5 (by omega), e 48 6 (by omega), e 48 7 (by omega), e 48 8 (by omega), e50, e51, e52]
  exact M
theorem ms_0 (G : gq g) (R : lnR 0 a b g) (M : msQ g h) (i : ∀ c j, ¬ (c = 48 ∧ (j = 3 ∨ j = 4 ∨ (14 ≤ j ∧ j ≤ 19))) → xe_I h1 c j = xe_I h c j) (v1 : xe_I h1 48 3 = nI a) (v2 : ∀ m, m < 128 → xe_I h 48 4 = nI m → xe_I h1 48 4 = nI (bor m 0)) : msQ (tlg 0 a b g) h1 := by
  obtain ⟨⟨q24, q31, q32, q33, q34, q35, q36, q37, q38, q39, q40⟩, Hb, Hp⟩ := G
  obtain ⟨r0, r1, r2, r3, r4, r5, r6⟩ := R
  have r := r0 rfl
  clear r0 r1 r2 r3 r4 r5 r6
  obtain ⟨⟨a1, a2, a3, a4, a5, a6⟩, bb, cc, pp, ⟨m, m1, m2, m3⟩, ⟨t1, t2⟩, ⟨s, s1, s2, s3⟩, ⟨k, k1, k2, k3⟩⟩ := M
  unfold tlg
  rw [if_pos rfl]
  generalize hG : up (up g (35) (a)) (38) (1) = G
  have e : ∀ k, k ≠ 35 → k ≠ 38 → G k = g k := fun k n0 n1 => by rw [← hG, up_ne n1, up_ne n0]
  have e0 : G (35) = a := by rw [← hG, up_ne (by omega), up_eq]
  have e1 : G (38) = 1 := by rw [← hG, up_eq]
  refine ⟨⟨?_, ?_, ?_, ?_, ?_, ?_⟩, fun z hz => ?_, fun z hz => ?_, fun z hz => ?_, ?_, ⟨?_, ?_⟩, ?_, ?_⟩
  · rw [v1, e0]
  · rw [i _ _ (by omega), e _ (by omega) (by omega)]; exact a2
  · rw [i _ _ (by omega), e _ (by omega) (by omega)]; exact a3
  · rw [i _ _ (by omega), e _ (by omega) (by omega)]; exact a4
  · rw [i _ _ (by omega), e _ (by omega) (by omega)]; exact a5
  · rw [i _ _ (by omega), e _ (by omega) (by omega)]; exact a6
  · rw [e _ (by omega) (by omega)] at hz; rw [i _ _ (by omega), e _ (by omega) (by omega), i _ _ (by omega), e _ (by omega) (by omega)]; exact bb z (by omega)
  · rw [i _ _ (by omega), e _ (by omega) (by omega), i _ _ (by omega), e _ (by omega) (by omega)]; exact cc z hz
  · rw [e _ (by omega) (by omega)] at hz; rw [i _ _ (by omega), e _ (by omega) (by omega), i _ _ (by omega), e _ (by omega) (by omega)]; exact pp z (by omega)
  · rw [v2 m m1 m2]
    refine told_w (w := 0) (by omega) m1 m3 (fun z hz => ?_)
    by_cases y : z = 0
    · rw [if_pos y, y]; exact e1
    · rw [if_neg y]; exact e _ (by omega) (by omega)
  · rw [i _ _ (by omega), e _ (by omega) (by omega)]; exact t1
  · rw [i _ _ (by omega), e _ (by omega) (by omega)]; exact t2
  · refine ⟨s, s1, by rw [i _ _ (by omega)]; exact s2, fun z hz => ?_⟩
    rw [e _ (by omega) (by omega)]; exact s3 z hz
  · refine ⟨k, k1, by rw [i _ _ (by omega)]; exact k2, fun z hz => ?_⟩
    rw [e _ (by omega) (by omega)]; exact k3 z hz
theorem ms_1 (G : gq g) (R : lnR 1 a b g) (M : msQ g h) (i : ∀ c j, ¬ ((c = 48 ∧ (j = 4 ∨ (14 ≤ j ∧ j ≤ 19))) ∨ (c = 50 ∧ j = 33)) → xe_I h1 c j = xe_I h c j) (v1 : xe_I h1 50 33 = nI a - 2) (v2 : ∀ m, m < 128 → xe_I h 48 4 = nI m → xe_I h1 48 4 = nI (bor m 1)) : msQ (tlg 1 a b g) h1 := by
  obtain ⟨⟨q24, q31, q32, q33, q34, q35, q36, q37, q38, q39, q40⟩, Hb, Hp⟩ := G
  obtain ⟨r0, r1, r2, r3, r4, r5, r6⟩ := R
  have r := r1 rfl
  clear r0 r1 r2 r3 r4 r5 r6
  obtain ⟨⟨a1, a2, a3, a4, a5, a6⟩, bb, cc, pp, ⟨m, m1, m2, m3⟩, ⟨t1, t2⟩, ⟨s, s1, s2, s3⟩, ⟨k, k1, k2, k3⟩⟩ := M
  unfold tlg
  rw [if_neg (by omega), if_pos rfl]
  generalize hG : up (up g (33) (a)) (39) (1) = G
  have e : ∀ k, k ≠ 33 → k ≠ 39 → G k = g k := fun k n0 n1 => by rw [← hG, up_ne n1, up_ne n0]
  have e0 : G (33) = a := by rw [← hG, up_ne (by omega), up_eq]
  have e1 : G (39) = 1 := by rw [← hG, up_eq]
  refine ⟨⟨?_, ?_, ?_, ?_, ?_, ?_⟩, fun z hz => ?_, fun z hz => ?_, fun z hz => ?_, ?_, ⟨?_, ?_⟩, ?_, ?_⟩
  · rw [i _ _ (by omega), e _ (by omega) (by omega)]; exact a1
  · rw [i _ _ (by omega), e _ (by omega) (by omega)]; exact a2
  · rw [i _ _ (by omega), e _ (by omega) (by omega)]; exact a3
  · rw [i _ _ (by omega), e _ (by omega) (by omega)]; exact a4
  · rw [v1, e0]
  · rw [i _ _ (by omega), e _ (by omega) (by omega)]; exact a6
  · rw [e _ (by omega) (by omega)] at hz; rw [i _ _ (by omega), e _ (by omega) (by omega), i _ _ (by omega), e _ (by omega) (by omega)]; exact bb z (by omega)
  · rw [i _ _ (by omega), e _ (by omega) (by omega), i _ _ (by omega), e _ (by omega) (by omega)]; exact cc z hz
  · rw [e _ (by omega) (by omega)] at hz; rw [i _ _ (by omega), e _ (by omega) (by omega), i _ _ (by omega), e _ (by omega) (by omega)]; exact pp z (by omega)
  · rw [v2 m m1 m2]
    refine told_w (w := 1) (by omega) m1 m3 (fun z hz => ?_)
    by_cases y : z = 1
    · rw [if_pos y, y]; exact e1
    · rw [if_neg y]; exact e _ (by omega) (by omega)
  · rw [i _ _ (by omega), e _ (by omega) (by omega)]; exact t1
  · rw [i _ _ (by omega), e _ (by omega) (by omega)]; exact t2
  · refine ⟨s, s1, by rw [i _ _ (by omega)]; exact s2, fun z hz => ?_⟩
    rw [e _ (by omega) (by omega)]; exact s3 z hz
  · refine ⟨k, k1, by rw [i _ _ (by omega)]; exact k2, fun z hz => ?_⟩
    rw [e _ (by omega) (by omega)]; exact k3 z hz
theorem ms_2 (G : gq g) (R : lnR 2 a b g) (M : msQ g h) (i : ∀ c j, ¬ ((c = 48 ∧ (j = 4 ∨ (14 ≤ j ∧ j ≤ 19))) ∨ (c = 50 ∧ j = 32)) → xe_I h1 c j = xe_I h c j) (v1 : xe_I h1 50 32 = nI a) (v2 : ∀ m, m < 128 → xe_I h 48 4 = nI m → xe_I h1 48 4 = nI (bor m 2)) : msQ (tlg 2 a b g) h1 := by
  obtain ⟨⟨q24, q31, q32, q33, q34, q35, q36, q37, q38, q39, q40⟩, Hb, Hp⟩ := G
  obtain ⟨r0, r1, r2, r3, r4, r5, r6⟩ := R
  have r := r2 rfl
  clear r0 r1 r2 r3 r4 r5 r6
  obtain ⟨⟨a1, a2, a3, a4, a5, a6⟩, bb, cc, pp, ⟨m, m1, m2, m3⟩, ⟨t1, t2⟩, ⟨s, s1, s2, s3⟩, ⟨k, k1, k2, k3⟩⟩ := M
  unfold tlg
  rw [if_neg (by omega), if_neg (by omega), if_pos rfl]
  generalize hG : up (up g (32) (a)) (40) (1) = G
  have e : ∀ k, k ≠ 32 → k ≠ 40 → G k = g k := fun k n0 n1 => by rw [← hG, up_ne n1, up_ne n0]
  have e0 : G (32) = a := by rw [← hG, up_ne (by omega), up_eq]
  have e1 : G (40) = 1 := by rw [← hG, up_eq]
  refine ⟨⟨?_, ?_, ?_, ?_, ?_, ?_⟩, fun z hz => ?_, fun z hz => ?_, fun z hz => ?_, ?_, ⟨?_, ?_⟩, ?_, ?_⟩
  · rw [i _ _ (by omega), e _ (by omega) (by omega)]; exact a1
  · rw [i _ _ (by omega), e _ (by omega) (by omega)]; exact a2
  · rw [i _ _ (by omega), e _ (by omega) (by omega)]; exact a3
  · rw [v1, e0]
  · rw [i _ _ (by omega), e _ (by omega) (by omega)]; exact a5
  · rw [i _ _ (by omega), e _ (by omega) (by omega)]; exact a6
  · rw [e _ (by omega) (by omega)] at hz; rw [i _ _ (by omega), e _ (by omega) (by omega), i _ _ (by omega), e _ (by omega) (by omega)]; exact bb z (by omega)
  · rw [i _ _ (by omega), e _ (by omega) (by omega), i _ _ (by omega), e _ (by omega) (by omega)]; exact cc z hz
  · rw [e _ (by omega) (by omega)] at hz; rw [i _ _ (by omega), e _ (by omega) (by omega), i _ _ (by omega), e _ (by omega) (by omega)]; exact pp z (by omega)
  · rw [v2 m m1 m2]
    refine told_w (w := 2) (by omega) m1 m3 (fun z hz => ?_)
    by_cases y : z = 2
    · rw [if_pos y, y]; exact e1
    · rw [if_neg y]; exact e _ (by omega) (by omega)
  · rw [i _ _ (by omega), e _ (by omega) (by omega)]; exact t1
  · rw [i _ _ (by omega), e _ (by omega) (by omega)]; exact t2
  · refine ⟨s, s1, by rw [i _ _ (by omega)]; exact s2, fun z hz => ?_⟩
    rw [e _ (by omega) (by omega)]; exact s3 z hz
  · refine ⟨k, k1, by rw [i _ _ (by omega)]; exact k2, fun z hz => ?_⟩
    rw [e _ (by omega) (by omega)]; exact k3 z hz
theorem ms_3 (G : gq g) (R : lnR 3 a b g) (M : msQ g h) (i : ∀ c j, ¬ ((c = 48 ∧ (j = 5 ∨ (14 ≤ j ∧ j ≤ 19))) ∨ (c = 50 ∧ (j = 4 * g 24 ∨ j = 4 * g 24 + 1 ∨ j = 24))) → xe_I h1 c j = xe_I h c j) (v1 : xe_I h1 50 (4 * g 24) = nI a) (v2 : xe_I h1 50 (4 * g 24 + 1) = nI b) (v3 : xe_I h1 50 24 = nI (g 24 + 1)) (v4 : xe_I h1 48 5 = nI (mx (mx (g 36) (a + 1)) (b + 1)) - 1) : msQ (tlg 3 a b g) h1 := by
  obtain ⟨⟨q24, q31, q32, q33, q34, q35, q36, q37, q38, q39, q40⟩, Hb, Hp⟩ := G
  obtain ⟨r0, r1, r2, r3, r4, r5, r6⟩ := R
  have r := r3 rfl
  clear r0 r1 r2 r3 r4 r5 r6
  obtain ⟨⟨a1, a2, a3, a4, a5, a6⟩, bb, cc, pp, ⟨m, m1, m2, m3⟩, ⟨t1, t2⟩, ⟨s, s1, s2, s3⟩, ⟨k, k1, k2, k3⟩⟩ := M
  unfold tlg
  rw [if_neg (by omega), if_neg (by omega), if_neg (by omega), if_pos rfl]
  rw [mx_as] at v4
  generalize mx (g 36) (mx (a + 1) (b + 1)) = M at *
  generalize hq : g 24 = q at *
  generalize hG : up (up (up (up g (4 * q) (a)) (4 * q + 1) (b)) (24) (q + 1)) (36) (M) = G
  have e : ∀ k, k ≠ 4 * q → k ≠ 4 * q + 1 → k ≠ 24 → k ≠ 36 → G k = g k := fun k n0 n1 n2 n3 => by rw [← hG, up_ne n3, up_ne n2, up_ne n1, up_ne n0]
  have e0 : G (4 * q) = a := by rw [← hG, up_ne (by omega), up_ne (by omega), up_ne (by omega), up_eq]
  have e1 : G (4 * q + 1) = b := by rw [← hG, up_ne (by omega), up_ne (by omega), up_eq]
  have e2 : G (24) = q + 1 := by rw [← hG, up_ne (by omega), up_eq]
  have e3 : G (36) = M := by rw [← hG, up_eq]
  refine ⟨⟨?_, ?_, ?_, ?_, ?_, ?_⟩, fun z hz => ?_, fun z hz => ?_, fun z hz => ?_, ?_, ⟨?_, ?_⟩, ?_, ?_⟩
  · rw [i _ _ (by omega), e _ (by omega) (by omega) (by omega) (by omega)]; exact a1
  · rw [v3, e2]
  · rw [i _ _ (by omega), e _ (by omega) (by omega) (by omega) (by omega)]; exact a3
  · rw [i _ _ (by omega), e _ (by omega) (by omega) (by omega) (by omega)]; exact a4
  · rw [i _ _ (by omega), e _ (by omega) (by omega) (by omega) (by omega)]; exact a5
  · rw [i _ _ (by omega), e _ (by omega) (by omega) (by omega) (by omega)]; exact a6
  · rw [e2] at hz
    by_cases y : z = q
    · rw [y]; exact ⟨by rw [v1, e0], by rw [v2, e1]⟩
    · rw [i _ _ (by omega), e _ (by omega) (by omega) (by omega) (by omega), i _ _ (by omega), e _ (by omega) (by omega) (by omega) (by omega)]; exact bb z (by omega)
  · rw [i _ _ (by omega), e _ (by omega) (by omega) (by omega) (by omega), i _ _ (by omega), e _ (by omega) (by omega) (by omega) (by omega)]; exact cc z hz
  · rw [e _ (by omega) (by omega) (by omega) (by omega)] at hz; rw [i _ _ (by omega), e _ (by omega) (by omega) (by omega) (by omega), i _ _ (by omega), e _ (by omega) (by omega) (by omega) (by omega)]; exact pp z (by omega)
  · refine ⟨m, m1, by rw [i _ _ (by omega)]; exact m2, fun z hz => ?_⟩
    rw [e _ (by omega) (by omega) (by omega) (by omega)]; exact m3 z hz
  · rw [v4, e3]
  · rw [i _ _ (by omega), e _ (by omega) (by omega) (by omega) (by omega)]; exact t2
  · refine ⟨s, s1, by rw [i _ _ (by omega)]; exact s2, fun z hz => ?_⟩
    rw [e _ (by omega) (by omega) (by omega) (by omega)]; exact s3 z hz
  · refine ⟨k, k1, by rw [i _ _ (by omega)]; exact k2, fun z hz => ?_⟩
    rw [e _ (by omega) (by omega) (by omega) (by omega)]; exact k3 z hz
theorem ms_4 (G : gq g) (R : lnR 4 a b g) (M : msQ g h) (i : ∀ c j, ¬ ((c = 48 ∧ (j = 6 ∨ j = 8 ∨ (14 ≤ j ∧ j ≤ 19))) ∨ (c = 51 ∧ j = a)) → xe_I h1 c j = xe_I h c j) (v1 : xe_I h1 51 a = nI b) (v2 : ∀ m, m < 128 → xe_I h 48 8 = nI m → xe_I h1 48 8 = nI (bor m a)) (v4 : xe_I h1 48 6 = nI (mx (mx (g 37) (a + 1)) (b + 1)) - 1) : msQ (tlg 4 a b g) h1 := by
  obtain ⟨⟨q24, q31, q32, q33, q34, q35, q36, q37, q38, q39, q40⟩, Hb, Hp⟩ := G
  obtain ⟨r0, r1, r2, r3, r4, r5, r6⟩ := R
  have r := r4 rfl
  clear r0 r1 r2 r3 r4 r5 r6
  obtain ⟨⟨a1, a2, a3, a4, a5, a6⟩, bb, cc, pp, ⟨m, m1, m2, m3⟩, ⟨t1, t2⟩, ⟨s, s1, s2, s3⟩, ⟨k, k1, k2, k3⟩⟩ := M
  unfold tlg
  rw [if_neg (by omega), if_neg (by omega), if_neg (by omega), if_neg (by omega), if_pos rfl]
  rw [mx_as] at v4
  generalize mx (g 37) (mx (a + 1) (b + 1)) = M at *
  generalize hG : up (up g (4 * a + 2) (b)) (37) (M) = G
  have e : ∀ k, k ≠ 4 * a + 2 → k ≠ 37 → G k = g k := fun k n0 n1 => by rw [← hG, up_ne n1, up_ne n0]
  have e0 : G (4 * a + 2) = b := by rw [← hG, up_ne (by omega), up_eq]
  have e1 : G (37) = M := by rw [← hG, up_eq]
  refine ⟨⟨?_, ?_, ?_, ?_, ?_, ?_⟩, fun z hz => ?_, fun z hz => ?_, fun z hz => ?_, ?_, ⟨?_, ?_⟩, ?_, ?_⟩
  · rw [i _ _ (by omega), e _ (by omega) (by omega)]; exact a1
  · rw [i _ _ (by omega), e _ (by omega) (by omega)]; exact a2
  · rw [i _ _ (by omega), e _ (by omega) (by omega)]; exact a3
  · rw [i _ _ (by omega), e _ (by omega) (by omega)]; exact a4
  · rw [i _ _ (by omega), e _ (by omega) (by omega)]; exact a5
  · rw [i _ _ (by omega), e _ (by omega) (by omega)]; exact a6
  · rw [e _ (by omega) (by omega)] at hz; rw [i _ _ (by omega), e _ (by omega) (by omega), i _ _ (by omega), e _ (by omega) (by omega)]; exact bb z (by omega)
  · by_cases y : z = a
    · rw [y]
      refine ⟨by rw [v1, e0]; unfold no4; rw [if_neg (by omega)], ?_⟩
      rw [i _ _ (by omega), e _ (by omega) (by omega)]; exact (cc a (by omega)).2
    · rw [i _ _ (by omega), e _ (by omega) (by omega), i _ _ (by omega), e _ (by omega) (by omega)]; exact cc z hz
  · rw [e _ (by omega) (by omega)] at hz; rw [i _ _ (by omega), e _ (by omega) (by omega), i _ _ (by omega), e _ (by omega) (by omega)]; exact pp z (by omega)
  · refine ⟨m, m1, by rw [i _ _ (by omega)]; exact m2, fun z hz => ?_⟩
    rw [e _ (by omega) (by omega)]; exact m3 z hz
  · rw [i _ _ (by omega), e _ (by omega) (by omega)]; exact t1
  · rw [v4, e1]
  · refine ⟨s, s1, by rw [i _ _ (by omega)]; exact s2, fun z hz => ?_⟩
    rw [e _ (by omega) (by omega)]; exact s3 z hz
  · obtain ⟨-, o2, o3⟩ := bt_or k k1 a (by omega)
    refine ⟨bor k a, o2, v2 k k1 k2, fun z hz => ?_⟩
    rw [o3 z (by omega)]
    by_cases y : z = a
    · rw [if_pos y, y, e0, if_neg (by omega)]
    · rw [if_neg y, e _ (by omega) (by omega)]; exact k3 z hz
theorem ms_5 (G : gq g) (R : lnR 5 a b g) (M : msQ g h) (i : ∀ c j, ¬ ((c = 48 ∧ (j = 6 ∨ j = 7 ∨ (14 ≤ j ∧ j ≤ 19))) ∨ (c = 52 ∧ j = a)) → xe_I h1 c j = xe_I h c j) (v1 : xe_I h1 52 a = nI b) (v2 : ∀ m, m < 128 → xe_I h 48 7 = nI m → xe_I h1 48 7 = nI (bor m a)) (v4 : xe_I h1 48 6 = nI (mx (g 37) (a + 1)) - 1) : msQ (tlg 5 a b g) h1 := by
  obtain ⟨⟨q24, q31, q32, q33, q34, q35, q36, q37, q38, q39, q40⟩, Hb, Hp⟩ := G
  obtain ⟨r0, r1, r2, r3, r4, r5, r6⟩ := R
  have r := r5 rfl
  clear r0 r1 r2 r3 r4 r5 r6
  obtain ⟨⟨a1, a2, a3, a4, a5, a6⟩, bb, cc, pp, ⟨m, m1, m2, m3⟩, ⟨t1, t2⟩, ⟨s, s1, s2, s3⟩, ⟨k, k1, k2, k3⟩⟩ := M
  unfold tlg
  rw [if_neg (by omega), if_neg (by omega), if_neg (by omega), if_neg (by omega), if_neg (by omega), if_pos rfl]
  generalize mx (g 37) (a + 1) = M at *
  generalize hG : up (up g (4 * a + 3) (b)) (37) (M) = G
  have e : ∀ k, k ≠ 4 * a + 3 → k ≠ 37 → G k = g k := fun k n0 n1 => by rw [← hG, up_ne n1, up_ne n0]
  have e0 : G (4 * a + 3) = b := by rw [← hG, up_ne (by omega), up_eq]
  have e1 : G (37) = M := by rw [← hG, up_eq]
  refine ⟨⟨?_, ?_, ?_, ?_, ?_, ?_⟩, fun z hz => ?_, fun z hz => ?_, fun z hz => ?_, ?_, ⟨?_, ?_⟩, ?_, ?_⟩
  · rw [i _ _ (by omega), e _ (by omega) (by omega)]; exact a1
  · rw [i _ _ (by omega), e _ (by omega) (by omega)]; exact a2
  · rw [i _ _ (by omega), e _ (by omega) (by omega)]; exact a3
  · rw [i _ _ (by omega), e _ (by omega) (by omega)]; exact a4
  · rw [i _ _ (by omega), e _ (by omega) (by omega)]; exact a5
  · rw [i _ _ (by omega), e _ (by omega) (by omega)]; exact a6
  · rw [e _ (by omega) (by omega)] at hz; rw [i _ _ (by omega), e _ (by omega) (by omega), i _ _ (by omega), e _ (by omega) (by omega)]; exact bb z (by omega)
  · by_cases y : z = a
    · rw [y]
      refine ⟨?_, by rw [v1, e0]⟩
      rw [i _ _ (by omega), e _ (by omega) (by omega)]; exact (cc a (by omega)).1
    · rw [i _ _ (by omega), e _ (by omega) (by omega), i _ _ (by omega), e _ (by omega) (by omega)]; exact cc z hz
  · rw [e _ (by omega) (by omega)] at hz; rw [i _ _ (by omega), e _ (by omega) (by omega), i _ _ (by omega), e _ (by omega) (by omega)]; exact pp z (by omega)
  · refine ⟨m, m1, by rw [i _ _ (by omega)]; exact m2, fun z hz => ?_⟩
    rw [e _ (by omega) (by omega)]; exact m3 z hz
  · rw [i _ _ (by omega), e _ (by omega) (by omega)]; exact t1
  · rw [v4, e1]
  · obtain ⟨-, o2, o3⟩ := bt_or s s1 a (by omega)
    refine ⟨bor s a, o2, v2 s s1 s2, fun z hz => ?_⟩
    rw [o3 z (by omega)]
    by_cases y : z = a
    · rw [if_pos y, y, e0, if_neg (by omega)]
    · rw [if_neg y, e _ (by omega) (by omega)]; exact s3 z hz
  · refine ⟨k, k1, by rw [i _ _ (by omega)]; exact k2, fun z hz => ?_⟩
    rw [e _ (by omega) (by omega)]; exact k3 z hz
theorem ms_6 (G : gq g) (R : lnR 6 a b g) (M : msQ g h) (i : ∀ c j, ¬ ((c = 48 ∧ (j = 5 ∨ (14 ≤ j ∧ j ≤ 19))) ∨ (c = 50 ∧ (j = 25 + 2 * g 31 ∨ j = 26 + 2 * g 31 ∨ j = 31))) → xe_I h1 c j = xe_I h c j) (v1 : xe_I h1 50 (25 + 2 * g 31) = nI a) (v2 : xe_I h1 50 (26 + 2 * g 31) = nI b) (v3 : xe_I h1 50 31 = nI (g 31 + 1)) (v4 : xe_I h1 48 5 = nI (mx (mx (g 36) (a + 1)) (b + 1)) - 1) : msQ (tlg 6 a b g) h1 := by
  obtain ⟨⟨q24, q31, q32, q33, q34, q35, q36, q37, q38, q39, q40⟩, Hb, Hp⟩ := G
  obtain ⟨r0, r1, r2, r3, r4, r5, r6⟩ := R
  have r := r6 rfl
  clear r0 r1 r2 r3 r4 r5 r6
  obtain ⟨⟨a1, a2, a3, a4, a5, a6⟩, bb, cc, pp, ⟨m, m1, m2, m3⟩, ⟨t1, t2⟩, ⟨s, s1, s2, s3⟩, ⟨k, k1, k2, k3⟩⟩ := M
  unfold tlg
  rw [if_neg (by omega), if_neg (by omega), if_neg (by omega), if_neg (by omega), if_neg (by omega), if_neg (by omega)]
  rw [mx_as] at v4
  generalize mx (g 36) (mx (a + 1) (b + 1)) = M at *
  generalize hq : g 31 = q at *
  generalize hG : up (up (up (up g (25 + 2 * q) (a)) (26 + 2 * q) (b)) (31) (q + 1)) (36) (M) = G
  have e : ∀ k, k ≠ 25 + 2 * q → k ≠ 26 + 2 * q → k ≠ 31 → k ≠ 36 → G k = g k := fun k n0 n1 n2 n3 => by rw [← hG, up_ne n3, up_ne n2, up_ne n1, up_ne n0]
  have e0 : G (25 + 2 * q) = a := by rw [← hG, up_ne (by omega), up_ne (by omega), up_ne (by omega), up_eq]
  have e1 : G (26 + 2 * q) = b := by rw [← hG, up_ne (by omega), up_ne (by omega), up_eq]
  have e2 : G (31) = q + 1 := by rw [← hG, up_ne (by omega), up_eq]
  have e3 : G (36) = M := by rw [← hG, up_eq]
  refine ⟨⟨?_, ?_, ?_, ?_, ?_, ?_⟩, fun z hz => ?_, fun z hz => ?_, fun z hz => ?_, ?_, ⟨?_, ?_⟩, ?_, ?_⟩
  · rw [i _ _ (by omega), e _ (by omega) (by omega) (by omega) (by omega)]; exact a1
  · rw [i _ _ (by omega), e _ (by omega) (by omega) (by omega) (by omega)]; exact a2
  · rw [v3, e2]
  · rw [i _ _ (by omega), e _ (by omega) (by omega) (by omega) (by omega)]; exact a4
  · rw [i _ _ (by omega), e _ (by omega) (by omega) (by omega) (by omega)]; exact a5
  · rw [i _ _ (by omega), e _ (by omega) (by omega) (by omega) (by omega)]; exact a6
  · rw [e _ (by omega) (by omega) (by omega) (by omega)] at hz; rw [i _ _ (by omega), e _ (by omega) (by omega) (by omega) (by omega), i _ _ (by omega), e _ (by omega) (by omega) (by omega) (by omega)]; exact bb z (by omega)
  · rw [i _ _ (by omega), e _ (by omega) (by omega) (by omega) (by omega), i _ _ (by omega), e _ (by omega) (by omega) (by omega) (by omega)]; exact cc z hz
  · rw [e2] at hz
    by_cases y : z = q
    · rw [y]; exact ⟨by rw [v1, e0], by rw [v2, e1]⟩
    · rw [i _ _ (by omega), e _ (by omega) (by omega) (by omega) (by omega), i _ _ (by omega), e _ (by omega) (by omega) (by omega) (by omega)]; exact pp z (by omega)
  · refine ⟨m, m1, by rw [i _ _ (by omega)]; exact m2, fun z hz => ?_⟩
    rw [e _ (by omega) (by omega) (by omega) (by omega)]; exact m3 z hz
  · rw [v4, e3]
  · rw [i _ _ (by omega), e _ (by omega) (by omega) (by omega) (by omega)]; exact t2
  · refine ⟨s, s1, by rw [i _ _ (by omega)]; exact s2, fun z hz => ?_⟩
    rw [e _ (by omega) (by omega) (by omega) (by omega)]; exact s3 z hz
  · refine ⟨k, k1, by rw [i _ _ (by omega)]; exact k2, fun z hz => ?_⟩
    rw [e _ (by omega) (by omega) (by omega) (by omega)]; exact k3 z hz
end TL
