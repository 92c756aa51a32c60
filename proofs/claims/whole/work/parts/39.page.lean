/-! a page changed at one place -/
theorem up_eq (g : Nat → Nat) (k v : Nat) : up g k v k = v := if_pos rfl
theorem up_ne {g : Nat → Nat} {k v j : Nat} (h : j ≠ k) : up g k v j = g j := if_neg h
theorem rp_c {f g : Nat → Nat} (h : ∀ b, b < 6 → f b = g b) : rp f = rp g := by
  unfold rp
  rw [h 0 (by omega), h 1 (by omega), h 2 (by omega), h 3 (by omega), h 4 (by omega), h 5 (by omega)]
section UP
variable {h : xe_H} {o : Nat} {g : Nat → Nat} {v q : Nat}
theorem tn_up_law (h24 : g 24 ≤ 6) (h31 : g 31 ≤ 3) (H : tn_v h o g) : tn_v (xe_sI h o 3 (nI v)) o (up g 32 v) := by
  obtain ⟨⟨a0, a1, a2, a3, a4, a5, a6⟩, b, c, p⟩ := H
  have e24 : up g 32 v 24 = g 24 := up_ne (by omega)
  have e31 : up g 32 v 31 = g 31 := up_ne (by omega)
  refine ⟨⟨?_, ?_, ?_, ?_, ?_, ?_, ?_⟩, fun k hk => ⟨?_, ?_⟩, fun k hk => ?_, fun k hk => ⟨?_, ?_⟩⟩
  · rw [hI_sI, if_neg (by omega), up_ne (by omega)]; exact a0
  · rw [hI_sI, if_neg (by omega), up_ne (by omega)]; exact a1
  · rw [hI_sI, if_neg (by omega), up_ne (by omega)]; exact a2
  · rw [hI_sI, if_pos ⟨rfl, rfl⟩, up_eq]
  · rw [hI_sI, if_neg (by omega), up_ne (by omega)]; exact a4
  · rw [hI_sI, if_neg (by omega), up_ne (by omega)]; exact a5
  · rw [hI_sI, if_neg (by omega), rp_c (f := gr (up g 32 v)) (g := gr g) (fun b hb => show up g 32 v (4 * b + 3) = g (4 * b + 3) from up_ne (by omega))]; exact a6
  · rw [e24] at hk; rw [hI_sI, if_neg (by omega), up_ne (by omega)]; exact (b k hk).1
  · rw [e24] at hk; rw [hI_sI, if_neg (by omega), up_ne (by omega)]; exact (b k hk).2
  · rw [hI_sI, if_neg (by omega), up_ne (by omega)]; exact c k hk
  · rw [e31] at hk; rw [hI_sI, if_neg (by omega), up_ne (by omega)]; exact (p k hk).1
  · rw [e31] at hk; rw [hI_sI, if_neg (by omega), up_ne (by omega)]; exact (p k hk).2
theorem tn_up_hold (h24 : g 24 ≤ 6) (h31 : g 31 ≤ 3) (H : tn_v h o g) : tn_v (xe_sI h o 4 (nI v)) o (up g 33 v) := by
  obtain ⟨⟨a0, a1, a2, a3, a4, a5, a6⟩, b, c, p⟩ := H
  have e24 : up g 33 v 24 = g 24 := up_ne (by omega)
  have e31 : up g 33 v 31 = g 31 := up_ne (by omega)
  refine ⟨⟨?_, ?_, ?_, ?_, ?_, ?_, ?_⟩, fun k hk => ⟨?_, ?_⟩, fun k hk => ?_, fun k hk => ⟨?_, ?_⟩⟩
  · rw [hI_sI, if_neg (by omega), up_ne (by omega)]; exact a0
  · rw [hI_sI, if_neg (by omega), up_ne (by omega)]; exact a1
  · rw [hI_sI, if_neg (by omega), up_ne (by omega)]; exact a2
  · rw [hI_sI, if_neg (by omega), up_ne (by omega)]; exact a3
  · rw [hI_sI, if_pos ⟨rfl, rfl⟩, up_eq]
  · rw [hI_sI, if_neg (by omega), up_ne (by omega)]; exact a5
  · rw [hI_sI, if_neg (by omega), rp_c (f := gr (up g 33 v)) (g := gr g) (fun b hb => show up g 33 v (4 * b + 3) = g (4 * b + 3) from up_ne (by omega))]; exact a6
  · rw [e24] at hk; rw [hI_sI, if_neg (by omega), up_ne (by omega)]; exact (b k hk).1
  · rw [e24] at hk; rw [hI_sI, if_neg (by omega), up_ne (by omega)]; exact (b k hk).2
  · rw [hI_sI, if_neg (by omega), up_ne (by omega)]; exact c k hk
  · rw [e31] at hk; rw [hI_sI, if_neg (by omega), up_ne (by omega)]; exact (p k hk).1
  · rw [e31] at hk; rw [hI_sI, if_neg (by omega), up_ne (by omega)]; exact (p k hk).2
theorem tn_up_min (h24 : g 24 ≤ 6) (h31 : g 31 ≤ 3) (H : tn_v h o g) : tn_v (xe_sI h o 5 (nI v)) o (up g 34 v) := by
  obtain ⟨⟨a0, a1, a2, a3, a4, a5, a6⟩, b, c, p⟩ := H
  have e24 : up g 34 v 24 = g 24 := up_ne (by omega)
  have e31 : up g 34 v 31 = g 31 := up_ne (by omega)
  refine ⟨⟨?_, ?_, ?_, ?_, ?_, ?_, ?_⟩, fun k hk => ⟨?_, ?_⟩, fun k hk => ?_, fun k hk => ⟨?_, ?_⟩⟩
  · rw [hI_sI, if_neg (by omega), up_ne (by omega)]; exact a0
  · rw [hI_sI, if_neg (by omega), up_ne (by omega)]; exact a1
  · rw [hI_sI, if_neg (by omega), up_ne (by omega)]; exact a2
  · rw [hI_sI, if_neg (by omega), up_ne (by omega)]; exact a3
  · rw [hI_sI, if_neg (by omega), up_ne (by omega)]; exact a4
  · rw [hI_sI, if_pos ⟨rfl, rfl⟩, up_eq]
  · rw [hI_sI, if_neg (by omega), rp_c (f := gr (up g 34 v)) (g := gr g) (fun b hb => show up g 34 v (4 * b + 3) = g (4 * b + 3) from up_ne (by omega))]; exact a6
  · rw [e24] at hk; rw [hI_sI, if_neg (by omega), up_ne (by omega)]; exact (b k hk).1
  · rw [e24] at hk; rw [hI_sI, if_neg (by omega), up_ne (by omega)]; exact (b k hk).2
  · rw [hI_sI, if_neg (by omega), up_ne (by omega)]; exact c k hk
  · rw [e31] at hk; rw [hI_sI, if_neg (by omega), up_ne (by omega)]; exact (p k hk).1
  · rw [e31] at hk; rw [hI_sI, if_neg (by omega), up_ne (by omega)]; exact (p k hk).2
theorem tn_up_hang (h24 : g 24 ≤ 6) (h31 : g 31 ≤ 3) (hq : q < 6) (H : tn_v h o g) : tn_v (xe_sI h (o + 3) q (nI v)) o (up g (4 * q + 2) v) := by
  obtain ⟨⟨a0, a1, a2, a3, a4, a5, a6⟩, b, c, p⟩ := H
  have e24 : up g (4 * q + 2) v 24 = g 24 := up_ne (by omega)
  have e31 : up g (4 * q + 2) v 31 = g 31 := up_ne (by omega)
  refine ⟨⟨?_, ?_, ?_, ?_, ?_, ?_, ?_⟩, fun k hk => ⟨?_, ?_⟩, fun k hk => ?_, fun k hk => ⟨?_, ?_⟩⟩
  · rw [hI_sI, if_neg (by omega), up_ne (by omega)]; exact a0
  · rw [hI_sI, if_neg (by omega), up_ne (by omega)]; exact a1
  · rw [hI_sI, if_neg (by omega), up_ne (by omega)]; exact a2
  · rw [hI_sI, if_neg (by omega), up_ne (by omega)]; exact a3
  · rw [hI_sI, if_neg (by omega), up_ne (by omega)]; exact a4
  · rw [hI_sI, if_neg (by omega), up_ne (by omega)]; exact a5
  · rw [hI_sI, if_neg (by omega), rp_c (f := gr (up g (4 * q + 2) v)) (g := gr g) (fun b hb => show up g (4 * q + 2) v (4 * b + 3) = g (4 * b + 3) from up_ne (by omega))]; exact a6
  · rw [e24] at hk; rw [hI_sI, if_neg (by omega), up_ne (by omega)]; exact (b k hk).1
  · rw [e24] at hk; rw [hI_sI, if_neg (by omega), up_ne (by omega)]; exact (b k hk).2
  · by_cases z : k = q
    · subst z; rw [hI_sI, if_pos ⟨rfl, rfl⟩, up_eq]
    · rw [hI_sI, if_neg (by omega), up_ne (by omega)]; exact c k hk
  · rw [e31] at hk; rw [hI_sI, if_neg (by omega), up_ne (by omega)]; exact (p k hk).1
  · rw [e31] at hk; rw [hI_sI, if_neg (by omega), up_ne (by omega)]; exact (p k hk).2
theorem tn_up_rest (h24 : g 24 ≤ 6) (h31 : g 31 ≤ 3) (hq : q < 6) (hr : rp_ok (gr g)) (H : tn_v h o g) : tn_v (xe_sI h o 6 (nI (rp (up (gr g) q v)))) o (up g (4 * q + 3) v) := by
  obtain ⟨⟨a0, a1, a2, a3, a4, a5, a6⟩, b, c, p⟩ := H
  have e24 : up g (4 * q + 3) v 24 = g 24 := up_ne (by omega)
  have e31 : up g (4 * q + 3) v 31 = g 31 := up_ne (by omega)
  refine ⟨⟨?_, ?_, ?_, ?_, ?_, ?_, ?_⟩, fun k hk => ⟨?_, ?_⟩, fun k hk => ?_, fun k hk => ⟨?_, ?_⟩⟩
  · rw [hI_sI, if_neg (by omega), up_ne (by omega)]; exact a0
  · rw [hI_sI, if_neg (by omega), up_ne (by omega)]; exact a1
  · rw [hI_sI, if_neg (by omega), up_ne (by omega)]; exact a2
  · rw [hI_sI, if_neg (by omega), up_ne (by omega)]; exact a3
  · rw [hI_sI, if_neg (by omega), up_ne (by omega)]; exact a4
  · rw [hI_sI, if_neg (by omega), up_ne (by omega)]; exact a5
  · rw [hI_sI, if_pos ⟨rfl, rfl⟩]
    congr 1
    exact rp_c (fun b hb => by
      show up (gr g) q v b = up g (4 * q + 3) v (4 * b + 3)
      unfold up gr
      by_cases z : b = q
      · rw [if_pos z, if_pos (by omega)]
      · rw [if_neg z, if_neg (by omega)])
  · rw [e24] at hk; rw [hI_sI, if_neg (by omega), up_ne (by omega)]; exact (b k hk).1
  · rw [e24] at hk; rw [hI_sI, if_neg (by omega), up_ne (by omega)]; exact (b k hk).2
  · rw [hI_sI, if_neg (by omega), up_ne (by omega)]; exact c k hk
  · rw [e31] at hk; rw [hI_sI, if_neg (by omega), up_ne (by omega)]; exact (p k hk).1
  · rw [e31] at hk; rw [hI_sI, if_neg (by omega), up_ne (by omega)]; exact (p k hk).2
theorem tn_up_place (h24 : g 24 ≤ 6) (h31 : g 31 ≤ 3) (hq : q < g 31) (H : tn_v h o g) : tn_v (xe_sI h (o + 4) q (nI v)) o (up g (25 + 2 * q) v) := by
  obtain ⟨⟨a0, a1, a2, a3, a4, a5, a6⟩, b, c, p⟩ := H
  have e24 : up g (25 + 2 * q) v 24 = g 24 := up_ne (by omega)
  have e31 : up g (25 + 2 * q) v 31 = g 31 := up_ne (by omega)
  refine ⟨⟨?_, ?_, ?_, ?_, ?_, ?_, ?_⟩, fun k hk => ⟨?_, ?_⟩, fun k hk => ?_, fun k hk => ⟨?_, ?_⟩⟩
  · rw [hI_sI, if_neg (by omega), up_ne (by omega)]; exact a0
  · rw [hI_sI, if_neg (by omega), up_ne (by omega)]; exact a1
  · rw [hI_sI, if_neg (by omega), up_ne (by omega)]; exact a2
  · rw [hI_sI, if_neg (by omega), up_ne (by omega)]; exact a3
  · rw [hI_sI, if_neg (by omega), up_ne (by omega)]; exact a4
  · rw [hI_sI, if_neg (by omega), up_ne (by omega)]; exact a5
  · rw [hI_sI, if_neg (by omega), rp_c (f := gr (up g (25 + 2 * q) v)) (g := gr g) (fun b hb => show up g (25 + 2 * q) v (4 * b + 3) = g (4 * b + 3) from up_ne (by omega))]; exact a6
  · rw [e24] at hk; rw [hI_sI, if_neg (by omega), up_ne (by omega)]; exact (b k hk).1
  · rw [e24] at hk; rw [hI_sI, if_neg (by omega), up_ne (by omega)]; exact (b k hk).2
  · rw [hI_sI, if_neg (by omega), up_ne (by omega)]; exact c k hk
  · rw [e31] at hk; by_cases z : k = q
    · subst z; rw [hI_sI, if_pos ⟨rfl, rfl⟩, up_eq]
    · rw [hI_sI, if_neg (by omega), up_ne (by omega)]; exact (p k hk).1
  · rw [e31] at hk; rw [hI_sI, if_neg (by omega), up_ne (by omega)]; exact (p k hk).2
theorem tn_up_goal (h24 : g 24 ≤ 6) (h31 : g 31 ≤ 3) (hq : q < g 31) (H : tn_v h o g) : tn_v (xe_sI h (o + 5) q (nI v)) o (up g (26 + 2 * q) v) := by
  obtain ⟨⟨a0, a1, a2, a3, a4, a5, a6⟩, b, c, p⟩ := H
  have e24 : up g (26 + 2 * q) v 24 = g 24 := up_ne (by omega)
  have e31 : up g (26 + 2 * q) v 31 = g 31 := up_ne (by omega)
  refine ⟨⟨?_, ?_, ?_, ?_, ?_, ?_, ?_⟩, fun k hk => ⟨?_, ?_⟩, fun k hk => ?_, fun k hk => ⟨?_, ?_⟩⟩
  · rw [hI_sI, if_neg (by omega), up_ne (by omega)]; exact a0
  · rw [hI_sI, if_neg (by omega), up_ne (by omega)]; exact a1
  · rw [hI_sI, if_neg (by omega), up_ne (by omega)]; exact a2
  · rw [hI_sI, if_neg (by omega), up_ne (by omega)]; exact a3
  · rw [hI_sI, if_neg (by omega), up_ne (by omega)]; exact a4
  · rw [hI_sI, if_neg (by omega), up_ne (by omega)]; exact a5
  · rw [hI_sI, if_neg (by omega), rp_c (f := gr (up g (26 + 2 * q) v)) (g := gr g) (fun b hb => show up g (26 + 2 * q) v (4 * b + 3) = g (4 * b + 3) from up_ne (by omega))]; exact a6
  · rw [e24] at hk; rw [hI_sI, if_neg (by omega), up_ne (by omega)]; exact (b k hk).1
  · rw [e24] at hk; rw [hI_sI, if_neg (by omega), up_ne (by omega)]; exact (b k hk).2
  · rw [hI_sI, if_neg (by omega), up_ne (by omega)]; exact c k hk
  · rw [e31] at hk; rw [hI_sI, if_neg (by omega), up_ne (by omega)]; exact (p k hk).1
  · rw [e31] at hk; by_cases z : k = q
    · subst z; rw [hI_sI, if_pos ⟨rfl, rfl⟩, up_eq]
    · rw [hI_sI, if_neg (by omega), up_ne (by omega)]; exact (p k hk).2
theorem mp_up_law (h24 : g 24 ≤ 6) (h31 : g 31 ≤ 3) (H : mp h o g) : mp (xe_sI h 49 (o + 32) (nI v)) o (up g 32 v) := by
  obtain ⟨⟨a1, a2, a3, a4, a5⟩, b, c, p⟩ := H
  have e24 : up g 32 v 24 = g 24 := up_ne (by omega)
  have e31 : up g 32 v 31 = g 31 := up_ne (by omega)
  refine ⟨⟨?_, ?_, ?_, ?_, ?_⟩, fun k hk => ⟨?_, ?_⟩, fun k hk => ⟨?_, ?_⟩, fun k hk => ⟨?_, ?_⟩⟩
  · rw [hI_sI, if_neg (by omega), up_ne (by omega)]; exact a1
  · rw [hI_sI, if_neg (by omega), up_ne (by omega)]; exact a2
  · rw [hI_sI, if_pos ⟨rfl, rfl⟩, up_eq]
  · rw [hI_sI, if_neg (by omega), up_ne (by omega)]; exact a4
  · rw [hI_sI, if_neg (by omega), up_ne (by omega)]; exact a5
  · rw [e24] at hk; rw [hI_sI, if_neg (by omega), up_ne (by omega)]; exact (b k hk).1
  · rw [e24] at hk; rw [hI_sI, if_neg (by omega), up_ne (by omega)]; exact (b k hk).2
  · intro y; rw [e24] at y; rw [hI_sI, if_neg (by omega), up_ne (by omega)]; exact (c k hk).1 y
  · rw [hI_sI, if_neg (by omega), up_ne (by omega)]; exact (c k hk).2
  · rw [e31] at hk; rw [hI_sI, if_neg (by omega), up_ne (by omega)]; exact (p k hk).1
  · rw [e31] at hk; rw [hI_sI, if_neg (by omega), up_ne (by omega)]; exact (p k hk).2
theorem mp_up_hold (h24 : g 24 ≤ 6) (h31 : g 31 ≤ 3) (H : mp h o g) : mp (xe_sI h 49 (o + 33) (nI v - 2)) o (up g 33 v) := by
  obtain ⟨⟨a1, a2, a3, a4, a5⟩, b, c, p⟩ := H
  have e24 : up g 33 v 24 = g 24 := up_ne (by omega)
  have e31 : up g 33 v 31 = g 31 := up_ne (by omega)
  refine ⟨⟨?_, ?_, ?_, ?_, ?_⟩, fun k hk => ⟨?_, ?_⟩, fun k hk => ⟨?_, ?_⟩, fun k hk => ⟨?_, ?_⟩⟩
  · rw [hI_sI, if_neg (by omega), up_ne (by omega)]; exact a1
  · rw [hI_sI, if_neg (by omega), up_ne (by omega)]; exact a2
  · rw [hI_sI, if_neg (by omega), up_ne (by omega)]; exact a3
  · rw [hI_sI, if_pos ⟨rfl, rfl⟩, up_eq]
  · rw [hI_sI, if_neg (by omega), up_ne (by omega)]; exact a5
  · rw [e24] at hk; rw [hI_sI, if_neg (by omega), up_ne (by omega)]; exact (b k hk).1
  · rw [e24] at hk; rw [hI_sI, if_neg (by omega), up_ne (by omega)]; exact (b k hk).2
  · intro y; rw [e24] at y; rw [hI_sI, if_neg (by omega), up_ne (by omega)]; exact (c k hk).1 y
  · rw [hI_sI, if_neg (by omega), up_ne (by omega)]; exact (c k hk).2
  · rw [e31] at hk; rw [hI_sI, if_neg (by omega), up_ne (by omega)]; exact (p k hk).1
  · rw [e31] at hk; rw [hI_sI, if_neg (by omega), up_ne (by omega)]; exact (p k hk).2
theorem mp_up_min (h24 : g 24 ≤ 6) (h31 : g 31 ≤ 3) (H : mp h o g) : mp (xe_sI h 49 (o + 34) (nI v)) o (up g 34 v) := by
  obtain ⟨⟨a1, a2, a3, a4, a5⟩, b, c, p⟩ := H
  have e24 : up g 34 v 24 = g 24 := up_ne (by omega)
  have e31 : up g 34 v 31 = g 31 := up_ne (by omega)
  refine ⟨⟨?_, ?_, ?_, ?_, ?_⟩, fun k hk => ⟨?_, ?_⟩, fun k hk => ⟨?_, ?_⟩, fun k hk => ⟨?_, ?_⟩⟩
  · rw [hI_sI, if_neg (by omega), up_ne (by omega)]; exact a1
  · rw [hI_sI, if_neg (by omega), up_ne (by omega)]; exact a2
  · rw [hI_sI, if_neg (by omega), up_ne (by omega)]; exact a3
  · rw [hI_sI, if_neg (by omega), up_ne (by omega)]; exact a4
  · rw [hI_sI, if_pos ⟨rfl, rfl⟩, up_eq]
  · rw [e24] at hk; rw [hI_sI, if_neg (by omega), up_ne (by omega)]; exact (b k hk).1
  · rw [e24] at hk; rw [hI_sI, if_neg (by omega), up_ne (by omega)]; exact (b k hk).2
  · intro y; rw [e24] at y; rw [hI_sI, if_neg (by omega), up_ne (by omega)]; exact (c k hk).1 y
  · rw [hI_sI, if_neg (by omega), up_ne (by omega)]; exact (c k hk).2
  · rw [e31] at hk; rw [hI_sI, if_neg (by omega), up_ne (by omega)]; exact (p k hk).1
  · rw [e31] at hk; rw [hI_sI, if_neg (by omega), up_ne (by omega)]; exact (p k hk).2
theorem mp_up_hang (h24 : g 24 ≤ 6) (h31 : g 31 ≤ 3) (hq : q < 6) (H : mp h o g) : mp (xe_sI h 49 (o + (4 * q + 2)) ((if v = 6 then -4 else nI v))) o (up g (4 * q + 2) v) := by
  obtain ⟨⟨a1, a2, a3, a4, a5⟩, b, c, p⟩ := H
  have e24 : up g (4 * q + 2) v 24 = g 24 := up_ne (by omega)
  have e31 : up g (4 * q + 2) v 31 = g 31 := up_ne (by omega)
  refine ⟨⟨?_, ?_, ?_, ?_, ?_⟩, fun k hk => ⟨?_, ?_⟩, fun k hk => ⟨?_, ?_⟩, fun k hk => ⟨?_, ?_⟩⟩
  · rw [hI_sI, if_neg (by omega), up_ne (by omega)]; exact a1
  · rw [hI_sI, if_neg (by omega), up_ne (by omega)]; exact a2
  · rw [hI_sI, if_neg (by omega), up_ne (by omega)]; exact a3
  · rw [hI_sI, if_neg (by omega), up_ne (by omega)]; exact a4
  · rw [hI_sI, if_neg (by omega), up_ne (by omega)]; exact a5
  · rw [e24] at hk; rw [hI_sI, if_neg (by omega), up_ne (by omega)]; exact (b k hk).1
  · rw [e24] at hk; rw [hI_sI, if_neg (by omega), up_ne (by omega)]; exact (b k hk).2
  · intro y; rw [e24] at y; by_cases z : k = q
    · subst z; rw [hI_sI, if_pos ⟨rfl, rfl⟩, up_eq]
    · rw [hI_sI, if_neg (by omega), up_ne (by omega)]; exact (c k hk).1 y
  · rw [hI_sI, if_neg (by omega), up_ne (by omega)]; exact (c k hk).2
  · rw [e31] at hk; rw [hI_sI, if_neg (by omega), up_ne (by omega)]; exact (p k hk).1
  · rw [e31] at hk; rw [hI_sI, if_neg (by omega), up_ne (by omega)]; exact (p k hk).2
theorem mp_up_rest (h24 : g 24 ≤ 6) (h31 : g 31 ≤ 3) (hq : q < 6) (H : mp h o g) : mp (xe_sI h 49 (o + (4 * q + 3)) (nI v)) o (up g (4 * q + 3) v) := by
  obtain ⟨⟨a1, a2, a3, a4, a5⟩, b, c, p⟩ := H
  have e24 : up g (4 * q + 3) v 24 = g 24 := up_ne (by omega)
  have e31 : up g (4 * q + 3) v 31 = g 31 := up_ne (by omega)
  refine ⟨⟨?_, ?_, ?_, ?_, ?_⟩, fun k hk => ⟨?_, ?_⟩, fun k hk => ⟨?_, ?_⟩, fun k hk => ⟨?_, ?_⟩⟩
  · rw [hI_sI, if_neg (by omega), up_ne (by omega)]; exact a1
  · rw [hI_sI, if_neg (by omega), up_ne (by omega)]; exact a2
  · rw [hI_sI, if_neg (by omega), up_ne (by omega)]; exact a3
  · rw [hI_sI, if_neg (by omega), up_ne (by omega)]; exact a4
  · rw [hI_sI, if_neg (by omega), up_ne (by omega)]; exact a5
  · rw [e24] at hk; rw [hI_sI, if_neg (by omega), up_ne (by omega)]; exact (b k hk).1
  · rw [e24] at hk; rw [hI_sI, if_neg (by omega), up_ne (by omega)]; exact (b k hk).2
  · intro y; rw [e24] at y; rw [hI_sI, if_neg (by omega), up_ne (by omega)]; exact (c k hk).1 y
  · by_cases z : k = q
    · subst z; rw [hI_sI, if_pos ⟨rfl, rfl⟩, up_eq]
    · rw [hI_sI, if_neg (by omega), up_ne (by omega)]; exact (c k hk).2
  · rw [e31] at hk; rw [hI_sI, if_neg (by omega), up_ne (by omega)]; exact (p k hk).1
  · rw [e31] at hk; rw [hI_sI, if_neg (by omega), up_ne (by omega)]; exact (p k hk).2
theorem mp_up_place (h24 : g 24 ≤ 6) (h31 : g 31 ≤ 3) (hq : q < g 31) (H : mp h o g) : mp (xe_sI h 49 (o + (25 + 2 * q)) (nI v)) o (up g (25 + 2 * q) v) := by
  obtain ⟨⟨a1, a2, a3, a4, a5⟩, b, c, p⟩ := H
  have e24 : up g (25 + 2 * q) v 24 = g 24 := up_ne (by omega)
  have e31 : up g (25 + 2 * q) v 31 = g 31 := up_ne (by omega)
  refine ⟨⟨?_, ?_, ?_, ?_, ?_⟩, fun k hk => ⟨?_, ?_⟩, fun k hk => ⟨?_, ?_⟩, fun k hk => ⟨?_, ?_⟩⟩
  · rw [hI_sI, if_neg (by omega), up_ne (by omega)]; exact a1
  · rw [hI_sI, if_neg (by omega), up_ne (by omega)]; exact a2
  · rw [hI_sI, if_neg (by omega), up_ne (by omega)]; exact a3
  · rw [hI_sI, if_neg (by omega), up_ne (by omega)]; exact a4
  · rw [hI_sI, if_neg (by omega), up_ne (by omega)]; exact a5
  · rw [e24] at hk; rw [hI_sI, if_neg (by omega), up_ne (by omega)]; exact (b k hk).1
  · rw [e24] at hk; rw [hI_sI, if_neg (by omega), up_ne (by omega)]; exact (b k hk).2
  · intro y; rw [e24] at y; rw [hI_sI, if_neg (by omega), up_ne (by omega)]; exact (c k hk).1 y
  · rw [hI_sI, if_neg (by omega), up_ne (by omega)]; exact (c k hk).2
  · rw [e31] at hk; by_cases z : k = q
    · subst z; rw [hI_sI, if_pos ⟨rfl, rfl⟩, up_eq]
    · rw [hI_sI, if_neg (by omega), up_ne (by omega)]; exact (p k hk).1
  · rw [e31] at hk; rw [hI_sI, if_neg (by omega), up_ne (by omega)]; exact (p k hk).2
theorem mp_up_goal (h24 : g 24 ≤ 6) (h31 : g 31 ≤ 3) (hq : q < g 31) (H : mp h o g) : mp (xe_sI h 49 (o + (26 + 2 * q)) (nI v)) o (up g (26 + 2 * q) v) := by
  obtain ⟨⟨a1, a2, a3, a4, a5⟩, b, c, p⟩ := H
  have e24 : up g (26 + 2 * q) v 24 = g 24 := up_ne (by omega)
  have e31 : up g (26 + 2 * q) v 31 = g 31 := up_ne (by omega)
  refine ⟨⟨?_, ?_, ?_, ?_, ?_⟩, fun k hk => ⟨?_, ?_⟩, fun k hk => ⟨?_, ?_⟩, fun k hk => ⟨?_, ?_⟩⟩
  · rw [hI_sI, if_neg (by omega), up_ne (by omega)]; exact a1
  · rw [hI_sI, if_neg (by omega), up_ne (by omega)]; exact a2
  · rw [hI_sI, if_neg (by omega), up_ne (by omega)]; exact a3
  · rw [hI_sI, if_neg (by omega), up_ne (by omega)]; exact a4
  · rw [hI_sI, if_neg (by omega), up_ne (by omega)]; exact a5
  · rw [e24] at hk; rw [hI_sI, if_neg (by omega), up_ne (by omega)]; exact (b k hk).1
  · rw [e24] at hk; rw [hI_sI, if_neg (by omega), up_ne (by omega)]; exact (b k hk).2
  · intro y; rw [e24] at y; rw [hI_sI, if_neg (by omega), up_ne (by omega)]; exact (c k hk).1 y
  · rw [hI_sI, if_neg (by omega), up_ne (by omega)]; exact (c k hk).2
  · rw [e31] at hk; rw [hI_sI, if_neg (by omega), up_ne (by omega)]; exact (p k hk).1
  · rw [e31] at hk; by_cases z : k = q
    · subst z; rw [hI_sI, if_pos ⟨rfl, rfl⟩, up_eq]
    · rw [hI_sI, if_neg (by omega), up_ne (by omega)]; exact (p k hk).2
end UP
theorem pg_law {g : Nat → Nat} (H : pg_ok g) {v : Nat} (hv : v ≤ 2) : pg_ok (up g 32 v) := by
  obtain ⟨g1, g2, g3, g4, g5, g6, g7, g8, g9, g10, g11, g12⟩ := H
  refine ⟨?_, ?_, ?_, ?_, ?_, ?_, ?_, ?_, ?_, ?_, ?_, ?_⟩
  all_goals try simp only [up_ne (g := g) (k := 32) (v := v) (show 24 ≠ 32 by decide), up_ne (g := g) (k := 32) (v := v) (show 31 ≠ 32 by decide), up_eq, up_ne (g := g) (k := 32) (v := v) (show 33 ≠ 32 by decide), up_ne (g := g) (k := 32) (v := v) (show 34 ≠ 32 by decide), up_ne (g := g) (k := 32) (v := v) (show 35 ≠ 32 by decide)]
  all_goals try assumption
  · intro b hb
    rw [up_ne (by omega), up_ne (by omega), up_ne (by omega)]
    exact g9 b hb
  · intro b hb
    rw [up_ne (by omega)]
    exact g10 b hb
  · intro b h1 h2
    rw [up_ne (by omega), up_ne (by omega)]
    exact g11 b h1 h2
  · intro p h1
    rw [up_ne (by omega), up_ne (by omega)]
    exact g12 p h1
theorem pg_hold {g : Nat → Nat} (H : pg_ok g) {v : Nat} (h1 : 1 ≤ v) (hv : v ≤ 3) : pg_ok (up g 33 v) := by
  obtain ⟨g1, g2, g3, g4, g5, g6, g7, g8, g9, g10, g11, g12⟩ := H
  refine ⟨?_, ?_, ?_, ?_, ?_, ?_, ?_, ?_, ?_, ?_, ?_, ?_⟩
  all_goals try simp only [up_ne (g := g) (k := 33) (v := v) (show 24 ≠ 33 by decide), up_ne (g := g) (k := 33) (v := v) (show 31 ≠ 33 by decide), up_eq, up_ne (g := g) (k := 33) (v := v) (show 32 ≠ 33 by decide), up_ne (g := g) (k := 33) (v := v) (show 34 ≠ 33 by decide), up_ne (g := g) (k := 33) (v := v) (show 35 ≠ 33 by decide)]
  all_goals try assumption
  · intro b hb
    rw [up_ne (by omega), up_ne (by omega), up_ne (by omega)]
    exact g9 b hb
  · intro b hb
    rw [up_ne (by omega)]
    exact g10 b hb
  · intro b h1 h2
    rw [up_ne (by omega), up_ne (by omega)]
    exact g11 b h1 h2
  · intro p h1
    rw [up_ne (by omega), up_ne (by omega)]
    exact g12 p h1
theorem pg_min {g : Nat → Nat} (H : pg_ok g) {v : Nat} (hv : v ≤ 999) : pg_ok (up g 34 v) := by
  obtain ⟨g1, g2, g3, g4, g5, g6, g7, g8, g9, g10, g11, g12⟩ := H
  refine ⟨?_, ?_, ?_, ?_, ?_, ?_, ?_, ?_, ?_, ?_, ?_, ?_⟩
  all_goals try simp only [up_ne (g := g) (k := 34) (v := v) (show 24 ≠ 34 by decide), up_ne (g := g) (k := 34) (v := v) (show 31 ≠ 34 by decide), up_eq, up_ne (g := g) (k := 34) (v := v) (show 32 ≠ 34 by decide), up_ne (g := g) (k := 34) (v := v) (show 33 ≠ 34 by decide), up_ne (g := g) (k := 34) (v := v) (show 35 ≠ 34 by decide)]
  all_goals try assumption
  · intro b hb
    rw [up_ne (by omega), up_ne (by omega), up_ne (by omega)]
    exact g9 b hb
  · intro b hb
    rw [up_ne (by omega)]
    exact g10 b hb
  · intro b h1 h2
    rw [up_ne (by omega), up_ne (by omega)]
    exact g11 b h1 h2
  · intro p h1
    rw [up_ne (by omega), up_ne (by omega)]
    exact g12 p h1
theorem pg_hang {g : Nat → Nat} (H : pg_ok g) {q v : Nat} (hq : q < g 24) (hv : v = 6 ∨ (v < g 24 ∧ v ≠ q)) : pg_ok (up g (4 * q + 2) v) := by
  obtain ⟨g1, g2, g3, g4, g5, g6, g7, g8, g9, g10, g11, g12⟩ := H
  have e : ∀ j, 24 ≤ j → up g (4 * q + 2) v j = g j := fun j hj => up_ne (by omega)
  refine ⟨?_, ?_, ?_, ?_, ?_, ?_, ?_, ?_, ?_, ?_, ?_, ?_⟩
  all_goals try simp only [e 24 (by decide), e 31 (by decide), e 32 (by decide), e 33 (by decide), e 34 (by decide), e 35 (by decide)]
  all_goals try assumption
  · intro b hb
    rw [up_ne (by omega), up_ne (by omega)]
    by_cases z : b = q
    · subst z
      rw [up_eq]
      exact ⟨(g9 b hb).1, (g9 b hb).2.1, (g9 b hb).2.2.1, hv⟩
    · rw [up_ne (by omega)]
      exact g9 b hb
  · intro b hb
    rw [up_ne (by omega)]
    exact g10 b hb
  · intro b h1 h2
    rw [up_ne (by omega), up_ne (by omega)]
    exact g11 b h1 h2
  · intro p h1
    rw [up_ne (by omega), up_ne (by omega)]
    exact g12 p h1
theorem pg_rest {g : Nat → Nat} (H : pg_ok g) {q v : Nat} (hq : q < g 24) (hv : v ≤ 3) : pg_ok (up g (4 * q + 3) v) := by
  obtain ⟨g1, g2, g3, g4, g5, g6, g7, g8, g9, g10, g11, g12⟩ := H
  have e : ∀ j, 24 ≤ j → up g (4 * q + 3) v j = g j := fun j hj => up_ne (by omega)
  refine ⟨?_, ?_, ?_, ?_, ?_, ?_, ?_, ?_, ?_, ?_, ?_, ?_⟩
  all_goals try simp only [e 24 (by decide), e 31 (by decide), e 32 (by decide), e 33 (by decide), e 34 (by decide), e 35 (by decide)]
  all_goals try assumption
  · intro b hb
    rw [up_ne (by omega), up_ne (by omega), up_ne (by omega)]
    exact g9 b hb
  · intro b hb
    by_cases z : b = q
    · subst z
      rw [up_eq]
      exact hv
    · rw [up_ne (by omega)]
      exact g10 b hb
  · intro b h1 h2
    rw [up_ne (by omega), up_ne (by omega)]
    exact g11 b h1 h2
  · intro p h1
    rw [up_ne (by omega), up_ne (by omega)]
    exact g12 p h1
theorem pg_place {g : Nat → Nat} (H : pg_ok g) {q v : Nat} (hq : q < g 31) (hv : v < g 35) : pg_ok (up g (25 + 2 * q) v) := by
  obtain ⟨g1, g2, g3, g4, g5, g6, g7, g8, g9, g10, g11, g12⟩ := H
  have e : ∀ j, j = 24 ∨ 31 ≤ j → up g (25 + 2 * q) v j = g j := fun j hj => up_ne (by omega)
  refine ⟨?_, ?_, ?_, ?_, ?_, ?_, ?_, ?_, ?_, ?_, ?_, ?_⟩
  all_goals try simp only [e 24 (by decide), e 31 (by decide), e 32 (by decide), e 33 (by decide), e 34 (by decide), e 35 (by decide)]
  all_goals try assumption
  · intro b hb
    rw [up_ne (by omega), up_ne (by omega), up_ne (by omega)]
    exact g9 b hb
  · intro b hb
    rw [up_ne (by omega)]
    exact g10 b hb
  · intro b h1 h2
    rw [up_ne (by omega), up_ne (by omega)]
    exact g11 b h1 h2
  · intro p h1
    by_cases z : p = q
    · subst z
      rw [up_eq, up_ne (by omega)]
      exact ⟨hv, (g12 p h1).2⟩
    · rw [up_ne (by omega), up_ne (by omega)]
      exact g12 p h1
theorem pg_goal {g : Nat → Nat} (H : pg_ok g) {q v : Nat} (hq : q < g 31) (hv : v < g 35) : pg_ok (up g (26 + 2 * q) v) := by
  obtain ⟨g1, g2, g3, g4, g5, g6, g7, g8, g9, g10, g11, g12⟩ := H
  have e : ∀ j, j = 24 ∨ 31 ≤ j → up g (26 + 2 * q) v j = g j := fun j hj => up_ne (by omega)
  refine ⟨?_, ?_, ?_, ?_, ?_, ?_, ?_, ?_, ?_, ?_, ?_, ?_⟩
  all_goals try simp only [e 24 (by decide), e 31 (by decide), e 32 (by decide), e 33 (by decide), e 34 (by decide), e 35 (by decide)]
  all_goals try assumption
  · intro b hb
    rw [up_ne (by omega), up_ne (by omega), up_ne (by omega)]
    exact g9 b hb
  · intro b hb
    rw [up_ne (by omega)]
    exact g10 b hb
  · intro b h1 h2
    rw [up_ne (by omega), up_ne (by omega)]
    exact g11 b h1 h2
  · intro p h1
    by_cases z : p = q
    · subst z
      rw [up_eq, up_ne (by omega)]
      exact ⟨(g12 p h1).1, hv⟩
    · rw [up_ne (by omega), up_ne (by omega)]
      exact g12 p h1
/-- the state with another page for now -/
def sp (s : Nat → Nat → Nat) (g : Nat → Nat) : Nat → Nat → Nat := fun a => if a = 0 then g else s a
theorem Inv_pg {L : Nat} {xs : Nat → Int32} {s : Nat → Nat → Nat} {ce : Nat → Int32} {h h' : xe_H} {g : Nat → Nat} (HI : Inv L xs s ce h) (hg : pg_ok g) (e24 : g 24 = s 0 24) (e35 : g 35 = s 0 35) (hs : sh h') (hr : rm h') (ht : tn_v h' 1 g) (hm : mp h' 0 g)
    (e : ∀ a j, (cc a j ∨ cm' a j ∨ xe_S ≤ a) → ¬ (1 ≤ a ∧ a ≤ 6) → ¬ (a = 49 ∧ j < 35) → xe_I h' a j = xe_I h a j) (eT : ∀ a, xe_S ≤ a → xe_T h' a = xe_T h a ∧ xe_N h' a = xe_N h a) : Inv L xs (sp s g) ce h' := by
  obtain ⟨h1, h2, h3, h4, h5, h6⟩ := HI
  obtain ⟨p1, ⟨p2, p3⟩, p4, p5, p6, p7⟩ := h4
  obtain ⟨c1, c2, c3, c4, c5, c6⟩ := h5
  obtain ⟨m1, m2, m3, m4, m5, m6, m7⟩ := h6
  have hp : pOK (sp s g) := by
    refine ⟨hg, ⟨⟨p2.1, fun z => ?_⟩, ⟨p3.1, fun z => ?_⟩⟩, p4, ⟨p5.1, fun k hk => ?_⟩, p6, p7⟩
    · have := p2.2 z
      show pg_ok (s 1) ∧ s 1 35 = g 35 ∧ s 1 24 = g 24
      rw [e24, e35]; exact this
    · have := p3.2 z
      show pg_ok (s 2) ∧ s 2 35 = g 35 ∧ s 2 24 = g 24
      rw [e24, e35]; exact this
    · have := p5.2 k hk
      show (s 6 (3 * k) = 6 ∨ s 6 (3 * k) < g 24) ∧ s 6 (3 * k + 1) < g 24 ∧ s 6 (3 * k + 2) ≤ 1
      rw [e24]; exact this
  have ec : ∀ a j, cc a j → ¬ (1 ≤ a ∧ a ≤ 6) → xe_I h' a j = xe_I h a j := fun a j q z => e a j (Or.inl q) z (fun y => by unfold cc at q; omega)
  have em : ∀ a j, cm' a j → ¬ (a = 49 ∧ j < 35) → xe_I h' a j = xe_I h a j := fun a j q z => e a j (Or.inr (Or.inl q)) (fun y => by unfold cm' at q; omega) z
  refine ⟨hs, hr, fun a ha => ⟨fun j => ?_, ?_, ?_⟩, hp, ⟨ht, cIm_c (s := s) c2 (fun a j x1 x2 => ec a j (by unfold cc; omega) (by omega)), cTp_c (s := s) c3 (ec 27 1 (by unfold cc; omega) (by omega)) (ec 27 2 (by unfold cc; omega) (by omega)) (fun j => ec 28 j (by unfold cc; omega) (by omega)), cSn_c (s := s) c4 (ec 36 0 (by unfold cc; omega) (by omega)) (fun a j x1 x2 => ec a j (by unfold cc; omega) (by omega)), cSh_c (s := s) c5 (fun a j x1 x2 => ec a j (by unfold cc; omega) (by omega)), ?_⟩, ⟨⟨hm, ?_⟩, ?_, mTp_c (s := s) m3 (em 48 12 (by unfold cm'; omega) (by omega)) (em 48 13 (by unfold cm'; omega) (by omega)) (fun j => em 53 j (by unfold cm'; omega) (by omega)), mSn_c (s := s) m4 (em 48 32 (by unfold cm'; omega) (by omega)) (fun j => em 64 j (by unfold cm'; omega) (by omega)), mSh_c (s := s) m5 (fun a j x1 x2 => em a j (by unfold cm'; omega) (by omega)), ?_, mWd_c m7 (fun j => em 54 j (by unfold cm'; omega) (by omega)) (fun j => em 55 j (by unfold cm'; omega) (by omega))⟩⟩
  · have hS : 72 ≤ a := Nat.le_trans (by decide) ha
    rw [e a j (Or.inr (Or.inr ha)) (by omega) (by omega)]; exact (h3 a ha).1 j
  · rw [(eT a ha).1]; exact (h3 a ha).2.1
  · rw [(eT a ha).2]; exact (h3 a ha).2.2
  · rw [ec 0 9 (by unfold cc; omega) (by omega)]; exact c6
  · rw [em 48 1 (by unfold cm'; omega) (by omega)]
    show xe_I h 48 1 = nI (g 35)
    rw [e35]; exact m1.2
  · refine ⟨by rw [em 68 0 (by unfold cm'; omega) (by omega), em 68 1 (by unfold cm'; omega) (by omega)]; exact m2.1, fun z => mp_c (g := s 1) (p2.2 z).1 (m2.2.1 z) (fun j x1 x2 => em 49 j (by unfold cm'; omega) (by omega)), fun z => mp_c (g := s 2) (p3.2 z).1 (m2.2.2 z) (fun j x1 x2 => em 49 j (by unfold cm'; omega) (by omega))⟩
  · rw [em 48 40 (by unfold cm'; omega) (by omega)]; exact m6
