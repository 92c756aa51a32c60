/-! a minute -/
/-- a town's numbers but for its rests -/
def tn_b (h : xe_H) (o : Nat) (g : Nat → Nat) : Prop := (xe_I h o 0 = nI (g 35) ∧ xe_I h o 1 = nI (g 24) ∧ xe_I h o 2 = nI (g 31) ∧ xe_I h o 3 = nI (g 32) ∧ xe_I h o 4 = nI (g 33) ∧ xe_I h o 5 = nI (g 34) ∧ True) ∧
  (∀ b, b < g 24 → xe_I h (o + 1) b = nI (g (4 * b)) ∧ xe_I h (o + 2) b = nI (g (4 * b + 1))) ∧ (∀ b, b < 6 → xe_I h (o + 3) b = nI (g (4 * b + 2))) ∧ (∀ p, p < g 31 → xe_I h (o + 4) p = nI (g (25 + 2 * p)) ∧ xe_I h (o + 5) p = nI (g (26 + 2 * p)))
theorem tn_bv {h : xe_H} {o : Nat} {g : Nat → Nat} (H : tn_v h o g) : tn_b h o g := by
  obtain ⟨⟨a0, a1, a2, a3, a4, a5, a6⟩, b, c, p⟩ := H
  exact ⟨⟨a0, a1, a2, a3, a4, a5, trivial⟩, b, c, p⟩
theorem tb_6 {h : xe_H} {o : Nat} {g : Nat → Nat} {v : Int32} (H : tn_b h o g) : tn_b (xe_sI h o 6 v) o g := by
  obtain ⟨⟨a0, a1, a2, a3, a4, a5, a6⟩, b, c, p⟩ := H
  refine ⟨⟨?_, ?_, ?_, ?_, ?_, ?_, trivial⟩, fun k hk => ⟨?_, ?_⟩, fun k hk => ?_, fun k hk => ⟨?_, ?_⟩⟩
  · rw [hI_sI, if_neg (by omega)]; exact a0
  · rw [hI_sI, if_neg (by omega)]; exact a1
  · rw [hI_sI, if_neg (by omega)]; exact a2
  · rw [hI_sI, if_neg (by omega)]; exact a3
  · rw [hI_sI, if_neg (by omega)]; exact a4
  · rw [hI_sI, if_neg (by omega)]; exact a5
  · rw [hI_sI, if_neg (by omega)]; exact (b k hk).1
  · rw [hI_sI, if_neg (by omega)]; exact (b k hk).2
  · rw [hI_sI, if_neg (by omega)]; exact c k hk
  · rw [hI_sI, if_neg (by omega)]; exact (p k hk).1
  · rw [hI_sI, if_neg (by omega)]; exact (p k hk).2
section TX
variable {d : Nat} {h : xe_H} {Q : Option Value → xe_H → Prop}
theorem tx_touches {o : Nat} {g : Nat → Nat} (hs : tn_sh h o) (hv : tn_b h o g) (hg : pg_ok g) {b w : Nat} (hb : b < g 24) (hw : w < 2 ^ 31) : xe_C (d + 1) 48 [.ref o, .int (nI b), .int (nI w)] h Q = Q (some (.int (xb (g (4 * b) = w ∨ g (4 * b + 1) = w)))) h := by
  obtain ⟨s1, ⟨r1, r2, r3, r4, r5⟩, ⟨o1, o2, o3, o4, o5⟩, ⟨n1, n2, n3, n4, n5⟩⟩ := hs
  obtain ⟨-, v1, -⟩ := hv
  obtain ⟨g1, -, -, -, -, -, -, g8, g9, -⟩ := hg
  obtain ⟨b1, b2, -⟩ := g9 b hb
  simp only [xs_48, xs_48_0, xs_48_1, xs_48_4, xs_48_5, xs_48_6, xs_48_7, xs_48_10, xs_48_11, xs_48_14, xs_48_15, xs_48_16, xs_48_17, xs_48_20, xs_48_21, xs_48_24, xs_48_25, s1, r1, r2, rf_some, ob_ia o1, ob_ia o2, ix_nI n1 (show b < 6 by omega) (by decide), ix_nI n2 (show b < 6 by omega) (by decide), nI_clamp (show b < 2 ^ 31 by omega), (v1 b hb).1, (v1 b hb).2, nIe (show g (4 * b) < 2 ^ 31 by omega) hw, nIe (show g (4 * b + 1) < 2 ^ 31 by omega) hw, true_and]
  by_cases h1 : g (4 * b) = w
  · simp [h1, xb]
  · by_cases h2 : g (4 * b + 1) = w <;> simp [h1, h2, xb]
theorem tx_canMove {o : Nat} {g f : Nat → Nat} (hs : tn_sh h o) (hv : tn_b h o g) (hg : pg_ok g) (hf : rp_ok f) {w m : Nat} (hw : w < 2 ^ 31) (hm : m < 2 ^ 31) : xe_C (d + 2) 49 [.ref o, .int (nI (rp f)), .int (nI w), .int (nI m)] h Q = Q (some (.int (@xb (cm g f w m) (cmD g f w m)))) h := by
  have hs' := hs
  obtain ⟨s1, -⟩ := hs'
  obtain ⟨v0, -⟩ := id hv
  obtain ⟨g1, -⟩ := id hg
  simp only [xs_49, xs_49_0, xs_49_1, xs_49_4, xs_49_5, xs_49_8, xs_49_9, xs_49_10, xs_49_13, xs_49_16, xs_49_17, xs_49_18, xs_49_19, xs_49_20, xs_49_21, xs_49_24, xs_49_27, xs_49_28, xs_49_29, xs_49_30, xs_49_31, xs_49_34, xs_49_37, xs_49_38, xs_49_41, xs_49_42, s1, v0.2.1, true_and]
  simp only [nIe0 hm, nIle0 hm, nIlt (show g 24 < 2 ^ 31 by omega) hm]
  by_cases m0 : m = 0
  · rw [if_pos m0, @xb_t _ (cmD g f w m) (Or.inl m0)]; simp
  · rw [if_neg m0, if_neg (by omega)]
    by_cases m1 : g 24 < m
    · rw [if_pos m1, @xb_f _ (cmD g f w m) (by unfold cm; omega)]; simp
    · have e1 : nI m - 1 = nI (m - 1) := by rw [nI1]; exact pk_sub (by omega)
      rw [if_neg m1, e1, tx_touches hs hv hg (show m - 1 < g 24 by omega) hw]
      simp only [xw_nil, tl_some, xs_49_24, xs_49_27, xs_49_28, xs_49_29, xs_49_30, xs_49_31, xs_49_34, xs_49_37, xs_49_38, xs_49_41, xs_49_42, xb_0]
      by_cases t1 : g (4 * (m - 1)) = w ∨ g (4 * (m - 1) + 1) = w
      · rw [e1, tw_isOpen hf (show m - 1 < 6 by omega)]
        simp only [tl_some, xs_49_24, xs_49_27, xs_49_28, xs_49_29, xs_49_30, xs_49_31, xs_49_34, xs_49_37, xs_49_38, xs_49_41, xs_49_42, xb_0]
        by_cases t2 : f (m - 1) = 0
        · rw [@xb_t _ (cmD g f w m) (Or.inr ⟨by omega, t1, t2⟩)]
          simp [t1, t2]
        · rw [@xb_f _ (cmD g f w m) (by unfold cm; rintro (q | ⟨-, -, q⟩); exact m0 q; exact t2 q)]
          simp [t1, t2]
      · rw [@xb_f _ (cmD g f w m) (by unfold cm; rintro (q | ⟨-, q, -⟩); exact m0 q; exact t1 q)]
        simp [t1]
theorem tx_placeAfter {o : Nat} {g : Nat → Nat} (hs : tn_sh h o) (hv : tn_b h o g) (hg : pg_ok g) {w m : Nat} (hw : w < 2 ^ 31) (hm : m ≤ g 24) : xe_C (d + 1) 50 [.ref o, .int (nI w), .int (nI m)] h Q = Q (some (.int (nI (pa g w m)))) h := by
  obtain ⟨s1, ⟨r1, r2, r3, r4, r5⟩, ⟨o1, o2, o3, o4, o5⟩, ⟨n1, n2, n3, n4, n5⟩⟩ := hs
  obtain ⟨-, v1, -⟩ := hv
  obtain ⟨g1, -, -, -, -, -, -, g8, g9, -⟩ := hg
  simp only [xs_50, xs_50_0, xs_50_1, nI0, nIe (show m < 2 ^ 31 by omega) (show 0 < 2 ^ 31 by decide)]
  unfold pa
  by_cases m0 : m = 0
  · rw [if_pos m0, if_pos m0]
    simp only [xs_50_4, xs_50_5, xs_50_6]
  · rw [if_neg m0, if_neg m0]
    have e1 : nI m - 1 = nI (m - 1) := by rw [nI1]; exact pk_sub (by omega)
    obtain ⟨b1, b2, -⟩ := g9 (m - 1) (by omega)
    simp only [xs_50_6, xs_50_7, xs_50_10, xs_50_11, xs_50_12, xs_50_13, xs_50_14, xs_50_15, xs_50_18, xs_50_19, xs_50_22, xs_50_23, xs_50_24, xs_50_25, xs_50_26, xs_50_29, xs_50_30, xs_50_33, xs_50_34, xs_50_35, xs_50_36, xs_50_37, s1, r1, r2, rf_some, ob_ia o1, ob_ia o2, e1, ix_nI n1 (show m - 1 < 6 by omega) (by decide), ix_nI n2 (show m - 1 < 6 by omega) (by decide), nI_clamp (show m - 1 < 2 ^ 31 by omega), (v1 (m - 1) (by omega)).1, (v1 (m - 1) (by omega)).2, nIe (show g (4 * (m - 1)) < 2 ^ 31 by omega) hw, true_and]
    by_cases h1 : g (4 * (m - 1)) = w
    · simp [h1]
    · simp [h1]
theorem tx_restsAfter {o : Nat} {g f : Nat → Nat} (hs : tn_sh h o) (hv : tn_b h o g) (hg : pg_ok g) (hf : rp_ok f) {m : Nat} (hm : m ≤ g 24) : xe_C (d + 2) 51 [.ref o, .int (nI (rp f)), .int (nI m)] h Q = Q (some (.int (nI (rp (ra g f m))))) h := by
  obtain ⟨s1, ⟨r1, r2, r3, r4, r5⟩, ⟨o1, o2, o3, o4, o5⟩, ⟨n1, n2, n3, n4, n5⟩⟩ := hs
  obtain ⟨⟨a0, a1, a2, a3, a4, a5, a6⟩, v1, v2, -⟩ := hv
  obtain ⟨g1, g2, g3, g4, g5, g6, g7, g8, g9, g10, g11, -⟩ := id hg
  simp only [xs_51, xs_51_0, xs_51_1, xs_51_4, xs_51_5, xs_51_6, xs_51_7, xs_51_8, xs_51_9, xs_51_10, xs_51_11, xs_51_14, xs_51_15, xs_51_18, xs_51_19, xs_51_20, xs_51_21, xs_51_24, xs_51_27, xs_51_29, xs_51_30, xs_51_33, xs_51_34, xs_51_35, xs_51_37, xs_51_40, xs_51_42, xs_51_45, xs_51_47, xs_51_48, xs_51_51, xs_51_52, xs_51_53, xs_51_54, xs_51_57, xs_51_58, xs_51_59, xs_51_62, xs_51_63, xs_51_66, xs_51_67, xs_51_70, xs_51_71, xs_51_74, xs_51_75, xs_51_76, xs_51_77, xs_51_78, xs_51_79, xs_51_82, xs_51_85, xs_51_87, xs_51_88, xs_51_89, xs_51_92, xs_51_93, xs_51_94, xs_51_97, xs_51_99, xs_51_102, xs_51_104, xs_51_105, xs_51_106, xs_51_107, xs_51_108, xs_51_111, xs_51_114, xs_51_115, xs_51_116, xs_51_117, xs_51_120, xs_51_121, xs_51_122, xs_51_123, xs_51_126, xs_51_129, s1, r1, r2, r3, rf_some, ob_ia o1, ob_ia o2, ob_ia o3, a1, a3, a4, true_and]
  simp only [nIe0 (show m < 2 ^ 31 by omega), nIe1 (show g 32 < 2 ^ 31 by omega), nIe2 (show g 32 < 2 ^ 31 by omega)]
  unfold ra
  by_cases m0 : m = 0
  · rw [if_pos m0, if_pos m0]
  · rw [if_neg m0, if_neg m0]
    have e1 : nI m - 1 = nI (m - 1) := nIp (by omega)
    obtain ⟨-, -, -, b4⟩ := g9 (m - 1) (by omega)
    have b6 : g (4 * (m - 1) + 2) ≤ 6 := by omega
    simp only [e1, nI_clamp (show m - 1 < 2 ^ 31 by omega), v2 (m - 1) (by omega), ix_nI n3 (show m - 1 < 6 by omega) (by decide), xc_int, xw_nil, Nat.zero_le, true_and]
    by_cases l1 : g 32 = 1
    · rw [if_pos l1, if_pos l1, tw_shutFor hf (show m - 1 ≤ 6 by omega) g5]
      have hsf : sf f (m - 1) (g 33) = up f (m - 1) (g 33 + 1) := by unfold sf; rw [if_neg (by omega)]
      rw [hsf]
      simp only [tl_some, xs_51_27, xs_51_29, xs_51_30, xs_51_33, xs_51_34, xs_51_35, xs_51_37, xs_51_40, xs_51_42, xs_51_45, xs_51_47, xs_51_48, xs_51_51, xs_51_52, xs_51_53, xs_51_54, xs_51_57, xs_51_58, xs_51_59, xs_51_62, s1, r3, rf_some, ob_ia o3, e1, xc_int, nI_clamp (show m - 1 < 2 ^ 31 by omega), v2 (m - 1) (by omega), ix_nI n3 (show m - 1 < 6 by omega) (by decide), nIe6 (show g (4 * (m - 1) + 2) < 2 ^ 31 by omega), xw_nil, Nat.zero_le, true_and]
      by_cases h6 : g (4 * (m - 1) + 2) = 6
      · simp only [if_pos h6]
      · rw [if_neg h6, if_neg h6, show (0 : Int32) = nI 0 from rfl, tw_withRest (up_ok hf (by omega)) (show g (4 * (m - 1) + 2) < 6 by omega) (by omega)]
        simp only [tl_some, xs_51_27, xs_51_29, xs_51_30, xs_51_33, xs_51_34, xs_51_35, xs_51_37, xs_51_40, xs_51_42, xs_51_45, xs_51_47, xs_51_48, xs_51_51, xs_51_52, xs_51_53, xs_51_54, xs_51_57, xs_51_58, xs_51_59, xs_51_62]
    · rw [if_neg l1, if_neg l1]
      by_cases l2 : g 32 = 2
      · rw [if_pos l2, if_pos l2]
        have key : ∀ f' : Nat → Nat, rp_ok f' → xe_P (d + 1) 51 87 [.ref o, .int (nI (rp f)), .int (nI m), .int (nI (m - 1)), .int (nI (rp f'))] [] h Q = Q (some (.int (nI (rp (if m = g 24 then f' else up f' m (g 33 + 1)))))) h := by
          intro f' hf'
          have e2 : nI (g 24) - 1 = nI (g 24 - 1) := nIp (by omega)
          have e3 : nI (m - 1) + 1 = nI m := by rw [nI_1]; congr 1; omega
          simp only [xs_51_87, xs_51_88, xs_51_89, xs_51_92, xs_51_93, xs_51_94, xs_51_97, xs_51_99, xs_51_102, xs_51_104, xs_51_105, xs_51_106, xs_51_107, xs_51_108, xs_51_111, xs_51_114, s1, a1, a4, e2, e3, true_and, xw_nil, Nat.zero_le, nIe (show m - 1 < 2 ^ 31 by omega) (show g 24 - 1 < 2 ^ 31 by omega), show (m - 1 = g 24 - 1) = (m = g 24) from propext (by omega)]
          by_cases hm2 : m = g 24
          · simp only [if_pos hm2]
          · rw [if_neg hm2, if_neg hm2, tw_shutFor hf' (show m ≤ 6 by omega) g5]
            have hsf : sf f' m (g 33) = up f' m (g 33 + 1) := by unfold sf; rw [if_neg (by omega)]
            rw [hsf]
            simp only [tl_some, xs_51_87, xs_51_88, xs_51_89, xs_51_92, xs_51_93, xs_51_94, xs_51_97, xs_51_99, xs_51_102, xs_51_104, xs_51_105, xs_51_106, xs_51_107, xs_51_108, xs_51_111, xs_51_114]
        by_cases m1 : m = 1
        · subst m1
          simp only [Nat.sub_self, nIe0 (show 0 < 2 ^ 31 by decide), if_true]
          exact key f hf
        · have e4 : nI (m - 1) - 1 = nI (m - 2) := by rw [nIp (by omega)]; rfl
          simp only [nIe0 (show m - 1 < 2 ^ 31 by omega), if_neg (show ¬ m - 1 = 0 by omega), if_neg m1, e4]
          rw [tw_shutFor hf (show m - 2 ≤ 6 by omega) g5]
          have hsf : sf f (m - 2) (g 33) = up f (m - 2) (g 33 + 1) := by unfold sf; rw [if_neg (by omega)]
          rw [hsf]
          simp only [tl_some, xs_51_85, xc_int]
          exact key _ (up_ok hf (by omega))
      · rw [if_neg l2, if_neg l2, tw_shutFor hf b6 g5]
        simp only [tl_some, xs_51_115, xs_51_116, xs_51_117, xs_51_120, xs_51_121, xs_51_122, xs_51_123, xs_51_126, xs_51_129]
end TX
section TB
variable {h : xe_H} {o : Nat} {g : Nat → Nat} {v q : Nat}
theorem tb_up_place (h24 : g 24 ≤ 6) (h31 : g 31 ≤ 3) (hq : q < g 31) (H : tn_b h o g) : tn_b (xe_sI h (o + 4) q (nI v)) o (up g (25 + 2 * q) v) := by
  obtain ⟨⟨a0, a1, a2, a3, a4, a5, a6⟩, b, c, p⟩ := H
  have e24 : up g (25 + 2 * q) v 24 = g 24 := up_ne (by omega)
  have e31 : up g (25 + 2 * q) v 31 = g 31 := up_ne (by omega)
  refine ⟨⟨?_, ?_, ?_, ?_, ?_, ?_, ?_⟩, fun k hk => ⟨?_, ?_⟩, fun k hk => ?_, fun k hk => ⟨?_, ?_⟩⟩
  · rw [hI_sI, if_neg (by omega), up_ne (by omega)]; exact a0
  · rw [hI_sI, if_neg (by omega), up_ne (by omega)]; exact a1
  · rw [hI_sI, if_neg (by omega), up_ne (by omega)]; exact a2
  · rw [hI_sI, if_neg (by omega), up_ne (by omega)]; exact a3
  · rw [hI_sI, if_neg (by omega), up_ne (by omega)]; exact a4
  · rw [hI_sI, if_neg (by omega), up_ne (by omega)]; exact a5
  · trivial
  · rw [e24] at hk; rw [hI_sI, if_neg (by omega), up_ne (by omega)]; exact (b k hk).1
  · rw [e24] at hk; rw [hI_sI, if_neg (by omega), up_ne (by omega)]; exact (b k hk).2
  · rw [hI_sI, if_neg (by omega), up_ne (by omega)]; exact c k hk
  · rw [e31] at hk; by_cases z : k = q
    · subst z; rw [hI_sI, if_pos ⟨rfl, rfl⟩, up_eq]
    · rw [hI_sI, if_neg (by omega), up_ne (by omega)]; exact (p k hk).1
  · rw [e31] at hk; rw [hI_sI, if_neg (by omega), up_ne (by omega)]; exact (p k hk).2
end TB
/-- rests within a minute -/
def ro (g f : Nat → Nat) : Prop := (∀ b, b < 6 → f b ≤ 4) ∧ ∀ b, g 24 ≤ b → b < 6 → f b = 0
theorem ro_rp {g f : Nat → Nat} (H : ro g f) : rp_ok f := fun b hb => Nat.lt_of_le_of_lt (H.1 b hb) (by decide)
theorem ro_up {g f : Nat → Nat} {b v : Nat} (H : ro g f) (hb : b < g 24) (hv : v ≤ 4) : ro g (up f b v) := by
  refine ⟨fun c hc => ?_, fun c h1 h2 => ?_⟩
  · unfold up; split
    · exact hv
    · exact H.1 c hc
  · rw [up_ne (by omega)]; exact H.2 c h1 h2
theorem ro_g {g : Nat → Nat} (hg : pg_ok g) : ro g (gr g) := ⟨fun b hb => Nat.le_trans (hg.2.2.2.2.2.2.2.2.2.1 b hb) (by decide), fun b h1 h2 => (hg.2.2.2.2.2.2.2.2.2.2.1 b h1 h2).1⟩
theorem ro_ra {g f : Nat → Nat} (hg : pg_ok g) (H : ro g f) {m : Nat} (hm : m ≤ g 24) : ro g (ra g f m) := by
  obtain ⟨g1, -, -, -, g5, -, -, -, g9, -⟩ := hg
  have h4 : g 33 + 1 ≤ 4 := by omega
  unfold ra sf
  by_cases m0 : m = 0
  · rw [if_pos m0]; exact H
  · rw [if_neg m0]
    obtain ⟨-, -, -, b4⟩ := g9 (m - 1) (by omega)
    split
    · split
      · exact ro_up H (by omega) h4
      · exact ro_up (ro_up H (by omega) h4) (by omega) (by omega)
    · split
      · split
        · split
          · exact H
          · exact ro_up H (by omega) h4
        · refine ro_up ?_ (by omega) h4
          split
          · exact H
          · exact ro_up H (by omega) h4
      · split
        · exact H
        · exact ro_up H (by omega) h4
theorem pa_lt {g f : Nat → Nat} (hg : pg_ok g) {w m : Nat} (hw : w < g 35) (hc : cm g f w m) : pa g w m < g 35 := by
  unfold pa
  rcases hc with m0 | ⟨m1, m2, m3⟩
  · rw [if_pos m0]; exact hw
  · split
    · exact hw
    · rename_i m0
      obtain ⟨b1, b2, -⟩ := hg.2.2.2.2.2.2.2.2.1 (m - 1) (by omega)
      split
      · exact b2
      · exact b1
theorem cm_le {g f : Nat → Nat} {w m : Nat} (hc : cm g f w m) : m ≤ g 24 := by
  rcases hc with m0 | ⟨m1, -⟩
  · omega
  · exact m1
/-- page, rests, who is stuck, behind the first p people -/
def mst (m : Nat) (g : Nat → Nat) : Nat → (Nat → Nat) × (Nat → Nat) × Int32
  | 0 => (g, gr g, 0)
  | p + 1 => if cb (mst m g p).1 (mst m g p).2.1 ((mst m g p).1 (25 + 2 * p)) (m / 8 ^ p % 8) then (up (mst m g p).1 (25 + 2 * p) (pa (mst m g p).1 ((mst m g p).1 (25 + 2 * p)) (m / 8 ^ p % 8)), ra (mst m g p).1 (mst m g p).2.1 (m / 8 ^ p % 8), (mst m g p).2.2) else ((mst m g p).1, (mst m g p).2.1, (mst m g p).2.2 ||| 1 <<< (nI p &&& 31))
theorem mst_o {m : Nat} {g : Nat → Nat} : ∀ (p : Nat), p ≤ 3 → ∀ j, ¬ (j = 25 ∨ j = 27 ∨ j = 29) → (mst m g p).1 j = g j
  | 0, _, _, _ => rfl
  | p + 1, hp, j, hj => by
    unfold mst
    split
    · show up _ _ _ j = _
      rw [up_ne (by omega)]; exact mst_o p (by omega) j hj
    · exact mst_o p (by omega) j hj
theorem cb_T {g f : Nat → Nat} {w m : Nat} (h : cb g f w m = true) : cm g f w m := @of_decide_eq_true _ (cmD g f w m) h
theorem cb_F {g f : Nat → Nat} {w m : Nat} (h : ¬ cb g f w m = true) : ¬ cm g f w m := fun z => h (cb_t z)
theorem mst_k {m : Nat} {g : Nat → Nat} (hg : pg_ok g) : ∀ (p : Nat), p ≤ g 31 → pg_ok (mst m g p).1 ∧ ro g (mst m g p).2.1
  | 0, _ => ⟨hg, ro_g hg⟩
  | p + 1, hp => by
    have h31 : g 31 ≤ 3 := hg.2.1
    obtain ⟨i1, i2⟩ := mst_k (m := m) hg p (by omega)
    have e24 := mst_o (m := m) (g := g) p (by omega) 24 (by omega)
    have e31 := mst_o (m := m) (g := g) p (by omega) 31 (by omega)
    unfold mst
    split
    · rename_i z
      have z := cb_T z
      have i3 : ro (mst m g p).1 (mst m g p).2.1 := by unfold ro; rw [e24]; exact i2
      have i4 := ro_ra i1 i3 (cm_le z)
      unfold ro at i4
      rw [e24] at i4
      exact ⟨pg_place i1 (by omega) (pa_lt i1 (i1.2.2.2.2.2.2.2.2.2.2.2 p (by omega)).1 z), i4⟩
    · exact ⟨i1, i2⟩
/-- the page behind the minute -/
def mfin (m : Nat) (g : Nat → Nat) : Nat → Nat := fun j => if j = 34 then g 34 + 1 else if j < 24 ∧ j % 4 = 3 then (mst m g (g 31)).2.1 (j / 4) - 1 else (mst m g (g 31)).1 j
theorem mfin_ok {m : Nat} {g : Nat → Nat} (hg : pg_ok g) (h9 : g 34 < 999) : pg_ok (mfin m g) ∧ mfin m g 24 = g 24 ∧ mfin m g 35 = g 35 ∧ mfin m g 31 = g 31 ∧ mfin m g 34 = g 34 + 1 := by
  have h31 : g 31 ≤ 3 := hg.2.1
  obtain ⟨i1, i2⟩ := mst_k (m := m) hg (g 31) (Nat.le_refl _)
  have eo := fun j hj => mst_o (m := m) (g := g) (g 31) h31 j hj
  have f34 : mfin m g 34 = g 34 + 1 := rfl
  have fo : ∀ j, j ≠ 34 → ¬ (j < 24 ∧ j % 4 = 3) → mfin m g j = (mst m g (g 31)).1 j := fun j h1 h2 => by unfold mfin; rw [if_neg h1, if_neg h2]
  have fr' : ∀ b, b < 6 → mfin m g (4 * b + 3) = (mst m g (g 31)).2.1 b - 1 := fun b hb => by
    unfold mfin
    rw [if_neg (by omega), if_pos (by omega), show (4 * b + 3) / 4 = b by omega]
  have e24 := eo 24 (by omega)
  have e31 := eo 31 (by omega)
  have e35 := eo 35 (by omega)
  have k24 : mfin m g 24 = g 24 := (fo 24 (by omega) (by omega)).trans e24
  have k31 : mfin m g 31 = g 31 := (fo 31 (by omega) (by omega)).trans e31
  have k35 : mfin m g 35 = g 35 := (fo 35 (by omega) (by omega)).trans e35
  refine ⟨?_, k24, k35, k31, f34⟩
  have h24 : g 24 ≤ 6 := hg.1
  obtain ⟨p1, p2, p3, p4, p5, p6, p7, p8, p9, p10, p11, p12⟩ := i1
  rw [e24] at p1 p9 p11
  rw [e31] at p2 p12
  rw [e35] at p7 p8 p9 p12
  unfold pg_ok
  rw [k24, k31, k35, f34, fo 32 (by omega) (by omega), fo 33 (by omega) (by omega)]
  refine ⟨p1, p2, p3, p4, p5, by omega, p7, p8, fun b hb => ?_, fun b hb => ?_, fun b h1 h2 => ?_, fun p hp => ?_⟩
  · rw [fo (4 * b) (by omega) (by omega), fo (4 * b + 1) (by omega) (by omega), fo (4 * b + 2) (by omega) (by omega)]
    exact p9 b hb
  · rw [fr' b hb]; have := i2.1 b hb; omega
  · rw [fr' b h2, fo (4 * b + 2) (by omega) (by omega), i2.2 b h1 h2]
    exact ⟨rfl, (p11 b h1 h2).2⟩
  · rw [fo _ (by omega) (by omega), fo _ (by omega) (by omega)]
    exact p12 p hp
/-- moves that may be tried -/
def gm (g : Nat → Nat) (m : Nat) : Prop := m < 8 ^ g 31 ∧ (1 ≤ g 31 → m % 8 ≤ g 24) ∧ (2 ≤ g 31 → m / 8 % 8 ≤ g 24) ∧ (3 ≤ g 31 → m / 64 % 8 ≤ g 24)
def gmD (g : Nat → Nat) (m : Nat) : Decidable (gm g m) := inferInstanceAs (Decidable (_ ∧ _))
theorem sh_0 (m : Nat) (hm : m < 2 ^ 31) : nI m >>> ((0 : Int32) &&& 31) = nI m := (pk_shrN hm _ 0 (by decide)).trans (by rw [Nat.pow_zero, Nat.div_one])
theorem sh_3 (m : Nat) (hm : m < 2 ^ 31) : nI m >>> ((3 : Int32) &&& 31) = nI (m / 8) := pk_shrN hm _ 3 (by decide)
theorem sh_6 (m : Nat) (hm : m < 2 ^ 31) : nI m >>> ((6 : Int32) &&& 31) = nI (m / 64) := pk_shrN hm _ 6 (by decide)
theorem sh_9 (m : Nat) (hm : m < 2 ^ 31) : nI m >>> ((9 : Int32) &&& 31) = nI (m / 512) := pk_shrN hm _ 9 (by decide)
theorem and_7 (m : Nat) : nI m &&& 7 = nI (m % 8) := by rw [show (7 : Int32) = nI (2 ^ 3 - 1) from rfl, fa_mask]
theorem sh_p (m : Nat) (hm : m < 2 ^ 31) {p : Nat} (hp : p < 3) : nI m >>> (3 * nI p &&& 31) &&& 7 = nI (m / 8 ^ p % 8) := by
  rcases (show p = 0 ∨ p = 1 ∨ p = 2 by omega) with rfl | rfl | rfl
  · rw [show (3 : Int32) * nI 0 = 0 by decide, sh_0 m hm, and_7, Nat.pow_zero, Nat.div_one]
  · rw [show (3 : Int32) * nI 1 = 3 by decide, sh_3 m hm, and_7]
  · rw [show (3 : Int32) * nI 2 = 6 by decide, sh_6 m hm, and_7]
