/-! a town's page: 4b, 4b+1 the places of bridge b, 4b+2 what hangs on it (6: none), 4b+3 its rest, 24 bridges, 25+2p, 26+2p place and goal, 31 people, 32 law, 33 hold, 34 minute, 35 places -/
def pg_ok (g : Nat → Nat) : Prop := g 24 ≤ 6 ∧ g 31 ≤ 3 ∧ g 32 ≤ 2 ∧ 1 ≤ g 33 ∧ g 33 ≤ 3 ∧ g 34 ≤ 999 ∧ 2 ≤ g 35 ∧ g 35 ≤ 5 ∧
  (∀ b, b < g 24 → g (4 * b) < g 35 ∧ g (4 * b + 1) < g 35 ∧ g (4 * b) ≠ g (4 * b + 1) ∧ (g (4 * b + 2) = 6 ∨ (g (4 * b + 2) < g 24 ∧ g (4 * b + 2) ≠ b))) ∧
  (∀ b, b < 6 → g (4 * b + 3) ≤ 3) ∧ (∀ b, g 24 ≤ b → b < 6 → g (4 * b + 3) = 0 ∧ g (4 * b + 2) = 6) ∧
  (∀ p, p < g 31 → g (25 + 2 * p) < g 35 ∧ g (26 + 2 * p) < g 35)
/-- a town's cells -/
def tn_sh (h : xe_H) (o : Nat) : Prop := xe_ob h o 3 ∧ (xe_R h o 7 = some (o + 1) ∧ xe_R h o 8 = some (o + 2) ∧ xe_R h o 9 = some (o + 3) ∧ xe_R h o 10 = some (o + 4) ∧ xe_R h o 11 = some (o + 5)) ∧
  (xe_ob h (o + 1) 8 ∧ xe_ob h (o + 2) 8 ∧ xe_ob h (o + 3) 8 ∧ xe_ob h (o + 4) 8 ∧ xe_ob h (o + 5) 8) ∧ (xe_N h (o + 1) = 6 ∧ xe_N h (o + 2) = 6 ∧ xe_N h (o + 3) = 6 ∧ xe_N h (o + 4) = 3 ∧ xe_N h (o + 5) = 3)
def gr (g : Nat → Nat) : Nat → Nat := fun b => g (4 * b + 3)
/-- a town's numbers -/
def tn_v (h : xe_H) (o : Nat) (g : Nat → Nat) : Prop := (xe_I h o 0 = nI (g 35) ∧ xe_I h o 1 = nI (g 24) ∧ xe_I h o 2 = nI (g 31) ∧ xe_I h o 3 = nI (g 32) ∧ xe_I h o 4 = nI (g 33) ∧ xe_I h o 5 = nI (g 34) ∧ xe_I h o 6 = nI (rp (gr g))) ∧
  (∀ b, b < g 24 → xe_I h (o + 1) b = nI (g (4 * b)) ∧ xe_I h (o + 2) b = nI (g (4 * b + 1))) ∧ (∀ b, b < 6 → xe_I h (o + 3) b = nI (g (4 * b + 2))) ∧ (∀ p, p < g 31 → xe_I h (o + 4) p = nI (g (25 + 2 * p)) ∧ xe_I h (o + 5) p = nI (g (26 + 2 * p)))
theorem ob_ia {h : xe_H} {a : Nat} (H : xe_ob h a 8) : xe_ia h a := ⟨H.2, Or.inl H.1⟩
theorem nI0 : (0 : Int32) = nI 0 := rfl
theorem nI1 : (1 : Int32) = nI 1 := rfl
theorem nI2 : (2 : Int32) = nI 2 := rfl
theorem nI6 : (6 : Int32) = nI 6 := rfl
theorem nIe {a b : Nat} (ha : a < 2 ^ 31) (hb : b < 2 ^ 31) : (nI a = nI b) = (a = b) := propext (nI_eq ha hb)
theorem nIlt {a b : Nat} (ha : a < 2 ^ 31) (hb : b < 2 ^ 31) : (nI a < nI b) = (a < b) := propext (nI_ltI ha hb)
theorem nIle {a b : Nat} (ha : a < 2 ^ 31) (hb : b < 2 ^ 31) : (nI a ≤ nI b) = (a ≤ b) := propext (nI_leI ha hb)
theorem nIe0 {m : Nat} (hm : m < 2 ^ 31) : (nI m = 0) = (m = 0) := nIe hm (by decide)
theorem nIe1 {m : Nat} (hm : m < 2 ^ 31) : (nI m = 1) = (m = 1) := nIe hm (by decide)
theorem nIe2 {m : Nat} (hm : m < 2 ^ 31) : (nI m = 2) = (m = 2) := nIe hm (by decide)
theorem nIe6 {m : Nat} (hm : m < 2 ^ 31) : (nI m = 6) = (m = 6) := nIe hm (by decide)
theorem nIle0 {m : Nat} (hm : m < 2 ^ 31) : (nI m ≤ 0) = (m ≤ 0) := nIle hm (by decide)
theorem nIlt0 {m : Nat} (hm : m < 2 ^ 31) : (nI m < 0) = False := eq_false (nI_pos hm)
theorem nIge0 {m : Nat} (hm : m < 2 ^ 31) : (0 ≤ nI m) = True := eq_true (nI_pos' hm)
theorem nIp {m : Nat} (hm : 1 ≤ m) : nI m - 1 = nI (m - 1) := by rw [nI1]; exact pk_sub hm
section TW
variable {d : Nat} {h : xe_H} {Q : Option Value → xe_H → Prop}
theorem tw_isOpen {f : Nat → Nat} (hf : rp_ok f) {b : Nat} (hb : b < 6) : xe_C (d + 1) 45 [.int (nI (rp f)), .int (nI b)] h Q = Q (some (.int (xb (f b = 0)))) h := by
  simp only [xs_45, xs_45_0, xs_45_1, xs_45_3, xs_45_4, xs_45_5, xs_45_6, xs_45_7, xs_45_8, xs_45_11, xs_45_12, xs_45_15, xs_45_16, rp_open hf hb]
  by_cases hq : f b = 0 <;> simp [hq, xb]
theorem tw_restOf {f : Nat → Nat} (hf : rp_ok f) {b : Nat} (hb : b < 6) : xe_C (d + 1) 43 [.int (nI (rp f)), .int (nI b)] h Q = Q (some (.int (nI (f b)))) h := by
  simp only [xs_43, xs_43_0, xs_43_1, xs_43_2, xs_43_3, xs_43_4, xs_43_5, xs_43_7, xs_43_8, rp_get hf hb]
theorem tw_withRest {f : Nat → Nat} (hf : rp_ok f) {b v : Nat} (hb : b < 6) (hv : v < 8) : xe_C (d + 1) 44 [.int (nI (rp f)), .int (nI b), .int (nI v)] h Q = Q (some (.int (nI (rp (up f b v))))) h := by
  simp only [xs_44, xs_44_0, xs_44_1, xs_44_3, xs_44_4, xs_44_5, xs_44_6, xs_44_7, xs_44_8, xs_44_9, xs_44_10, xs_44_11, xs_44_12, xs_44_13, xs_44_14, xs_44_15, xs_44_16, rp_put hf hb hv]
theorem tw_behind {f : Nat → Nat} (hf : rp_ok f) : xe_C (d + 1) 46 [.int (nI (rp f))] h Q = Q (some (.int (nI (rp (fun b => f b - 1))))) h := by
  simp only [xs_46, xs_46_0, xs_46_1, xs_46_2, xs_46_3, xs_46_4, xs_46_5, xs_46_6, xs_46_7, xs_46_8, xs_46_9, xs_46_10, xs_46_12, xs_46_13, xs_46_14, rp_tick hf]
/-- one shut for a while, or none (6) -/
def sf (f : Nat → Nat) (b v : Nat) : Nat → Nat := if b = 6 then f else up f b (v + 1)
theorem tw_shutFor {f : Nat → Nat} (hf : rp_ok f) {b v : Nat} (hb : b ≤ 6) (hv : v ≤ 3) : xe_C (d + 1) 47 [.int (nI (rp f)), .int (nI b), .int (nI v)] h Q = Q (some (.int (nI (rp (sf f b v))))) h := by
  simp only [xs_47, xs_47_0, xs_47_1, xs_47_3, xs_47_6, xs_47_7, xs_47_8, xs_47_9, xs_47_11, xs_47_12, xs_47_13, xs_47_14, xs_47_15, xs_47_16, xs_47_17, xs_47_18, xs_47_19, xs_47_20, xs_47_21, xs_47_22, xs_47_23, xs_47_24, xs_47_25, xs_47_26, nI6, nIe (show b < 2 ^ 31 by omega) (show 6 < 2 ^ 31 by decide)]
  unfold sf
  by_cases hq : b = 6
  · simp [hq]
  · simp only [if_neg hq, nI_1, rp_put hf (show b < 6 by omega) (show v + 1 < 8 by omega)]
theorem tw_touches {o : Nat} {g : Nat → Nat} (hs : tn_sh h o) (hv : tn_v h o g) (hg : pg_ok g) {b w : Nat} (hb : b < g 24) (hw : w < 2 ^ 31) : xe_C (d + 1) 48 [.ref o, .int (nI b), .int (nI w)] h Q = Q (some (.int (xb (g (4 * b) = w ∨ g (4 * b + 1) = w)))) h := by
  obtain ⟨s1, ⟨r1, r2, r3, r4, r5⟩, ⟨o1, o2, o3, o4, o5⟩, ⟨n1, n2, n3, n4, n5⟩⟩ := hs
  obtain ⟨-, v1, -⟩ := hv
  obtain ⟨g1, -, -, -, -, -, -, g8, g9, -⟩ := hg
  obtain ⟨b1, b2, -⟩ := g9 b hb
  simp only [xs_48, xs_48_0, xs_48_1, xs_48_4, xs_48_5, xs_48_6, xs_48_7, xs_48_10, xs_48_11, xs_48_14, xs_48_15, xs_48_16, xs_48_17, xs_48_20, xs_48_21, xs_48_24, xs_48_25, s1, r1, r2, rf_some, ob_ia o1, ob_ia o2, ix_nI n1 (show b < 6 by omega) (by decide), ix_nI n2 (show b < 6 by omega) (by decide), nI_clamp (show b < 2 ^ 31 by omega), (v1 b hb).1, (v1 b hb).2, nIe (show g (4 * b) < 2 ^ 31 by omega) hw, nIe (show g (4 * b + 1) < 2 ^ 31 by omega) hw, true_and]
  by_cases h1 : g (4 * b) = w
  · simp [h1, xb]
  · by_cases h2 : g (4 * b + 1) = w <;> simp [h1, h2, xb]
/-- a move can be made -/
def cm (g f : Nat → Nat) (w m : Nat) : Prop := m = 0 ∨ (m ≤ g 24 ∧ (g (4 * (m - 1)) = w ∨ g (4 * (m - 1) + 1) = w) ∧ f (m - 1) = 0)
def cmD (g f : Nat → Nat) (w m : Nat) : Decidable (cm g f w m) := inferInstanceAs (Decidable (_ ∨ _))
theorem tw_canMove {o : Nat} {g f : Nat → Nat} (hs : tn_sh h o) (hv : tn_v h o g) (hg : pg_ok g) (hf : rp_ok f) {w m : Nat} (hw : w < 2 ^ 31) (hm : m < 2 ^ 31) : xe_C (d + 2) 49 [.ref o, .int (nI (rp f)), .int (nI w), .int (nI m)] h Q = Q (some (.int (@xb (cm g f w m) (cmD g f w m)))) h := by
  have hs' := hs
  obtain ⟨s1, -⟩ := hs'
  obtain ⟨v0, -⟩ := id hv
  obtain ⟨g1, -⟩ := id hg
  simp only [xs_49, xs_49_0, xs_49_1, xs_49_4, xs_49_5, xs_49_8, xs_49_9, xs_49_10, xs_49_13, xs_49_16, xs_49_17, xs_49_18, xs_49_19, xs_49_20, xs_49_21, xs_49_24, xs_49_27, xs_49_28, xs_49_29, xs_49_30, xs_49_31, xs_49_34, xs_49_37, xs_49_38, xs_49_41, xs_49_42, s1, v0.2.1, true_and]
  simp only [nIe0 hm, nIle0 hm, nIlt (show g 24 < 2 ^ 31 by omega) hm]
  by_cases m0 : m = 0
  · rw [if_pos m0, @xb_t _ (cmD g f w m) (Or.inl m0)]; simp
  · rw [if_neg m0, if_neg (by omega)]
    by_cases m1 : g 24 < m
    · rw [if_pos m1, @xb_f _ (cmD g f w m) (by unfold cm; omega)]; simp
    · have e1 : nI m - 1 = nI (m - 1) := by rw [nI1]; exact pk_sub (by omega)
      rw [if_neg m1, e1, tw_touches hs hv hg (show m - 1 < g 24 by omega) hw]
      simp only [xw_nil, tl_some, xs_49_24, xs_49_27, xs_49_28, xs_49_29, xs_49_30, xs_49_31, xs_49_34, xs_49_37, xs_49_38, xs_49_41, xs_49_42, xb_0]
      by_cases t1 : g (4 * (m - 1)) = w ∨ g (4 * (m - 1) + 1) = w
      · rw [e1, tw_isOpen hf (show m - 1 < 6 by omega)]
        simp only [tl_some, xs_49_24, xs_49_27, xs_49_28, xs_49_29, xs_49_30, xs_49_31, xs_49_34, xs_49_37, xs_49_38, xs_49_41, xs_49_42, xb_0]
        by_cases t2 : f (m - 1) = 0
        · rw [@xb_t _ (cmD g f w m) (Or.inr ⟨by omega, t1, t2⟩)]
          simp [t1, t2]
        · rw [@xb_f _ (cmD g f w m) (by unfold cm; rintro (q | ⟨-, -, q⟩); exact m0 q; exact t2 q)]
          simp [t1, t2]
      · rw [@xb_f _ (cmD g f w m) (by unfold cm; rintro (q | ⟨-, q, -⟩); exact m0 q; exact t1 q)]
        simp [t1]
/-- the place behind a move -/
def pa (g : Nat → Nat) (w m : Nat) : Nat := if m = 0 then w else if g (4 * (m - 1)) = w then g (4 * (m - 1) + 1) else g (4 * (m - 1))
theorem tw_placeAfter {o : Nat} {g : Nat → Nat} (hs : tn_sh h o) (hv : tn_v h o g) (hg : pg_ok g) {w m : Nat} (hw : w < 2 ^ 31) (hm : m ≤ g 24) : xe_C (d + 1) 50 [.ref o, .int (nI w), .int (nI m)] h Q = Q (some (.int (nI (pa g w m)))) h := by
  obtain ⟨s1, ⟨r1, r2, r3, r4, r5⟩, ⟨o1, o2, o3, o4, o5⟩, ⟨n1, n2, n3, n4, n5⟩⟩ := hs
  obtain ⟨-, v1, -⟩ := hv
  obtain ⟨g1, -, -, -, -, -, -, g8, g9, -⟩ := hg
  simp only [xs_50, xs_50_0, xs_50_1, nI0, nIe (show m < 2 ^ 31 by omega) (show 0 < 2 ^ 31 by decide)]
  unfold pa
  by_cases m0 : m = 0
  · rw [if_pos m0, if_pos m0]
    simp only [xs_50_4, xs_50_5, xs_50_6]
  · rw [if_neg m0, if_neg m0]
    have e1 : nI m - 1 = nI (m - 1) := by rw [nI1]; exact pk_sub (by omega)
    obtain ⟨b1, b2, -⟩ := g9 (m - 1) (by omega)
    simp only [xs_50_6, xs_50_7, xs_50_10, xs_50_11, xs_50_12, xs_50_13, xs_50_14, xs_50_15, xs_50_18, xs_50_19, xs_50_22, xs_50_23, xs_50_24, xs_50_25, xs_50_26, xs_50_29, xs_50_30, xs_50_33, xs_50_34, xs_50_35, xs_50_36, xs_50_37, s1, r1, r2, rf_some, ob_ia o1, ob_ia o2, e1, ix_nI n1 (show m - 1 < 6 by omega) (by decide), ix_nI n2 (show m - 1 < 6 by omega) (by decide), nI_clamp (show m - 1 < 2 ^ 31 by omega), (v1 (m - 1) (by omega)).1, (v1 (m - 1) (by omega)).2, nIe (show g (4 * (m - 1)) < 2 ^ 31 by omega) hw, true_and]
    by_cases h1 : g (4 * (m - 1)) = w
    · simp [h1]
    · simp [h1]
/-- the rests behind a move, still within the minute -/
def ra (g f : Nat → Nat) (m : Nat) : Nat → Nat := if m = 0 then f else if g 32 = 1 then (if g (4 * (m - 1) + 2) = 6 then up f (m - 1) (g 33 + 1) else up (up f (m - 1) (g 33 + 1)) (g (4 * (m - 1) + 2)) 0)
  else if g 32 = 2 then (if m = g 24 then (if m = 1 then f else up f (m - 2) (g 33 + 1)) else up (if m = 1 then f else up f (m - 2) (g 33 + 1)) m (g 33 + 1)) else sf f (g (4 * (m - 1) + 2)) (g 33)
theorem ra_ok {g f : Nat → Nat} (hg : pg_ok g) (hf : rp_ok f) (m : Nat) : rp_ok (ra g f m) := by
  obtain ⟨-, -, -, -, g5, -⟩ := hg
  have h4 : g 33 + 1 < 8 := by omega
  unfold ra sf
  split
  · exact hf
  · split
    · split
      · exact up_ok hf h4
      · exact up_ok (up_ok hf h4) (by omega)
    · split
      · split
        · split
          · exact hf
          · exact up_ok hf h4
        · refine up_ok ?_ h4
          split
          · exact hf
          · exact up_ok hf h4
      · split
        · exact hf
        · exact up_ok hf h4
theorem tw_restsAfter {o : Nat} {g f : Nat → Nat} (hs : tn_sh h o) (hv : tn_v h o g) (hg : pg_ok g) (hf : rp_ok f) {m : Nat} (hm : m ≤ g 24) : xe_C (d + 2) 51 [.ref o, .int (nI (rp f)), .int (nI m)] h Q = Q (some (.int (nI (rp (ra g f m))))) h := by
  obtain ⟨s1, ⟨r1, r2, r3, r4, r5⟩, ⟨o1, o2, o3, o4, o5⟩, ⟨n1, n2, n3, n4, n5⟩⟩ := hs
  obtain ⟨⟨a0, a1, a2, a3, a4, a5, a6⟩, v1, v2, -⟩ := hv
  obtain ⟨g1, g2, g3, g4, g5, g6, g7, g8, g9, g10, g11, -⟩ := id hg
  simp only [xs_51, xs_51_0, xs_51_1, xs_51_4, xs_51_5, xs_51_6, xs_51_7, xs_51_8, xs_51_9, xs_51_10, xs_51_11, xs_51_14, xs_51_15, xs_51_18, xs_51_19, xs_51_20, xs_51_21, xs_51_24, xs_51_27, xs_51_29, xs_51_30, xs_51_33, xs_51_34, xs_51_35, xs_51_37, xs_51_40, xs_51_42, xs_51_45, xs_51_47, xs_51_48, xs_51_51, xs_51_52, xs_51_53, xs_51_54, xs_51_57, xs_51_58, xs_51_59, xs_51_62, xs_51_63, xs_51_66, xs_51_67, xs_51_70, xs_51_71, xs_51_74, xs_51_75, xs_51_76, xs_51_77, xs_51_78, xs_51_79, xs_51_82, xs_51_85, xs_51_87, xs_51_88, xs_51_89, xs_51_92, xs_51_93, xs_51_94, xs_51_97, xs_51_99, xs_51_102, xs_51_104, xs_51_105, xs_51_106, xs_51_107, xs_51_108, xs_51_111, xs_51_114, xs_51_115, xs_51_116, xs_51_117, xs_51_120, xs_51_121, xs_51_122, xs_51_123, xs_51_126, xs_51_129, s1, r1, r2, r3, rf_some, ob_ia o1, ob_ia o2, ob_ia o3, a1, a3, a4, true_and]
  simp only [nIe0 (show m < 2 ^ 31 by omega), nIe1 (show g 32 < 2 ^ 31 by omega), nIe2 (show g 32 < 2 ^ 31 by omega)]
  unfold ra
  by_cases m0 : m = 0
  · rw [if_pos m0, if_pos m0]
  · rw [if_neg m0, if_neg m0]
    have e1 : nI m - 1 = nI (m - 1) := nIp (by omega)
    obtain ⟨-, -, -, b4⟩ := g9 (m - 1) (by omega)
    have b6 : g (4 * (m - 1) + 2) ≤ 6 := by omega
    simp only [e1, nI_clamp (show m - 1 < 2 ^ 31 by omega), v2 (m - 1) (by omega), ix_nI n3 (show m - 1 < 6 by omega) (by decide), xc_int, xw_nil, Nat.zero_le, true_and]
    by_cases l1 : g 32 = 1
    · rw [if_pos l1, if_pos l1, tw_shutFor hf (show m - 1 ≤ 6 by omega) g5]
      have hsf : sf f (m - 1) (g 33) = up f (m - 1) (g 33 + 1) := by unfold sf; rw [if_neg (by omega)]
      rw [hsf]
      simp only [tl_some, xs_51_27, xs_51_29, xs_51_30, xs_51_33, xs_51_34, xs_51_35, xs_51_37, xs_51_40, xs_51_42, xs_51_45, xs_51_47, xs_51_48, xs_51_51, xs_51_52, xs_51_53, xs_51_54, xs_51_57, xs_51_58, xs_51_59, xs_51_62, s1, r3, rf_some, ob_ia o3, e1, xc_int, nI_clamp (show m - 1 < 2 ^ 31 by omega), v2 (m - 1) (by omega), ix_nI n3 (show m - 1 < 6 by omega) (by decide), nIe6 (show g (4 * (m - 1) + 2) < 2 ^ 31 by omega), xw_nil, Nat.zero_le, true_and]
      by_cases h6 : g (4 * (m - 1) + 2) = 6
      · simp only [if_pos h6]
      · rw [if_neg h6, if_neg h6, show (0 : Int32) = nI 0 from rfl, tw_withRest (up_ok hf (by omega)) (show g (4 * (m - 1) + 2) < 6 by omega) (by omega)]
        simp only [tl_some, xs_51_27, xs_51_29, xs_51_30, xs_51_33, xs_51_34, xs_51_35, xs_51_37, xs_51_40, xs_51_42, xs_51_45, xs_51_47, xs_51_48, xs_51_51, xs_51_52, xs_51_53, xs_51_54, xs_51_57, xs_51_58, xs_51_59, xs_51_62]
    · rw [if_neg l1, if_neg l1]
      by_cases l2 : g 32 = 2
      · rw [if_pos l2, if_pos l2]
        have key : ∀ f' : Nat → Nat, rp_ok f' → xe_P (d + 1) 51 87 [.ref o, .int (nI (rp f)), .int (nI m), .int (nI (m - 1)), .int (nI (rp f'))] [] h Q = Q (some (.int (nI (rp (if m = g 24 then f' else up f' m (g 33 + 1)))))) h := by
          intro f' hf'
          have e2 : nI (g 24) - 1 = nI (g 24 - 1) := nIp (by omega)
          have e3 : nI (m - 1) + 1 = nI m := by rw [nI_1]; congr 1; omega
          simp only [xs_51_87, xs_51_88, xs_51_89, xs_51_92, xs_51_93, xs_51_94, xs_51_97, xs_51_99, xs_51_102, xs_51_104, xs_51_105, xs_51_106, xs_51_107, xs_51_108, xs_51_111, xs_51_114, s1, a1, a4, e2, e3, true_and, xw_nil, Nat.zero_le, nIe (show m - 1 < 2 ^ 31 by omega) (show g 24 - 1 < 2 ^ 31 by omega), show (m - 1 = g 24 - 1) = (m = g 24) from propext (by omega)]
          by_cases hm2 : m = g 24
          · simp only [if_pos hm2]
          · rw [if_neg hm2, if_neg hm2, tw_shutFor hf' (show m ≤ 6 by omega) g5]
            have hsf : sf f' m (g 33) = up f' m (g 33 + 1) := by unfold sf; rw [if_neg (by omega)]
            rw [hsf]
            simp only [tl_some, xs_51_87, xs_51_88, xs_51_89, xs_51_92, xs_51_93, xs_51_94, xs_51_97, xs_51_99, xs_51_102, xs_51_104, xs_51_105, xs_51_106, xs_51_107, xs_51_108, xs_51_111, xs_51_114]
        by_cases m1 : m = 1
        · subst m1
          simp only [Nat.sub_self, nIe0 (show 0 < 2 ^ 31 by decide), if_true]
          exact key f hf
        · have e4 : nI (m - 1) - 1 = nI (m - 2) := by rw [nIp (by omega)]; rfl
          simp only [nIe0 (show m - 1 < 2 ^ 31 by omega), if_neg (show ¬ m - 1 = 0 by omega), if_neg m1, e4]
          rw [tw_shutFor hf (show m - 2 ≤ 6 by omega) g5]
          have hsf : sf f (m - 2) (g 33) = up f (m - 2) (g 33 + 1) := by unfold sf; rw [if_neg (by omega)]
          rw [hsf]
          simp only [tl_some, xs_51_85, xc_int]
          exact key _ (up_ok hf (by omega))
      · rw [if_neg l2, if_neg l2, tw_shutFor hf b6 g5]
        simp only [tl_some, xs_51_115, xs_51_116, xs_51_117, xs_51_120, xs_51_121, xs_51_122, xs_51_123, xs_51_126, xs_51_129]
end TW
