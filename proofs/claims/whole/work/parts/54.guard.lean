/-! guard: the mathematics -/
def gl {α : Type} (K : Nat → α → α) : Nat → α → α
  | 0, a => a
  | m + 1, a => K m (gl K m a)
def gvd (g f : Nat → Nat) (b w m : Nat) : Bool := cb g f w m && decide (ra g f m b - 1 ≠ 0)
def gnf (g f : Nat → Nat) (m : Nat) : Nat → Nat := fun c => ra g f m c - 1
def gdl (m : Nat) : Nat := if m = 0 then 0 else 1
def gG (g : Nat → Nat) (b : Nat) : Nat → (Nat → Nat) → Nat → Nat → Nat → Nat × Nat → Nat × Nat
  | 0, _, _, c, P, a => if c < a.1 then (c, P) else a
  | n + 1, f, w, c, P, a => gl (fun m a => if gvd g f b w m then gG g b n (gnf g f m) (pa g w m) (c + gdl m) (P * (g 24 + 1) + m) a else a) (g 24 + 1) a
/-- a row of moves, by its number: how many crosses, if it guards -/
def gv (g : Nat → Nat) (b : Nat) : Nat → (Nat → Nat) → Nat → Nat → Option Nat
  | 0, _, _, _ => some 0
  | n + 1, f, w, v => if gvd g f b w (v / (g 24 + 1) ^ n % (g 24 + 1)) then (gv g b n (gnf g f (v / (g 24 + 1) ^ n % (g 24 + 1))) (pa g w (v / (g 24 + 1) ^ n % (g 24 + 1))) v).map (fun k => gdl (v / (g 24 + 1) ^ n % (g 24 + 1)) + k) else none
def gu (c : Nat) (o : Option Nat) (v : Nat) (a : Nat × Nat) : Nat × Nat := match o with
  | some k => if c + k < a.1 then (c + k, v) else a
  | none => a
def gR (G : Nat → Option Nat) (c base : Nat) : Nat → Nat × Nat → Nat × Nat
  | 0, a => a
  | k + 1, a => gu c (G (base + k)) (base + k) (gR G c base k a)
theorem gR_add (G : Nat → Option Nat) (c base x : Nat) (a : Nat × Nat) : ∀ y, gR G c base (x + y) a = gR G c (base + x) y (gR G c base x a)
  | 0 => rfl
  | y + 1 => by
    show gu c (G (base + (x + y))) (base + (x + y)) (gR G c base (x + y) a) = gu c (G (base + x + y)) (base + x + y) (gR G c (base + x) y (gR G c base x a))
    rw [gR_add G c base x a y, Nat.add_assoc]
theorem gR_none {G : Nat → Option Nat} {c base : Nat} {a : Nat × Nat} : ∀ k, (∀ j, j < k → G (base + j) = none) → gR G c base k a = a
  | 0, _ => rfl
  | k + 1, H => by
    rw [gR, H k (by omega), gR_none k (fun j hj => H j (by omega))]
    rfl
theorem gR_map {G G' : Nat → Option Nat} {c e base : Nat} {a : Nat × Nat} : ∀ k, (∀ j, j < k → G (base + j) = (G' (base + j)).map (fun k => e + k)) → gR G c base k a = gR G' (c + e) base k a
  | 0, _ => rfl
  | k + 1, H => by
    rw [gR, gR, H k (by omega), gR_map k (fun j hj => H j (by omega))]
    cases G' (base + k) with
    | none => rfl
    | some q =>
      show (if c + (e + q) < _ then (c + (e + q), base + k) else _) = (if c + e + q < _ then (c + e + q, base + k) else _)
      rw [Nat.add_assoc]
theorem gR_gG (g : Nat → Nat) (b : Nat) : ∀ (n : Nat) (f : Nat → Nat) (w c P : Nat) (a : Nat × Nat), gR (gv g b n f w) c (P * (g 24 + 1) ^ n) ((g 24 + 1) ^ n) a = gG g b n f w c P a
  | 0, f, w, c, P, a => by
    show gu c (some 0) (P * 1 + 0) a = if c < a.1 then (c, P) else a
    unfold gu
    simp
  | n + 1, f, w, c, P, a => by
    rw [gG]
    have key : ∀ m, m ≤ g 24 + 1 → gR (gv g b (n + 1) f w) c (P * (g 24 + 1) ^ (n + 1)) (m * (g 24 + 1) ^ n) a = gl (fun m a => if gvd g f b w m then gG g b n (gnf g f m) (pa g w m) (c + gdl m) (P * (g 24 + 1) + m) a else a) m a := by
      intro m
      induction m with
      | zero => intro _; rw [Nat.zero_mul]; rfl
      | succ m ih =>
        intro hm
        rw [Nat.succ_mul, gR_add, ih (by omega), gl]
        have hB : 0 < (g 24 + 1) ^ n := Nat.pow_pos (by omega)
        have eb : P * (g 24 + 1) ^ (n + 1) + m * (g 24 + 1) ^ n = (P * (g 24 + 1) + m) * (g 24 + 1) ^ n := by
          rw [Nat.pow_succ, Nat.add_mul, Nat.mul_assoc, Nat.mul_comm ((g 24 + 1) ^ n) (g 24 + 1)]
        rw [eb]
        have dg : ∀ j, j < (g 24 + 1) ^ n → ((P * (g 24 + 1) + m) * (g 24 + 1) ^ n + j) / (g 24 + 1) ^ n % (g 24 + 1) = m := by
          intro j hj
          rw [Nat.mul_comm _ ((g 24 + 1) ^ n), Nat.mul_add_div hB, Nat.div_eq_of_lt hj, Nat.add_zero, Nat.mul_comm P, Nat.mul_add_mod, Nat.mod_eq_of_lt (by omega)]
        by_cases z : gvd g f b w m = true
        · rw [if_pos z, ← gR_gG g b n (gnf g f m) (pa g w m) (c + gdl m)]
          refine gR_map _ (fun j hj => ?_)
          rw [gv, dg j hj, if_pos z]
        · rw [if_neg z]
          refine gR_none _ (fun j hj => ?_)
          rw [gv, dg j hj, if_neg z]
    have := key (g 24 + 1) (Nat.le_refl _)
    rw [← this, Nat.pow_succ, Nat.mul_comm ((g 24 + 1) ^ n)]
theorem gl_id {α : Type} {K : Nat → α → α} {a : α} : ∀ m, (∀ k, K k a = a) → gl K m a = a
  | 0, _ => rfl
  | m + 1, H => by rw [gl, gl_id m H, H]
theorem gG_prune (g : Nat → Nat) (b : Nat) : ∀ (n : Nat) (f : Nat → Nat) (w c P : Nat) (a : Nat × Nat), ¬ c < a.1 → gG g b n f w c P a = a
  | 0, f, w, c, P, a, H => by rw [gG, if_neg H]
  | n + 1, f, w, c, P, a, H => by
    rw [gG]
    refine gl_id _ (fun k => ?_)
    split
    · exact gG_prune g b n _ _ _ _ a (by omega)
    · rfl
theorem ro_gn {g f : Nat → Nat} (hg : pg_ok g) (H : ro g f) {m : Nat} (hm : m ≤ g 24) : ro g (gnf g f m) := by
  have := ro_ra hg H hm
  exact ⟨fun b hb => Nat.le_trans (Nat.sub_le _ _) (this.1 b hb), fun b h1 h2 => by unfold gnf; rw [this.2 b h1 h2]⟩
theorem gG_le (g : Nat → Nat) (b N : Nat) : ∀ (n : Nat) (f : Nat → Nat) (w c P : Nat) (a : Nat × Nat), a.1 ≤ N → (gG g b n f w c P a).1 ≤ N
  | 0, f, w, c, P, a, H => by
    rw [gG]
    split
    · show c ≤ N; omega
    · exact H
  | n + 1, f, w, c, P, a, H => by
    rw [gG]
    have : ∀ m, (gl (fun m a => if gvd g f b w m then gG g b n (gnf g f m) (pa g w m) (c + gdl m) (P * (g 24 + 1) + m) a else a) m a).1 ≤ N := by
      intro m
      induction m with
      | zero => exact H
      | succ m ih =>
        rw [gl]
        split
        · exact gG_le g b N n _ _ _ _ _ ih
        · exact ih
    exact this _
/-! the cells of it -/
def gS (i a j : Nat) : Prop := (a = 33 ∧ j = 4) ∨ (a = 34 ∧ i ≤ j) ∨ a = 35
def gO (N B : Nat) (a : Nat × Nat) (h : xe_H) : Prop := a.1 ≤ N + 1 ∧ xe_I h 33 4 = nI a.1 ∧ (a.1 ≤ N → ∀ j, j < N → xe_I h 35 j = nI (a.2 / B ^ (N - 1 - j) % B))
def gD (B P i : Nat) (h : xe_H) : Prop := ∀ j, j < i → xe_I h 34 j = nI (P / B ^ (i - 1 - j) % B)
theorem gD_s {B P i m : Nat} {h : xe_H} (H : gD B P i h) (hm : m < B) : gD B (P * B + m) (i + 1) (xe_sI h 34 i (nI m)) := by
  intro j hj
  rw [hI_sI]
  by_cases z : j = i
  · subst z
    rw [if_pos ⟨rfl, rfl⟩, show j + 1 - 1 - j = 0 by omega, Nat.pow_zero, Nat.div_one, Nat.mul_comm, Nat.mul_add_mod, Nat.mod_eq_of_lt hm]
  · rw [if_neg (fun y => z y.2), H j (by omega), show i + 1 - 1 - j = (i - 1 - j) + 1 by omega, Nat.pow_succ, Nat.mul_comm (B ^ (i - 1 - j)) B, ← Nat.div_div_eq_div_mul, show (P * B + m) / B = P by rw [Nat.mul_comm, Nat.mul_add_div (by omega), Nat.div_eq_of_lt hm, Nat.add_zero]]
section GH
variable {h : xe_H}
theorem cl_hold {g : Nat → Nat} {N b : Nat} (hg : pg_ok g) (hb : b < g 24) (hN : N ≤ 6) : ∀ (n i : Nat) (f : Nat → Nat) (w c P : Nat) (a : Nat × Nat) (h : xe_H) (d : Nat), i + n = N → sh h → tn_v h 1 g → xe_R h 33 0 = some 1 → xe_I h 33 3 = nI N → xe_I h 33 5 = nI b → gO N (g 24 + 1) a h → gD (g 24 + 1) P i h → ro g f → w < g 35 → c ≤ i → xe_C (d + n + 3) 2 [.ref 33, .int (nI i), .int (nI w), .int (nI (rp f)), .int (nI c)] h (fun v h' => v = none ∧ wr (gS i) h h' ∧ gO N (g 24 + 1) (gG g b n f w c P a) h') := by
  have h24 : g 24 ≤ 6 := hg.1
  have h35 : g 35 ≤ 5 := hg.2.2.2.2.2.2.2.1
  intro n
  induction n with
  | zero =>
    intro i f w c P a h d hi H tv hT h3 h5 hO hD hf hw hc
    have hi : i = N := by omega
    subst hi
    by_cases z : c < a.1
    · have e1 : (nI c < nI a.1) = True := eq_true (by rw [nI_ltI (by omega) (by have := hO.1; omega)]; exact z)
      have e2 : (nI i < nI i) = False := eq_false (by rw [nI_ltI (by omega) (by omega)]; omega)
      simp only [xs_2, xs_2_0, xs_2_2, xs_2_3, xs_2_6, xs_2_9, xs_2_10, xs_2_11, xs_2_12, xs_2_15, xs_2_18, xs_2_19, xs_2_21, xs_2_24, xs_2_25, xs_2_28, xs_2_29, xs_2_30, xs_2_33, xs_2_34, H, sT_0, sT_1, sT_2, sN_2, sA_2, sT_3, sN_3, sA_3, sT_4, sN_4, sA_4, sT_5, sN_5, sA_5, sT_6, sN_6, sA_6, sT_7, sT_8, sN_8, sA_8, sT_9, sN_9, sA_9, sT_10, sN_10, sA_10, sT_11, sN_11, sA_11, sT_12, sN_12, sA_12, sT_13, sN_13, sT_14, sT_15, sN_15, sA_15, sT_16, sN_16, sA_16, sT_17, sN_17, sA_17, sT_18, sN_18, sA_18, sT_19, sN_19, sA_19, sT_20, sT_21, sN_21, sA_21, sT_22, sN_22, sA_22, sT_23, sN_23, sA_23, sT_24, sN_24, sA_24, sT_25, sN_25, sA_25, sT_26, sN_26, sB_26, sT_27, sT_28, sN_28, sB_28, sT_29, sT_30, sN_30, sT_32, sN_32, sA_32, sT_33, sT_34, sN_34, sA_34, sT_35, sN_35, sA_35, sT_36, sT_37, sN_37, sA_37, sT_38, sN_38, sA_38, sT_39, sN_39, sA_39, sT_40, sN_40, sB_40, sT_41, sN_41, sA_41, sT_42, sN_42, sA_42, sT_43, sN_43, sA_43, sT_44, sT_45, sN_45, sA_45, sT_46, sN_46, sA_46, sT_47, sN_47, sA_47, sR_1_7, sR_1_8, sR_1_9, sR_1_10, sR_1_11, sR_0_0, sR_7_7, sR_7_8, sR_7_9, sR_7_10, sR_7_11, sR_0_1, sR_0_2, sR_14_7, sR_14_8, sR_14_9, sR_14_10, sR_14_11, sR_13_0, sR_20_7, sR_20_8, sR_20_9, sR_20_10, sR_20_11, sR_13_1, sR_0_3, sR_0_4, sR_27_0, sR_0_5, sR_29_0, sR_29_3, sR_0_6, sR_33_1, sR_33_2, sR_0_7, sR_36_2, sR_36_3, sR_36_4, sR_36_5, sR_36_6, sR_36_7, sR_36_8, sR_0_8, sR_44_0, sR_44_1, sR_44_2, hO.2.1, h3, e1, e2, rf_some, xc_int, xc_ref, xc_ret, xc_long, xw_nil, xw_int, xw_ref, xw_long, tl_some, tl_none, true_and, and_true, Nat.zero_le, Nat.reduceAdd, Nat.reduceMul, Nat.reduceLeDiff, Nat.reduceLT, Nat.reduceEqDiff, Nat.reducePow, Int32.reduceAdd, Int32.reduceMul, Int32.reduceSub, Int32.reduceLT, Int32.reduceLE, Int32.reduceToNatClampNeg, litE, ixU, not_false_eq_true, not_true_eq_false, ↓reduceIte, eq_self, true_or, or_true, false_and, and_false, or_false, false_or, i10, i01, in10, i1n, xbT, xbF, r_lt, hI_sI, hL_sI, hR_sI, hT_sI, hN_sI, hn_sI, ho_sI, hia_sI, hba_sI, hal_sI, hix_sI, hI_aI, hL_aI, hR_aI, hT_aI, hN_aI, hn_aI, ho_aI, hia_aI, hal_aI, hix_aI, sh_sI, sh_aI, sh_sL, sh_aL]
      have cp := xs_2_36 (d := d + 2) (h := xe_sI h 33 4 (nI c)) (a := 34) (b := 35) (x := 0) (v := 0) (n := 6) (Q := fun v h' => v = none ∧ wr (gS i) h h' ∧ gO i (g 24 + 1) (gG g b 0 f w c P a) h') (st := []) (ls := [.ref 33, .int (nI i), .int (nI w), .int (nI (rp f)), .int (nI c), .retAddr 0, .retAddr 0]) (sT_34 H).2 (sT_35 H).2
      simp only [cp, (sT_34 H).1, (sT_35 H).1, H, sT_0, sT_1, sT_2, sN_2, sA_2, sT_3, sN_3, sA_3, sT_4, sN_4, sA_4, sT_5, sN_5, sA_5, sT_6, sN_6, sA_6, sT_7, sT_8, sN_8, sA_8, sT_9, sN_9, sA_9, sT_10, sN_10, sA_10, sT_11, sN_11, sA_11, sT_12, sN_12, sA_12, sT_13, sN_13, sT_14, sT_15, sN_15, sA_15, sT_16, sN_16, sA_16, sT_17, sN_17, sA_17, sT_18, sN_18, sA_18, sT_19, sN_19, sA_19, sT_20, sT_21, sN_21, sA_21, sT_22, sN_22, sA_22, sT_23, sN_23, sA_23, sT_24, sN_24, sA_24, sT_25, sN_25, sA_25, sT_26, sN_26, sB_26, sT_27, sT_28, sN_28, sB_28, sT_29, sT_30, sN_30, sT_32, sN_32, sA_32, sT_33, sT_34, sN_34, sA_34, sT_35, sN_35, sA_35, sT_36, sT_37, sN_37, sA_37, sT_38, sN_38, sA_38, sT_39, sN_39, sA_39, sT_40, sN_40, sB_40, sT_41, sN_41, sA_41, sT_42, sN_42, sA_42, sT_43, sN_43, sA_43, sT_44, sT_45, sN_45, sA_45, sT_46, sN_46, sA_46, sT_47, sN_47, sA_47, sR_1_7, sR_1_8, sR_1_9, sR_1_10, sR_1_11, sR_0_0, sR_7_7, sR_7_8, sR_7_9, sR_7_10, sR_7_11, sR_0_1, sR_0_2, sR_14_7, sR_14_8, sR_14_9, sR_14_10, sR_14_11, sR_13_0, sR_20_7, sR_20_8, sR_20_9, sR_20_10, sR_20_11, sR_13_1, sR_0_3, sR_0_4, sR_27_0, sR_0_5, sR_29_0, sR_29_3, sR_0_6, sR_33_1, sR_33_2, sR_0_7, sR_36_2, sR_36_3, sR_36_4, sR_36_5, sR_36_6, sR_36_7, sR_36_8, sR_0_8, sR_44_0, sR_44_1, sR_44_2, xs_2_39, rf_some, xc_int, xc_ref, xc_ret, xc_long, xw_nil, xw_int, xw_ref, xw_long, tl_some, tl_none, true_and, and_true, Nat.zero_le, Nat.reduceAdd, Nat.reduceMul, Nat.reduceLeDiff, Nat.reduceLT, Nat.reduceEqDiff, Nat.reducePow, Int32.reduceAdd, Int32.reduceMul, Int32.reduceSub, Int32.reduceLT, Int32.reduceLE, Int32.reduceToNatClampNeg, litE, ixU, not_false_eq_true, not_true_eq_false, ↓reduceIte, eq_self, true_or, or_true, false_and, and_false, or_false, false_or, i10, i01, in10, i1n, xbT, xbF, r_lt, hI_sI, hL_sI, hR_sI, hT_sI, hN_sI, hn_sI, ho_sI, hia_sI, hba_sI, hal_sI, hix_sI, hI_aI, hL_aI, hR_aI, hT_aI, hN_aI, hn_aI, ho_aI, hia_aI, hal_aI, hix_aI, sh_sI, sh_aI, sh_sL, sh_aL]
      rw [gG, if_pos z]
      refine ⟨wr_aI (wr_sI (wr_rf _ h) (Or.inl ⟨rfl, rfl⟩)) (fun j => Or.inl (Or.inr (Or.inr rfl))), ⟨by show c ≤ i + 1; omega, ?_, fun _ j hj => ?_⟩⟩
      · rw [hI_aI, if_neg (by decide), hI_sI, if_pos ⟨rfl, rfl⟩]
      · rw [hI_aI, if_pos rfl, pk_cpy_in (by omega) (by omega), Nat.zero_add, Nat.sub_zero, hI_sI, if_neg (by omega)]
        exact hD j hj
    · have e1 : (nI c < nI a.1) = False := eq_false (by rw [nI_ltI (by omega) (by have := hO.1; omega)]; exact z)
      simp only [xs_2, xs_2_0, xs_2_2, xs_2_3, xs_2_6, xs_2_9, H, sT_0, sT_1, sT_2, sN_2, sA_2, sT_3, sN_3, sA_3, sT_4, sN_4, sA_4, sT_5, sN_5, sA_5, sT_6, sN_6, sA_6, sT_7, sT_8, sN_8, sA_8, sT_9, sN_9, sA_9, sT_10, sN_10, sA_10, sT_11, sN_11, sA_11, sT_12, sN_12, sA_12, sT_13, sN_13, sT_14, sT_15, sN_15, sA_15, sT_16, sN_16, sA_16, sT_17, sN_17, sA_17, sT_18, sN_18, sA_18, sT_19, sN_19, sA_19, sT_20, sT_21, sN_21, sA_21, sT_22, sN_22, sA_22, sT_23, sN_23, sA_23, sT_24, sN_24, sA_24, sT_25, sN_25, sA_25, sT_26, sN_26, sB_26, sT_27, sT_28, sN_28, sB_28, sT_29, sT_30, sN_30, sT_32, sN_32, sA_32, sT_33, sT_34, sN_34, sA_34, sT_35, sN_35, sA_35, sT_36, sT_37, sN_37, sA_37, sT_38, sN_38, sA_38, sT_39, sN_39, sA_39, sT_40, sN_40, sB_40, sT_41, sN_41, sA_41, sT_42, sN_42, sA_42, sT_43, sN_43, sA_43, sT_44, sT_45, sN_45, sA_45, sT_46, sN_46, sA_46, sT_47, sN_47, sA_47, sR_1_7, sR_1_8, sR_1_9, sR_1_10, sR_1_11, sR_0_0, sR_7_7, sR_7_8, sR_7_9, sR_7_10, sR_7_11, sR_0_1, sR_0_2, sR_14_7, sR_14_8, sR_14_9, sR_14_10, sR_14_11, sR_13_0, sR_20_7, sR_20_8, sR_20_9, sR_20_10, sR_20_11, sR_13_1, sR_0_3, sR_0_4, sR_27_0, sR_0_5, sR_29_0, sR_29_3, sR_0_6, sR_33_1, sR_33_2, sR_0_7, sR_36_2, sR_36_3, sR_36_4, sR_36_5, sR_36_6, sR_36_7, sR_36_8, sR_0_8, sR_44_0, sR_44_1, sR_44_2, hO.2.1, e1, rf_some, xc_int, xc_ref, xc_ret, xc_long, xw_nil, xw_int, xw_ref, xw_long, tl_some, tl_none, true_and, and_true, Nat.zero_le, Nat.reduceAdd, Nat.reduceMul, Nat.reduceLeDiff, Nat.reduceLT, Nat.reduceEqDiff, Nat.reducePow, Int32.reduceAdd, Int32.reduceMul, Int32.reduceSub, Int32.reduceLT, Int32.reduceLE, Int32.reduceToNatClampNeg, litE, ixU, not_false_eq_true, not_true_eq_false, ↓reduceIte, eq_self, true_or, or_true, false_and, and_false, or_false, false_or, i10, i01, in10, i1n, xbT, xbF, r_lt]
      rw [gG_prune _ _ _ _ _ _ _ _ z]
      exact ⟨wr_rf _ h, hO⟩
  | succ n ih =>
    intro i f w c P a h d hi H tv hT h3 h5 hO hD hf hw hc
    by_cases z : c < a.1
    · have e1 : (nI c < nI a.1) = True := eq_true (by rw [nI_ltI (by omega) (by have := hO.1; omega)]; exact z)
      have e2 : (nI i < nI N) = True := eq_true (by rw [nI_ltI (by omega) (by omega)]; omega)
      have lp : ∀ k m h1 l6, m + k = g 24 + 1 → wr (gS i) h h1 → gO N (g 24 + 1) (gl (fun m a => if gvd g f b w m then gG g b n (gnf g f m) (pa g w m) (c + gdl m) (P * (g 24 + 1) + m) a else a) m a) h1 → xe_P (d + n + 3) 2 43 [.ref 33, .int (nI i), .int (nI w), .int (nI (rp f)), .int (nI c), .int (nI m), l6] [] h1 (fun v h' => v = none ∧ wr (gS i) h h' ∧ gO N (g 24 + 1) (gG g b (n + 1) f w c P a) h') := by
        intro k
        induction k with
        | zero =>
          intro m h1 l6 hm W O
          have H1 := wr_sh W H
          have tv1 : tn_v h1 1 g := tn_v_c tv (fun a j x1 x2 => W.2 a j (by unfold gS; omega))
          have hT1 : xe_R h1 33 0 = some 1 := by rw [W.1.2.2.2.2.1]; exact hT
          have em : m = g 24 + 1 := by omega
          subst em
          have e3 : (nI (g 24) < nI (g 24 + 1)) = True := eq_true (nI_lt (by omega) (by omega))
          simp only [xs_2_43, xs_2_45, xs_2_46, xs_2_49, xs_2_52, xs_2_142, H1, sT_0, sT_1, sT_2, sN_2, sA_2, sT_3, sN_3, sA_3, sT_4, sN_4, sA_4, sT_5, sN_5, sA_5, sT_6, sN_6, sA_6, sT_7, sT_8, sN_8, sA_8, sT_9, sN_9, sA_9, sT_10, sN_10, sA_10, sT_11, sN_11, sA_11, sT_12, sN_12, sA_12, sT_13, sN_13, sT_14, sT_15, sN_15, sA_15, sT_16, sN_16, sA_16, sT_17, sN_17, sA_17, sT_18, sN_18, sA_18, sT_19, sN_19, sA_19, sT_20, sT_21, sN_21, sA_21, sT_22, sN_22, sA_22, sT_23, sN_23, sA_23, sT_24, sN_24, sA_24, sT_25, sN_25, sA_25, sT_26, sN_26, sB_26, sT_27, sT_28, sN_28, sB_28, sT_29, sT_30, sN_30, sT_32, sN_32, sA_32, sT_33, sT_34, sN_34, sA_34, sT_35, sN_35, sA_35, sT_36, sT_37, sN_37, sA_37, sT_38, sN_38, sA_38, sT_39, sN_39, sA_39, sT_40, sN_40, sB_40, sT_41, sN_41, sA_41, sT_42, sN_42, sA_42, sT_43, sN_43, sA_43, sT_44, sT_45, sN_45, sA_45, sT_46, sN_46, sA_46, sT_47, sN_47, sA_47, sR_1_7, sR_1_8, sR_1_9, sR_1_10, sR_1_11, sR_0_0, sR_7_7, sR_7_8, sR_7_9, sR_7_10, sR_7_11, sR_0_1, sR_0_2, sR_14_7, sR_14_8, sR_14_9, sR_14_10, sR_14_11, sR_13_0, sR_20_7, sR_20_8, sR_20_9, sR_20_10, sR_20_11, sR_13_1, sR_0_3, sR_0_4, sR_27_0, sR_0_5, sR_29_0, sR_29_3, sR_0_6, sR_33_1, sR_33_2, sR_0_7, sR_36_2, sR_36_3, sR_36_4, sR_36_5, sR_36_6, sR_36_7, sR_36_8, sR_0_8, sR_44_0, sR_44_1, sR_44_2, hT1, tv1.1.2.1, e3, rf_some, xc_int, xc_ref, xc_ret, xc_long, xw_nil, xw_int, xw_ref, xw_long, tl_some, tl_none, true_and, and_true, Nat.zero_le, Nat.reduceAdd, Nat.reduceMul, Nat.reduceLeDiff, Nat.reduceLT, Nat.reduceEqDiff, Nat.reducePow, Int32.reduceAdd, Int32.reduceMul, Int32.reduceSub, Int32.reduceLT, Int32.reduceLE, Int32.reduceToNatClampNeg, litE, ixU, not_false_eq_true, not_true_eq_false, ↓reduceIte, eq_self, true_or, or_true, false_and, and_false, or_false, false_or, i10, i01, in10, i1n, xbT, xbF, r_lt]
          exact ⟨W, O⟩
        | succ k ihk =>
          intro m h1 l6 hm W O
          have H1 := wr_sh W H
          have tv1 : tn_v h1 1 g := tn_v_c tv (fun a j x1 x2 => W.2 a j (by unfold gS; omega))
          have hT1 : xe_R h1 33 0 = some 1 := by rw [W.1.2.2.2.2.1]; exact hT
          have e3 : (nI (g 24) < nI m) = False := eq_false (by rw [nI_ltI (by omega) (by omega)]; omega)
          rw [xs_2_43]
          simp only [xs_2_45, xs_2_46, xs_2_49, xs_2_52, xs_2_55, xs_2_56, xs_2_59, xs_2_60, xs_2_61, xs_2_63, H1, sT_0, sT_1, sT_2, sN_2, sA_2, sT_3, sN_3, sA_3, sT_4, sN_4, sA_4, sT_5, sN_5, sA_5, sT_6, sN_6, sA_6, sT_7, sT_8, sN_8, sA_8, sT_9, sN_9, sA_9, sT_10, sN_10, sA_10, sT_11, sN_11, sA_11, sT_12, sN_12, sA_12, sT_13, sN_13, sT_14, sT_15, sN_15, sA_15, sT_16, sN_16, sA_16, sT_17, sN_17, sA_17, sT_18, sN_18, sA_18, sT_19, sN_19, sA_19, sT_20, sT_21, sN_21, sA_21, sT_22, sN_22, sA_22, sT_23, sN_23, sA_23, sT_24, sN_24, sA_24, sT_25, sN_25, sA_25, sT_26, sN_26, sB_26, sT_27, sT_28, sN_28, sB_28, sT_29, sT_30, sN_30, sT_32, sN_32, sA_32, sT_33, sT_34, sN_34, sA_34, sT_35, sN_35, sA_35, sT_36, sT_37, sN_37, sA_37, sT_38, sN_38, sA_38, sT_39, sN_39, sA_39, sT_40, sN_40, sB_40, sT_41, sN_41, sA_41, sT_42, sN_42, sA_42, sT_43, sN_43, sA_43, sT_44, sT_45, sN_45, sA_45, sT_46, sN_46, sA_46, sT_47, sN_47, sA_47, sR_1_7, sR_1_8, sR_1_9, sR_1_10, sR_1_11, sR_0_0, sR_7_7, sR_7_8, sR_7_9, sR_7_10, sR_7_11, sR_0_1, sR_0_2, sR_14_7, sR_14_8, sR_14_9, sR_14_10, sR_14_11, sR_13_0, sR_20_7, sR_20_8, sR_20_9, sR_20_10, sR_20_11, sR_13_1, sR_0_3, sR_0_4, sR_27_0, sR_0_5, sR_29_0, sR_29_3, sR_0_6, sR_33_1, sR_33_2, sR_0_7, sR_36_2, sR_36_3, sR_36_4, sR_36_5, sR_36_6, sR_36_7, sR_36_8, sR_0_8, sR_44_0, sR_44_1, sR_44_2, hT1, tv1.1.2.1, e3, rf_some, xc_int, xc_ref, xc_ret, xc_long, xw_nil, xw_int, xw_ref, xw_long, tl_some, tl_none, true_and, and_true, Nat.zero_le, Nat.reduceAdd, Nat.reduceMul, Nat.reduceLeDiff, Nat.reduceLT, Nat.reduceEqDiff, Nat.reducePow, Int32.reduceAdd, Int32.reduceMul, Int32.reduceSub, Int32.reduceLT, Int32.reduceLE, Int32.reduceToNatClampNeg, litE, ixU, not_false_eq_true, not_true_eq_false, ↓reduceIte, eq_self, true_or, or_true, false_and, and_false, or_false, false_or, i10, i01, in10, i1n, xbT, xbF, r_lt]
          rw [tw_canMove (d := d + n + 1) (sW_1 H1) tv1 hg (ro_rp hf) (show w < 2 ^ 31 by omega) (show m < 2 ^ 31 by omega)]
          by_cases y : cm g f w m
          · have eb := cb_t y
            rw [@xb_t _ (cmD _ _ _ _) y]
            simp only [xs_2_66, xs_2_69, xs_2_70, xs_2_73, xs_2_74, xs_2_76, H1, sT_0, sT_1, sT_2, sN_2, sA_2, sT_3, sN_3, sA_3, sT_4, sN_4, sA_4, sT_5, sN_5, sA_5, sT_6, sN_6, sA_6, sT_7, sT_8, sN_8, sA_8, sT_9, sN_9, sA_9, sT_10, sN_10, sA_10, sT_11, sN_11, sA_11, sT_12, sN_12, sA_12, sT_13, sN_13, sT_14, sT_15, sN_15, sA_15, sT_16, sN_16, sA_16, sT_17, sN_17, sA_17, sT_18, sN_18, sA_18, sT_19, sN_19, sA_19, sT_20, sT_21, sN_21, sA_21, sT_22, sN_22, sA_22, sT_23, sN_23, sA_23, sT_24, sN_24, sA_24, sT_25, sN_25, sA_25, sT_26, sN_26, sB_26, sT_27, sT_28, sN_28, sB_28, sT_29, sT_30, sN_30, sT_32, sN_32, sA_32, sT_33, sT_34, sN_34, sA_34, sT_35, sN_35, sA_35, sT_36, sT_37, sN_37, sA_37, sT_38, sN_38, sA_38, sT_39, sN_39, sA_39, sT_40, sN_40, sB_40, sT_41, sN_41, sA_41, sT_42, sN_42, sA_42, sT_43, sN_43, sA_43, sT_44, sT_45, sN_45, sA_45, sT_46, sN_46, sA_46, sT_47, sN_47, sA_47, sR_1_7, sR_1_8, sR_1_9, sR_1_10, sR_1_11, sR_0_0, sR_7_7, sR_7_8, sR_7_9, sR_7_10, sR_7_11, sR_0_1, sR_0_2, sR_14_7, sR_14_8, sR_14_9, sR_14_10, sR_14_11, sR_13_0, sR_20_7, sR_20_8, sR_20_9, sR_20_10, sR_20_11, sR_13_1, sR_0_3, sR_0_4, sR_27_0, sR_0_5, sR_29_0, sR_29_3, sR_0_6, sR_33_1, sR_33_2, sR_0_7, sR_36_2, sR_36_3, sR_36_4, sR_36_5, sR_36_6, sR_36_7, sR_36_8, sR_0_8, sR_44_0, sR_44_1, sR_44_2, hT1, rf_some, xc_int, xc_ref, xc_ret, xc_long, xw_nil, xw_int, xw_ref, xw_long, tl_some, tl_none, true_and, and_true, Nat.zero_le, Nat.reduceAdd, Nat.reduceMul, Nat.reduceLeDiff, Nat.reduceLT, Nat.reduceEqDiff, Nat.reducePow, Int32.reduceAdd, Int32.reduceMul, Int32.reduceSub, Int32.reduceLT, Int32.reduceLE, Int32.reduceToNatClampNeg, litE, ixU, not_false_eq_true, not_true_eq_false, ↓reduceIte, eq_self, true_or, or_true, false_and, and_false, or_false, false_or, i10, i01, in10, i1n, xbT, xbF, r_lt]
            rw [tw_restsAfter (d := d + n + 1) (sW_1 H1) tv1 hg (ro_rp hf) (cm_le y)]
            simp only [xs_2_79, rf_some, xc_int, xc_ref, xc_ret, xc_long, xw_nil, xw_int, xw_ref, xw_long, tl_some, tl_none, true_and, and_true, Nat.zero_le, Nat.reduceAdd, Nat.reduceMul, Nat.reduceLeDiff, Nat.reduceLT, Nat.reduceEqDiff, Nat.reducePow, Int32.reduceAdd, Int32.reduceMul, Int32.reduceSub, Int32.reduceLT, Int32.reduceLE, Int32.reduceToNatClampNeg, litE, ixU, not_false_eq_true, not_true_eq_false, ↓reduceIte, eq_self, true_or, or_true, false_and, and_false, or_false, false_or, i10, i01, in10, i1n, xbT, xbF, r_lt]
            rw [tw_behind (d := d + n + 2) (ra_ok hg (ro_rp hf) m), show (fun b => ra g f m b - 1) = gnf g f m from rfl]
            have h5' : xe_I h1 33 5 = nI b := by rw [W.2 33 5 (by unfold gS; omega)]; exact h5
            simp only [xs_2_82, xs_2_84, xs_2_86, xs_2_87, xs_2_90, H1, sT_0, sT_1, sT_2, sN_2, sA_2, sT_3, sN_3, sA_3, sT_4, sN_4, sA_4, sT_5, sN_5, sA_5, sT_6, sN_6, sA_6, sT_7, sT_8, sN_8, sA_8, sT_9, sN_9, sA_9, sT_10, sN_10, sA_10, sT_11, sN_11, sA_11, sT_12, sN_12, sA_12, sT_13, sN_13, sT_14, sT_15, sN_15, sA_15, sT_16, sN_16, sA_16, sT_17, sN_17, sA_17, sT_18, sN_18, sA_18, sT_19, sN_19, sA_19, sT_20, sT_21, sN_21, sA_21, sT_22, sN_22, sA_22, sT_23, sN_23, sA_23, sT_24, sN_24, sA_24, sT_25, sN_25, sA_25, sT_26, sN_26, sB_26, sT_27, sT_28, sN_28, sB_28, sT_29, sT_30, sN_30, sT_32, sN_32, sA_32, sT_33, sT_34, sN_34, sA_34, sT_35, sN_35, sA_35, sT_36, sT_37, sN_37, sA_37, sT_38, sN_38, sA_38, sT_39, sN_39, sA_39, sT_40, sN_40, sB_40, sT_41, sN_41, sA_41, sT_42, sN_42, sA_42, sT_43, sN_43, sA_43, sT_44, sT_45, sN_45, sA_45, sT_46, sN_46, sA_46, sT_47, sN_47, sA_47, sR_1_7, sR_1_8, sR_1_9, sR_1_10, sR_1_11, sR_0_0, sR_7_7, sR_7_8, sR_7_9, sR_7_10, sR_7_11, sR_0_1, sR_0_2, sR_14_7, sR_14_8, sR_14_9, sR_14_10, sR_14_11, sR_13_0, sR_20_7, sR_20_8, sR_20_9, sR_20_10, sR_20_11, sR_13_1, sR_0_3, sR_0_4, sR_27_0, sR_0_5, sR_29_0, sR_29_3, sR_0_6, sR_33_1, sR_33_2, sR_0_7, sR_36_2, sR_36_3, sR_36_4, sR_36_5, sR_36_6, sR_36_7, sR_36_8, sR_0_8, sR_44_0, sR_44_1, sR_44_2, h5', rf_some, xc_int, xc_ref, xc_ret, xc_long, xw_nil, xw_int, xw_ref, xw_long, tl_some, tl_none, true_and, and_true, Nat.zero_le, Nat.reduceAdd, Nat.reduceMul, Nat.reduceLeDiff, Nat.reduceLT, Nat.reduceEqDiff, Nat.reducePow, Int32.reduceAdd, Int32.reduceMul, Int32.reduceSub, Int32.reduceLT, Int32.reduceLE, Int32.reduceToNatClampNeg, litE, ixU, not_false_eq_true, not_true_eq_false, ↓reduceIte, eq_self, true_or, or_true, false_and, and_false, or_false, false_or, i10, i01, in10, i1n, xbT, xbF, r_lt]
            have rk := ro_gn hg hf (cm_le y)
            rw [tw_isOpen (d := d + n + 2) (ro_rp rk) (show b < 6 by omega)]
            by_cases x : gnf g f m b = 0
            · rw [xb_t x]
              have ev : gvd g f b w m = false := by
                unfold gvd
                rw [eb, Bool.true_and]
                exact decide_eq_false (fun q => q x)
              simp only [xs_2_93, xs_2_136, xs_2_139, nI_1, rf_some, xc_int, xc_ref, xc_ret, xc_long, xw_nil, xw_int, xw_ref, xw_long, tl_some, tl_none, true_and, and_true, Nat.zero_le, Nat.reduceAdd, Nat.reduceMul, Nat.reduceLeDiff, Nat.reduceLT, Nat.reduceEqDiff, Nat.reducePow, Int32.reduceAdd, Int32.reduceMul, Int32.reduceSub, Int32.reduceLT, Int32.reduceLE, Int32.reduceToNatClampNeg, litE, ixU, not_false_eq_true, not_true_eq_false, ↓reduceIte, eq_self, true_or, or_true, false_and, and_false, or_false, false_or, i10, i01, in10, i1n, xbT, xbF, r_lt]
              refine ihk (m + 1) h1 _ (by omega) W ?_
              rw [gl, ev]
              exact O
            · rw [xb_f x]
              have ev : gvd g f b w m = true := by
                unfold gvd
                rw [eb, Bool.true_and]
                exact decide_eq_true x
              simp only [xs_2_93, xs_2_96, xs_2_97, xs_2_100, xs_2_101, xs_2_103, xs_2_104, xs_2_105, xs_2_106, xs_2_107, xs_2_108, xs_2_109, xs_2_112, xs_2_113, xs_2_115, H1, sT_0, sT_1, sT_2, sN_2, sA_2, sT_3, sN_3, sA_3, sT_4, sN_4, sA_4, sT_5, sN_5, sA_5, sT_6, sN_6, sA_6, sT_7, sT_8, sN_8, sA_8, sT_9, sN_9, sA_9, sT_10, sN_10, sA_10, sT_11, sN_11, sA_11, sT_12, sN_12, sA_12, sT_13, sN_13, sT_14, sT_15, sN_15, sA_15, sT_16, sN_16, sA_16, sT_17, sN_17, sA_17, sT_18, sN_18, sA_18, sT_19, sN_19, sA_19, sT_20, sT_21, sN_21, sA_21, sT_22, sN_22, sA_22, sT_23, sN_23, sA_23, sT_24, sN_24, sA_24, sT_25, sN_25, sA_25, sT_26, sN_26, sB_26, sT_27, sT_28, sN_28, sB_28, sT_29, sT_30, sN_30, sT_32, sN_32, sA_32, sT_33, sT_34, sN_34, sA_34, sT_35, sN_35, sA_35, sT_36, sT_37, sN_37, sA_37, sT_38, sN_38, sA_38, sT_39, sN_39, sA_39, sT_40, sN_40, sB_40, sT_41, sN_41, sA_41, sT_42, sN_42, sA_42, sT_43, sN_43, sA_43, sT_44, sT_45, sN_45, sA_45, sT_46, sN_46, sA_46, sT_47, sN_47, sA_47, sR_1_7, sR_1_8, sR_1_9, sR_1_10, sR_1_11, sR_0_0, sR_7_7, sR_7_8, sR_7_9, sR_7_10, sR_7_11, sR_0_1, sR_0_2, sR_14_7, sR_14_8, sR_14_9, sR_14_10, sR_14_11, sR_13_0, sR_20_7, sR_20_8, sR_20_9, sR_20_10, sR_20_11, sR_13_1, sR_0_3, sR_0_4, sR_27_0, sR_0_5, sR_29_0, sR_29_3, sR_0_6, sR_33_1, sR_33_2, sR_0_7, sR_36_2, sR_36_3, sR_36_4, sR_36_5, sR_36_6, sR_36_7, sR_36_8, sR_0_8, sR_44_0, sR_44_1, sR_44_2, hT1, nI_1, nIlt0 (show i < 2 ^ 31 by omega), nI_clamp (show i < 2 ^ 31 by omega), show i < 6 by omega, rf_some, xc_int, xc_ref, xc_ret, xc_long, xw_nil, xw_int, xw_ref, xw_long, tl_some, tl_none, true_and, and_true, Nat.zero_le, Nat.reduceAdd, Nat.reduceMul, Nat.reduceLeDiff, Nat.reduceLT, Nat.reduceEqDiff, Nat.reducePow, Int32.reduceAdd, Int32.reduceMul, Int32.reduceSub, Int32.reduceLT, Int32.reduceLE, Int32.reduceToNatClampNeg, litE, ixU, not_false_eq_true, not_true_eq_false, ↓reduceIte, eq_self, true_or, or_true, false_and, and_false, or_false, false_or, i10, i01, in10, i1n, xbT, xbF, r_lt, hI_sI, hL_sI, hR_sI, hT_sI, hN_sI, hn_sI, ho_sI, hia_sI, hba_sI, hal_sI, hix_sI, hI_aI, hL_aI, hR_aI, hT_aI, hN_aI, hn_aI, ho_aI, hia_aI, hal_aI, hix_aI, sh_sI, sh_aI, sh_sL, sh_aL]
              have tv2 : tn_v (xe_sI h1 34 i (nI m)) 1 g := tn_v_c tv1 (fun a j x1 x2 => by rw [hI_sI, if_neg (by omega)])
              have H2 : sh (xe_sI h1 34 i (nI m)) := H1
              rw [tw_placeAfter (d := d + n + 2) (sW_1 H2) tv2 hg (show w < 2 ^ 31 by omega) (cm_le y)]
              have ec : ∀ Q : Prop → Prop, True := fun _ => trivial
              have cc1 : xe_P (d + n + 3) 2 118 [.ref 33, .int (nI i), .int (nI w), .int (nI (rp f)), .int (nI c), .int (nI m), .int (nI (rp (gnf g f m)))] ((some (Value.int (nI (pa g w m)))).toList ++ [.int (nI (i + 1)), .ref 33]) (xe_sI h1 34 i (nI m)) (fun v h' => v = none ∧ wr (gS i) h h' ∧ gO N (g 24 + 1) (gG g b (n + 1) f w c P a) h') = xe_C (d + n + 3) 2 [.ref 33, .int (nI (i + 1)), .int (nI (pa g w m)), .int (nI (rp (gnf g f m))), .int (nI (c + gdl m))] (xe_sI h1 34 i (nI m)) (fun r h' => xe_P (d + n + 3) 2 136 [.ref 33, .int (nI i), .int (nI w), .int (nI (rp f)), .int (nI c), .int (nI m), .int (nI (rp (gnf g f m)))] (r.toList ++ []) h' (fun v h' => v = none ∧ wr (gS i) h h' ∧ gO N (g 24 + 1) (gG g b (n + 1) f w c P a) h')) := by
                unfold gdl
                by_cases m0 : m = 0
                · simp only [xs_2_118, xs_2_120, xs_2_122, xs_2_124, xs_2_127, xs_2_128, xs_2_131, xs_2_132, xs_2_133, H2, sT_0, sT_1, sT_2, sN_2, sA_2, sT_3, sN_3, sA_3, sT_4, sN_4, sA_4, sT_5, sN_5, sA_5, sT_6, sN_6, sA_6, sT_7, sT_8, sN_8, sA_8, sT_9, sN_9, sA_9, sT_10, sN_10, sA_10, sT_11, sN_11, sA_11, sT_12, sN_12, sA_12, sT_13, sN_13, sT_14, sT_15, sN_15, sA_15, sT_16, sN_16, sA_16, sT_17, sN_17, sA_17, sT_18, sN_18, sA_18, sT_19, sN_19, sA_19, sT_20, sT_21, sN_21, sA_21, sT_22, sN_22, sA_22, sT_23, sN_23, sA_23, sT_24, sN_24, sA_24, sT_25, sN_25, sA_25, sT_26, sN_26, sB_26, sT_27, sT_28, sN_28, sB_28, sT_29, sT_30, sN_30, sT_32, sN_32, sA_32, sT_33, sT_34, sN_34, sA_34, sT_35, sN_35, sA_35, sT_36, sT_37, sN_37, sA_37, sT_38, sN_38, sA_38, sT_39, sN_39, sA_39, sT_40, sN_40, sB_40, sT_41, sN_41, sA_41, sT_42, sN_42, sA_42, sT_43, sN_43, sA_43, sT_44, sT_45, sN_45, sA_45, sT_46, sN_46, sA_46, sT_47, sN_47, sA_47, sR_1_7, sR_1_8, sR_1_9, sR_1_10, sR_1_11, sR_0_0, sR_7_7, sR_7_8, sR_7_9, sR_7_10, sR_7_11, sR_0_1, sR_0_2, sR_14_7, sR_14_8, sR_14_9, sR_14_10, sR_14_11, sR_13_0, sR_20_7, sR_20_8, sR_20_9, sR_20_10, sR_20_11, sR_13_1, sR_0_3, sR_0_4, sR_27_0, sR_0_5, sR_29_0, sR_29_3, sR_0_6, sR_33_1, sR_33_2, sR_0_7, sR_36_2, sR_36_3, sR_36_4, sR_36_5, sR_36_6, sR_36_7, sR_36_8, sR_0_8, sR_44_0, sR_44_1, sR_44_2, nIe0 (show m < 2 ^ 31 by omega), eq_true m0, ad_0, Nat.add_zero, rf_some, xc_int, xc_ref, xc_ret, xc_long, xw_nil, xw_int, xw_ref, xw_long, tl_some, tl_none, true_and, and_true, Nat.zero_le, Nat.reduceAdd, Nat.reduceMul, Nat.reduceLeDiff, Nat.reduceLT, Nat.reduceEqDiff, Nat.reducePow, Int32.reduceAdd, Int32.reduceMul, Int32.reduceSub, Int32.reduceLT, Int32.reduceLE, Int32.reduceToNatClampNeg, litE, ixU, not_false_eq_true, not_true_eq_false, ↓reduceIte, eq_self, true_or, or_true, false_and, and_false, or_false, false_or, i10, i01, in10, i1n, xbT, xbF, r_lt]
                · simp only [xs_2_118, xs_2_120, xs_2_122, xs_2_124, xs_2_127, xs_2_128, xs_2_131, xs_2_132, xs_2_133, H2, sT_0, sT_1, sT_2, sN_2, sA_2, sT_3, sN_3, sA_3, sT_4, sN_4, sA_4, sT_5, sN_5, sA_5, sT_6, sN_6, sA_6, sT_7, sT_8, sN_8, sA_8, sT_9, sN_9, sA_9, sT_10, sN_10, sA_10, sT_11, sN_11, sA_11, sT_12, sN_12, sA_12, sT_13, sN_13, sT_14, sT_15, sN_15, sA_15, sT_16, sN_16, sA_16, sT_17, sN_17, sA_17, sT_18, sN_18, sA_18, sT_19, sN_19, sA_19, sT_20, sT_21, sN_21, sA_21, sT_22, sN_22, sA_22, sT_23, sN_23, sA_23, sT_24, sN_24, sA_24, sT_25, sN_25, sA_25, sT_26, sN_26, sB_26, sT_27, sT_28, sN_28, sB_28, sT_29, sT_30, sN_30, sT_32, sN_32, sA_32, sT_33, sT_34, sN_34, sA_34, sT_35, sN_35, sA_35, sT_36, sT_37, sN_37, sA_37, sT_38, sN_38, sA_38, sT_39, sN_39, sA_39, sT_40, sN_40, sB_40, sT_41, sN_41, sA_41, sT_42, sN_42, sA_42, sT_43, sN_43, sA_43, sT_44, sT_45, sN_45, sA_45, sT_46, sN_46, sA_46, sT_47, sN_47, sA_47, sR_1_7, sR_1_8, sR_1_9, sR_1_10, sR_1_11, sR_0_0, sR_7_7, sR_7_8, sR_7_9, sR_7_10, sR_7_11, sR_0_1, sR_0_2, sR_14_7, sR_14_8, sR_14_9, sR_14_10, sR_14_11, sR_13_0, sR_20_7, sR_20_8, sR_20_9, sR_20_10, sR_20_11, sR_13_1, sR_0_3, sR_0_4, sR_27_0, sR_0_5, sR_29_0, sR_29_3, sR_0_6, sR_33_1, sR_33_2, sR_0_7, sR_36_2, sR_36_3, sR_36_4, sR_36_5, sR_36_6, sR_36_7, sR_36_8, sR_0_8, sR_44_0, sR_44_1, sR_44_2, nIe0 (show m < 2 ^ 31 by omega), eq_false m0, nI_1, rf_some, xc_int, xc_ref, xc_ret, xc_long, xw_nil, xw_int, xw_ref, xw_long, tl_some, tl_none, true_and, and_true, Nat.zero_le, Nat.reduceAdd, Nat.reduceMul, Nat.reduceLeDiff, Nat.reduceLT, Nat.reduceEqDiff, Nat.reducePow, Int32.reduceAdd, Int32.reduceMul, Int32.reduceSub, Int32.reduceLT, Int32.reduceLE, Int32.reduceToNatClampNeg, litE, ixU, not_false_eq_true, not_true_eq_false, ↓reduceIte, eq_self, true_or, or_true, false_and, and_false, or_false, false_or, i10, i01, in10, i1n, xbT, xbF, r_lt]
              rw [cc1]
              have W2 : wr (gS i) h (xe_sI h1 34 i (nI m)) := wr_sI W (Or.inr (Or.inl ⟨rfl, Nat.le_refl _⟩))
              have hT2 : xe_R (xe_sI h1 34 i (nI m)) 33 0 = some 1 := hT1
              have hgd : gdl m ≤ 1 := by unfold gdl; split <;> omega
              have hD1 : gD (g 24 + 1) P i h1 := fun j hj => by rw [W.2 34 j (by unfold gS; omega)]; exact hD j hj
              have O2 : gO N (g 24 + 1) (gl (fun m a => if gvd g f b w m then gG g b n (gnf g f m) (pa g w m) (c + gdl m) (P * (g 24 + 1) + m) a else a) m a) (xe_sI h1 34 i (nI m)) := ⟨O.1, by rw [hI_sI, if_neg (by omega)]; exact O.2.1, fun q j hj => by rw [hI_sI, if_neg (by omega)]; exact O.2.2 q j hj⟩
              refine xe_C_mono (ih (i + 1) (gnf g f m) (pa g w m) (c + gdl m) (P * (g 24 + 1) + m) _ (xe_sI h1 34 i (nI m)) d (by omega) H2 tv2 hT2 (by rw [W2.2 33 3 (by unfold gS; omega)]; exact h3) (by rw [W2.2 33 5 (by unfold gS; omega)]; exact h5) O2 (gD_s hD1 (by omega)) rk (pa_lt hg hw y) (by omega)) ?_
              rintro v h3' ⟨rfl, W3, O3⟩
              simp only [xs_2_136, xs_2_139, nI_1, rf_some, xc_int, xc_ref, xc_ret, xc_long, xw_nil, xw_int, xw_ref, xw_long, tl_some, tl_none, true_and, and_true, Nat.zero_le, Nat.reduceAdd, Nat.reduceMul, Nat.reduceLeDiff, Nat.reduceLT, Nat.reduceEqDiff, Nat.reducePow, Int32.reduceAdd, Int32.reduceMul, Int32.reduceSub, Int32.reduceLT, Int32.reduceLE, Int32.reduceToNatClampNeg, litE, ixU, not_false_eq_true, not_true_eq_false, ↓reduceIte, eq_self, true_or, or_true, false_and, and_false, or_false, false_or, i10, i01, in10, i1n, xbT, xbF, r_lt]
              refine ihk (m + 1) h3' _ (by omega) (wr_tr W2 (wr_sub W3 (fun a j q => by unfold gS at q ⊢; omega))) ?_
              rw [gl, if_pos ev]
              exact O3
          · rw [@xb_f _ (cmD _ _ _ _) y]
            have ev : gvd g f b w m = false := by
              unfold gvd
              rw [cb_f y, Bool.false_and]
            simp only [xs_2_66, xs_2_136, xs_2_139, nI_1, rf_some, xc_int, xc_ref, xc_ret, xc_long, xw_nil, xw_int, xw_ref, xw_long, tl_some, tl_none, true_and, and_true, Nat.zero_le, Nat.reduceAdd, Nat.reduceMul, Nat.reduceLeDiff, Nat.reduceLT, Nat.reduceEqDiff, Nat.reducePow, Int32.reduceAdd, Int32.reduceMul, Int32.reduceSub, Int32.reduceLT, Int32.reduceLE, Int32.reduceToNatClampNeg, litE, ixU, not_false_eq_true, not_true_eq_false, ↓reduceIte, eq_self, true_or, or_true, false_and, and_false, or_false, false_or, i10, i01, in10, i1n, xbT, xbF, r_lt]
            refine ihk (m + 1) h1 _ (by omega) W ?_
            rw [gl, ev]
            exact O
      have l0 := lp (g 24 + 1) 0 h (.retAddr 0) (by omega) (wr_rf _ h) hO
      rw [show d + (n + 1) + 3 = d + n + 3 + 1 by omega]
      simp only [xs_2, xs_2_0, xs_2_2, xs_2_3, xs_2_6, xs_2_9, xs_2_10, xs_2_11, xs_2_12, xs_2_15, xs_2_40, xs_2_41, H, sT_0, sT_1, sT_2, sN_2, sA_2, sT_3, sN_3, sA_3, sT_4, sN_4, sA_4, sT_5, sN_5, sA_5, sT_6, sN_6, sA_6, sT_7, sT_8, sN_8, sA_8, sT_9, sN_9, sA_9, sT_10, sN_10, sA_10, sT_11, sN_11, sA_11, sT_12, sN_12, sA_12, sT_13, sN_13, sT_14, sT_15, sN_15, sA_15, sT_16, sN_16, sA_16, sT_17, sN_17, sA_17, sT_18, sN_18, sA_18, sT_19, sN_19, sA_19, sT_20, sT_21, sN_21, sA_21, sT_22, sN_22, sA_22, sT_23, sN_23, sA_23, sT_24, sN_24, sA_24, sT_25, sN_25, sA_25, sT_26, sN_26, sB_26, sT_27, sT_28, sN_28, sB_28, sT_29, sT_30, sN_30, sT_32, sN_32, sA_32, sT_33, sT_34, sN_34, sA_34, sT_35, sN_35, sA_35, sT_36, sT_37, sN_37, sA_37, sT_38, sN_38, sA_38, sT_39, sN_39, sA_39, sT_40, sN_40, sB_40, sT_41, sN_41, sA_41, sT_42, sN_42, sA_42, sT_43, sN_43, sA_43, sT_44, sT_45, sN_45, sA_45, sT_46, sN_46, sA_46, sT_47, sN_47, sA_47, sR_1_7, sR_1_8, sR_1_9, sR_1_10, sR_1_11, sR_0_0, sR_7_7, sR_7_8, sR_7_9, sR_7_10, sR_7_11, sR_0_1, sR_0_2, sR_14_7, sR_14_8, sR_14_9, sR_14_10, sR_14_11, sR_13_0, sR_20_7, sR_20_8, sR_20_9, sR_20_10, sR_20_11, sR_13_1, sR_0_3, sR_0_4, sR_27_0, sR_0_5, sR_29_0, sR_29_3, sR_0_6, sR_33_1, sR_33_2, sR_0_7, sR_36_2, sR_36_3, sR_36_4, sR_36_5, sR_36_6, sR_36_7, sR_36_8, sR_0_8, sR_44_0, sR_44_1, sR_44_2, hO.2.1, h3, e1, e2, rf_some, xc_int, xc_ref, xc_ret, xc_long, xw_nil, xw_int, xw_ref, xw_long, tl_some, tl_none, true_and, and_true, Nat.zero_le, Nat.reduceAdd, Nat.reduceMul, Nat.reduceLeDiff, Nat.reduceLT, Nat.reduceEqDiff, Nat.reducePow, Int32.reduceAdd, Int32.reduceMul, Int32.reduceSub, Int32.reduceLT, Int32.reduceLE, Int32.reduceToNatClampNeg, litE, ixU, not_false_eq_true, not_true_eq_false, ↓reduceIte, eq_self, true_or, or_true, false_and, and_false, or_false, false_or, i10, i01, in10, i1n, xbT, xbF, r_lt]
      exact l0
    · have e1 : (nI c < nI a.1) = False := eq_false (by rw [nI_ltI (by omega) (by have := hO.1; omega)]; exact z)
      rw [show d + (n + 1) + 3 = d + n + 3 + 1 by omega]
      simp only [xs_2, xs_2_0, xs_2_2, xs_2_3, xs_2_6, xs_2_9, H, sT_0, sT_1, sT_2, sN_2, sA_2, sT_3, sN_3, sA_3, sT_4, sN_4, sA_4, sT_5, sN_5, sA_5, sT_6, sN_6, sA_6, sT_7, sT_8, sN_8, sA_8, sT_9, sN_9, sA_9, sT_10, sN_10, sA_10, sT_11, sN_11, sA_11, sT_12, sN_12, sA_12, sT_13, sN_13, sT_14, sT_15, sN_15, sA_15, sT_16, sN_16, sA_16, sT_17, sN_17, sA_17, sT_18, sN_18, sA_18, sT_19, sN_19, sA_19, sT_20, sT_21, sN_21, sA_21, sT_22, sN_22, sA_22, sT_23, sN_23, sA_23, sT_24, sN_24, sA_24, sT_25, sN_25, sA_25, sT_26, sN_26, sB_26, sT_27, sT_28, sN_28, sB_28, sT_29, sT_30, sN_30, sT_32, sN_32, sA_32, sT_33, sT_34, sN_34, sA_34, sT_35, sN_35, sA_35, sT_36, sT_37, sN_37, sA_37, sT_38, sN_38, sA_38, sT_39, sN_39, sA_39, sT_40, sN_40, sB_40, sT_41, sN_41, sA_41, sT_42, sN_42, sA_42, sT_43, sN_43, sA_43, sT_44, sT_45, sN_45, sA_45, sT_46, sN_46, sA_46, sT_47, sN_47, sA_47, sR_1_7, sR_1_8, sR_1_9, sR_1_10, sR_1_11, sR_0_0, sR_7_7, sR_7_8, sR_7_9, sR_7_10, sR_7_11, sR_0_1, sR_0_2, sR_14_7, sR_14_8, sR_14_9, sR_14_10, sR_14_11, sR_13_0, sR_20_7, sR_20_8, sR_20_9, sR_20_10, sR_20_11, sR_13_1, sR_0_3, sR_0_4, sR_27_0, sR_0_5, sR_29_0, sR_29_3, sR_0_6, sR_33_1, sR_33_2, sR_0_7, sR_36_2, sR_36_3, sR_36_4, sR_36_5, sR_36_6, sR_36_7, sR_36_8, sR_0_8, sR_44_0, sR_44_1, sR_44_2, hO.2.1, e1, rf_some, xc_int, xc_ref, xc_ret, xc_long, xw_nil, xw_int, xw_ref, xw_long, tl_some, tl_none, true_and, and_true, Nat.zero_le, Nat.reduceAdd, Nat.reduceMul, Nat.reduceLeDiff, Nat.reduceLT, Nat.reduceEqDiff, Nat.reducePow, Int32.reduceAdd, Int32.reduceMul, Int32.reduceSub, Int32.reduceLT, Int32.reduceLE, Int32.reduceToNatClampNeg, litE, ixU, not_false_eq_true, not_true_eq_false, ↓reduceIte, eq_self, true_or, or_true, false_and, and_false, or_false, false_or, i10, i01, in10, i1n, xbT, xbF, r_lt]
      rw [gG_prune _ _ _ _ _ _ _ _ z]
      exact ⟨wr_rf _ h, hO⟩
end GH
