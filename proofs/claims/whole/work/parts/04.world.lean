/-! The own heap's cells as cells of the model's heap: address a is B + a; what was there before is told by sv. -/
def xe_mv (B : Nat) (sv : Nat → Value) : Value → Value
  | .ref a => if a < xe_S then .ref (B + a) else sv (a - xe_S)
  | v => v
def xe_E (B : Nat) (sv : Nat → Value) (cy : Nat → ClassId) (h : xe_H) (a : Nat) : va_E :=
  if xe_T h a < 8 then .inr (xe_T h a, (List.range (xe_nf (xe_T h a))).map (fun k => xe_mv B sv (xe_fv (xe_ty (xe_T h a) k) h a k)))
  else if xe_T h a = 9 then .inl (cy 9, xe_N h a, .inr (.inl (xe_L h a)))
  else if xe_T h a = 12 then .inl (cy 12, xe_N h a, .inr (.inr (.inr (.inr (fun k => (xe_R h a k).map (fun b => B + b))))))
  else .inl (cy (xe_T h a), xe_N h a, .inl (xe_I h a))
def xe_W (B : Nat) (sv : Nat → Value) (cy : Nat → ClassId) (h : xe_H) : va_W := (List.range (xe_n h)).map (fun a => (B + a, xe_E B sv cy h a))
def xe_tys (cy : Nat → ClassId) : List (ClassId × FieldType) := [(cy 8, .int), (cy 9, .long), (cy 10, .byte), (cy 11, .boolean), (cy 12, .object "CrossShuts$Town")]
abbrev xe_F (B : Nat) : Nat → Prop := fun q => B ≤ q
theorem xe_W_at {B : Nat} {sv : Nat → Value} {cy : Nat → ClassId} {h : xe_H} {a : Nat} (ha : a < xe_n h) : (xe_W B sv cy h)[a]? = some (B + a, xe_E B sv cy h a) := by
  simp [xe_W, ha]
theorem xe_W_in {B : Nat} {sv : Nat → Value} {cy : Nat → ClassId} {h : xe_H} {k : Nat} {q : Nat × va_E} (hq : (xe_W B sv cy h)[k]? = some q) : k < xe_n h ∧ q = (B + k, xe_E B sv cy h k) := by
  have hk : k < xe_n h := by
    have := (List.getElem?_eq_some_iff.mp hq).1
    simpa [xe_W] using this
  rw [xe_W_at hk] at hq
  exact ⟨hk, (Option.some.inj hq).symm⟩
theorem xe_W_D (B : Nat) (sv : Nat → Value) (cy : Nat → ClassId) (h : xe_H) : va_D (xe_F B) (xe_W B sv cy h) := by
  refine ⟨fun i j p q hp hq e => ?_, fun k q hq => ?_⟩
  · obtain ⟨-, rfl⟩ := xe_W_in hp
    obtain ⟨-, rfl⟩ := xe_W_in hq
    dsimp only at e
    omega
  · obtain ⟨-, rfl⟩ := xe_W_in hq
    exact Nat.le_add_right _ _
theorem xe_W_set {B : Nat} {sv : Nat → Value} {cy : Nat → ClassId} {h h' : xe_H} {a : Nat} {e : va_E} (hn : xe_n h' = xe_n h) (he : xe_E B sv cy h' a = e) (ho : ∀ b, b ≠ a → xe_E B sv cy h' b = xe_E B sv cy h b) : (xe_W B sv cy h).set a (B + a, e) = xe_W B sv cy h' := by
  apply List.ext_getElem?
  intro k
  rw [List.getElem?_set]
  by_cases hk : k < xe_n h
  · rw [xe_W_at hk, xe_W_at (h := h') (by rw [hn]; exact hk)]
    by_cases hka : a = k
    · subst hka
      rw [if_pos rfl, if_pos (by simpa [xe_W] using hk), he]
    · rw [if_neg hka, ho k (fun z => hka z.symm)]
  · have h1 : (xe_W B sv cy h')[k]? = none := by simp [xe_W, hn]; omega
    have h2 : (xe_W B sv cy h)[k]? = none := by simp [xe_W]; omega
    rw [h1, h2]
    by_cases hka : a = k
    · subst hka
      rw [if_pos rfl, if_neg (by simpa [xe_W] using hk)]
    · rw [if_neg hka]
theorem xe_W_push {B : Nat} {sv : Nat → Value} {cy : Nat → ClassId} {h h' : xe_H} {e : va_E} (hn : xe_n h' = xe_n h + 1) (he : xe_E B sv cy h' (xe_n h) = e) (ho : ∀ b, b < xe_n h → xe_E B sv cy h' b = xe_E B sv cy h b) : xe_W B sv cy h ++ [(B + xe_n h, e)] = xe_W B sv cy h' := by
  unfold xe_W
  rw [hn, List.range_succ, List.map_append]
  congr 1
  · apply List.map_congr_left
    intro b hb
    rw [ho b (List.mem_range.mp hb)]
  · simp [he]
/-! the fields of the own heap behind a change -/
theorem xe_I_aI (h : xe_H) (a : Nat) (f : Nat → Int32) (b : Nat) : xe_I (xe_aI h a f) b = if b = a then f else xe_I h b := rfl
theorem xe_L_aI (h : xe_H) (a : Nat) (f : Nat → Int32) : xe_L (xe_aI h a f) = xe_L h := rfl
theorem xe_R_aI (h : xe_H) (a : Nat) (f : Nat → Int32) : xe_R (xe_aI h a f) = xe_R h := rfl
theorem xe_T_aI (h : xe_H) (a : Nat) (f : Nat → Int32) : xe_T (xe_aI h a f) = xe_T h := rfl
theorem xe_N_aI (h : xe_H) (a : Nat) (f : Nat → Int32) : xe_N (xe_aI h a f) = xe_N h := rfl
theorem xe_n_aI (h : xe_H) (a : Nat) (f : Nat → Int32) : xe_n (xe_aI h a f) = xe_n h := rfl
theorem xe_z_aI (h : xe_H) (a : Nat) (f : Nat → Int32) : xe_z (xe_aI h a f) = xe_z h := rfl
theorem xe_L_aL (h : xe_H) (a : Nat) (f : Nat → Int64) (b : Nat) : xe_L (xe_aL2 h a f) b = if b = a then f else xe_L h b := rfl
theorem xe_I_aL (h : xe_H) (a : Nat) (f : Nat → Int64) : xe_I (xe_aL2 h a f) = xe_I h := rfl
theorem xe_R_aL (h : xe_H) (a : Nat) (f : Nat → Int64) : xe_R (xe_aL2 h a f) = xe_R h := rfl
theorem xe_T_aL (h : xe_H) (a : Nat) (f : Nat → Int64) : xe_T (xe_aL2 h a f) = xe_T h := rfl
theorem xe_N_aL (h : xe_H) (a : Nat) (f : Nat → Int64) : xe_N (xe_aL2 h a f) = xe_N h := rfl
theorem xe_n_aL (h : xe_H) (a : Nat) (f : Nat → Int64) : xe_n (xe_aL2 h a f) = xe_n h := rfl
theorem xe_z_aL (h : xe_H) (a : Nat) (f : Nat → Int64) : xe_z (xe_aL2 h a f) = xe_z h := rfl
theorem xe_R_aR (h : xe_H) (a : Nat) (f : Nat → Option Nat) (b : Nat) : xe_R (xe_aR h a f) b = if b = a then f else xe_R h b := rfl
theorem xe_I_aR (h : xe_H) (a : Nat) (f : Nat → Option Nat) : xe_I (xe_aR h a f) = xe_I h := rfl
theorem xe_L_aR (h : xe_H) (a : Nat) (f : Nat → Option Nat) : xe_L (xe_aR h a f) = xe_L h := rfl
theorem xe_T_aR (h : xe_H) (a : Nat) (f : Nat → Option Nat) : xe_T (xe_aR h a f) = xe_T h := rfl
theorem xe_N_aR (h : xe_H) (a : Nat) (f : Nat → Option Nat) : xe_N (xe_aR h a f) = xe_N h := rfl
theorem xe_n_aR (h : xe_H) (a : Nat) (f : Nat → Option Nat) : xe_n (xe_aR h a f) = xe_n h := rfl
theorem xe_z_aR (h : xe_H) (a : Nat) (f : Nat → Option Nat) : xe_z (xe_aR h a f) = xe_z h := rfl
/-- cells that have the same kind and contents are the same -/
theorem xe_E_congr {B : Nat} {sv : Nat → Value} {cy : Nat → ClassId} {h h' : xe_H} {a : Nat} (hT : xe_T h' a = xe_T h a) (hN : xe_N h' a = xe_N h a) (hI : xe_I h' a = xe_I h a) (hL : xe_L h' a = xe_L h a) (hR : xe_R h' a = xe_R h a) : xe_E B sv cy h' a = xe_E B sv cy h a := by
  unfold xe_E
  simp only [hT, hN, hI, hL, hR, xe_fv]
/-- what was there before the law began, in the own heap: the script, four rows of numbers, seven Strings and their bytes -/
def xe_sa : List (List Int32) := [[2, 1, 0, 0, 0, 0, 0], [5, 3, 2, 4, 5, 5, 4], [0, 0, 0, 0, 0, 1, 0], [0, 0, 0, 4, 5, 3, 4]]
def xe_sn : List String := ["LEAST_FIRST", "MOST_FIRST", "LEAST_SECOND", "MOST_SECOND"]
def xe_byt : List (List Int32) := [[112, 108, 97, 99, 101, 115], [104, 111, 108, 100], [108, 97, 119], [98, 114, 105, 100, 103, 101], [99, 104, 97, 105, 110], [115, 104, 117, 116], [111, 110, 101]]
def xe_len : List Nat := [6, 4, 3, 6, 5, 4, 3]
def xe_tx : List String := ["places", "hold", "law", "bridge", "chain", "shut", "one"]
def xe_HS (L : Nat) (xs : Nat → Int32) (h : xe_H) : Prop := xe_n h ≤ xe_S ∧ (xe_T h xe_S = 8 ∧ xe_N h xe_S = L ∧ xe_I h xe_S = xs) ∧ (∀ j, j < 4 → xe_T h (xe_S + (1 + j)) = 8 ∧ xe_N h (xe_S + (1 + j)) = 7 ∧ ∀ i, xe_I h (xe_S + (1 + j)) i = (xe_sa.getD j []).getD i 0) ∧ (∀ k, k < 7 → xe_T h (xe_S + (12 + k)) = 10 ∧ xe_N h (xe_S + (12 + k)) = xe_len.getD k 0 ∧ ∀ i, xe_I h (xe_S + (12 + k)) i = (xe_byt.getD k []).getD i 0)
theorem xe_HS_keep {L : Nat} {xs : Nat → Int32} {h h' : xe_H} (H : xe_HS L xs h) (hn : xe_n h' ≤ xe_S) (hT : ∀ a, xe_S ≤ a → xe_T h' a = xe_T h a) (hN : ∀ a, xe_S ≤ a → xe_N h' a = xe_N h a) (hI : ∀ a, xe_S ≤ a → xe_I h' a = xe_I h a) : xe_HS L xs h' := by
  obtain ⟨-, ⟨b1, b2, b3⟩, c, d⟩ := H
  refine ⟨hn, ⟨by rw [hT _ (Nat.le_refl _)]; exact b1, by rw [hN _ (Nat.le_refl _)]; exact b2, by rw [hI _ (Nat.le_refl _)]; exact b3⟩, fun j hj => ?_, fun k hk => ?_⟩
  · obtain ⟨c1, c2, c3⟩ := c j hj
    exact ⟨by rw [hT _ (Nat.le_add_right _ _)]; exact c1, by rw [hN _ (Nat.le_add_right _ _)]; exact c2, fun i => by rw [hI _ (Nat.le_add_right _ _)]; exact c3 i⟩
  · obtain ⟨c1, c2, c3⟩ := d k hk
    exact ⟨by rw [hT _ (Nat.le_add_right _ _)]; exact c1, by rw [hN _ (Nat.le_add_right _ _)]; exact c2, fun i => by rw [hI _ (Nat.le_add_right _ _)]; exact c3 i⟩
/-! the locals -/
def xe_XL (B : Nat) (sv : Nat → Value) (A : Array Slot) (nL : Nat) (ls : List Value) : Prop := A.size = nL ∧ lv_wf A ∧ ls.length = nL ∧ ∀ (i : Nat) (v : Value), ls[i]? = some v → (∀ r, v ≠ .retAddr r) → A[i]? = some (.val (xe_mv B sv v))
def xe_nr : Value → Bool
  | .retAddr _ => false
  | _ => true
theorem xe_nr_iff (v : Value) : xe_nr v = true ↔ ∀ r, v ≠ .retAddr r := by
  cases v <;> simp [xe_nr]
def xe_lv (B : Nat) (sv : Nat → Value) (ls : List Value) : List (Nat × Value) := (List.range ls.length).filterMap (fun i => (ls[i]?).bind (fun v => if xe_nr v = true then some (i, xe_mv B sv v) else none))
theorem xe_lv_mem {B : Nat} {sv : Nat → Value} {ls : List Value} {q : Nat × Value} : q ∈ xe_lv B sv ls ↔ ∃ v, ls[q.1]? = some v ∧ (∀ r, v ≠ .retAddr r) ∧ q.2 = xe_mv B sv v := by
  unfold xe_lv
  rw [List.mem_filterMap]
  constructor
  · rintro ⟨i, hi, e⟩
    obtain ⟨v, hv, e⟩ := Option.bind_eq_some_iff.mp e
    by_cases hn : xe_nr v = true
    · rw [if_pos hn] at e
      cases e
      exact ⟨v, hv, (xe_nr_iff v).mp hn, rfl⟩
    · rw [if_neg hn] at e
      cases e
  · rintro ⟨v, hv, hr, e⟩
    refine ⟨q.1, List.mem_range.mpr (List.getElem?_eq_some_iff.mp hv).1, ?_⟩
    rw [hv, Option.bind_some, if_pos ((xe_nr_iff v).mpr hr), ← e]
theorem xe_XL_has {B : Nat} {sv : Nat → Value} {A : Array Slot} {nL : Nat} {ls : List Value} (X : xe_XL B sv A nL ls) : lv_has A nL (xe_lv B sv ls) := by
  obtain ⟨h1, h2, h3, h4⟩ := X
  refine ⟨h1, h2, fun q hq => ?_⟩
  obtain ⟨v, hv, hr, e⟩ := xe_lv_mem.mp hq
  rw [e]
  exact h4 _ _ hv hr
theorem xe_mv_cat {B : Nat} {sv : Nat → Value} (hs : ∀ j, (∃ t, sv j = .ref t) ∨ sv j = .null) (v : Value) : (xe_mv B sv v).category = v.category := by
  cases v with
  | ref a =>
    show (if a < xe_S then Value.ref (B + a) else sv (a - xe_S)).category = 1
    by_cases h : a < xe_S
    · rw [if_pos h]; rfl
    · rw [if_neg h]; rcases hs (a - xe_S) with ⟨t, e⟩ | e <;> rw [e] <;> rfl
  | _ => rfl
theorem xe_st_get : ∀ (ls : List Value) (i : Nat) (v : Value) (l2 : List Value), xe_st ls i v = some l2 → l2.length = ls.length ∧ i < ls.length ∧ ∀ (j : Nat) (w : Value), l2[j]? = some w → (j = i ∧ w = v) ∨ (j + 1 = i ∧ ∃ w0, ls[j]? = some w0 ∧ w = xe_cut w0) ∨ (j ≠ i ∧ j + 1 ≠ i ∧ ls[j]? = some w) := by
  intro ls
  induction ls with
  | nil => intro i v l2 e; simp [xe_st] at e
  | cons a l ih =>
    intro i v l2 e
    match i, e with
    | 0, e =>
      simp only [xe_st, Option.some.injEq] at e
      subst e
      refine ⟨rfl, by simp, fun j w hj => ?_⟩
      cases j with
      | zero => exact Or.inl ⟨rfl, (Option.some.inj hj).symm⟩
      | succ j => exact Or.inr (Or.inr ⟨by omega, by omega, hj⟩)
    | 1, e =>
      simp only [xe_st, Option.map_eq_some_iff] at e
      obtain ⟨l3, e3, rfl⟩ := e
      obtain ⟨g1, g2, g3⟩ := ih 0 v l3 e3
      refine ⟨by simp [g1], by simp only [List.length_cons]; omega, fun j w hj => ?_⟩
      cases j with
      | zero => exact Or.inr (Or.inl ⟨rfl, a, rfl, (Option.some.inj hj).symm⟩)
      | succ j =>
        rcases g3 j w hj with ⟨h1, h2⟩ | ⟨h1, -⟩ | ⟨h1, h2, h3⟩
        · exact Or.inl ⟨by omega, h2⟩
        · omega
        · exact Or.inr (Or.inr ⟨by omega, by omega, h3⟩)
    | i + 2, e =>
      simp only [xe_st, Option.map_eq_some_iff] at e
      obtain ⟨l3, e3, rfl⟩ := e
      obtain ⟨g1, g2, g3⟩ := ih (i + 1) v l3 e3
      refine ⟨by simp [g1], by simp only [List.length_cons]; omega, fun j w hj => ?_⟩
      cases j with
      | zero => exact Or.inr (Or.inr ⟨by omega, by omega, hj⟩)
      | succ j =>
        rcases g3 j w hj with ⟨h1, h2⟩ | ⟨h1, w0, h2⟩ | ⟨h1, h2, h3⟩
        · exact Or.inl ⟨by omega, h2⟩
        · exact Or.inr (Or.inl ⟨by omega, w0, h2⟩)
        · exact Or.inr (Or.inr ⟨by omega, by omega, h3⟩)
theorem xe_st2_get : ∀ (ls : List Value) (i : Nat) (v : Value) (l2 : List Value), xe_st2 ls i v = some l2 → l2.length = ls.length ∧ i + 1 < ls.length ∧ ∀ (j : Nat) (w : Value), l2[j]? = some w → (j = i ∧ w = v) ∨ (j = i + 1 ∧ w = .retAddr 0) ∨ (j + 1 = i ∧ ∃ w0, ls[j]? = some w0 ∧ w = xe_cut w0) ∨ (j ≠ i ∧ j ≠ i + 1 ∧ j + 1 ≠ i ∧ ls[j]? = some w) := by
  intro ls
  induction ls with
  | nil => intro i v l2 e; simp [xe_st2] at e
  | cons a l ih =>
    intro i v l2 e
    match i, e with
    | 0, e =>
      cases l with
      | nil => simp [xe_st2] at e
      | cons b l =>
        simp only [xe_st2, Option.some.injEq] at e
        subst e
        refine ⟨rfl, by simp, fun j w hj => ?_⟩
        match j, hj with
        | 0, hj => exact Or.inl ⟨rfl, (Option.some.inj hj).symm⟩
        | 1, hj => exact Or.inr (Or.inl ⟨rfl, (Option.some.inj hj).symm⟩)
        | j + 2, hj => exact Or.inr (Or.inr (Or.inr ⟨by omega, by omega, by omega, hj⟩))
    | 1, e =>
      simp only [xe_st2, Option.map_eq_some_iff] at e
      obtain ⟨l3, e3, rfl⟩ := e
      obtain ⟨g1, g2, g3⟩ := ih 0 v l3 e3
      refine ⟨by simp [g1], by simp only [List.length_cons]; omega, fun j w hj => ?_⟩
      cases j with
      | zero => exact Or.inr (Or.inr (Or.inl ⟨rfl, a, rfl, (Option.some.inj hj).symm⟩))
      | succ j =>
        rcases g3 j w hj with ⟨h1, h2⟩ | ⟨h1, h2⟩ | ⟨h1, -⟩ | ⟨h1, h2, h3, h4⟩
        · exact Or.inl ⟨by omega, h2⟩
        · exact Or.inr (Or.inl ⟨by omega, h2⟩)
        · omega
        · exact Or.inr (Or.inr (Or.inr ⟨by omega, by omega, by omega, h4⟩))
    | i + 2, e =>
      simp only [xe_st2, Option.map_eq_some_iff] at e
      obtain ⟨l3, e3, rfl⟩ := e
      obtain ⟨g1, g2, g3⟩ := ih (i + 1) v l3 e3
      refine ⟨by simp [g1], by simp only [List.length_cons]; omega, fun j w hj => ?_⟩
      cases j with
      | zero => exact Or.inr (Or.inr (Or.inr ⟨by omega, by omega, by omega, hj⟩))
      | succ j =>
        rcases g3 j w hj with ⟨h1, h2⟩ | ⟨h1, h2⟩ | ⟨h1, w0, h2⟩ | ⟨h1, h2, h3, h4⟩
        · exact Or.inl ⟨by omega, h2⟩
        · exact Or.inr (Or.inl ⟨by omega, h2⟩)
        · exact Or.inr (Or.inr (Or.inl ⟨by omega, w0, h2⟩))
        · exact Or.inr (Or.inr (Or.inr ⟨by omega, by omega, by omega, h4⟩))
theorem xe_cut_ne {v : Value} (h : ∀ r, xe_cut v ≠ .retAddr r) : xe_cut v = v ∧ (∀ r, v ≠ .retAddr r) ∧ v.category = 1 := by
  cases v <;> first | exact absurd rfl (h 0) | exact ⟨rfl, h, rfl⟩
/-- a store of one word -/
theorem xe_XL_st {B : Nat} {sv : Nat → Value} (hs : ∀ j, (∃ t, sv j = .ref t) ∨ sv j = .null) {A A' : Array Slot} {nL i : Nat} {ls l2 : List Value} {v : Value} (X : xe_XL B sv A nL ls) (e : xe_st ls i v = some l2) (h : lv_has A' nL ((i, xe_mv B sv v) :: (xe_lv B sv ls).filter (fun q => !(q.1 == i) && !(q.1 + 1 == i && q.2.category == 2)))) : xe_XL B sv A' nL l2 := by
  obtain ⟨g1, g2, g3⟩ := xe_st_get ls i v l2 e
  obtain ⟨h1, h2, h3⟩ := h
  refine ⟨h1, h2, by rw [g1]; exact X.2.2.1, fun j w hj hr => ?_⟩
  rcases g3 j w hj with ⟨rfl, rfl⟩ | ⟨hi, w0, hw0, rfl⟩ | ⟨k1, k2, k3⟩
  · exact h3 _ List.mem_cons_self
  · obtain ⟨c1, c2, c3⟩ := xe_cut_ne hr
    rw [c1]
    refine h3 (j, xe_mv B sv w0) (List.mem_cons_of_mem _ (List.mem_filter.mpr ⟨xe_lv_mem.mpr ⟨w0, hw0, c2, rfl⟩, ?_⟩))
    simp [xe_mv_cat hs, c3]
    omega
  · refine h3 (j, xe_mv B sv w) (List.mem_cons_of_mem _ (List.mem_filter.mpr ⟨xe_lv_mem.mpr ⟨w, k3, hr, rfl⟩, ?_⟩))
    simp [k1, k2]
/-- a store of two words -/
theorem xe_XL_st2 {B : Nat} {sv : Nat → Value} (hs : ∀ j, (∃ t, sv j = .ref t) ∨ sv j = .null) {A A' : Array Slot} {nL i : Nat} {ls l2 : List Value} {v : Value} (X : xe_XL B sv A nL ls) (e : xe_st2 ls i v = some l2) (h : lv_has A' nL ((i, xe_mv B sv v) :: (xe_lv B sv ls).filter (fun q => !(q.1 == i) && (!(q.1 == i + 1) && !(q.1 + 1 == i && q.2.category == 2))))) : xe_XL B sv A' nL l2 := by
  obtain ⟨g1, g2, g3⟩ := xe_st2_get ls i v l2 e
  obtain ⟨h1, h2, h3⟩ := h
  refine ⟨h1, h2, by rw [g1]; exact X.2.2.1, fun j w hj hr => ?_⟩
  rcases g3 j w hj with ⟨rfl, rfl⟩ | ⟨-, rfl⟩ | ⟨hi, w0, hw0, rfl⟩ | ⟨k1, k2, k3, k4⟩
  · exact h3 _ List.mem_cons_self
  · exact absurd rfl (hr 0)
  · obtain ⟨c1, c2, c3⟩ := xe_cut_ne hr
    rw [c1]
    refine h3 (j, xe_mv B sv w0) (List.mem_cons_of_mem _ (List.mem_filter.mpr ⟨xe_lv_mem.mpr ⟨w0, hw0, c2, rfl⟩, ?_⟩))
    simp [xe_mv_cat hs, c3]
    omega
  · refine h3 (j, xe_mv B sv w) (List.mem_cons_of_mem _ (List.mem_filter.mpr ⟨xe_lv_mem.mpr ⟨w, k4, hr, rfl⟩, ?_⟩))
    simp [k1, k2, k3]
/-- the locals at a method's begin -/
theorem xe_la_two {a : Value} {l : List Value} (h : a.category = 2) : xe_la (a :: l) = a :: .retAddr 0 :: xe_la l := by
  cases a <;> first | rfl | cases h
theorem xe_la_one {a : Value} {l : List Value} (h : ¬ a.category = 2) : xe_la (a :: l) = a :: xe_la l := by
  cases a <;> first | rfl | exact absurd rfl h
theorem xe_la_at {B : Nat} {sv : Nat → Value} (hs : ∀ j, (∃ t, sv j = .ref t) ∨ sv j = .null) : ∀ (as : List Value) (k j : Nat) (v : Value), (xe_la as)[j]? = some v → (∀ r, v ≠ .retAddr r) → (k + j, xe_mv B sv v) ∈ lv_args k (as.map (xe_mv B sv)) := by
  intro as
  induction as with
  | nil => intro k j v e; simp [xe_la] at e
  | cons a as ih =>
    intro k j v e hr
    by_cases hl : a.category = 2
    · rw [xe_la_two hl] at e
      have hc : (xe_mv B sv a).category = 2 := by rw [xe_mv_cat hs]; exact hl
      simp only [List.map_cons, lv_args, if_pos hc]
      match j, e with
      | 0, e => cases e; exact List.mem_cons_self
      | 1, e => cases e; exact absurd rfl (hr 0)
      | j + 2, e =>
        have h1 := ih (k + 2) j v e hr
        rw [show k + (j + 2) = k + 2 + j by omega]
        exact List.mem_cons_of_mem _ h1
    · rw [xe_la_one hl] at e
      have hc : ¬ (xe_mv B sv a).category = 2 := by rw [xe_mv_cat hs]; exact hl
      simp only [List.map_cons, lv_args, if_neg hc]
      cases j with
      | zero => cases e; exact List.mem_cons_self
      | succ j =>
        have h1 := ih (k + 1) j v e hr
        rw [show k + (j + 1) = k + 1 + j by omega]
        exact List.mem_cons_of_mem _ h1
theorem xe_la_len {B : Nat} {sv : Nat → Value} (hs : ∀ j, (∃ t, sv j = .ref t) ∨ sv j = .null) : ∀ (as : List Value), (lg_sl (as.map (xe_mv B sv))).length = (xe_la as).length := by
  intro as
  induction as with
  | nil => rfl
  | cons a as ih =>
    have e1 : lg_sl ((a :: as).map (xe_mv B sv)) = (if (xe_mv B sv a).category = 2 then [.val (xe_mv B sv a), .second] else [.val (xe_mv B sv a)]) ++ lg_sl (as.map (xe_mv B sv)) := by simp [lg_sl]
    rw [e1, List.length_append, ih, xe_mv_cat hs]
    by_cases hl : a.category = 2
    · rw [xe_la_two hl, if_pos hl]; simp; omega
    · rw [xe_la_one hl, if_neg hl]; simp; omega
theorem xe_XL_entry {B : Nat} {sv : Nat → Value} (hs : ∀ j, (∃ t, sv j = .ref t) ∨ sv j = .null) {as : List Value} {n : Nat} (hn : (xe_la as).length ≤ n) : xe_XL B sv ((lg_sl (as.map (xe_mv B sv)) ++ List.replicate (n - (lg_sl (as.map (xe_mv B sv))).length) Slot.unset).toArray) n (xe_l0 n as) := by
  obtain ⟨h1, h2, h3⟩ := lv_entry (as.map (xe_mv B sv)) (n := n) (by rw [xe_la_len hs as]; exact hn)
  refine ⟨h1, h2, by simp [xe_l0]; omega, fun i v hv hr => ?_⟩
  unfold xe_l0 at hv
  by_cases hi : i < (xe_la as).length
  · rw [List.getElem?_append_left hi] at hv
    have h4 := xe_la_at (B := B) hs as 0 i v hv hr
    rw [Nat.zero_add] at h4
    exact h3 _ h4
  · rw [List.getElem?_append_right (by omega)] at hv
    have := List.eq_of_mem_replicate (List.mem_of_getElem? hv)
    exact absurd this (hr 0)
