/-! cells of the own heap, and what a change of it is in the model's heap -/
theorem xe_find {α : Type} {l : List (Nat × Nat × α)} {o i : Nat} {r : α} (h : (l.find? (fun e => e.1 == o && e.2.1 == i)).map (fun e => e.2.2) = some r) : (o, i, r) ∈ l := by
  obtain ⟨e, he, rfl⟩ := Option.map_eq_some_iff.mp h
  have h1 := List.find?_some he
  simp only [Bool.and_eq_true, beq_iff_eq] at h1
  obtain ⟨rfl, rfl⟩ := h1
  exact List.mem_of_find?_eq_some he
theorem xe_fF_ok {o i ci k : Nat} (h : xe_fF o i = some (ci, k)) (hc : ci < 8) : k < xe_nf ci ∧ Cond.fieldLink (xe_on o) i (xe_tb ci k).1 (xe_tb ci k).2.1 (xe_tb ci k).2.2.1 ∈ xe_tbl := by
  have h1 := xe_find h
  rw [← xe_fLp_ok] at h1
  obtain ⟨⟨e, q⟩, he, rfl⟩ := List.mem_map.mp h1
  have h2 := List.all_eq_true.mp xe_fLp_all _ he
  unfold xe_okF at h2
  dsimp only at h2
  rw [if_pos hc] at h2
  simp only [Bool.and_eq_true, decide_eq_true_eq] at h2
  exact ⟨h2.1, xe_is_in h2.2⟩
theorem xe_fF_str {o i ci k : Nat} (h : xe_fF o i = some (ci, k)) (hc : ¬ ci < 8) : (k = 0 ∧ Cond.fieldLink (xe_on o) i "java/lang/String" "value" "[B" ∈ xe_tbl) ∨ (¬ k = 0 ∧ Cond.fieldLink (xe_on o) i "java/lang/String" "coder" "B" ∈ xe_tbl) := by
  have h1 := xe_find h
  rw [← xe_fLp_ok] at h1
  obtain ⟨⟨e, q⟩, he, rfl⟩ := List.mem_map.mp h1
  have h2 := List.all_eq_true.mp xe_fLp_all _ he
  unfold xe_okF at h2
  dsimp only at h2
  rw [if_neg hc] at h2
  by_cases hk : k = 0
  · rw [if_pos hk] at h2; exact Or.inl ⟨hk, xe_is_in h2⟩
  · rw [if_neg hk] at h2; exact Or.inr ⟨hk, xe_is_in h2⟩
theorem xe_fK_ok {o i ci : Nat} (h : xe_fK o i = some ci) : ci < 8 ∧ Cond.classLink (xe_on o) i (xe_on ci) ∈ xe_tbl ∧ Cond.instantiable (xe_on ci) (xe_nf ci) ∈ xe_tbl ∧ Cond.initialized (xe_on ci) ∈ xe_tbl := by
  have h1 := xe_find h
  rw [← xe_kLp_ok] at h1
  obtain ⟨⟨e, q⟩, he, rfl⟩ := List.mem_map.mp h1
  have h2 := List.all_eq_true.mp xe_kLp_all _ he
  unfold xe_okK at h2
  simp only [Bool.and_eq_true, decide_eq_true_eq] at h2
  exact ⟨h2.1.1.1, xe_is_in h2.1.1.2, xe_is_in h2.1.2, xe_is_in h2.2⟩
theorem xe_fA_ok {o i : Nat} (h : xe_fA o i = true) : Cond.classLink (xe_on o) i "CrossShuts$Town" ∈ xe_tbl := by
  obtain ⟨e, he, h1⟩ := List.any_eq_true.mp h
  simp only [Bool.and_eq_true, beq_iff_eq] at h1
  obtain ⟨rfl, rfl⟩ := h1
  exact xe_is_in (List.all_eq_true.mp xe_aL_all _ he)
theorem xe_fI_ok {o i : Nat} {v : Int32} (h : xe_fI o i = some v) : Cond.constant (xe_on o) i v ∈ xe_tbl := by
  have h1 := xe_find h
  rw [← xe_iLp_ok] at h1
  obtain ⟨⟨e, q⟩, he, rfl⟩ := List.mem_map.mp h1
  exact xe_is_in (List.all_eq_true.mp xe_iLp_all _ he)
theorem xe_fJ_ok {o i : Nat} {v : Int64} (h : xe_fJ o i = some v) : Cond.constantLong (xe_on o) i v ∈ xe_tbl := by
  have h1 := xe_find h
  rw [← xe_lLp_ok] at h1
  obtain ⟨⟨e, q⟩, he, rfl⟩ := List.mem_map.mp h1
  exact xe_is_in (List.all_eq_true.mp xe_lLp_all _ he)
theorem xe_fT_ok {o i k : Nat} (h : xe_fT o i = some k) : o = 2 ∧ k < 7 ∧ i = xe_sx.getD k 0 := by
  have h2 := List.all_eq_true.mp xe_tL_all _ (xe_find h)
  simp only [Bool.and_eq_true, decide_eq_true_eq] at h2
  exact ⟨h2.1.1, h2.1.2, h2.2⟩
theorem xe_fS_ok {o i j : Nat} (h : xe_fS o i = some j) : (j = 19 ∨ j = 20 ∨ (1 ≤ j ∧ j < 5)) ∧ Cond.fieldLink (xe_on o) i (xe_sf j).1 (xe_sf j).2.1 (xe_sf j).2.2 ∈ xe_tbl := by
  have h1 := xe_find h
  rw [← xe_sLp_ok] at h1
  obtain ⟨⟨e, q⟩, he, rfl⟩ := List.mem_map.mp h1
  have h2 := List.all_eq_true.mp xe_sLp_all _ he
  simp only [Bool.and_eq_true, Bool.or_eq_true, decide_eq_true_eq] at h2
  refine ⟨?_, xe_is_in h2.2⟩
  rcases h2.1 with (q | q) | q
  · exact Or.inl q
  · exact Or.inr (Or.inl q)
  · exact Or.inr (Or.inr q)
section XE
variable {B : Nat} {sv : Nat → Value} {cy : Nat → ClassId} {h : xe_H} {a ci : Nat}
theorem xe_E_obj (hT : xe_T h a = ci) (hc : ci < 8) : xe_E B sv cy h a = .inr (ci, (List.range (xe_nf ci)).map (fun k => xe_mv B sv (xe_fv (xe_ty ci k) h a k))) := by
  unfold xe_E; subst hT; rw [if_pos hc]
theorem xe_E_l (hT : xe_T h a = 9) : xe_E B sv cy h a = .inl (cy 9, xe_N h a, .inr (.inl (xe_L h a))) := by
  unfold xe_E; rw [hT]; rfl
theorem xe_E_q (hT : xe_T h a = 12) : xe_E B sv cy h a = .inl (cy 12, xe_N h a, .inr (.inr (.inr (.inr (fun k => (xe_R h a k).map (fun b => B + b)))))) := by
  unfold xe_E; rw [hT]; rfl
theorem xe_E_i {t : Nat} (hT : xe_T h a = t) (ht : t = 8 ∨ t = 10 ∨ t = 11) : xe_E B sv cy h a = .inl (cy t, xe_N h a, .inl (xe_I h a)) := by
  unfold xe_E; rw [hT]; rcases ht with rfl | rfl | rfl <;> rfl
theorem xe_range_set {n k : Nat} {f g : Nat → Value} {v : Value} (hk : g k = v) (ho : ∀ j, j ≠ k → g j = f j) : ((List.range n).map f).set k v = (List.range n).map g := by
  apply List.ext_getElem?
  intro j
  rw [List.getElem?_set]
  by_cases hj : j < n
  · by_cases hkj : k = j
    · subst hkj; simp [hj, hk]
    · simp [hkj, hj, ho j (fun z => hkj z.symm)]
  · simp [hj]; intro z; omega
/-- an int field or cell, written -/
theorem xe_W_sI {k : Nat} {x : Int32} {e : va_E} (he : xe_E B sv cy (xe_sI h a k x) a = e) : (xe_W B sv cy h).set a (B + a, e) = xe_W B sv cy (xe_sI h a k x) :=
  xe_W_set rfl he (fun b hb => xe_E_congr rfl rfl (by show (if b = a then _ else _) = _; rw [if_neg hb]; rfl) rfl rfl)
theorem xe_W_aI {f : Nat → Int32} {e : va_E} (he : xe_E B sv cy (xe_aI h a f) a = e) : (xe_W B sv cy h).set a (B + a, e) = xe_W B sv cy (xe_aI h a f) :=
  xe_W_set rfl he (fun b hb => xe_E_congr rfl rfl (by show (if b = a then _ else _) = _; rw [if_neg hb]; rfl) rfl rfl)
theorem xe_W_aL {f : Nat → Int64} {e : va_E} (he : xe_E B sv cy (xe_aL2 h a f) a = e) : (xe_W B sv cy h).set a (B + a, e) = xe_W B sv cy (xe_aL2 h a f) :=
  xe_W_set rfl he (fun b hb => xe_E_congr rfl rfl rfl (by show (if b = a then _ else _) = _; rw [if_neg hb]; rfl) rfl)
theorem xe_W_aR {f : Nat → Option Nat} {e : va_E} (he : xe_E B sv cy (xe_aR h a f) a = e) : (xe_W B sv cy h).set a (B + a, e) = xe_W B sv cy (xe_aR h a f) :=
  xe_W_set rfl he (fun b hb => xe_E_congr rfl rfl rfl rfl (by show (if b = a then _ else _) = _; rw [if_neg hb]; rfl))
theorem xe_HS_aI {L : Nat} {xs f : Nat → Int32} (H : xe_HS L xs h) (ha : a < xe_n h) : xe_HS L xs (xe_aI h a f) :=
  xe_HS_keep H H.1 (fun _ _ => rfl) (fun _ _ => rfl) (fun b hb => by show (if b = a then _ else _) = _; rw [if_neg (by have := H.1; omega)]; rfl)
theorem xe_HS_aL {L : Nat} {xs : Nat → Int32} {f : Nat → Int64} (H : xe_HS L xs h) : xe_HS L xs (xe_aL2 h a f) :=
  xe_HS_keep H H.1 (fun _ _ => rfl) (fun _ _ => rfl) (fun _ _ => rfl)
theorem xe_HS_aR {L : Nat} {xs : Nat → Int32} {f : Nat → Option Nat} (H : xe_HS L xs h) : xe_HS L xs (xe_aR h a f) :=
  xe_HS_keep H H.1 (fun _ _ => rfl) (fun _ _ => rfl) (fun _ _ => rfl)
theorem xe_HS_new {L t n : Nat} {xs : Nat → Int32} (H : xe_HS L xs h) (hn : xe_n h < xe_S) : xe_HS L xs (xe_new h t n) := by
  refine xe_HS_keep H ?_ (fun b hb => ?_) (fun b hb => ?_) (fun b hb => ?_)
  · show xe_n h + 1 ≤ xe_S; omega
  · show (va_up h.2.2.1 h.1 (t, n) b).1 = _
    rw [va_up, if_neg (by unfold xe_n at hn; omega)]; rfl
  · show (va_up h.2.2.1 h.1 (t, n) b).2 = _
    rw [va_up, if_neg (by unfold xe_n at hn; omega)]; rfl
  · show va_up h.2.2.2.1 h.1 _ b = _
    rw [va_up, if_neg (by unfold xe_n at hn; omega)]; rfl
theorem xe_W_new {t n : Nat} {e : va_E} (he : xe_E B sv cy (xe_new h t n) (xe_n h) = e) : xe_W B sv cy h ++ [(B + xe_n h, e)] = xe_W B sv cy (xe_new h t n) := by
  refine xe_W_push rfl he (fun b hb => ?_)
  have hne : ¬ b = h.1 := by unfold xe_n at hb; omega
  refine xe_E_congr ?_ ?_ ?_ ?_ ?_
  · show (va_up h.2.2.1 h.1 (t, n) b).1 = _
    rw [va_up, if_neg hne]; rfl
  · show (va_up h.2.2.1 h.1 (t, n) b).2 = _
    rw [va_up, if_neg hne]; rfl
  · show va_up h.2.2.2.1 h.1 _ b = _
    rw [va_up, if_neg hne]; rfl
  · show va_up h.2.2.2.2.1 h.1 _ b = _
    rw [va_up, if_neg hne]; rfl
  · show va_up h.2.2.2.2.2 h.1 _ b = _
    rw [va_up, if_neg hne]; rfl
theorem xe_T_new {t n : Nat} : xe_T (xe_new h t n) (xe_n h) = t := by
  show (va_up h.2.2.1 h.1 (t, n) h.1).1 = t
  rw [va_up, if_pos rfl]
theorem xe_N_new {t n : Nat} : xe_N (xe_new h t n) (xe_n h) = n := by
  show (va_up h.2.2.1 h.1 (t, n) h.1).2 = n
  rw [va_up, if_pos rfl]
theorem xe_I_new {t n : Nat} : xe_I (xe_new h t n) (xe_n h) = fun _ => 0 := by
  show va_up h.2.2.2.1 h.1 _ h.1 = _
  rw [va_up, if_pos rfl]
theorem xe_L_new {t n : Nat} : xe_L (xe_new h t n) (xe_n h) = fun _ => 0 := by
  show va_up h.2.2.2.2.1 h.1 _ h.1 = _
  rw [va_up, if_pos rfl]
theorem xe_R_new {t n : Nat} : xe_R (xe_new h t n) (xe_n h) = fun _ => none := by
  show va_up h.2.2.2.2.2 h.1 _ h.1 = _
  rw [va_up, if_pos rfl]
end XE
