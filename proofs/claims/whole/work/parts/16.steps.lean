/-! The small machine step by step, as equations: what xe_P says at an instruction. -/
section XT
variable {d y pc len : Nat} {ins : Instr} {ls ls' st st' : List Value} {h h' : xe_H} {Q : Option Value → xe_H → Prop}
theorem xe_P_at (hc : xe_code y pc = some (ins, len)) : xe_P d y pc ls st h Q ↔ (match xe_one (xe_ex d) y pc ins len ls st h with
    | none => False
    | some (.inr a) => Q a.1 a.2
    | some (.inl x) => xe_P d y x.1 x.2.1 x.2.2.1 x.2.2.2 Q) := by
  unfold xe_P
  constructor
  · rintro ⟨F, r, hr, hq⟩
    cases F with
    | zero => simp [xe_run] at hr
    | succ F =>
      simp only [xe_run, hc] at hr
      cases ho : xe_one (xe_ex d) y pc ins len ls st h with
      | none => rw [ho] at hr; cases hr
      | some q =>
        rw [ho] at hr
        cases q with
        | inl x => exact ⟨F, r, hr, hq⟩
        | inr a => cases hr; exact hq
  · intro hh
    cases ho : xe_one (xe_ex d) y pc ins len ls st h with
    | none => rw [ho] at hh; exact hh.elim
    | some q =>
      rw [ho] at hh
      cases q with
      | inl x =>
        obtain ⟨F, r, hr, hq⟩ := hh
        exact ⟨F + 1, r, by simp only [xe_run, hc, ho]; exact hr, hq⟩
      | inr a => exact ⟨1, a, by simp only [xe_run, hc, ho], hh⟩
theorem xe_P_next {x : xe_X} (hc : xe_code y pc = some (ins, len)) (ho : xe_one (xe_ex d) y pc ins len ls st h = some (.inl x)) : xe_P d y pc ls st h Q = xe_P d y x.1 x.2.1 x.2.2.1 x.2.2.2 Q := by
  rw [eq_iff_iff, xe_P_at hc, ho]
theorem xe_P_none (hc : xe_code y pc = some (ins, len)) (ho : xe_one (xe_ex d) y pc ins len ls st h = none) : xe_P d y pc ls st h Q = False := by
  rw [eq_iff_iff, xe_P_at hc, ho]
theorem xe_P_ar (hc : xe_code y pc = some (ins, len)) (ha : xe_ar ins st = some st') : xe_P d y pc ls st h Q = xe_P d y (pc + len) ls st' h Q :=
  xe_P_next (x := (pc + len, ls, st', h)) hc (by unfold xe_one; rw [ha])
theorem xe_P_lo (hc : xe_code y pc = some (ins, len)) (ha : xe_ar ins st = none) (hl : xe_lo ins ls st = some (ls', st')) : xe_P d y pc ls st h Q = xe_P d y (pc + len) ls' st' h Q :=
  xe_P_next (x := (pc + len, ls', st', h)) hc (by unfold xe_one; rw [ha, hl])
theorem xe_P_div {x v : Int32} (hc : xe_code y pc = some (.idiv, 1)) : xe_P d y pc ls (.int v :: .int x :: st) h Q = (¬ v = 0 ∧ xe_P d y (pc + 1) ls (.int (x / v) :: st) h Q) := by
  by_cases hv : v = 0
  · rw [xe_P_none hc (by unfold xe_one; simp [xe_ar, xe_iid, hv, xe_lo, xe_br, xe_hp, xe_rv, xe_ca])]
    simp [hv]
  · rw [xe_P_ar hc (st' := .int (x / v) :: st) (by simp [xe_ar, xe_iid, hv])]
    simp [hv]
theorem xe_P_rem {x v : Int32} (hc : xe_code y pc = some (.irem, 1)) : xe_P d y pc ls (.int v :: .int x :: st) h Q = (¬ v = 0 ∧ xe_P d y (pc + 1) ls (.int (x - x / v * v) :: st) h Q) := by
  by_cases hv : v = 0
  · rw [xe_P_none hc (by unfold xe_one; simp [xe_ar, xe_iid, hv, xe_lo, xe_br, xe_hp, xe_rv, xe_ca])]
    simp [hv]
  · rw [xe_P_ar hc (st' := .int (x - x / v * v) :: st) (by simp [xe_ar, xe_iid, hv])]
    simp [hv]
theorem xe_P_ldiv {x v : Int64} (hc : xe_code y pc = some (.ldiv, 1)) : xe_P d y pc ls (.long v :: .long x :: st) h Q = (¬ v = 0 ∧ xe_P d y (pc + 1) ls (.long (x / v) :: st) h Q) := by
  by_cases hv : v = 0
  · rw [xe_P_none hc (by unfold xe_one; simp [xe_ar, xe_lld, hv, xe_lo, xe_br, xe_hp, xe_rv, xe_ca])]
    simp [hv]
  · rw [xe_P_ar hc (st' := .long (x / v) :: st) (by simp [xe_ar, xe_lld, hv])]
    simp [hv]
theorem xe_P_lrem {x v : Int64} (hc : xe_code y pc = some (.lrem, 1)) : xe_P d y pc ls (.long v :: .long x :: st) h Q = (¬ v = 0 ∧ xe_P d y (pc + 1) ls (.long (x - x / v * v) :: st) h Q) := by
  by_cases hv : v = 0
  · rw [xe_P_none hc (by unfold xe_one; simp [xe_ar, xe_lld, hv, xe_lo, xe_br, xe_hp, xe_rv, xe_ca])]
    simp [hv]
  · rw [xe_P_ar hc (st' := .long (x - x / v * v) :: st) (by simp [xe_ar, xe_lld, hv])]
    simp [hv]
theorem xe_P_go {tgt : Nat} {off : Int} (hc : xe_code y pc = some (.goto off, len)) (ht : ((pc : Int) + off).toNat = tgt) : xe_P d y pc ls st h Q = xe_P d y tgt ls st h Q :=
  xe_P_next (x := (tgt, ls, st, h)) hc (by unfold xe_one; rw [← ht]; rfl)
theorem xe_P_if {tgt : Nat} {off : Int} {b : Prop} {_ : Decidable b} (hc : xe_code y pc = some (ins, len)) (ht : ((pc : Int) + off).toNat = tgt) (ha : xe_ar ins st = none) (hl : xe_lo ins ls st = none) (hb : xe_br ins st = some (if b then some off else none, st')) : xe_P d y pc ls st h Q = (if b then xe_P d y tgt ls st' h Q else xe_P d y (pc + len) ls st' h Q) := by
  by_cases hq : b
  · rw [if_pos hq] at hb ⊢
    exact xe_P_next (x := (tgt, ls, st', h)) hc (by unfold xe_one; rw [ha, hl, hb, ← ht])
  · rw [if_neg hq] at hb ⊢
    exact xe_P_next (x := (pc + len, ls, st', h)) hc (by unfold xe_one; rw [ha, hl, hb])
theorem xe_P_ifn {tgt : Nat} {off : Int} {b : Prop} {_ : Decidable b} (hc : xe_code y pc = some (ins, len)) (ht : ((pc : Int) + off).toNat = tgt) (ha : xe_ar ins st = none) (hl : xe_lo ins ls st = none) (hb : xe_br ins st = some (if b then none else some off, st')) : xe_P d y pc ls st h Q = (if b then xe_P d y (pc + len) ls st' h Q else xe_P d y tgt ls st' h Q) := by
  by_cases hq : b
  · rw [if_pos hq] at hb ⊢
    exact xe_P_next (x := (pc + len, ls, st', h)) hc (by unfold xe_one; rw [ha, hl, hb])
  · rw [if_neg hq] at hb ⊢
    exact xe_P_next (x := (tgt, ls, st', h)) hc (by unfold xe_one; rw [ha, hl, hb, ← ht])
/-- a switch from 0 on -/
def xe_sw (x : Int32) (F : Int → Prop) (D : Prop) : Nat → List Int → Prop
  | _, [] => D
  | k, off :: l => if x = Int32.ofNat k then F off else xe_sw x F D (k + 1) l
theorem xe_sw_out {x : Int32} {F : Int → Prop} {D : Prop} : ∀ (l : List Int) (k : Nat), k + l.length < 2 ^ 31 → (x.toInt < (k : Int) ∨ ((k + l.length : Nat) : Int) ≤ x.toInt) → xe_sw x F D k l = D := by
  intro l
  induction l with
  | nil => intro k _ _; rfl
  | cons a l ih =>
    intro k hk hx
    simp only [List.length_cons] at hk hx
    have hne : ¬ x = Int32.ofNat k := by
      rintro rfl
      rw [Int32.toInt_ofNat_of_lt (by omega)] at hx
      omega
    rw [xe_sw, if_neg hne]
    exact ih (k + 1) (by omega) (by omega)
theorem xe_sw_in {x : Int32} {F : Int → Prop} {D : Prop} : ∀ (l : List Int) (k : Nat) (off : Int), k + l.length < 2 ^ 31 → (k : Int) ≤ x.toInt → l[(x.toInt - k).toNat]? = some off → xe_sw x F D k l = F off := by
  intro l
  induction l with
  | nil => intro k off _ _ h; simp at h
  | cons a l ih =>
    intro k off hk hx h
    simp only [List.length_cons] at hk
    by_cases he : x.toInt = (k : Int)
    · have e1 : x = Int32.ofNat k := by
        apply Int32.toInt_inj.mp
        rw [he, Int32.toInt_ofNat_of_lt (by omega)]
      rw [xe_sw, if_pos e1]
      rw [he, Int.sub_self] at h
      exact congrArg F (Option.some.inj h)
    · have hne : ¬ x = Int32.ofNat k := by
        rintro rfl
        exact he (Int32.toInt_ofNat_of_lt (by omega))
      rw [xe_sw, if_neg hne]
      refine ih (k + 1) off (by omega) (by omega) ?_
      rw [show (x.toInt - (k : Int)).toNat = (x.toInt - ((k + 1 : Nat) : Int)).toNat + 1 by omega] at h
      simpa using h
theorem xe_P_sw {x : Int32} {dflt hi : Int} {offs : Array Int} (hc : xe_code y pc = some (.tableswitch dflt 0 hi offs, len)) (hh : hi + 1 = (offs.toList.length : Int)) (hs : offs.toList.length < 1000) : xe_P d y pc ls (.int x :: st) h Q = xe_sw x (fun off => xe_P d y ((pc : Int) + off).toNat ls st h Q) (xe_P d y ((pc : Int) + dflt).toNat ls st h Q) 0 offs.toList := by
  by_cases hq : x.toInt < 0 ∨ hi < x.toInt
  · rw [xe_sw_out _ 0 (by omega) (by omega)]
    exact xe_P_next (x := (((pc : Int) + dflt).toNat, ls, st, h)) hc (by unfold xe_one; simp only [xe_ar, xe_lo, xe_br, if_pos hq])
  · have hl : (x.toInt - 0).toNat < offs.toList.length := by omega
    have e1 : offs.toList[(x.toInt - 0).toNat]? = some (offs.toList[(x.toInt - 0).toNat]'hl) := List.getElem?_eq_getElem hl
    rw [xe_sw_in _ 0 _ (by omega) (by omega) e1]
    refine xe_P_next (x := (((pc : Int) + (offs.toList[(x.toInt - 0).toNat]'hl)).toNat, ls, st, h)) hc ?_
    have e2 : offs[(x.toInt - 0).toNat]? = some (offs.toList[(x.toInt - 0).toNat]'hl) := by rw [← Array.getElem?_toList]; exact e1
    unfold xe_one
    simp only [xe_ar, xe_lo, xe_br, if_neg hq, e2]
/-- heap instructions -/
theorem xe_P_hp {b : Prop} [Decidable b] (hc : xe_code y pc = some (ins, len)) (ha : xe_ar ins st = none) (hl : xe_lo ins ls st = none) (hb : xe_br ins st = none) (hr : xe_rv (xe_rt y) ins st = none) (hk : xe_ca (xe_o y) ins st h = none) (h1 : ∀ i, ins ≠ .invokespecial i) (h2 : ∀ i, ins ≠ .invokestatic i) (hh : xe_hp (xe_o y) ((xe_nm y).name == "<init>") ins st h = if b then some (st', h') else none) : xe_P d y pc ls st h Q = (b ∧ xe_P d y (pc + len) ls st' h' Q) := by
  by_cases hq : b
  · rw [if_pos hq] at hh
    rw [xe_P_next (x := (pc + len, ls, st', h')) hc (by unfold xe_one; rw [ha, hl, hb, hh])]
    simp [hq]
  · rw [if_neg hq] at hh
    rw [xe_P_none hc (by
      unfold xe_one
      rw [ha, hl, hb, hh, hr, hk]
      dsimp only
      split
      · exact absurd rfl (h1 _)
      · exact absurd rfl (h2 _)
      · rfl)]
    simp [hq]
theorem xe_P_hp1 (hc : xe_code y pc = some (ins, len)) (ha : xe_ar ins st = none) (hl : xe_lo ins ls st = none) (hb : xe_br ins st = none) (hh : xe_hp (xe_o y) ((xe_nm y).name == "<init>") ins st h = some (st', h')) : xe_P d y pc ls st h Q = xe_P d y (pc + len) ls st' h' Q :=
  xe_P_next (x := (pc + len, ls, st', h')) hc (by unfold xe_one; rw [ha, hl, hb, hh])
/-- an object or a row that was made, of a kind -/
def xe_ob (h : xe_H) (a t : Nat) : Prop := a < xe_n h ∧ xe_T h a = t
/-- an index within a row -/
def xe_ix (h : xe_H) (a : Nat) (i : Int32) : Prop := (decide (i < 0) || decide (xe_N h a ≤ i.toNatClampNeg)) = false
end XT
