/-! what every method keeps: the cells that are there, and what was there before the law began -/
def kp (h h' : xe_H) : Prop := xe_n h ≤ xe_n h' ∧ xe_n h' ≤ xe_S ∧ (∀ a, a < xe_n h ∨ xe_S ≤ a → xe_T h' a = xe_T h a ∧ xe_N h' a = xe_N h a) ∧ ∀ a j, xe_S ≤ a → xe_I h' a j = xe_I h a j
section KP
variable {h h1 h2 h3 : xe_H} {a k t n : Nat}
theorem kp_rf (hn : xe_n h ≤ xe_S) : kp h h := ⟨Nat.le_refl _, hn, fun _ _ => ⟨rfl, rfl⟩, fun _ _ _ => rfl⟩
theorem kp_tr (H1 : kp h1 h2) (H2 : kp h2 h3) : kp h1 h3 := ⟨Nat.le_trans H1.1 H2.1, H2.2.1, fun a ha => by
  have q : a < xe_n h2 ∨ xe_S ≤ a := ha.imp (fun z => Nat.lt_of_lt_of_le z H1.1) id
  exact ⟨(H2.2.2.1 a q).1.trans (H1.2.2.1 a ha).1, (H2.2.2.1 a q).2.trans (H1.2.2.1 a ha).2⟩, fun a j ha => (H2.2.2.2 a j ha).trans (H1.2.2.2 a j ha)⟩
theorem kp_aI {f : Nat → Int32} (hn : xe_n h ≤ xe_S) (ha : a < xe_n h) : kp h (xe_aI h a f) := ⟨Nat.le_refl _, hn, fun _ _ => ⟨rfl, rfl⟩, fun b j hb => by rw [hI_aI, if_neg (by omega)]⟩
theorem kp_sI {v : Int32} (hn : xe_n h ≤ xe_S) (ha : a < xe_n h) : kp h (xe_sI h a k v) := kp_aI hn ha
theorem kp_aL {f : Nat → Int64} (hn : xe_n h ≤ xe_S) : kp h (xe_aL2 h a f) := ⟨Nat.le_refl _, hn, fun _ _ => ⟨rfl, rfl⟩, fun _ _ _ => rfl⟩
theorem kp_sL {v : Int64} (hn : xe_n h ≤ xe_S) : kp h (xe_sL2 h a k v) := kp_aL hn
theorem kp_aR {f : Nat → Option Nat} (hn : xe_n h ≤ xe_S) : kp h (xe_aR h a f) := ⟨Nat.le_refl _, hn, fun _ _ => ⟨rfl, rfl⟩, fun _ _ _ => rfl⟩
theorem kp_sR {v : Option Nat} (hn : xe_n h ≤ xe_S) : kp h (xe_sR h a k v) := kp_aR hn
theorem kp_new (hn : xe_n h < xe_S) : kp h (xe_new h t n) := ⟨by rw [hn_new]; omega, by rw [hn_new]; omega, fun a ha => ⟨by rw [hT_new, if_neg (by omega)], by rw [hN_new, if_neg (by omega)]⟩, fun a j ha => by rw [hI_new, if_neg (by omega)]⟩
theorem kp_pf {v : Value} (hn : xe_n h ≤ xe_S) (ha : a < xe_n h) : kp h (xe_pf h a k v) := by
  unfold xe_pf
  split
  · exact kp_sI hn ha
  · exact kp_sR hn
  · exact kp_rf hn
theorem kp_hp {o : Nat} {ini : Bool} {ins : Instr} {st st' : List Value} (hn : xe_n h ≤ xe_S) (e : xe_hp o ini ins st h = some (st', h1)) : kp h h1 := by
  unfold xe_hp at e
  split at e
  all_goals (repeat' (split at e))
  all_goals (cases e)
  all_goals first
    | exact kp_rf hn
    | exact kp_sL hn
    | exact kp_sR hn
    | (rename_i q; first | exact kp_new q.2 | exact kp_new q.2.2.2 | exact kp_sI hn q.2.1 | exact kp_sI hn q.1 | exact kp_pf hn q.2.2.1)
    | (rename_i q1 q2; exact kp_sI hn q1.1)
    | (rename_i q1 q2 q3; exact kp_sI hn q1.1)
theorem kp_cp {st st' : List Value} (hn : xe_n h ≤ xe_S) (e : xe_cp st h = some (st', h1)) : kp h h1 := by
  unfold xe_cp at e
  split at e
  next =>
    split at e
    next q =>
      split at e
      next => cases e; exact kp_aI hn q.2.2.1
      next =>
        split at e
        next => cases e; exact kp_aL hn
        next => cases e
    next => cases e
  next => cases e
theorem kp_mm {k : Option (Nat × Nat)} {st st' : List Value} (hn : xe_n h ≤ xe_S) (e : xe_mm k st h = some (st', h1)) : kp h h1 := by
  unfold xe_mm at e
  split at e
  next => exact kp_cp hn e
  all_goals (repeat' (split at e))
  all_goals (cases e)
  all_goals (exact kp_rf hn)
theorem kp_one {call : Nat → List Value → xe_H → Option xe_A} (hc : ∀ z as g r, xe_n g ≤ xe_S → call z as g = some r → kp g r.2) {y pc len : Nat} {ins : Instr} {ls st : List Value} {q : xe_X ⊕ xe_A} (hn : xe_n h ≤ xe_S) (e : xe_one call y pc ins len ls st h = some q) : kp h (Sum.elim (fun x => x.2.2.2) (fun x => x.2) q) := by
  unfold xe_one at e
  split at e
  next => cases e; exact kp_rf hn
  next =>
    split at e
    next => cases e; exact kp_rf hn
    next =>
      split at e
      next => cases e; exact kp_rf hn
      next => cases e; exact kp_rf hn
      next =>
        split at e
        next st' h' e1 => cases e; exact kp_hp hn e1
        next =>
          split at e
          next => cases e; exact kp_rf hn
          next =>
            split at e
            next z as st' e2 =>
              split at e
              next v h' e3 => cases e; exact hc _ _ _ _ hn e3
              next h' e3 => cases e; exact hc _ _ _ _ hn e3
              next => cases e
            next =>
              split at e
              next =>
                split at e
                next => cases e; exact kp_rf hn
                next => cases e
              next =>
                split at e
                next st' h' e4 => cases e; exact kp_mm hn e4
                next => cases e
              next => cases e
theorem kp_run {call : Nat → List Value → xe_H → Option xe_A} (hc : ∀ z as g r, xe_n g ≤ xe_S → call z as g = some r → kp g r.2) {y : Nat} : ∀ (F pc : Nat) (ls st : List Value) (h : xe_H) (r : xe_A), xe_n h ≤ xe_S → xe_run call y F pc ls st h = some r → kp h r.2 := by
  intro F
  induction F with
  | zero => intro pc ls st h r _ e; simp [xe_run] at e
  | succ F ih =>
    intro pc ls st h r hn e
    simp only [xe_run] at e
    cases hcd : xe_code y pc with
    | none => rw [hcd] at e; simp at e
    | some il =>
      obtain ⟨ins, len⟩ := il
      rw [hcd] at e
      simp only at e
      cases ho : xe_one call y pc ins len ls st h with
      | none => rw [ho] at e; simp at e
      | some q =>
        rw [ho] at e
        have k1 := kp_one hc hn ho
        cases q with
        | inl x =>
          have k2 : kp h x.2.2.2 := k1
          exact kp_tr k2 (ih _ _ _ _ _ k2.2.1 e)
        | inr x =>
          simp only [Option.some.injEq] at e
          rw [← e]
          exact k1
theorem kp_ex : ∀ (d y : Nat) (as : List Value) (h : xe_H) (r : xe_A), xe_n h ≤ xe_S → xe_ex d y as h = some r → kp h r.2 := by
  intro d
  induction d with
  | zero => intro y as h r _ e; cases e
  | succ d ih =>
    intro y as h r hn e
    obtain ⟨-, F, e⟩ := (xe_ex_iff d y as h r).mp e
    exact kp_run (fun z as g r => ih z as g r) F _ _ _ _ _ hn e
theorem xe_C_kp {d y : Nat} {as : List Value} {Q : Option Value → xe_H → Prop} (hn : xe_n h ≤ xe_S) (H : xe_C d y as h Q) : xe_C d y as h (fun v h' => Q v h' ∧ kp h h') := by
  obtain ⟨r, e, q⟩ := H
  exact ⟨r, e, q, kp_ex d y as h r hn e⟩
end KP
