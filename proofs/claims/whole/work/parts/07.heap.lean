section XB
variable {p : Program} {l : Launch} {e : Env} {R : Room} {s : State} {m : MethodId} {args : Array Value} {below : List Frame} {meth : Method} {c : Code} {Q : State → Prop} {D : va_G} {B : Nat} {sv : Nat → Value} {cy : Nat → ClassId} {L : Nat} {xs : Nat → Int32} {n0 z0 nL y : Nat} {pc len : Nat} {ins : Instr} {ls ls' st st' : List Value} {h h' : xe_H}
set_option maxHeartbeats 2000000 in
theorem xe_ok_br (hF : xe_Fr p s m args meth c nL y) (hd : decode (xe_by y) pc = .ok (ins, len)) (hl : xe_lok ins len = true) (ht : xe_tok pc ins = true) {o : Option Int} (ha : xe_br ins st = some (o, st')) (k1 : o = none → xe_Ok p l e R s m args below meth c Q D B sv cy L xs n0 z0 nL (pc + len) ls st' h) (k2 : ∀ off, o = some off → xe_Ok p l e R s m args below meth c Q D B sv cy L xs n0 z0 nL ((pc : Int) + off).toNat ls st' h) : xe_Ok p l e R s m args below meth c Q D B sv cy L xs n0 z0 nL pc ls st h := by
  obtain ⟨hx, hb, -⟩ := hF
  intro H locs A cells slots X I hc hz
  have K1 : o = none → _ := fun q => k1 q H locs A cells slots X I hc hz
  have K2 : ∀ off, o = some off → _ := fun off q => k2 off q H locs A cells slots X I hc hz
  have N : ∀ off : Int, 0 ≤ (pc : Int) + off → (pc : Int) + off = ((((pc : Int) + off).toNat : Nat) : Int) := fun off q => (Int.toNat_of_nonneg q).symm
  cases ins
  case goto off => cases ha; cases (of_decide_eq_true hl : len = 3); exact lv_goto hx hb hd (N _ (of_decide_eq_true ht)) (K2 _ rfl)
  case ifCond cd off =>
    cases (of_decide_eq_true hl : len = 3)
    have KT := N off (of_decide_eq_true ht)
    cases cd <;> simp only [xe_br] at ha <;> (split at ha; rotate_left; cases ha)
    · rename_i x r
      by_cases hq : x = 0
      · rw [if_pos hq] at ha; cases ha
        exact lv_if_eq hx hb hd KT (fun _ => K2 _ rfl) (fun z => absurd hq z)
      · rw [if_neg hq] at ha; cases ha
        exact lv_if_eq hx hb hd KT (fun z => absurd z hq) (fun _ => K1 rfl)
    · rename_i x r
      by_cases hq : x = 0
      · rw [if_pos hq] at ha; cases ha
        exact lv_if_ne hx hb hd KT (fun z => absurd hq z) (fun _ => K1 rfl)
      · rw [if_neg hq] at ha; cases ha
        exact lv_if_ne hx hb hd KT (fun _ => K2 _ rfl) (fun z => absurd z hq)
    · rename_i x r
      by_cases hq : x < 0
      · rw [if_pos hq] at ha; cases ha
        exact lv_if_lt hx hb hd KT (fun _ => K2 _ rfl) (fun z => absurd hq z)
      · rw [if_neg hq] at ha; cases ha
        exact lv_if_lt hx hb hd KT (fun z => absurd z hq) (fun _ => K1 rfl)
    · rename_i x r
      by_cases hq : 0 ≤ x
      · rw [if_pos hq] at ha; cases ha
        exact lv_if_ge hx hb hd KT (fun _ => K2 _ rfl) (fun z => absurd hq z)
      · rw [if_neg hq] at ha; cases ha
        exact lv_if_ge hx hb hd KT (fun z => absurd z hq) (fun _ => K1 rfl)
    · rename_i x r
      by_cases hq : 0 < x
      · rw [if_pos hq] at ha; cases ha
        exact lv_if_gt hx hb hd KT (fun _ => K2 _ rfl) (fun z => absurd hq z)
      · rw [if_neg hq] at ha; cases ha
        exact lv_if_gt hx hb hd KT (fun z => absurd z hq) (fun _ => K1 rfl)
    · rename_i x r
      by_cases hq : x ≤ 0
      · rw [if_pos hq] at ha; cases ha
        exact lv_if_le hx hb hd KT (fun _ => K2 _ rfl) (fun z => absurd hq z)
      · rw [if_neg hq] at ha; cases ha
        exact lv_if_le hx hb hd KT (fun z => absurd z hq) (fun _ => K1 rfl)
  case if_icmp cd off =>
    cases (of_decide_eq_true hl : len = 3)
    have KT := N off (of_decide_eq_true ht)
    cases cd <;> simp only [xe_br] at ha <;> (split at ha; rotate_left; cases ha)
    · rename_i y x r
      by_cases hq : x = y
      · rw [if_pos hq] at ha; cases ha
        exact lv_icmp_eq hx hb hd KT (fun _ => K2 _ rfl) (fun z => absurd hq z)
      · rw [if_neg hq] at ha; cases ha
        exact lv_icmp_eq hx hb hd KT (fun z => absurd z hq) (fun _ => K1 rfl)
    · rename_i y x r
      by_cases hq : x = y
      · rw [if_pos hq] at ha; cases ha
        exact lv_icmp_ne hx hb hd KT (fun z => absurd hq z) (fun _ => K1 rfl)
      · rw [if_neg hq] at ha; cases ha
        exact lv_icmp_ne hx hb hd KT (fun _ => K2 _ rfl) (fun z => absurd z hq)
    · rename_i y x r
      by_cases hq : x < y
      · rw [if_pos hq] at ha; cases ha
        exact lv_icmp_lt hx hb hd KT (fun _ => K2 _ rfl) (fun z => absurd hq z)
      · rw [if_neg hq] at ha; cases ha
        exact lv_icmp_lt hx hb hd KT (fun z => absurd z hq) (fun _ => K1 rfl)
    · rename_i y x r
      by_cases hq : y ≤ x
      · rw [if_pos hq] at ha; cases ha
        exact lv_icmp_ge hx hb hd KT (fun _ => K2 _ rfl) (fun z => absurd hq z)
      · rw [if_neg hq] at ha; cases ha
        exact lv_icmp_ge hx hb hd KT (fun z => absurd z hq) (fun _ => K1 rfl)
    · rename_i y x r
      by_cases hq : y < x
      · rw [if_pos hq] at ha; cases ha
        exact lv_icmp_gt hx hb hd KT (fun _ => K2 _ rfl) (fun z => absurd hq z)
      · rw [if_neg hq] at ha; cases ha
        exact lv_icmp_gt hx hb hd KT (fun z => absurd z hq) (fun _ => K1 rfl)
    · rename_i y x r
      by_cases hq : x ≤ y
      · rw [if_pos hq] at ha; cases ha
        exact lv_icmp_le hx hb hd KT (fun _ => K2 _ rfl) (fun z => absurd hq z)
      · rw [if_neg hq] at ha; cases ha
        exact lv_icmp_le hx hb hd KT (fun z => absurd z hq) (fun _ => K1 rfl)
  case tableswitch d lo hi offs =>
    simp only [xe_tok, Bool.and_eq_true] at ht
    simp only [xe_br] at ha
    split at ha
    next x r =>
      split at ha
      next hq => cases ha; exact lv_tableOut hx hb hd hq (N _ (of_decide_eq_true ht.1)) (K2 _ rfl)
      next hq =>
        split at ha
        next off e1 =>
          cases ha
          have hmem : off ∈ offs.toList := by
            rw [← Array.getElem?_toList] at e1
            exact List.mem_of_getElem? e1
          exact lv_tableIn hx hb hd (fun z => hq (Or.inl z)) (fun z => hq (Or.inr z)) e1 (N _ (of_decide_eq_true (List.all_eq_true.mp ht.2 off hmem))) (K2 _ rfl)
        next => cases ha
    next => cases ha
  all_goals cases ha
end XB
