section XR
variable {p : Program} {l : Launch} {e : Env} {R : Room} {s : State} {m : MethodId} {args : Array Value} {below : List Frame} {meth : Method} {c : Code} {Q : State → Prop} {D : va_G} {B : Nat} {sv : Nat → Value} {cy : Nat → ClassId} {L : Nat} {xs : Nat → Int32} {n0 z0 nL y : Nat} {pc len : Nat} {ins : Instr} {ls ls' st st' : List Value} {h h' : xe_H}
theorem xe_ok_hp (hF : xe_Fr p s m args meth c nL y) (hG : xe_G D B sv cy L xs s) (hd : decode (xe_by y) pc = .ok (ins, len)) (hl : xe_lok ins len = true) (ha : xe_hp (xe_o y) ((xe_nm y).name == "<init>") ins st h = some (st', h')) (h0 : s.heap.size = B + n0) (hRn : xe_n h' ≤ n0 + R.cells) (hRz : xe_z h' ≤ z0 + R.slots) (k : xe_Ok p l e R s m args below meth c Q D B sv cy L xs n0 z0 nL (pc + len) ls st' h') : xe_Ok p l e R s m args below meth c Q D B sv cy L xs n0 z0 nL pc ls st h := by
  cases ins
  case ldc i => cases (of_decide_eq_true hl : len = 2); exact xe_ok_ldc hF hG hd ha k
  case getstatic i => cases (of_decide_eq_true hl : len = 3); exact xe_ok_gets hF hG hd ha k
  case getfield i => cases (of_decide_eq_true hl : len = 3); exact xe_ok_getf hF hG hd ha k
  case putfield i => cases (of_decide_eq_true hl : len = 3); exact xe_ok_putf hF hG hd ha k
  case iaload => cases (of_decide_eq_true hl : len = 1); exact xe_ok_iald hF hG hd ha k
  case baload => cases (of_decide_eq_true hl : len = 1); exact xe_ok_bald hF hG hd ha k
  case laload => cases (of_decide_eq_true hl : len = 1); exact xe_ok_lald hF hG hd ha k
  case aaload => cases (of_decide_eq_true hl : len = 1); exact xe_ok_aald hF hG hd ha k
  case iastore => cases (of_decide_eq_true hl : len = 1); exact xe_ok_iast hF hG hd ha k
  case bastore => cases (of_decide_eq_true hl : len = 1); exact xe_ok_bast hF hG hd ha k
  case lastore => cases (of_decide_eq_true hl : len = 1); exact xe_ok_last hF hG hd ha k
  case aastore => cases (of_decide_eq_true hl : len = 1); exact xe_ok_aast hF hG hd ha k
  case arraylength => cases (of_decide_eq_true hl : len = 1); exact xe_ok_alen hF hG hd ha k
  case newarray t => cases (of_decide_eq_true hl : len = 2); exact xe_ok_newa hF hG hd ha h0 hRn hRz k
  case anewarray i => cases (of_decide_eq_true hl : len = 3); exact xe_ok_newq hF hG hd ha h0 hRn hRz k
  case new i => cases (of_decide_eq_true hl : len = 3); exact xe_ok_new hF hG hd ha h0 hRn hRz k
  case ldc2_w i =>
    cases (of_decide_eq_true hl : len = 3)
    obtain ⟨hx, hb, hml, hown, hts, hnm⟩ := hF
    intro H locs A cells slots X I hc hz
    simp only [xe_hp] at ha
    split at ha
    next v e1 => cases ha; exact lv_ldc2 hx hb hown (hts _ (xe_fJ_ok e1)) hd (k H locs A cells slots X I hc hz)
    next => cases ha
  all_goals cases ha
theorem xe_one_cases {call : Nat → List Value → xe_H → Option xe_A} {q : xe_X ⊕ xe_A} (ho : xe_one call y pc ins len ls st h = some q) :
    (∃ st', xe_ar ins st = some st' ∧ q = .inl (pc + len, ls, st', h)) ∨
    (∃ ls' st', xe_lo ins ls st = some (ls', st') ∧ q = .inl (pc + len, ls', st', h)) ∨
    (∃ o st', xe_br ins st = some (o, st') ∧ ((o = none ∧ q = .inl (pc + len, ls, st', h)) ∨ ∃ off, o = some off ∧ q = .inl (((pc : Int) + off).toNat, ls, st', h))) ∨
    (∃ st' h', xe_hp (xe_o y) ((xe_nm y).name == "<init>") ins st h = some (st', h') ∧ q = .inl (pc + len, ls, st', h')) ∨
    (∃ v, xe_rv (xe_rt y) ins st = some v ∧ q = .inr (v, h)) ∨
    (∃ z as st' v h', xe_ca (xe_o y) ins st h = some (z, as, st') ∧ call z as h = some (v, h') ∧ q = .inl (pc + len, ls, v.toList ++ st', h')) ∨
    (∃ i a st', ins = .invokespecial i ∧ st = .ref a :: st' ∧ (xe_fC (xe_o y) i = some (4, 0) ∧ a < xe_n h ∧ xe_n h ≤ xe_S ∧ xe_w st' ≤ 8) ∧ q = .inl (pc + len, ls, st', h)) ∨
    (∃ i st' h', ins = .invokestatic i ∧ xe_mm (xe_fC (xe_o y) i) st h = some (st', h') ∧ q = .inl (pc + len, ls, st', h')) := by
  unfold xe_one at ho
  split at ho
  next st1 e1 => cases ho; exact Or.inl ⟨_, e1, rfl⟩
  next =>
    split at ho
    next l1 s1 e1 => cases ho; exact Or.inr (Or.inl ⟨_, _, e1, rfl⟩)
    next =>
      split at ho
      next s1 e1 => cases ho; exact Or.inr (Or.inr (Or.inl ⟨_, _, e1, Or.inl ⟨rfl, rfl⟩⟩))
      next off s1 e1 => cases ho; exact Or.inr (Or.inr (Or.inl ⟨_, _, e1, Or.inr ⟨_, rfl, rfl⟩⟩))
      next =>
        split at ho
        next s1 h1 e1 => cases ho; exact Or.inr (Or.inr (Or.inr (Or.inl ⟨_, _, e1, rfl⟩)))
        next =>
          split at ho
          next v e1 => cases ho; exact Or.inr (Or.inr (Or.inr (Or.inr (Or.inl ⟨_, e1, rfl⟩))))
          next =>
            split at ho
            next z as s1 e1 =>
              split at ho
              next v h1 e2 => cases ho; exact Or.inr (Or.inr (Or.inr (Or.inr (Or.inr (Or.inl ⟨_, _, _, _, _, e1, e2, rfl⟩)))))
              next h1 e2 => cases ho; exact Or.inr (Or.inr (Or.inr (Or.inr (Or.inr (Or.inl ⟨_, _, _, _, _, e1, e2, rfl⟩)))))
              next => cases ho
            next =>
              split at ho
              next i a s1 =>
                split at ho
                next hq => cases ho; exact Or.inr (Or.inr (Or.inr (Or.inr (Or.inr (Or.inr (Or.inl ⟨_, _, _, rfl, rfl, hq, rfl⟩))))))
                next => cases ho
              next i s1 =>
                split at ho
                next s2 h1 e1 => cases ho; exact Or.inr (Or.inr (Or.inr (Or.inr (Or.inr (Or.inr (Or.inr ⟨_, _, _, rfl, e1, rfl⟩))))))
                next => cases ho
              next => cases ho
theorem xe_one_mono {call : Nat → List Value → xe_H → Option xe_A} (hcall : ∀ z as h r, call z as h = some r → xe_n h ≤ xe_n r.2 ∧ xe_z h ≤ xe_z r.2) {x : xe_X} (ho : xe_one call y pc ins len ls st h = some (.inl x)) : xe_n h ≤ xe_n x.2.2.2 ∧ xe_z h ≤ xe_z x.2.2.2 := by
  rcases xe_one_cases ho with ⟨_, _, q⟩ | ⟨_, _, _, q⟩ | ⟨_, _, _, ⟨_, q⟩ | ⟨_, _, q⟩⟩ | ⟨_, _, e1, q⟩ | ⟨_, _, q⟩ | ⟨_, _, _, _, _, _, e1, q⟩ | ⟨_, _, _, _, _, _, q⟩ | ⟨_, _, _, _, e1, q⟩
  · cases q; exact ⟨Nat.le_refl _, Nat.le_refl _⟩
  · cases q; exact ⟨Nat.le_refl _, Nat.le_refl _⟩
  · cases q; exact ⟨Nat.le_refl _, Nat.le_refl _⟩
  · cases q; exact ⟨Nat.le_refl _, Nat.le_refl _⟩
  · cases q; exact xe_hp_mono e1
  · cases q
  · cases q; exact hcall _ _ _ _ e1
  · cases q; exact ⟨Nat.le_refl _, Nat.le_refl _⟩
  · cases q; obtain ⟨q1, q2⟩ := xe_mm_mono e1; dsimp only; rw [q1, q2]; exact ⟨Nat.le_refl _, Nat.le_refl _⟩
theorem xe_run_grow {call : Nat → List Value → xe_H → Option xe_A} (hcall : ∀ z as h r, call z as h = some r → xe_n h ≤ xe_n r.2 ∧ xe_z h ≤ xe_z r.2) : ∀ (F pc : Nat) (ls st : List Value) (h : xe_H) (r : xe_A), xe_run call y F pc ls st h = some r → xe_n h ≤ xe_n r.2 ∧ xe_z h ≤ xe_z r.2 := by
  intro F
  induction F with
  | zero => intro pc ls st h r hr; simp [xe_run] at hr
  | succ F ih =>
    intro pc ls st h r hr
    simp only [xe_run] at hr
    split at hr
    next => cases hr
    next ins len e1 =>
      split at hr
      next => cases hr
      next a e2 =>
        cases hr
        rcases xe_one_cases e2 with ⟨_, _, q⟩ | ⟨_, _, _, q⟩ | ⟨_, _, _, ⟨_, q⟩ | ⟨_, _, q⟩⟩ | ⟨_, _, _, q⟩ | ⟨_, _, q⟩ | ⟨_, _, _, _, _, _, _, q⟩ | ⟨_, _, _, _, _, _, q⟩ | ⟨_, _, _, _, _, q⟩ <;> cases q
        exact ⟨Nat.le_refl _, Nat.le_refl _⟩
      next x e2 =>
        have h1 := xe_one_mono hcall e2
        have h2 := ih _ _ _ _ _ hr
        exact ⟨Nat.le_trans h1.1 h2.1, Nat.le_trans h1.2 h2.2⟩
theorem xe_ex_grow : ∀ (d z : Nat) (as : List Value) (h : xe_H) (r : xe_A), xe_ex d z as h = some r → xe_n h ≤ xe_n r.2 ∧ xe_z h ≤ xe_z r.2 := by
  intro d
  induction d with
  | zero => intro z as h r hr; cases hr
  | succ d ih =>
    intro z as h r hr
    obtain ⟨-, F, hF⟩ := (xe_ex_iff d z as h r).mp hr
    exact xe_run_grow ih F _ _ _ _ _ hF
theorem xe_ca_lt {o z : Nat} {as : List Value} (ha : xe_ca o ins st h = some (z, as, st')) : z < 219 := by
  unfold xe_ca at ha
  split at ha
  next i =>
    split at ha
    next k y e1 =>
      split at ha
      next hq =>
        cases ha
        obtain ⟨ps, ok⟩ := xe_fC_ok e1
        rw [hq.1] at ok
        simp only [xe_okC, Bool.and_eq_true, decide_eq_true_eq] at ok
        exact ok.1.1.1
      next => cases ha
    next => cases ha
  next i =>
    split at ha
    next k y e1 =>
      split at ha
      next =>
        split at ha
        next hq =>
          cases ha
          obtain ⟨ps, ok⟩ := xe_fC_ok e1
          rw [hq.1] at ok
          simp only [xe_okC, Bool.and_eq_true, decide_eq_true_eq] at ok
          exact ok.1.1.1.1
        next => cases ha
      next => cases ha
    next => cases ha
  next i =>
    split at ha
    next k y e1 =>
      split at ha
      next =>
        split at ha
        next hq =>
          cases ha
          obtain ⟨ps, ok⟩ := xe_fC_ok e1
          rcases hq.1 with q | q <;> rw [q] at ok <;> simp only [xe_okC, Bool.and_eq_true, decide_eq_true_eq] at ok
          · exact ok.1.1.1.1.1
          · exact ok.1.1.1.1.1
        next => cases ha
      next => cases ha
    next => cases ha
  next => cases ha
/-- the whole run of a method is followed -/
theorem xe_follow {d : Nat} {r : xe_A} (IH : ∀ z as h r, z < 219 → xe_ex d z as h = some r → xe_Met l D B sv cy L xs d z as h r) (hF : xe_Fr p s m args meth c nL y) (hG : xe_G D B sv cy L xs s) (h0 : s.heap.size = B + n0) (hR : d + 1 ≤ R.frames ∧ 64 * d + 64 ≤ R.locals) (hRn : xe_n r.2 ≤ n0 + R.cells) (hRz : xe_z r.2 ≤ z0 + R.slots)
    (hret : ∀ (H : Heap) (locs : List Loc) (A : Array Slot) (cells slots pc len : Nat) (ins : Instr) (st : List Value), decode (xe_by y) pc = .ok (ins, len) → xe_lok ins len = true → xe_rv (xe_rt y) ins st = some r.1 → xe_In s D B sv cy L xs r.2 H locs → cells + n0 = xe_n r.2 → slots + z0 = xe_z r.2 → W p l e R s m args below meth c H locs cells slots Q (F0 m pc A (st.map (xe_mv B sv)))) :
    ∀ (F pc : Nat) (ls st : List Value) (h : xe_H), xe_run (xe_ex d) y F pc ls st h = some r → xe_Ok p l e R s m args below meth c Q D B sv cy L xs n0 z0 nL pc ls st h := by
  have hs := hG.2.2.2.2.2.2.2.2.2
  intro F
  induction F with
  | zero => intro pc ls st h hr; simp [xe_run] at hr
  | succ F ih =>
    intro pc ls st h hr
    simp only [xe_run] at hr
    split at hr
    next => cases hr
    next ins len e1 =>
      obtain ⟨hd, hl, ht⟩ := xe_code_ok e1
      split at hr
      next => cases hr
      next a e2 =>
        cases hr
        rcases xe_one_cases e2 with ⟨_, _, q⟩ | ⟨_, _, _, q⟩ | ⟨_, _, _, ⟨_, q⟩ | ⟨_, _, q⟩⟩ | ⟨_, _, _, q⟩ | ⟨v, ev, q⟩ | ⟨_, _, _, _, _, _, _, q⟩ | ⟨_, _, _, _, _, _, q⟩ | ⟨_, _, _, _, _, q⟩ <;> cases q
        intro H locs A cells slots X I hc hz
        exact hret H locs A cells slots pc len ins st hd hl ev I hc hz
      next x e2 =>
        have hk := ih _ _ _ _ hr
        have hg := xe_run_grow (xe_ex_grow d) F _ _ _ _ _ hr
        rcases xe_one_cases e2 with ⟨_, e3, q⟩ | ⟨_, _, e3, q⟩ | ⟨o, _, e3, q⟩ | ⟨_, _, e3, q⟩ | ⟨v, ev, q⟩ | ⟨z, as, st1, v, h1, e3, e4, q⟩ | ⟨_, _, _, rfl, rfl, e3, q⟩ | ⟨_, _, _, rfl, e3, q⟩
        · cases q; exact xe_ok_ar hF hs hd hl e3 hk
        · cases q; exact xe_ok_lo hF hs hd hl e3 hk
        · rcases q with ⟨q1, q⟩ | ⟨off, q1, q⟩
          · cases q
            exact xe_ok_br hF hd hl ht e3 (fun _ => hk) (fun off q2 => by rw [q1] at q2; cases q2)
          · cases q
            exact xe_ok_br hF hd hl ht e3 (fun q2 => by rw [q1] at q2; cases q2) (fun off2 q2 => by rw [q1] at q2; cases q2; exact hk)
        · cases q; exact xe_ok_hp hF hG hd hl e3 h0 (Nat.le_trans hg.1 hRn) (Nat.le_trans hg.2 hRz) hk
        · cases q
        · cases q
          exact xe_ok_ca hF hG h0 hR (Nat.le_trans hg.1 hRn) (Nat.le_trans hg.2 hRz) hd hl e3 (IH z as h (v, h1) (xe_ca_lt e3) e4) hk
        · cases q
          cases (of_decide_eq_true hl : len = 3)
          exact xe_ok_obj hF hG ⟨by omega, by omega⟩ hd e3 hk
        · cases q
          cases (of_decide_eq_true hl : len = 3)
          obtain ⟨q1, q2⟩ := xe_mm_mono e3
          exact xe_ok_mm hF hG ⟨by omega, by omega⟩ (by rw [← q1]; exact Nat.le_trans hg.1 hRn) (by rw [← q2]; exact Nat.le_trans hg.2 hRz) hd e3 hk
end XR
