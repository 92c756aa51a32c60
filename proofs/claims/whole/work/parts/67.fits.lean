/-! rigs: the walk of those that fit -/
theorem sm_one {X : Nat → Nat} {r : Nat} : ∀ {n : Nat}, r < n → fb_sm (fun c => if c = r then X c else 0) n = X r
  | 0, h => absurd h (by omega)
  | n + 1, h => by
    rw [fb_sm_succ]
    by_cases z : r < n
    · rw [sm_one z, if_neg (by omega), Nat.add_zero]
    · have : n = r := by omega
      subst this
      rw [if_pos rfl, fb_sm_cong (g := fun _ => 0) (fun k hk => by rw [if_neg (by omega)]), fb_sm_const, Nat.mul_zero, Nat.zero_add]
theorem ct_split {A B : Nat → Bool} {R : Nat → Nat} : ∀ {N : Nat}, (∀ v, v < N → R v < 7) → fb_ct (fun v => A v && B (R v)) N = fb_sm (fun c => if B c then fb_ct (fun v => A v && decide (R v = c)) N else 0) 7
  | 0, _ => by
    rw [fb_sm_cong (g := fun _ => 0) (fun c _ => by split <;> rfl), fb_sm_const]
    rfl
  | N + 1, h => by
    have hN := h N (by omega)
    rw [fb_ct_succ, ct_split (A := A) (B := B) (fun v hv => h v (by omega))]
    have e1 : ∀ c, c < 7 → (if B c then fb_ct (fun v => A v && decide (R v = c)) (N + 1) else 0) = (if B c then fb_ct (fun v => A v && decide (R v = c)) N else 0) + (if c = R N then (if A N && B c then 1 else 0) else 0) := by
      intro c hc
      rw [fb_ct_succ]
      by_cases z : c = R N
      · rw [if_pos z, decide_eq_true z.symm, Bool.and_true]
        cases B c <;> cases A N <;> simp
      · rw [if_neg z, decide_eq_false (show ¬ R N = c from fun y => z y.symm), Bool.and_false]
        cases B c <;> simp
    rw [fb_sm_cong (g := fun c => (if B c then fb_ct (fun v => A v && decide (R v = c)) N else 0) + (if c = R N then (fun c => if A N && B c then 1 else 0) c else 0)) e1, fb_sm_add, sm_one hN]
theorem hgk_up {n : Nat} {hg : Nat → Nat} {x c : Nat} (hk : hgk n hg) (hc : mh n x c) : hgk n (up hg x c) := by
  intro b hb
  by_cases z : b = x
  · rw [z, up_eq]; exact Or.inr hc
  · rw [up_ne z]; exact hk b hb
theorem mh_7 {n b c : Nat} (hn : n ≤ 6) (h : mh n b c) : c < 7 := by unfold mh at h; omega
/-- what is told of a look is what the rigs tell -/
theorem tn_ct {o : Bool} {hd n x y : Nat} {f hg : Nat → Nat} (hn : n ≤ 6) (hk : hgk n hg) (hx : x = 6 ∨ x < n) : tn o hd f hg n (pr n hg n) x y = fb_ct (fun v => ag n hg v && (decide (x = 6 ∨ f x = 0) && tq o hd f x (rv n v x) y)) (n ^ n) := by
  unfold tn
  by_cases x6 : x = 6
  · subst x6
    rw [if_pos rfl]
    have e : ∀ c, tq o hd f 6 c y = tq o hd f 6 0 y := fun c => by unfold tq stp; simp only [↓reduceIte]
    by_cases z : tq o hd f 6 0 y = true
    · rw [if_pos z, ← ag_ct hn hk]
      refine fb_ct_cong (fun v _ => ?_)
      rw [e, z]; simp
    · rw [if_neg z]
      refine (fb_ct_zero.mpr (fun v _ => ?_)).symm
      rw [e]
      cases h : tq o hd f 6 0 y with
      | true => exact absurd h z
      | false => simp
  · have hx' := hx.resolve_left x6
    rw [if_neg x6]
    by_cases fx : f x = 0
    · rw [if_pos fx]
      by_cases h7 : hg x = 7
      · rw [if_pos h7]
        have e1 : fb_ct (fun v => ag n hg v && (decide (x = 6 ∨ f x = 0) && tq o hd f x (rv n v x) y)) (n ^ n) = fb_ct (fun v => ag n hg v && (fun c => tq o hd f x c y) (rv n v x)) (n ^ n) := fb_ct_cong (fun v _ => by rw [decide_eq_true (Or.inr fx), Bool.true_and])
        rw [e1, ct_split (B := fun c => tq o hd f x c y) (fun v _ => Nat.lt_succ_of_le (rv_6 hn hx'))]
        unfold tni
        refine fb_sm_cong (fun c hc => ?_)
        by_cases m : mh n x c
        · rw [@decide_eq_true _ (mhD n x c) m, Bool.true_and]
          by_cases z : tq o hd f x c y = true
          · rw [if_pos z, if_pos z]
            have h8 := (pr_up (n := n) h7 (show c ≠ 7 by omega) n).1 hx'
            rw [← h8, Nat.mul_div_cancel _ (by omega), ← ag_ct hn (hgk_up hk m)]
            refine fb_ct_cong (fun v _ => ?_)
            have := ag_up (v := v) hx' h7 (show c ≠ 7 by omega)
            cases h1 : ag n (up hg x c) v with
            | true =>
              obtain ⟨q1, q2⟩ := this.mp h1
              rw [q1, decide_eq_true q2]; rfl
            | false =>
              cases h2 : ag n hg v with
              | false => rfl
              | true =>
                rw [Bool.true_and]
                refine (decide_eq_false (fun q => ?_)).symm
                have := this.mpr ⟨h2, q⟩
                rw [h1] at this
                cases this
          · rw [if_neg z, if_neg z]
        · rw [@decide_eq_false _ (mhD n x c) m, Bool.false_and]
          have e0 : fb_ct (fun v => ag n hg v && decide (rv n v x = c)) (n ^ n) = 0 := fb_ct_zero.mpr (fun v _ => by
            rw [decide_eq_false (fun q => m (by rw [← q]; exact rv_mh hn hx')), Bool.and_false])
          rw [e0]
          simp
      · rw [if_neg h7]
        have e : ∀ v, v < n ^ n → (ag n hg v && (decide (x = 6 ∨ f x = 0) && tq o hd f x (rv n v x) y)) = (ag n hg v && tq o hd f x (hg x) y) := fun v _ => by
          rw [decide_eq_true (Or.inr fx), Bool.true_and]
          cases h1 : ag n hg v with
          | false => rfl
          | true => rw [ag_t h1 hx' h7]
        rw [fb_ct_cong e]
        by_cases z : tq o hd f x (hg x) y = true
        · rw [if_pos z, ← ag_ct hn hk]
          exact fb_ct_cong (fun v _ => by rw [z, Bool.and_true])
        · rw [if_neg z]
          refine (fb_ct_zero.mpr (fun v _ => ?_)).symm
          cases h : tq o hd f x (hg x) y with
          | true => exact absurd h z
          | false => rw [Bool.and_false]
    · rw [if_neg fx]
      refine (fb_ct_zero.mpr (fun v _ => ?_)).symm
      rw [decide_eq_false (by omega), Bool.false_and, Bool.and_false]
/-- the least that may hang -/
def lo (n b : Nat) : Nat := if 0 < b then 0 else if 1 < n then 1 else 6
def rlo (n : Nat) (hg : Nat → Nat) : Nat → Nat := fun b => if hg b = 7 then lo n b else hg b
theorem lo_mh {n b : Nat} (hb : b < n) : mh n b (lo n b) := by
  unfold lo mh
  split
  · right; omega
  · split
    · right; omega
    · exact Or.inl rfl
theorem lo_le {n b c : Nat} (hb : b < n) (h : mh n b c) : lo n b ≤ c := by
  unfold mh at h
  unfold lo
  split
  · omega
  · split <;> omega
theorem rlo_mh {n : Nat} {hg : Nat → Nat} (hk : hgk n hg) {b : Nat} (hb : b < n) : mh n b (rlo n hg b) := by
  unfold rlo
  split
  · exact lo_mh hb
  · rename_i z
    exact (hk b hb).resolve_left z
theorem ag_least {n : Nat} {hg : Nat → Nat} (hn : n ≤ 6) (hk : hgk n hg) : ∃ v, v < n ^ n ∧ ag n hg v = true ∧ nm (rv n v) n = nm (rlo n hg) n ∧ ∀ u, ag n hg u = true → nm (rlo n hg) n ≤ nm (rv n u) n := by
  obtain ⟨v, h1, h2⟩ := rv_onto (r := rlo n hg) hn (fun b hb => rlo_mh hk hb)
  refine ⟨v, h1, decide_eq_true (fun b hb => ?_), nm_c h2, fun u hu => nm_le (fun b hb => ?_)⟩
  · by_cases z : hg b = 7
    · exact Or.inl z
    · right; rw [h2 b hb]; unfold rlo; rw [if_neg z]
  · unfold rlo
    split
    · exact lo_le hb (rv_mh hn hb)
    · rename_i z
      rw [ag_t hu hb z]
      exact Nat.le_refl _
/-- what can hang on one, as bits -/
def mk (n : Nat) (hg : Nat → Nat) (b : Nat) : Nat := if hg b = 7 then 2 ^ n - 1 - 2 ^ b + 64 else 2 ^ hg b
theorem mk_b : ∀ n, n < 7 → ∀ b, b < n → ∀ c, c < 7 → ((2 ^ n - 1 - 2 ^ b + 64).testBit c = @decide (mh n b c) (mhD n b c)) := by decide
theorem p2_b : ∀ a, a < 7 → ∀ c, c < 7 → ((2 ^ a).testBit c = decide (c = a)) := by decide
theorem mk_i : ∀ n, n < 7 → ∀ b, b < n → ((((1 : Int32) <<< (nI n &&& 31)) - 1) &&& (((1 : Int32) <<< (nI b &&& 31)) ^^^ (-1))) ||| 64 = nI (2 ^ n - 1 - 2 ^ b + 64) ∧ 2 ^ n - 1 - 2 ^ b + 64 < 128 := by decide
theorem p2_i : ∀ a, a < 7 → (1 : Int32) <<< (nI a &&& 31) = nI (2 ^ a) ∧ 2 ^ a < 128 := by decide
