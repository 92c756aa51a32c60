/-! rigs: the mathematics -/
def mh (n b c : Nat) : Prop := c = 6 ∨ (c ≠ b ∧ c < n)
def mhD (n b c : Nat) : Decidable (mh n b c) := inferInstanceAs (Decidable (_ ∨ _))
/-- what hangs, by its figure -/
def rj (n b j : Nat) : Nat := if j = n - 1 then 6 else if j < b then j else j + 1
def rv (n v b : Nat) : Nat := rj n b (v / n ^ (n - 1 - b) % n)
def jr (n b c : Nat) : Nat := if c = 6 then n - 1 else if c < b then c else c - 1
theorem rj_mh {n b j : Nat} (hn : n ≤ 6) (hb : b < n) (hj : j < n) : mh n b (rj n b j) := by
  unfold rj mh
  split
  · exact Or.inl rfl
  · split <;> (right; omega)
theorem rj_jr {n b c : Nat} (hn : n ≤ 6) (hb : b < n) (hc : mh n b c) : jr n b c < n ∧ rj n b (jr n b c) = c := by
  unfold mh at hc
  unfold rj jr
  by_cases c6 : c = 6
  · rw [if_pos c6]
    exact ⟨by omega, by rw [if_pos rfl, c6]⟩
  · have hc2 := hc.resolve_left c6
    rw [if_neg c6]
    by_cases cb : c < b
    · rw [if_pos cb, if_neg (by omega), if_pos cb]
      exact ⟨by omega, rfl⟩
    · rw [if_neg cb, if_neg (by omega), if_neg (by omega)]
      exact ⟨by omega, by omega⟩
theorem rj_lt {n b j j' : Nat} (hn : n ≤ 6) (hj : j < j') (hj' : j' < n) : rj n b j < rj n b j' := by
  unfold rj
  split
  · omega
  · split
    · split
      · omega
      · split <;> omega
    · split
      · omega
      · split <;> omega
theorem rj_inj {n b j j' : Nat} (hn : n ≤ 6) (hj : j < n) (hj' : j' < n) (e : rj n b j = rj n b j') : j = j' := by
  by_cases z : j < j'
  · have := rj_lt (b := b) hn z hj'; omega
  · by_cases y : j' < j
    · have := rj_lt (b := b) hn y hj; omega
    · omega
theorem rj_6 (n b j : Nat) (hn : n ≤ 6) (hj : j < n) : rj n b j ≤ 6 := by unfold rj; split; · omega
                                                                          · split <;> omega
theorem rv_mh {n v b : Nat} (hn : n ≤ 6) (hb : b < n) : mh n b (rv n v b) := rj_mh hn hb (Nat.mod_lt _ (by omega))
theorem rv_6 {n v b : Nat} (hn : n ≤ 6) (hb : b < n) : rv n v b ≤ 6 := rj_6 n b _ hn (Nat.mod_lt _ (by omega))
/-- how many numbers have allowed figures -/
def pc (c : Nat → Nat) : Nat → Nat
  | 0 => 1
  | k + 1 => pc c k * c k
def aD (n : Nat) (p : Nat → Nat → Bool) (k v : Nat) : Bool := decide (∀ b, b < k → p b (v / n ^ (k - 1 - b) % n) = true)
theorem ct_sm (p : Nat → Bool) : ∀ n, fb_ct p n = fb_sm (fun k => if p k then 1 else 0) n
  | 0 => rfl
  | n + 1 => by rw [fb_ct_succ, fb_sm_succ, ct_sm p n]
theorem aD_s {n k u j : Nat} {p : Nat → Nat → Bool} (hj : j < n) : aD n p (k + 1) (u * n + j) = (aD n p k u && p k j) := by
  unfold aD
  have e1 : ∀ b, b < k → (u * n + j) / n ^ (k + 1 - 1 - b) % n = u / n ^ (k - 1 - b) % n := by
    intro b hb
    rw [show k + 1 - 1 - b = (k - 1 - b) + 1 by omega, Nat.pow_succ, Nat.mul_comm (n ^ (k - 1 - b)) n, ← Nat.div_div_eq_div_mul, Nat.mul_comm u n, Nat.mul_add_div (by omega), Nat.div_eq_of_lt hj, Nat.add_zero]
  have e2 : (u * n + j) / n ^ (k + 1 - 1 - k) % n = j := by
    rw [show k + 1 - 1 - k = 0 by omega, Nat.pow_zero, Nat.div_one, Nat.mul_comm, Nat.mul_add_mod, Nat.mod_eq_of_lt hj]
  cases hq : p k j with
  | true =>
    rw [Bool.and_true]
    refine decide_eq_decide.mpr ⟨fun H b hb => ?_, fun H b hb => ?_⟩
    · have := H b (by omega)
      rw [e1 b hb] at this
      exact this
    · by_cases z : b < k
      · rw [e1 b z]; exact H b z
      · have : b = k := by omega
        rw [this, e2]; exact hq
  | false =>
    rw [Bool.and_false]
    refine decide_eq_false (fun H => ?_)
    have := H k (by omega)
    rw [e2, hq] at this
    cases this
theorem aD_ct (n : Nat) (p : Nat → Nat → Bool) : ∀ k, fb_ct (aD n p k) (n ^ k) = pc (fun b => fb_ct (p b) n) k
  | 0 => by
    rw [Nat.pow_zero, fb_ct_succ, show aD n p 0 0 = true from decide_eq_true (fun b hb => absurd hb (by omega))]
    rfl
  | k + 1 => by
    have key : ∀ u, fb_sm (fun j => if aD n p (k + 1) (u * n + j) then 1 else 0) n = fb_ct (p k) n * (if aD n p k u then 1 else 0) := by
      intro u
      rw [ct_sm (p k), Nat.mul_comm (fb_sm _ n), ← sm_scale]
      refine fb_sm_cong (fun j hj => ?_)
      rw [aD_s hj]
      cases aD n p k u <;> cases p k j <;> rfl
    rw [ct_sm, Nat.pow_succ, sm_blk]
    show fb_sm (fun u => fb_sm (fun j => if aD n p (k + 1) (u * n + j) then 1 else 0) n) (n ^ k) = _
    rw [fb_sm_cong (g := fun u => fb_ct (p k) n * (if aD n p k u then 1 else 0)) (fun u _ => key u), sm_scale, ← ct_sm, aD_ct n p k, pc, Nat.mul_comm]
theorem ct_one {j0 : Nat} : ∀ {n : Nat}, j0 < n → fb_ct (fun j => decide (j = j0)) n = 1
  | 0, h => absurd h (by omega)
  | n + 1, h => by
    rw [fb_ct_succ]
    by_cases z : j0 < n
    · rw [ct_one z, decide_eq_false (show ¬ n = j0 by omega)]
      rfl
    · have : n = j0 := by omega
      rw [decide_eq_true this, fb_ct_zero.mpr (fun k hk => decide_eq_false (by omega))]
      rfl
/-- agreeing with what is told (7: untold) -/
def ag (n : Nat) (hg : Nat → Nat) (v : Nat) : Bool := decide (∀ b, b < n → hg b = 7 ∨ rv n v b = hg b)
def pr (n : Nat) (hg : Nat → Nat) : Nat → Nat := pc (fun b => if hg b = 7 then n else 1)
def hgk (n : Nat) (hg : Nat → Nat) : Prop := ∀ b, b < n → hg b = 7 ∨ mh n b (hg b)
theorem pc_c {c c' : Nat → Nat} : ∀ {k : Nat}, (∀ b, b < k → c b = c' b) → pc c k = pc c' k
  | 0, _ => rfl
  | k + 1, h => by rw [pc, pc, h k (by omega), pc_c (fun b hb => h b (by omega))]
theorem ct_true (n : Nat) : fb_ct (fun _ => true) n = n := fb_ct_all.mpr (fun _ _ => rfl)
theorem ag_ct {n : Nat} {hg : Nat → Nat} (hn : n ≤ 6) (hk : hgk n hg) : fb_ct (ag n hg) (n ^ n) = pr n hg n := by
  have e1 : ag n hg = aD n (fun b j => decide (hg b = 7 ∨ rj n b j = hg b)) n := by
    funext v
    unfold ag aD rv
    refine decide_eq_decide.mpr ⟨fun H b hb => decide_eq_true (H b hb), fun H b hb => of_decide_eq_true (H b hb)⟩
  rw [e1, aD_ct]
  refine pc_c (fun b hb => ?_)
  by_cases z : hg b = 7
  · rw [if_pos z, fb_ct_cong (q := fun _ => true) (fun j _ => decide_eq_true (Or.inl z)), ct_true]
  · rw [if_neg z]
    obtain ⟨q1, q2⟩ := rj_jr hn hb ((hk b hb).resolve_left z)
    rw [fb_ct_cong (q := fun j => decide (j = jr n b (hg b))) (fun j hj => ?_), ct_one q1]
    refine decide_eq_decide.mpr ⟨fun H => ?_, fun H => ?_⟩
    · exact rj_inj hn hj q1 ((H.resolve_left z).trans q2.symm)
    · rw [H]; exact Or.inr q2
theorem ag_t {n : Nat} {hg : Nat → Nat} {v : Nat} (h : ag n hg v = true) {b : Nat} (hb : b < n) (z : ¬ hg b = 7) : rv n v b = hg b := ((of_decide_eq_true h) b hb).resolve_left z
theorem ag_up {n : Nat} {hg : Nat → Nat} {v x c : Nat} (hx : x < n) (h7 : hg x = 7) (hc : c ≠ 7) : (ag n (up hg x c) v = true) ↔ (ag n hg v = true ∧ rv n v x = c) := by
  constructor
  · intro H
    have H' := of_decide_eq_true H
    refine ⟨decide_eq_true (fun b hb => ?_), ?_⟩
    · by_cases z : b = x
      · rw [z]; exact Or.inl h7
      · have := H' b hb
        rw [up_ne z] at this
        exact this
    · have := H' x hx
      rw [up_eq] at this
      exact this.resolve_left hc
  · rintro ⟨H1, H2⟩
    have H' := of_decide_eq_true H1
    refine decide_eq_true (fun b hb => ?_)
    by_cases z : b = x
    · rw [z, up_eq]; exact Or.inr H2
    · rw [up_ne z]; exact H' b hb
theorem pr_up {n : Nat} {hg : Nat → Nat} {x c : Nat} (h7 : hg x = 7) (hc : c ≠ 7) : ∀ k, (x < k → pr n (up hg x c) k * n = pr n hg k) ∧ (k ≤ x → pr n (up hg x c) k = pr n hg k)
  | 0 => ⟨fun h => absurd h (by omega), fun _ => rfl⟩
  | k + 1 => by
    obtain ⟨i1, i2⟩ := pr_up (n := n) h7 hc k
    have s1 : pr n (up hg x c) (k + 1) = pr n (up hg x c) k * (if up hg x c k = 7 then n else 1) := rfl
    have s2 : pr n hg (k + 1) = pr n hg k * (if hg k = 7 then n else 1) := rfl
    rw [s1, s2]
    refine ⟨fun h => ?_, fun h => ?_⟩
    · by_cases z : x = k
      · subst z
        rw [up_eq, if_neg hc, if_pos h7, i2 (Nat.le_refl _), Nat.mul_one]
      · rw [up_ne (Ne.symm z), ← i1 (by omega), Nat.mul_assoc, Nat.mul_assoc, Nat.mul_comm n]
    · rw [up_ne (by omega), i2 (by omega)]
/-- every rig has its number -/
def vn (n : Nat) (r : Nat → Nat) : Nat → Nat
  | 0 => 0
  | k + 1 => vn n r k * n + jr n k (r k)
theorem vn_ok {n : Nat} {r : Nat → Nat} (hn : n ≤ 6) (hr : ∀ b, b < n → mh n b (r b)) : ∀ k, k ≤ n → vn n r k < n ^ k ∧ ∀ b, b < k → rj n b (vn n r k / n ^ (k - 1 - b) % n) = r b
  | 0, _ => ⟨by rw [Nat.pow_zero]; exact Nat.lt_succ_self 0, fun b hb => absurd hb (by omega)⟩
  | k + 1, hk => by
    obtain ⟨i1, i2⟩ := vn_ok hn hr k (by omega)
    obtain ⟨q1, q2⟩ := rj_jr hn (show k < n by omega) (hr k (by omega))
    refine ⟨?_, fun b hb => ?_⟩
    · rw [vn, Nat.pow_succ]
      have : (vn n r k + 1) * n ≤ n ^ k * n := Nat.mul_le_mul_right n i1
      rw [Nat.succ_mul] at this
      omega
    · rw [vn]
      by_cases z : b < k
      · rw [show k + 1 - 1 - b = (k - 1 - b) + 1 by omega, Nat.pow_succ, Nat.mul_comm (n ^ (k - 1 - b)) n, ← Nat.div_div_eq_div_mul, Nat.mul_comm (vn n r k) n, Nat.mul_add_div (by omega), Nat.div_eq_of_lt q1, Nat.add_zero]
        exact i2 b z
      · have : b = k := by omega
        subst this
        rw [show b + 1 - 1 - b = 0 by omega, Nat.pow_zero, Nat.div_one, Nat.mul_comm, Nat.mul_add_mod, Nat.mod_eq_of_lt q1]
        exact q2
theorem rv_onto {n : Nat} {r : Nat → Nat} (hn : n ≤ 6) (hr : ∀ b, b < n → mh n b (r b)) : ∃ v, v < n ^ n ∧ ∀ b, b < n → rv n v b = r b := by
  obtain ⟨h1, h2⟩ := vn_ok hn hr n (Nat.le_refl _)
  exact ⟨vn n r n, h1, h2⟩
/-- a rig as a number to the base 7 -/
def nm (r : Nat → Nat) : Nat → Nat
  | 0 => 0
  | k + 1 => 7 * nm r k + r k
theorem nm_c {r r' : Nat → Nat} : ∀ {k : Nat}, (∀ b, b < k → r b = r' b) → nm r k = nm r' k
  | 0, _ => rfl
  | k + 1, h => by rw [nm, nm, h k (by omega), nm_c (fun b hb => h b (by omega))]
theorem nm_le {r r' : Nat → Nat} : ∀ {k : Nat}, (∀ b, b < k → r b ≤ r' b) → nm r k ≤ nm r' k
  | 0, _ => Nat.le_refl _
  | k + 1, h => by
    have h1 := h k (by omega)
    have h2 := nm_le (r := r) (r' := r') (k := k) (fun b hb => h b (by omega))
    rw [nm, nm]; omega
theorem nm_lt {r : Nat → Nat} : ∀ {k : Nat}, (∀ b, b < k → r b ≤ 6) → nm r k < 7 ^ k
  | 0, _ => by rw [nm, Nat.pow_zero]; exact Nat.lt_succ_self 0
  | k + 1, h => by
    have h1 := h k (by omega)
    have h2 := nm_lt (r := r) (k := k) (fun b hb => h b (by omega))
    rw [nm, Nat.pow_succ]; omega
theorem nm_dig {r : Nat → Nat} : ∀ {k : Nat}, (∀ b, b < k → r b ≤ 6) → ∀ b, b < k → nm r k / 7 ^ (k - 1 - b) % 7 = r b
  | 0, _, b, hb => absurd hb (by omega)
  | k + 1, h, b, hb => by
    have h1 := h k (by omega)
    rw [nm]
    by_cases z : b < k
    · rw [show k + 1 - 1 - b = (k - 1 - b) + 1 by omega, Nat.pow_succ, Nat.mul_comm (7 ^ (k - 1 - b)) 7, ← Nat.div_div_eq_div_mul, Nat.mul_add_div (by omega), Nat.div_eq_of_lt (show r k < 7 by omega), Nat.add_zero]
      exact nm_dig (fun b hb => h b (by omega)) b z
    · have : b = k := by omega
      subst this
      rw [show b + 1 - 1 - b = 0 by omega, Nat.pow_zero, Nat.div_one, Nat.mul_add_mod, Nat.mod_eq_of_lt (by omega)]
/-- the order by numbers is the order of rigs -/
theorem nm_mono {n v v' : Nat} (hn : n ≤ 6) (hv : v < v') (hv' : v' < n ^ n) : nm (rv n v) n < nm (rv n v') n := by
  have key : ∀ k, k ≤ n → (v / n ^ (n - k) < v' / n ^ (n - k) → nm (rv n v) k < nm (rv n v') k) ∧ (v / n ^ (n - k) = v' / n ^ (n - k) → nm (rv n v) k = nm (rv n v') k) := by
    intro k
    induction k with
    | zero =>
      intro _
      have h1 : v / n ^ n = 0 := Nat.div_eq_of_lt (by omega)
      have h2 : v' / n ^ n = 0 := Nat.div_eq_of_lt hv'
      rw [Nat.sub_zero, h1, h2]
      exact ⟨fun h => absurd h (by omega), fun _ => rfl⟩
    | succ k ih =>
      intro hk
      obtain ⟨i1, i2⟩ := ih (by omega)
      have hn0 : 0 < n := by omega
      have e : ∀ u, u / n ^ (n - (k + 1)) = n * (u / n ^ (n - k)) + u / n ^ (n - 1 - k) % n := by
        intro u
        have h1 : n - k = (n - (k + 1)) + 1 := by omega
        have h2 : u / n ^ (n - k) = u / n ^ (n - (k + 1)) / n := by rw [h1, Nat.pow_succ, ← Nat.div_div_eq_div_mul]
        rw [h2, show n - 1 - k = n - (k + 1) by omega]
        exact (Nat.div_add_mod _ _).symm
      rw [e v, e v', nm, nm]
      have m1 : v / n ^ (n - 1 - k) % n < n := Nat.mod_lt _ hn0
      have m2 : v' / n ^ (n - 1 - k) % n < n := Nat.mod_lt _ hn0
      have r1 : rv n v k = rj n k (v / n ^ (n - 1 - k) % n) := rfl
      have r2 : rv n v' k = rj n k (v' / n ^ (n - 1 - k) % n) := rfl
      rw [r1, r2]
      have b1 := rj_6 n k _ hn m1
      have b2 := rj_6 n k _ hn m2
      generalize v / n ^ (n - 1 - k) % n = j at *
      generalize v' / n ^ (n - 1 - k) % n = j' at *
      generalize v / n ^ (n - k) = A at *
      generalize v' / n ^ (n - k) = A' at *
      refine ⟨fun h => ?_, fun h => ?_⟩
      · by_cases z : A < A'
        · have := i1 z; omega
        · by_cases y : A' < A
          · have : n * (A' + 1) ≤ n * A := Nat.mul_le_mul_left n y
            rw [Nat.mul_add, Nat.mul_one] at this
            omega
          · have ea : A = A' := by omega
            have := i2 ea
            subst ea
            have := rj_lt (b := k) hn (show j < j' by omega) m2
            omega
      · by_cases z : A < A'
        · have : n * (A + 1) ≤ n * A' := Nat.mul_le_mul_left n z
          rw [Nat.mul_add, Nat.mul_one] at this
          omega
        · by_cases y : A' < A
          · have : n * (A' + 1) ≤ n * A := Nat.mul_le_mul_left n y
            rw [Nat.mul_add, Nat.mul_one] at this
            omega
          · have ea : A = A' := by omega
            have := i2 ea
            subst ea
            have : j = j' := by omega
            subst this
            omega
  have := (key n (Nat.le_refl _)).1
  rw [Nat.sub_self, Nat.pow_zero, Nat.div_one, Nat.div_one] at this
  exact this hv
