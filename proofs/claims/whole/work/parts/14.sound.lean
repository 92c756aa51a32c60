/-- an answer leaves the method -/
theorem xe_char {x : Int32} (h1 : ¬ x < 0) (h2 : x ≤ 255) : narrow .char (.int x) = .int x := by
  obtain ⟨j, hj, rfl⟩ := nI_of2 (M := 255) (n := 255) (by decide) h1 h2
  exact (pk_charN (by omega)).1
set_option maxHeartbeats 1000000 in
/-- EVERY METHOD OF THE PROGRAM: what the small machine says of it, the model's machine does -/
theorem xe_sound (l : Launch) (D : va_G) (B : Nat) (sv : Nat → Value) (cy : Nat → ClassId) (L : Nat) (xs : Nat → Int32) : ∀ (d z : Nat) (as : List Value) (h : xe_H) (r : xe_A), z < 219 → xe_ex d z as h = some r → xe_Met l D B sv cy L xs d z as h r := by
  intro d
  induction d with
  | zero => intro z as h r _ hr; cases hr
  | succ d ih =>
    intro z as h r hz hr
    obtain ⟨hlen, F, hF⟩ := (xe_ex_iff d z as h r).mp hr
    obtain ⟨g1, g2⟩ := xe_ex_grow (d + 1) z as h r hr
    obtain ⟨b1, b2, b3, b4, b5, b6⟩ := xe_nm_ok (z := z) (by omega)
    refine ⟨xe_n r.2 - xe_n h, xe_z r.2 - xe_z h, by omega, by omega, ?_⟩
    refine Met.ofW (cc := xe_by z) (maxL := xe_ml z) (ret := xe_rt z) b1 rfl ?_
    intro p e s m args below meth c s₁ Bd hml hv
    obtain ⟨rfl, hG, hsz, hP, hHS⟩ := hv
    have hs := hG.2.2.2.2.2.2.2.2.2
    have hx := Bd.exec
    have hb := Bd.bytes
    have hr0 := Bd.returns
    have hlocks := Bd.notSynchronized
    have hts0 := atoms_spec (ws := xe_ws z) Bd.pre
    have hts : ∀ w ∈ xe_tbl, w.before (as.map (xe_mv B sv)).toArray s = true := fun w hw => hts0 w (List.mem_cons_of_mem _ hw)
    have hown : s.vm.findClass (xe_on (xe_o z)) = some m.cls := by rw [← b2]; exact findClass_of_methodNamed Bd.named
    have hFr : xe_Fr p s m (as.map (xe_mv B sv)).toArray meth c (xe_ml z) z := ⟨hx, hb, hml, hown, hts, fun q => (name_of_methodNamed Bd.named Bd.method).1.trans q⟩
    rw [lg_entry_eq]
    refine xe_follow (n0 := xe_n h) (z0 := xe_z h) (nL := xe_ml z) ih hFr hG hsz ⟨Nat.le_refl _, by show 64 * d + 64 ≤ 64 * (d + 1); omega⟩ (by show xe_n r.2 ≤ xe_n h + (xe_n r.2 - xe_n h); omega) (by show xe_z r.2 ≤ xe_z h + (xe_z r.2 - xe_z h); omega) ?_ F 0 _ [] h hF s.heap [] _ 0 0 (xe_XL_entry hs hlen) ⟨hP, hHS, va_S.rf⟩ (Nat.zero_add _) (Nat.zero_add _)
    intro H locs A cells slots pc len ins st hd hl hrv I hc hzz
    obtain ⟨I2, I3, I4⟩ := I
    have e1 : xe_n r.2 - xe_n h = cells := by omega
    have e2 : xe_z r.2 - xe_z h = slots := by omega
    rw [e1, e2]
    have hq : ∀ v, r.1 = v → ∀ t : State, t.heap = H → s.WarmedH t.vm → xe_Qc D B sv cy L xs r (as.map (xe_mv B sv)).toArray s (.returned (v.map (xe_mv B sv))) t := by
      intro v hv t ht _
      exact ⟨by rw [hv], by rw [ht]; exact I2, I3, I4.F ht⟩
    have hf : ∀ q ∈ locs, xe_F B q.base := I4.2.2
    have hrv' := hrv
    unfold xe_rv at hrv
    split at hrv
    next e3 =>
      cases (of_decide_eq_true hl : len = 1)
      exact W.vret hx hb (hr0.trans e3) (hq none (Option.some.inj hrv).symm) hf hd hlocks
    next x e3 =>
      cases (of_decide_eq_true hl : len = 1)
      exact W.iret hx hb (hr0.trans e3) (hq (some (.int x)) (Option.some.inj hrv).symm) hf hd hlocks
    next x e3 =>
      split at hrv
      next hb01 =>
        cases (of_decide_eq_true hl : len = 1)
        exact W.zret (ty := .boolean) hx hb (hr0.trans e3) (by rcases hb01 with rfl | rfl <;> rfl) (hq (some (.int x)) (Option.some.inj hrv).symm) hf hd hlocks
      next => cases hrv
    next x e3 =>
      split at hrv
      next hb01 =>
        cases (of_decide_eq_true hl : len = 1)
        exact W.zret (ty := .byte) hx hb (hr0.trans e3) (by rw [hb01]; rfl) (hq (some (.int x)) (Option.some.inj hrv).symm) hf hd hlocks
      next => cases hrv
    next x e3 =>
      split at hrv
      next hb01 =>
        cases (of_decide_eq_true hl : len = 1)
        exact W.zret (ty := .char) hx hb (hr0.trans e3) (xe_char hb01.1 hb01.2) (hq (some (.int x)) (Option.some.inj hrv).symm) hf hd hlocks
      next => cases hrv
    next x e3 =>
      cases (of_decide_eq_true hl : len = 1)
      exact W.lret hx hb (hr0.trans e3) (hq (some (.long x)) (Option.some.inj hrv).symm) hf hd hlocks
    next ty x e3 =>
      split at hrv
      next hb01 =>
        cases (of_decide_eq_true hl : len = 1)
        have q := hq (some (.ref x)) (Option.some.inj hrv).symm
        simp only [List.map_cons, List.map_nil]
        exact W.aret hx hb (hr0.trans e3) (Or.inr ⟨_, rfl⟩) (by rcases xe_mv_ref (B := B) hs x with ⟨t, q⟩ | q; exact Or.inr ⟨t, q⟩; exact Or.inl q) q hf hd hlocks
      next => cases hrv
    next ty x e3 =>
      split at hrv
      next hb01 =>
        cases (of_decide_eq_true hl : len = 1)
        have q := hq (some (.ref x)) (Option.some.inj hrv).symm
        simp only [List.map_cons, List.map_nil]
        exact W.aret hx hb (hr0.trans e3) (Or.inl ⟨_, rfl⟩) (by rcases xe_mv_ref (B := B) hs x with ⟨t, q⟩ | q; exact Or.inr ⟨t, q⟩; exact Or.inl q) q hf hd hlocks
      next => cases hrv
    next => cases hrv
