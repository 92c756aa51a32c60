section XM
variable {p : Program} {l : Launch} {e : Env} {R : Room} {s : State} {m : MethodId} {args : Array Value} {below : List Frame} {meth : Method} {c : Code} {Q : State → Prop} {D : va_G} {B : Nat} {sv : Nat → Value} {cy : Nat → ClassId} {L : Nat} {xs : Nat → Int32} {n0 z0 nL y : Nat} {pc len : Nat} {ins : Instr} {ls ls' st st' : List Value} {h h' : xe_H}
set_option maxHeartbeats 400000 in
theorem xe_ok_obj {i a : Nat} (hF : xe_Fr p s m args meth c nL y) (hG : xe_G D B sv cy L xs s) (hR : 1 ≤ R.frames ∧ 64 ≤ R.locals) (hd : decode (xe_by y) pc = .ok (.invokespecial i, 3)) (hq : xe_fC (xe_o y) i = some (4, 0) ∧ a < xe_n h ∧ xe_n h ≤ xe_S ∧ xe_w st' ≤ 8) (k : xe_Ok p l e R s m args below meth c Q D B sv cy L xs n0 z0 nL (pc + 3) ls st' h) : xe_Ok p l e R s m args below meth c Q D B sv cy L xs n0 z0 nL pc ls (.ref a :: st') h := by
  obtain ⟨hx, hb, hml, hown, hts, hnm⟩ := hF
  have hs := hG.2.2.2.2.2.2.2.2.2
  intro H locs A cells slots X I hc hz
  obtain ⟨ps, ok⟩ := xe_fC_ok hq.1
  have w1 := xe_is_in ok
  simp only [List.map_cons]
  rw [xe_mv_lo (Nat.lt_of_lt_of_le hq.2.1 hq.2.2.1)]
  refine W.objInit (g := F0 m pc A (.ref (B + a) :: st'.map (xe_mv B sv))) hx hb hown (hts _ w1) (hts _ xe_w_objInit) (hts _ xe_w_objCode) rfl (by rw [hml]; exact X.1) rfl hd hR.1 (by show 2 * 0 + _ + 12 ≤ R.locals; rw [xe_w_cat hs]; have := hq.2.2.2; omega) ?_
  exact k H locs A cells slots X I hc hz
set_option maxHeartbeats 400000 in
theorem xe_ok_mm {i : Nat} (hF : xe_Fr p s m args meth c nL y) (hG : xe_G D B sv cy L xs s) (hR : 1 ≤ R.frames ∧ 64 ≤ R.locals) (hRn : xe_n h ≤ n0 + R.cells) (hRz : xe_z h ≤ z0 + R.slots) (hd : decode (xe_by y) pc = .ok (.invokestatic i, 3)) (ha : xe_mm (xe_fC (xe_o y) i) st h = some (st', h')) (k : xe_Ok p l e R s m args below meth c Q D B sv cy L xs n0 z0 nL (pc + 3) ls st' h') : xe_Ok p l e R s m args below meth c Q D B sv cy L xs n0 z0 nL pc ls st h := by
  obtain ⟨hx, hb, hml, hown, hts, hnm⟩ := hF
  have hs := hG.2.2.2.2.2.2.2.2.2
  obtain ⟨g1, hK, -⟩ := id hG
  intro H locs A cells slots X I hc hz
  obtain ⟨I2, I3, I4⟩ := id I
  have hD := xe_W_D B sv cy h
  have hSn : xe_n h ≤ xe_S := I3.1
  unfold xe_mm at ha
  split at ha
  next e1 =>
    obtain ⟨ps, ok⟩ := xe_fC_ok e1
    have w1 := xe_is_in ok
    unfold xe_cp at ha
    split at ha
    next n dp b sp a r =>
      split at ha
      next hq =>
        obtain ⟨hw, han, hbn, c1, c2, c3, c4, c5⟩ := hq
        simp only [List.map_cons]
        rw [xe_mv_lo (Nat.lt_of_lt_of_le han hSn), xe_mv_lo (Nat.lt_of_lt_of_le hbn hSn)]
        have hlo : ((r.map (xe_mv B sv)).map fun v => v.category).sum + (nativeFrameWords "java/lang/System" "arraycopy" 5 + 11) ≤ R.locals := by
          rw [xe_w_cat hs]
          have : nativeFrameWords "java/lang/System" "arraycopy" 5 = 7 := by decide
          omega
        split at ha
        next hT =>
          cases ha
          refine va_copyi (ty := .int) hx hb (by rw [hml]; exact X.1.symm) hown (hts _ w1) (hts _ xe_w_acN) (hts _ xe_w_acS) (hts _ xe_w_sys) hK I2 hD I4 a b 0 0 (by rw [xe_W_at han, xe_E_i hT.1 (Or.inl rfl)]) (by rw [xe_W_at hbn, xe_E_i hT.2 (Or.inl rfl)]) rfl rfl rfl c1 c2 c3 c4 c5 (fun _ _ => rfl) hR.1 hlo hd (fun H1 locs1 hP1 _ hS1 => ?_)
          rw [xe_W_aI (h := h) (a := b) (f := va_cpy (xe_I h a) (xe_I h b) sp.toNatClampNeg dp.toNatClampNeg n.toNatClampNeg) (by rw [xe_E_i (h := xe_aI h b _) hT.2 (Or.inl rfl)]; exact congrArg (fun f => Sum.inl (cy 8, xe_N h b, Sum.inl f)) (if_pos rfl))] at hP1
          exact k H1 locs1 A cells slots X ⟨hP1, xe_HS_aI I3 hbn, hS1⟩ hc hz
        next =>
          split at ha
          next hT =>
            cases ha
            refine va_copyl (ty := .long) hx hb (by rw [hml]; exact X.1.symm) hown (hts _ w1) (hts _ xe_w_acN) (hts _ xe_w_acS) (hts _ xe_w_sys) hK I2 hD I4 a b 1 1 (by rw [xe_W_at han, xe_E_l hT.1]) (by rw [xe_W_at hbn, xe_E_l hT.2]) rfl rfl rfl c1 c2 c3 c4 c5 (fun _ _ => rfl) hR.1 hlo hd (fun H1 locs1 hP1 _ hS1 => ?_)
            rw [xe_W_aL (h := h) (a := b) (f := va_cpy (xe_L h a) (xe_L h b) sp.toNatClampNeg dp.toNatClampNeg n.toNatClampNeg) (by rw [xe_E_l (h := xe_aL2 h b _) hT.2]; exact congrArg (fun f => Sum.inl (cy 9, xe_N h b, Sum.inr (Sum.inl f))) (if_pos rfl))] at hP1
            exact k H1 locs1 A cells slots X ⟨hP1, xe_HS_aL I3, hS1⟩ hc hz
          next => cases ha
      next => cases ha
    next => cases ha
  next e1 =>
    obtain ⟨ps, ok⟩ := xe_fC_ok e1
    have w1 := xe_is_in ok
    split at ha
    next yv xv r =>
      split at ha
      next hw =>
        cases ha
        exact va_mmax hx hb (by rw [hml]; exact X.1.symm) hown (hts _ w1) (hts _ xe_w_maxS) (hts _ xe_w_math) (hts _ xe_w_maxC) hR.1 (by rw [xe_w_cat hs]; omega) (by omega) (by omega) hd (k H locs A cells slots X I hc hz)
      next => cases ha
    next => cases ha
  next e1 =>
    obtain ⟨ps, ok⟩ := xe_fC_ok e1
    have w1 := xe_is_in ok
    split at ha
    next yv xv r =>
      split at ha
      next hw =>
        cases ha
        exact va_mmin hx hb (by rw [hml]; exact X.1.symm) hown (hts _ w1) (hts _ xe_w_minS) (hts _ xe_w_math) (hts _ xe_w_minC) hR.1 (by rw [xe_w_cat hs]; omega) (by omega) (by omega) hd (k H locs A cells slots X I hc hz)
      next => cases ha
    next => cases ha
  next => cases ha
/-- the heap only grows -/
theorem xe_pf_n {a k : Nat} {v : Value} : xe_n (xe_pf h a k v) = xe_n h ∧ xe_z (xe_pf h a k v) = xe_z h := xe_pf_nz
set_option maxHeartbeats 1000000 in
theorem xe_hp_mono {o : Nat} {b : Bool} (ha : xe_hp o b ins st h = some (st', h')) : xe_n h ≤ xe_n h' ∧ xe_z h ≤ xe_z h' := by
  unfold xe_hp at ha
  repeat' split at ha
  all_goals first
    | (cases ha; done)
    | (cases ha; exact ⟨Nat.le_refl _, Nat.le_refl _⟩)
    | (cases ha; exact ⟨Nat.le_succ _, Nat.le_add_right _ _⟩)
    | (cases ha; rw [xe_pf_nz.1, xe_pf_nz.2]; exact ⟨Nat.le_refl _, Nat.le_refl _⟩)
theorem xe_mm_mono {q : Option (Nat × Nat)} (ha : xe_mm q st h = some (st', h')) : xe_n h' = xe_n h ∧ xe_z h' = xe_z h := by
  unfold xe_mm xe_cp at ha
  repeat' split at ha
  all_goals first
    | (cases ha; done)
    | (cases ha; exact ⟨rfl, rfl⟩)
end XM
