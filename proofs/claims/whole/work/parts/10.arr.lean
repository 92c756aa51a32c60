theorem xe_dv : ∀ ci, ci < 8 → ∀ j, j < xe_nf ci → defaultValue (xe_ty ci j) = if xe_isr (xe_ty ci j) = true then .null else .int 0 := by decide +kernel
section XA
variable {p : Program} {l : Launch} {e : Env} {R : Room} {s : State} {m : MethodId} {args : Array Value} {below : List Frame} {meth : Method} {c : Code} {Q : State → Prop} {D : va_G} {B : Nat} {sv : Nat → Value} {cy : Nat → ClassId} {L : Nat} {xs : Nat → Int32} {n0 z0 nL y : Nat} {pc len : Nat} {ins : Instr} {ls ls' st st' : List Value} {h h' : xe_H}
set_option maxHeartbeats 400000 in
theorem xe_ok_iald (hF : xe_Fr p s m args meth c nL y) (hG : xe_G D B sv cy L xs s) (hd : decode (xe_by y) pc = .ok (.iaload, 1)) (ha : xe_hp (xe_o y) ((xe_nm y).name == "<init>") (.iaload) st h = some (st', h')) (k : xe_Ok p l e R s m args below meth c Q D B sv cy L xs n0 z0 nL (pc + 1) ls st' h') : xe_Ok p l e R s m args below meth c Q D B sv cy L xs n0 z0 nL pc ls st h := by
  obtain ⟨hx, hb, hml, hown, hts, hnm⟩ := hF
  obtain ⟨g1, hK, ⟨b, gb1, gb2, gb3⟩, g4, ⟨adK, adV, g5, g5'⟩, g6, g7, g8, g9, hs⟩ := id hG
  intro H locs A cells slots X I hc hz
  obtain ⟨I2, I3, I4⟩ := id I
  have hD := xe_W_D B sv cy h
  have hSn : xe_n h ≤ xe_S := I3.1
  simp only [xe_hp] at ha
  split at ha
  next i a r =>
    split at ha
    next hq =>
      cases ha
      obtain ⟨hT, han, hi⟩ := hq
      have hi := xe_inv hi
      simp only [List.map_cons]
      rcases han with han | ⟨han, han2⟩
      · rw [xe_mv_lo (Nat.lt_of_lt_of_le han hSn)]
        exact va_iald hx hb hK I2 a 0 (by rw [xe_W_at han, xe_E_i hT (Or.inl rfl)]) rfl hi hd (k H locs A cells slots X I hc hz)
      · obtain ⟨j, rfl⟩ := Nat.exists_eq_add_of_le han
        have hj : j < 5 := Nat.lt_of_add_lt_add_left han2
        rw [xe_mv_hi]
        have kk := k H locs A cells slots X I hc hz
        by_cases h0 : j = 0
        · subst h0
          obtain ⟨-, w2, w3⟩ := I3.2.1
          simp only [Nat.add_zero] at kk hi
          rw [w2] at hi
          rw [w3] at kk
          rw [gb1]
          exact va_sld hx hb gb3 (Nat.lt_of_lt_of_le gb2 g1) (Nat.not_le.mpr gb2) I4 hi hd kk
        · obtain ⟨i0, rfl⟩ : ∃ i0, j = 1 + i0 := ⟨j - 1, by omega⟩
          obtain ⟨t, t1, t2, -⟩ := g4 i0 (by omega)
          obtain ⟨-, w2, w3⟩ := I3.2.2.1 i0 (by omega)
          rw [w2] at hi
          rw [w3] at kk
          rw [t1]
          exact va_ti hx hb t2 I4 hi rfl hd kk
    next => cases ha
  next => cases ha

set_option maxHeartbeats 400000 in
theorem xe_ok_bald (hF : xe_Fr p s m args meth c nL y) (hG : xe_G D B sv cy L xs s) (hd : decode (xe_by y) pc = .ok (.baload, 1)) (ha : xe_hp (xe_o y) ((xe_nm y).name == "<init>") (.baload) st h = some (st', h')) (k : xe_Ok p l e R s m args below meth c Q D B sv cy L xs n0 z0 nL (pc + 1) ls st' h') : xe_Ok p l e R s m args below meth c Q D B sv cy L xs n0 z0 nL pc ls st h := by
  obtain ⟨hx, hb, hml, hown, hts, hnm⟩ := hF
  obtain ⟨g1, hK, ⟨b, gb1, gb2, gb3⟩, g4, ⟨adK, adV, g5, g5'⟩, g6, g7, g8, g9, hs⟩ := id hG
  intro H locs A cells slots X I hc hz
  obtain ⟨I2, I3, I4⟩ := id I
  have hD := xe_W_D B sv cy h
  have hSn : xe_n h ≤ xe_S := I3.1
  simp only [xe_hp] at ha
  split at ha
  next i a r =>
    split at ha
    next hq =>
      cases ha
      obtain ⟨hq, hi⟩ := hq
      have hi := xe_inv hi
      simp only [List.map_cons]
      rcases hq with ⟨hT, han | ⟨han, han2⟩⟩ | ⟨hT, han⟩
      · rw [xe_mv_lo (Nat.lt_of_lt_of_le han hSn)]
        exact va_bald hx hb hK I2 a 2 (by rw [xe_W_at han, xe_E_i hT (Or.inr (Or.inl rfl))]) rfl hi hd (k H locs A cells slots X I hc hz)
      · obtain ⟨j, rfl⟩ := Nat.exists_eq_add_of_le han
        have hj : j < 7 := Nat.lt_of_add_lt_add_left (n := xe_S + 12) (Nat.lt_of_lt_of_eq han2 (by rfl))
        rw [Nat.add_assoc, xe_mv_hi]
        have kk := k H locs A cells slots X I hc hz
        obtain ⟨-, q2, -⟩ := g5' j hj
        obtain ⟨-, -, -, t2⟩ := g5.1 j hj
        obtain ⟨-, w2, w3⟩ := I3.2.2.2 j hj
        rw [Nat.add_assoc, w2] at hi
        rw [Nat.add_assoc, w3] at kk
        rw [q2]
        exact va_tb hx hb t2 I4 hi rfl hd kk
      · rw [xe_mv_lo (Nat.lt_of_lt_of_le han hSn)]
        exact va_zald hx hb hK I2 a 3 (by rw [xe_W_at han, xe_E_i hT (Or.inr (Or.inr rfl))]) rfl hi hd (k H locs A cells slots X I hc hz)
    next => cases ha
  next => cases ha

set_option maxHeartbeats 400000 in
theorem xe_ok_lald (hF : xe_Fr p s m args meth c nL y) (hG : xe_G D B sv cy L xs s) (hd : decode (xe_by y) pc = .ok (.laload, 1)) (ha : xe_hp (xe_o y) ((xe_nm y).name == "<init>") (.laload) st h = some (st', h')) (k : xe_Ok p l e R s m args below meth c Q D B sv cy L xs n0 z0 nL (pc + 1) ls st' h') : xe_Ok p l e R s m args below meth c Q D B sv cy L xs n0 z0 nL pc ls st h := by
  obtain ⟨hx, hb, hml, hown, hts, hnm⟩ := hF
  obtain ⟨g1, hK, ⟨b, gb1, gb2, gb3⟩, g4, ⟨adK, adV, g5, g5'⟩, g6, g7, g8, g9, hs⟩ := id hG
  intro H locs A cells slots X I hc hz
  obtain ⟨I2, I3, I4⟩ := id I
  have hD := xe_W_D B sv cy h
  have hSn : xe_n h ≤ xe_S := I3.1
  simp only [xe_hp] at ha
  split at ha
  next i a r =>
    split at ha
    next hq =>
      cases ha
      obtain ⟨hT, han, hi⟩ := hq
      have hi := xe_inv hi
      simp only [List.map_cons]
      rw [xe_mv_lo (Nat.lt_of_lt_of_le han hSn)]
      exact va_lald hx hb hK I2 a 1 (by rw [xe_W_at han, xe_E_l hT]) rfl hi hd (k H locs A cells slots X I hc hz)
    next => cases ha
  next => cases ha

set_option maxHeartbeats 400000 in
theorem xe_ok_aald (hF : xe_Fr p s m args meth c nL y) (hG : xe_G D B sv cy L xs s) (hd : decode (xe_by y) pc = .ok (.aaload, 1)) (ha : xe_hp (xe_o y) ((xe_nm y).name == "<init>") (.aaload) st h = some (st', h')) (k : xe_Ok p l e R s m args below meth c Q D B sv cy L xs n0 z0 nL (pc + 1) ls st' h') : xe_Ok p l e R s m args below meth c Q D B sv cy L xs n0 z0 nL pc ls st h := by
  obtain ⟨hx, hb, hml, hown, hts, hnm⟩ := hF
  obtain ⟨g1, hK, ⟨b, gb1, gb2, gb3⟩, g4, ⟨adK, adV, g5, g5'⟩, g6, g7, g8, g9, hs⟩ := id hG
  intro H locs A cells slots X I hc hz
  obtain ⟨I2, I3, I4⟩ := id I
  have hD := xe_W_D B sv cy h
  have hSn : xe_n h ≤ xe_S := I3.1
  simp only [xe_hp] at ha
  split at ha
  next i a r =>
    split at ha
    next hq =>
      obtain ⟨hT, han, hi⟩ := hq
      have hi := xe_inv hi
      split at ha
      next b0 e0 =>
        split at ha
        next hb0 =>
          cases ha
          simp only [List.map_cons]
          rw [xe_mv_lo (Nat.lt_of_lt_of_le han hSn)]
          have kk := k H locs A cells slots X I hc hz
          simp only [List.map_cons] at kk
          rw [xe_mv_lo hb0] at kk
          refine va_aldq hx hb hK I2 a 4 (by rw [xe_W_at han, xe_E_q hT]) rfl hi hd ?_
          rw [e0]
          exact kk
        next => cases ha
      next => cases ha
    next => cases ha
  next => cases ha

set_option maxHeartbeats 400000 in
theorem xe_ok_iast (hF : xe_Fr p s m args meth c nL y) (hG : xe_G D B sv cy L xs s) (hd : decode (xe_by y) pc = .ok (.iastore, 1)) (ha : xe_hp (xe_o y) ((xe_nm y).name == "<init>") (.iastore) st h = some (st', h')) (k : xe_Ok p l e R s m args below meth c Q D B sv cy L xs n0 z0 nL (pc + 1) ls st' h') : xe_Ok p l e R s m args below meth c Q D B sv cy L xs n0 z0 nL pc ls st h := by
  obtain ⟨hx, hb, hml, hown, hts, hnm⟩ := hF
  obtain ⟨g1, hK, ⟨b, gb1, gb2, gb3⟩, g4, ⟨adK, adV, g5, g5'⟩, g6, g7, g8, g9, hs⟩ := id hG
  intro H locs A cells slots X I hc hz
  obtain ⟨I2, I3, I4⟩ := id I
  have hD := xe_W_D B sv cy h
  have hSn : xe_n h ≤ xe_S := I3.1
  simp only [xe_hp] at ha
  split at ha
  next x i a r =>
    split at ha
    next hq =>
      cases ha
      obtain ⟨hT, han, hi⟩ := hq
      have hi := xe_inv hi
      simp only [List.map_cons]
      rw [xe_mv_lo (Nat.lt_of_lt_of_le han hSn)]
      refine va_iast hx hb hK I2 hD I4 a 0 (by rw [xe_W_at han, xe_E_i hT (Or.inl rfl)]) rfl hi hd (fun H1 locs1 hP1 _ hS1 => ?_)
      rw [xe_W_sI (h := h) (a := a) (k := i.toNatClampNeg) (x := x) (by rw [xe_E_i (h := xe_sI h a i.toNatClampNeg x) hT (Or.inl rfl)]; exact congrArg (fun f => Sum.inl (cy 8, xe_N h a, Sum.inl f)) (if_pos rfl))] at hP1
      exact k H1 locs1 A cells slots X ⟨hP1, xe_HS_aI I3 han, hS1⟩ hc hz
    next => cases ha
  next => cases ha

set_option maxHeartbeats 400000 in
theorem xe_ok_last (hF : xe_Fr p s m args meth c nL y) (hG : xe_G D B sv cy L xs s) (hd : decode (xe_by y) pc = .ok (.lastore, 1)) (ha : xe_hp (xe_o y) ((xe_nm y).name == "<init>") (.lastore) st h = some (st', h')) (k : xe_Ok p l e R s m args below meth c Q D B sv cy L xs n0 z0 nL (pc + 1) ls st' h') : xe_Ok p l e R s m args below meth c Q D B sv cy L xs n0 z0 nL pc ls st h := by
  obtain ⟨hx, hb, hml, hown, hts, hnm⟩ := hF
  obtain ⟨g1, hK, ⟨b, gb1, gb2, gb3⟩, g4, ⟨adK, adV, g5, g5'⟩, g6, g7, g8, g9, hs⟩ := id hG
  intro H locs A cells slots X I hc hz
  obtain ⟨I2, I3, I4⟩ := id I
  have hD := xe_W_D B sv cy h
  have hSn : xe_n h ≤ xe_S := I3.1
  simp only [xe_hp] at ha
  split at ha
  next x i a r =>
    split at ha
    next hq =>
      cases ha
      obtain ⟨hT, han, hi⟩ := hq
      have hi := xe_inv hi
      simp only [List.map_cons]
      rw [xe_mv_lo (Nat.lt_of_lt_of_le han hSn)]
      refine va_last hx hb hK I2 hD I4 a 1 (by rw [xe_W_at han, xe_E_l hT]) rfl hi hd (fun H1 locs1 hP1 _ hS1 => ?_)
      rw [xe_W_aL (h := h) (a := a) (f := vp_updL (xe_L h a) i.toNatClampNeg x) (by rw [xe_E_l (h := xe_aL2 h a (vp_updL (xe_L h a) i.toNatClampNeg x)) hT]; exact congrArg (fun f => Sum.inl (cy 9, xe_N h a, Sum.inr (Sum.inl f))) (if_pos rfl))] at hP1
      exact k H1 locs1 A cells slots X ⟨hP1, xe_HS_aL I3, hS1⟩ hc hz
    next => cases ha
  next => cases ha

set_option maxHeartbeats 400000 in
theorem xe_ok_bast (hF : xe_Fr p s m args meth c nL y) (hG : xe_G D B sv cy L xs s) (hd : decode (xe_by y) pc = .ok (.bastore, 1)) (ha : xe_hp (xe_o y) ((xe_nm y).name == "<init>") (.bastore) st h = some (st', h')) (k : xe_Ok p l e R s m args below meth c Q D B sv cy L xs n0 z0 nL (pc + 1) ls st' h') : xe_Ok p l e R s m args below meth c Q D B sv cy L xs n0 z0 nL pc ls st h := by
  obtain ⟨hx, hb, hml, hown, hts, hnm⟩ := hF
  obtain ⟨g1, hK, ⟨b, gb1, gb2, gb3⟩, g4, ⟨adK, adV, g5, g5'⟩, g6, g7, g8, g9, hs⟩ := id hG
  intro H locs A cells slots X I hc hz
  obtain ⟨I2, I3, I4⟩ := id I
  have hD := xe_W_D B sv cy h
  have hSn : xe_n h ≤ xe_S := I3.1
  simp only [xe_hp] at ha
  split at ha
  next x i a r =>
    split at ha
    next hq =>
      obtain ⟨han, hi⟩ := hq
      have hi := xe_inv hi
      simp only [List.map_cons]
      rw [xe_mv_lo (Nat.lt_of_lt_of_le han hSn)]
      split at ha
      next hT =>
        cases ha
        refine va_bast hx hb hK I2 hD I4 a 2 (by rw [xe_W_at han, xe_E_i hT (Or.inr (Or.inl rfl))]) rfl hi hd (fun H1 locs1 hP1 _ hS1 => ?_)
        rw [vp_nar_byte, xe_W_sI (h := h) (a := a) (k := i.toNatClampNeg) (x := x.toInt8.toInt32) (by rw [xe_E_i (h := xe_sI h a i.toNatClampNeg x.toInt8.toInt32) hT (Or.inr (Or.inl rfl))]; exact congrArg (fun f => Sum.inl (cy 10, xe_N h a, Sum.inl f)) (if_pos rfl))] at hP1
        exact k H1 locs1 A cells slots X ⟨hP1, xe_HS_aI I3 han, hS1⟩ hc hz
      next =>
        split at ha
        next hq =>
          cases ha
          obtain ⟨hT, hx01⟩ := hq
          have hn : vp_nar .boolean x = x := by rcases hx01 with rfl | rfl <;> rfl
          refine va_zast hx hb hK I2 hD I4 a 3 (by rw [xe_W_at han, xe_E_i hT (Or.inr (Or.inr rfl))]) rfl hi hd (fun H1 locs1 hP1 _ hS1 => ?_)
          rw [hn, xe_W_sI (h := h) (a := a) (k := i.toNatClampNeg) (x := x) (by rw [xe_E_i (h := xe_sI h a i.toNatClampNeg x) hT (Or.inr (Or.inr rfl))]; exact congrArg (fun f => Sum.inl (cy 11, xe_N h a, Sum.inl f)) (if_pos rfl))] at hP1
          exact k H1 locs1 A cells slots X ⟨hP1, xe_HS_aI I3 han, hS1⟩ hc hz
        next => cases ha
    next => cases ha
  next => cases ha

set_option maxHeartbeats 400000 in
theorem xe_ok_aast (hF : xe_Fr p s m args meth c nL y) (hG : xe_G D B sv cy L xs s) (hd : decode (xe_by y) pc = .ok (.aastore, 1)) (ha : xe_hp (xe_o y) ((xe_nm y).name == "<init>") (.aastore) st h = some (st', h')) (k : xe_Ok p l e R s m args below meth c Q D B sv cy L xs n0 z0 nL (pc + 1) ls st' h') : xe_Ok p l e R s m args below meth c Q D B sv cy L xs n0 z0 nL pc ls st h := by
  obtain ⟨hx, hb, hml, hown, hts, hnm⟩ := hF
  obtain ⟨g1, hK, ⟨b, gb1, gb2, gb3⟩, g4, ⟨adK, adV, g5, g5'⟩, g6, g7, g8, g9, hs⟩ := id hG
  intro H locs A cells slots X I hc hz
  obtain ⟨I2, I3, I4⟩ := id I
  have hD := xe_W_D B sv cy h
  have hSn : xe_n h ≤ xe_S := I3.1
  simp only [xe_hp] at ha
  split at ha
  next x i a r =>
    split at ha
    next hq =>
      cases ha
      obtain ⟨hT, han, hxn, -, hTx, hi⟩ := hq
      have hi := xe_inv hi
      simp only [List.map_cons]
      rw [xe_mv_lo (Nat.lt_of_lt_of_le han hSn), xe_mv_lo (Nat.lt_of_lt_of_le hxn hSn)]
      refine va_astq hx hb hK I2 hD I4 a 4 x 3 (r := (xe_on 3, xe_tb 3, xe_nf 3)) (by rw [xe_W_at han, xe_E_q hT]) rfl (by rw [xe_W_at hxn, xe_E_obj hTx (by decide)]) (xe_clat 3 (by decide)) hi hd (fun H1 locs1 hP1 _ hS1 => ?_)
      rw [xe_W_aR (h := h) (a := a) (f := va_up (xe_R h a) i.toNatClampNeg (some x)) (by
        rw [xe_E_q (h := xe_aR h a (va_up (xe_R h a) i.toNatClampNeg (some x))) hT]
        refine congrArg (fun f => Sum.inl (cy 12, xe_N h a, Sum.inr (Sum.inr (Sum.inr (Sum.inr f))))) ?_
        funext j
        show ((if a = a then va_up (xe_R h a) i.toNatClampNeg (some x) else xe_R h a) j).map _ = _
        rw [if_pos rfl]
        unfold va_up
        split <;> rfl)] at hP1
      exact k H1 locs1 A cells slots X ⟨hP1, xe_HS_aR I3, hS1⟩ hc hz
    next => cases ha
  next => cases ha

set_option maxHeartbeats 400000 in
theorem xe_ok_alen (hF : xe_Fr p s m args meth c nL y) (hG : xe_G D B sv cy L xs s) (hd : decode (xe_by y) pc = .ok (.arraylength, 1)) (ha : xe_hp (xe_o y) ((xe_nm y).name == "<init>") (.arraylength) st h = some (st', h')) (k : xe_Ok p l e R s m args below meth c Q D B sv cy L xs n0 z0 nL (pc + 1) ls st' h') : xe_Ok p l e R s m args below meth c Q D B sv cy L xs n0 z0 nL pc ls st h := by
  obtain ⟨hx, hb, hml, hown, hts, hnm⟩ := hF
  obtain ⟨g1, hK, ⟨b, gb1, gb2, gb3⟩, g4, ⟨adK, adV, g5, g5'⟩, g6, g7, g8, g9, hs⟩ := id hG
  intro H locs A cells slots X I hc hz
  obtain ⟨I2, I3, I4⟩ := id I
  have hD := xe_W_D B sv cy h
  have hSn : xe_n h ≤ xe_S := I3.1
  simp only [xe_hp] at ha
  split at ha
  next a r =>
    split at ha
    next hq =>
      cases ha
      obtain ⟨hT1, hT2, hq⟩ := hq
      simp only [List.map_cons]
      have kk := k H locs A cells slots X I hc hz
      rcases hq with han | ⟨han, han2, hT⟩ | ⟨han, han2, hT⟩
      · rw [xe_mv_lo (Nat.lt_of_lt_of_le han hSn)]
        rcases (show xe_T h a = 8 ∨ xe_T h a = 9 ∨ xe_T h a = 10 ∨ xe_T h a = 11 ∨ xe_T h a = 12 by omega) with hT | hT | hT | hT | hT
        · exact va_alen (x := (xe_N h a, .inl (xe_I h a))) hx hb hK I2 a 0 (by rw [xe_W_at han, xe_E_i hT (Or.inl rfl)]) (ty := .int) rfl rfl hd kk
        · exact va_alen (x := (xe_N h a, .inr (.inl (xe_L h a)))) hx hb hK I2 a 1 (by rw [xe_W_at han, xe_E_l hT]) (ty := .long) rfl rfl hd kk
        · exact va_alen (x := (xe_N h a, .inl (xe_I h a))) hx hb hK I2 a 2 (by rw [xe_W_at han, xe_E_i hT (Or.inr (Or.inl rfl))]) (ty := .byte) rfl rfl hd kk
        · exact va_alen (x := (xe_N h a, .inl (xe_I h a))) hx hb hK I2 a 3 (by rw [xe_W_at han, xe_E_i hT (Or.inr (Or.inr rfl))]) (ty := .boolean) rfl rfl hd kk
        · exact va_alen (x := (xe_N h a, .inr (.inr (.inr (.inr (fun k => (xe_R h a k).map (fun b => B + b))))))) hx hb hK I2 a 4 (by rw [xe_W_at han, xe_E_q hT]) (ty := .object "CrossShuts$Town") rfl rfl hd kk
      · obtain ⟨j, rfl⟩ := Nat.exists_eq_add_of_le han
        have hj : j < 5 := Nat.lt_of_add_lt_add_left han2
        rw [xe_mv_hi]
        by_cases h0 : j = 0
        · subst h0
          obtain ⟨-, w2, w3⟩ := I3.2.1
          simp only [Nat.add_zero, List.map_cons] at kk
          rw [w2] at kk
          rw [gb1]
          exact va_slen hx hb gb3 (Nat.lt_of_lt_of_le gb2 g1) (Nat.not_le.mpr gb2) I4 hd kk
        · obtain ⟨i0, rfl⟩ : ∃ i0, j = 1 + i0 := ⟨j - 1, by omega⟩
          obtain ⟨t, t1, t2, -⟩ := g4 i0 (by omega)
          obtain ⟨-, w2, w3⟩ := I3.2.2.1 i0 (by omega)
          rw [w2] at kk
          rw [t1]
          exact va_tlen hx hb t2 I4 rfl hd kk
      · obtain ⟨j, rfl⟩ := Nat.exists_eq_add_of_le han
        have hj : j < 7 := Nat.lt_of_add_lt_add_left (n := xe_S + 12) (Nat.lt_of_lt_of_eq han2 (by rfl))
        rw [Nat.add_assoc, xe_mv_hi]
        obtain ⟨-, q2, -⟩ := g5' j hj
        obtain ⟨-, -, -, t2⟩ := g5.1 j hj
        obtain ⟨-, w2, w3⟩ := I3.2.2.2 j hj
        rw [Nat.add_assoc, w2] at kk
        rw [q2]
        exact va_tlen hx hb t2 I4 rfl hd kk
    next => cases ha
  next => cases ha

set_option maxHeartbeats 400000 in
theorem xe_ok_newa {tt : ArrayType} (hF : xe_Fr p s m args meth c nL y) (hG : xe_G D B sv cy L xs s) (hd : decode (xe_by y) pc = .ok (.newarray tt, 2)) (ha : xe_hp (xe_o y) ((xe_nm y).name == "<init>") (.newarray tt) st h = some (st', h')) (h0 : s.heap.size = B + n0) (hRn : xe_n h' ≤ n0 + R.cells) (hRz : xe_z h' ≤ z0 + R.slots) (k : xe_Ok p l e R s m args below meth c Q D B sv cy L xs n0 z0 nL (pc + 2) ls st' h') : xe_Ok p l e R s m args below meth c Q D B sv cy L xs n0 z0 nL pc ls st h := by
  obtain ⟨hx, hb, hml, hown, hts, hnm⟩ := hF
  obtain ⟨g1, hK, ⟨b, gb1, gb2, gb3⟩, g4, ⟨adK, adV, g5, g5'⟩, g6, g7, g8, g9, hs⟩ := id hG
  intro H locs A cells slots X I hc hz
  obtain ⟨I2, I3, I4⟩ := id I
  have hD := xe_W_D B sv cy h
  have hSn : xe_n h ≤ xe_S := I3.1
  simp only [xe_hp] at ha
  split at ha
  next i r =>
    split at ha
    next hq =>
      cases ha
      obtain ⟨ht8, hi0, hi1, hnS⟩ := hq
      intro T hT XT
      have hsz := xe_size hG I h0 hc hT XT
      have hRn : xe_n h + 1 ≤ n0 + R.cells := hRn
      have hRz : xe_z h + i.toNatClampNeg ≤ z0 + R.slots := hRz
      have key : ∀ (ty : FieldType) (t0 : Nat) (a0 : vp_A), newarray.typeOf tt = ty → Cond.arrayClass ty ∈ xe_tbl → (xe_tys cy)[t0]? = some (cy (xe_at tt), ty) → (∀ cA : ClassId, vp_cell cA a0 = arrV cA i.toNatClampNeg (fun _ => defaultValue ty)) → xe_E B sv cy (xe_new h (xe_at tt) i.toNatClampNeg) (xe_n h) = .inl (cy (xe_at tt), a0) → componentBytes ty ≤ 8 → (∀ cA, va_RA s cA ty = (s.vm.findClass ("[" ++ ty.toString) = some cA)) → W p l e R s m args below meth c H locs cells slots Q (F0 m pc A (.int i :: r.map (xe_mv B sv))) := by
        intro ty t0 a0 e1 w1 w2 w3 w4 w5 w6
        subst e1
        refine va_newaK hx hb (hts _ w1) rfl hd rfl hi0 rfl (Nat.le_trans (Nat.mul_le_mul hi1 w5) (by decide)) (by omega) (by omega) hsz (fun H1 cA f1 f2 f3 f4 f5 => ?_)
        have hcA : cA = cy (xe_at tt) := by
          have q := (hK.2 t0 _ w2).2
          rw [w6] at q
          exact Option.some.inj (f5.symm.trans q)
        subst hcA
        have hP1 : va_P D xe_cl (xe_W B sv cy (xe_new h (xe_at tt) i.toNatClampNeg)) H1 := by
          rw [← xe_W_new w4]
          refine (I2.kept (fun kk x hx => f3 x.1 ?_)).app (fun kk x hx => ?_)
          · rw [← hsz]; exact (I2 kk x hx).lt
          · have hz : kk < 1 := (List.getElem?_eq_some_iff.mp hx).1
            rw [show kk = 0 by omega] at hx
            cases hx
            show H1[B + xe_n h]? = some (vp_cell _ _)
            rw [w3]
            exact f1
        have kk := k H1 locs A (cells + 1) (slots + i.toNatClampNeg) X ⟨hP1, xe_HS_new I3 hnS, ⟨by have := I4.1; omega, fun q q1 q2 => (f3 q (by have := I4.1; omega)).trans (I4.2.1 q q1 q2), I4.2.2⟩⟩ (by show cells + 1 + n0 = xe_n h + 1; omega) (by show slots + i.toNatClampNeg + z0 = xe_z h + i.toNatClampNeg; omega)
        simp only [List.map_cons] at kk
        rw [xe_mv_lo hnS] at kk
        exact kk
      have hT1 : xe_T (xe_new h (xe_at tt) i.toNatClampNeg) (xe_n h) = xe_at tt := xe_T_new
      simp only [List.map_cons]
      cases tt
      case int => exact key .int 0 (i.toNatClampNeg, .inl (fun _ => 0)) rfl xe_w_arrI rfl (fun _ => rfl) (by rw [xe_E_i hT1 (Or.inl rfl), xe_N_new, xe_I_new]; try rfl) (by decide) (fun _ => rfl) T hT XT
      case long => exact key .long 1 (i.toNatClampNeg, .inr (.inl (fun _ => 0))) rfl xe_w_arrJ rfl (fun _ => rfl) (by rw [xe_E_l hT1, xe_N_new, xe_L_new]; rfl) (by decide) (fun _ => rfl) T hT XT
      case byte => exact key .byte 2 (i.toNatClampNeg, .inl (fun _ => 0)) rfl xe_w_arrB rfl (fun _ => rfl) (by rw [xe_E_i hT1 (Or.inr (Or.inl rfl)), xe_N_new, xe_I_new]; try rfl) (by decide) (fun _ => rfl) T hT XT
      case boolean => exact key .boolean 3 (i.toNatClampNeg, .inl (fun _ => 0)) rfl xe_w_arrZ rfl (fun _ => rfl) (by rw [xe_E_i hT1 (Or.inr (Or.inr rfl)), xe_N_new, xe_I_new]; try rfl) (by decide) (fun _ => rfl) T hT XT
      all_goals exact absurd ht8 (by decide)
    next => cases ha
  next => cases ha

set_option maxHeartbeats 400000 in
theorem xe_ok_newq {ii : Nat} (hF : xe_Fr p s m args meth c nL y) (hG : xe_G D B sv cy L xs s) (hd : decode (xe_by y) pc = .ok (.anewarray ii, 3)) (ha : xe_hp (xe_o y) ((xe_nm y).name == "<init>") (.anewarray ii) st h = some (st', h')) (h0 : s.heap.size = B + n0) (hRn : xe_n h' ≤ n0 + R.cells) (hRz : xe_z h' ≤ z0 + R.slots) (k : xe_Ok p l e R s m args below meth c Q D B sv cy L xs n0 z0 nL (pc + 3) ls st' h') : xe_Ok p l e R s m args below meth c Q D B sv cy L xs n0 z0 nL pc ls st h := by
  obtain ⟨hx, hb, hml, hown, hts, hnm⟩ := hF
  obtain ⟨g1, hK, ⟨b, gb1, gb2, gb3⟩, g4, ⟨adK, adV, g5, g5'⟩, g6, g7, g8, g9, hs⟩ := id hG
  intro H locs A cells slots X I hc hz
  obtain ⟨I2, I3, I4⟩ := id I
  have hD := xe_W_D B sv cy h
  have hSn : xe_n h ≤ xe_S := I3.1
  simp only [xe_hp] at ha
  split at ha
  next i r =>
    split at ha
    next hq =>
      cases ha
      obtain ⟨hfA, hi0, hi1, hnS⟩ := hq
      intro T hT XT
      have hsz := xe_size hG I h0 hc hT XT
      have hRn : xe_n h + 1 ≤ n0 + R.cells := hRn
      have hRz : xe_z h + i.toNatClampNeg ≤ z0 + R.slots := hRz
      simp only [List.map_cons]
      have hover : (Cond.arrayOver (.object "CrossShuts$Town")).before args s = true := va_AO.use g9
      have hb4 : i.toNatClampNeg * 4 ≤ 536870912 := by omega
      have hc1 : cells + 1 ≤ R.cells := by omega
      have hc2 : slots + i.toNatClampNeg ≤ R.slots := by omega
      suffices key : W p l e R s m args below meth c H locs cells slots Q (F0 m pc A (.int i :: r.map (xe_mv B sv))) from key T hT XT
      refine W.anew (g := F0 m pc A (.int i :: r.map (xe_mv B sv))) hx hb hown (hts _ (xe_fA_ok hfA)) hover rfl hd rfl hi0 hb4 hc1 hc2 (fun cA kA comp f1 f2 f3 f4 => ?_)
      generalize hH1 : H.push ({ cls := cA, slots := Array.replicate i.toNatClampNeg .null, vm := .none } : Cell) = H1
      have z1 : H1.size = H.size + 1 := by rw [← hH1, Array.size_push]
      have e1 : H1[H.size]? = some (arrV cA i.toNatClampNeg (fun _ => .null)) := by rw [← hH1, Array.getElem?_push_size, ← arrV_new]
      have o1 : ∀ q : Nat, q < H.size → H1[q]? = H[q]? := fun q hq => by rw [← hH1, Array.getElem?_push, if_neg (Nat.ne_of_lt hq)]
      have hcA : cA = cy 12 := by
        obtain ⟨-, -, -, -, -, q⟩ := (hK.2 4 _ rfl).2
        exact Option.some.inj (f1.symm.trans q)
      subst hcA
      have hT1 : xe_T (xe_new h 12 i.toNatClampNeg) (xe_n h) = 12 := xe_T_new
      have hE : xe_E B sv cy (xe_new h 12 i.toNatClampNeg) (xe_n h) = .inl (cy 12, i.toNatClampNeg, .inr (.inr (.inr (.inr (fun _ => none))))) := by rw [xe_E_q hT1, xe_N_new, xe_R_new]; rfl
      have hP1 : va_P D xe_cl (xe_W B sv cy (xe_new h 12 i.toNatClampNeg)) H1 := by
        rw [← xe_W_new hE]
        refine (I2.kept (fun kk x hx => o1 x.1 (I2 kk x hx).lt)).app (fun kk x hx => ?_)
        have hz : kk < 1 := (List.getElem?_eq_some_iff.mp hx).1
        rw [show kk = 0 by omega] at hx
        cases hx
        show H1[B + xe_n h]? = some (vp_cell _ _)
        rw [vp_cell_q, ← hsz]
        exact e1
      have kk := k H1 locs A (cells + 1) (slots + i.toNatClampNeg) X ⟨hP1, xe_HS_new I3 hnS, ⟨by have := I4.1; omega, fun q q1 q2 => (o1 q (by have := I4.1; omega)).trans (I4.2.1 q q1 q2), I4.2.2⟩⟩ (by show cells + 1 + n0 = xe_n h + 1; omega) (by show slots + i.toNatClampNeg + z0 = xe_z h + i.toNatClampNeg; omega)
      simp only [List.map_cons] at kk
      rw [xe_mv_lo hnS, ← hsz] at kk
      exact kk
    next => cases ha
  next => cases ha

set_option maxHeartbeats 400000 in
theorem xe_ok_new {ii : Nat} (hF : xe_Fr p s m args meth c nL y) (hG : xe_G D B sv cy L xs s) (hd : decode (xe_by y) pc = .ok (.new ii, 3)) (ha : xe_hp (xe_o y) ((xe_nm y).name == "<init>") (.new ii) st h = some (st', h')) (h0 : s.heap.size = B + n0) (hRn : xe_n h' ≤ n0 + R.cells) (hRz : xe_z h' ≤ z0 + R.slots) (k : xe_Ok p l e R s m args below meth c Q D B sv cy L xs n0 z0 nL (pc + 3) ls st' h') : xe_Ok p l e R s m args below meth c Q D B sv cy L xs n0 z0 nL pc ls st h := by
  obtain ⟨hx, hb, hml, hown, hts, hnm⟩ := hF
  obtain ⟨g1, hK, ⟨b, gb1, gb2, gb3⟩, g4, ⟨adK, adV, g5, g5'⟩, g6, g7, g8, g9, hs⟩ := id hG
  intro H locs A cells slots X I hc hz
  obtain ⟨I2, I3, I4⟩ := id I
  have hD := xe_W_D B sv cy h
  have hSn : xe_n h ≤ xe_S := I3.1
  simp only [xe_hp] at ha
  split at ha
  next ci e1 =>
    split at ha
    next hq =>
      cases ha
      obtain ⟨hc8, hnS⟩ := hq
      obtain ⟨-, w1, w2, w3⟩ := xe_fK_ok e1
      intro T hT XT
      have hsz := xe_size hG I h0 hc hT XT
      have hRn : xe_n h + 1 ≤ n0 + R.cells := hRn
      have hRz : xe_z h + xe_nf ci ≤ z0 + R.slots := hRz
      have hKn := hK.1 ci _ (xe_clat ci hc8)
      have hc1 : cells + 1 ≤ R.cells := by omega
      have hc2 : slots + xe_nf ci ≤ R.slots := by omega
      suffices key : W p l e R s m args below meth c H locs cells slots Q (F0 m pc A (st.map (xe_mv B sv))) from key T hT XT
      refine W.newcK (g := F0 m pc A (st.map (xe_mv B sv))) hx hb hown (hts _ w1) (hts _ w2) (hts _ w3) rfl hd hc1 hc2 hKn.2.1 hsz (fun H1 kC hkC f1 f2 f3 => ?_)
      have hT1 : xe_T (xe_new h ci (xe_nf ci)) (xe_n h) = ci := xe_T_new
      have hP1 : va_P D xe_cl (xe_W B sv cy (xe_new h ci (xe_nf ci))) H1 := by
        rw [← xe_W_new (xe_E_obj hT1 hc8)]
        refine (I2.kept (fun kk x hx => f3 x.1 ?_)).app (fun kk x hx => ?_)
        · rw [← hsz]; exact (I2 kk x hx).lt
        · have hz : kk < 1 := (List.getElem?_eq_some_iff.mp hx).1
          rw [show kk = 0 by omega] at hx
          cases hx
          refine ⟨_, xe_clat ci hc8, (u_born (xe_ty ci) hts (xe_uws ci hc8) hKn hkC f1 (xe_tyok ci hc8)).to (fun j hj => ?_)⟩
          show defaultValue (xe_ty ci j) = ((List.range (xe_nf ci)).map _).getD j .null
          rw [List.getD_eq_getElem?_getD]
          simp only [List.getElem?_map, List.getElem?_range hj, Option.map_some, Option.getD_some]
          unfold xe_fv
          rw [xe_I_new, xe_R_new]
          have hdv : defaultValue (xe_ty ci j) = if xe_isr (xe_ty ci j) = true then .null else .int 0 := xe_dv ci hc8 j hj
          rw [hdv]
          split <;> rfl
      have kk := k H1 locs A (cells + 1) (slots + xe_nf ci) X ⟨hP1, xe_HS_new I3 hnS, ⟨by have := I4.1; omega, fun q q1 q2 => (f3 q (by have := I4.1; omega)).trans (I4.2.1 q q1 q2), I4.2.2⟩⟩ (by show cells + 1 + n0 = xe_n h + 1; omega) (by show slots + xe_nf ci + z0 = xe_z h + xe_nf ci; omega)
      simp only [List.map_cons] at kk
      rw [xe_mv_lo hnS] at kk
      exact kk
    next => cases ha
  next => cases ha
end XA
