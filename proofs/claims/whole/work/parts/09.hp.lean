section XP
variable {p : Program} {l : Launch} {e : Env} {R : Room} {s : State} {m : MethodId} {args : Array Value} {below : List Frame} {meth : Method} {c : Code} {Q : State → Prop} {D : va_G} {B : Nat} {sv : Nat → Value} {cy : Nat → ClassId} {L : Nat} {xs : Nat → Int32} {n0 z0 nL y : Nat} {pc len : Nat} {ins : Instr} {ls ls' st st' : List Value} {h h' : xe_H}
theorem xe_inv {i : Int32} {n : Nat} (h : (decide (i < 0) || decide (n ≤ i.toNatClampNeg)) = false) : vp_in i n := by
  intro q
  rcases q with q | q <;> simp [q] at h
theorem xe_fit_ok {t : FieldType} {v : Value} (h : xe_fit t v = true) : narrow t (xe_mv B sv v) = xe_mv B sv v ∧ fits t (xe_mv B sv v) = true := by
  unfold xe_fit at h
  split at h
  next => exact ⟨rfl, rfl⟩
  next x =>
    simp only [Bool.or_eq_true, beq_iff_eq] at h
    rcases h with rfl | rfl <;> exact ⟨rfl, rfl⟩
  next x => rw [xe_mv_lo (of_decide_eq_true h)]; exact ⟨rfl, rfl⟩
  next x => rw [xe_mv_lo (of_decide_eq_true h)]; exact ⟨rfl, rfl⟩
  next => cases h
theorem xe_fv_int {t : FieldType} (h1 : xe_isr t = false) (a k : Nat) : xe_fv t h a k = .int (xe_I h a k) := by unfold xe_fv; rw [h1]; rfl
theorem xe_fv_ref {t : FieldType} (h1 : xe_isr t = true) (a k : Nat) : xe_fv t h a k = va_rf (xe_R h a k) := by unfold xe_fv; rw [h1]; rfl
/-- the fields behind a write -/
theorem xe_pf_row {a ci k : Nat} {v : Value} (hf : xe_fit (xe_ty ci k) v = true) : ((List.range (xe_nf ci)).map (fun j => xe_mv B sv (xe_fv (xe_ty ci j) h a j))).set k (xe_mv B sv v) = (List.range (xe_nf ci)).map (fun j => xe_mv B sv (xe_fv (xe_ty ci j) (xe_pf h a k v) a j)) := by
  have hv : (∃ x, v = .int x ∧ xe_isr (xe_ty ci k) = false) ∨ (∃ x, v = .ref x ∧ xe_isr (xe_ty ci k) = true) := by
    unfold xe_fit at hf
    split at hf
    next x e1 => exact Or.inl ⟨x, rfl, by rw [e1]; rfl⟩
    next x e1 => exact Or.inl ⟨x, rfl, by rw [e1]; rfl⟩
    next x e1 => exact Or.inr ⟨x, rfl, by rw [e1]; rfl⟩
    next x e1 => exact Or.inr ⟨x, rfl, by rw [e1]; rfl⟩
    next => cases hf
  rcases hv with ⟨x, rfl, hr⟩ | ⟨x, rfl, hr⟩
  · refine xe_range_set ?_ (fun j hj => ?_)
    · rw [xe_fv_int hr]
      show Value.int ((if a = a then upd (xe_I h a) k x else xe_I h a) k) = _
      rw [if_pos rfl, upd, if_pos rfl]; rfl
    · have e1 : xe_fv (xe_ty ci j) (xe_pf h a k (.int x)) a j = xe_fv (xe_ty ci j) h a j := by
        unfold xe_fv
        have e2 : xe_I (xe_pf h a k (.int x)) a j = xe_I h a j := by
          show (if a = a then upd (xe_I h a) k x else xe_I h a) j = _
          rw [if_pos rfl, upd, if_neg hj]
        rw [e2]; rfl
      rw [e1]
  · refine xe_range_set ?_ (fun j hj => ?_)
    · rw [xe_fv_ref hr]
      show xe_mv B sv (va_rf ((if a = a then va_up (xe_R h a) k (some x) else xe_R h a) k)) = _
      rw [if_pos rfl, va_up, if_pos rfl]; rfl
    · have e1 : xe_fv (xe_ty ci j) (xe_pf h a k (.ref x)) a j = xe_fv (xe_ty ci j) h a j := by
        unfold xe_fv
        have e2 : xe_R (xe_pf h a k (.ref x)) a j = xe_R h a j := by
          show (if a = a then va_up (xe_R h a) k (some x) else xe_R h a) j = _
          rw [if_pos rfl, va_up, if_neg hj]
        rw [e2]; rfl
      rw [e1]
theorem xe_W_pf {a ci k : Nat} {v : Value} (hT : xe_T h a = ci) (hc : ci < 8) (hf : xe_fit (xe_ty ci k) v = true) : (xe_W B sv cy h).set a (B + a, .inr (ci, ((List.range (xe_nf ci)).map (fun j => xe_mv B sv (xe_fv (xe_ty ci j) h a j))).set k (xe_mv B sv v))) = xe_W B sv cy (xe_pf h a k v) := by
  have hT2 : xe_T (xe_pf h a k v) a = ci := by
    cases v <;> exact hT
  rw [xe_pf_row hf]
  cases v with
  | int x => exact xe_W_aI (xe_E_obj hT2 hc)
  | ref x => exact xe_W_aR (xe_E_obj hT2 hc)
  | _ => unfold xe_fit at hf; split at hf <;> simp_all
theorem xe_HS_pf {a k : Nat} {v : Value} (H : xe_HS L xs h) (ha : a < xe_n h) : xe_HS L xs (xe_pf h a k v) := by
  cases v with
  | int x => exact xe_HS_aI H ha
  | ref x => exact xe_HS_aR H
  | _ => exact H
theorem xe_pf_nz {a k : Nat} {v : Value} : xe_n (xe_pf h a k v) = xe_n h ∧ xe_z (xe_pf h a k v) = xe_z h := by
  cases v <;> exact ⟨rfl, rfl⟩
theorem xe_lower {H : Heap} {locs : List Loc} (hG : xe_G D B sv cy L xs s) (I : xe_In s D B sv cy L xs h H locs) : B + xe_n h ≤ H.size := by
  obtain ⟨g1, -⟩ := hG
  obtain ⟨I2, I3, I4⟩ := I
  by_cases h0 : xe_n h = 0
  · rw [h0]; exact Nat.le_trans g1 I4.1
  · have h1 := (I2 (xe_n h - 1) _ (xe_W_at (by omega))).lt
    dsimp only at h1
    omega
theorem xe_size {H : Heap} {locs : List Loc} {cells slots : Nat} {T : State} (hG : xe_G D B sv cy L xs s) (I : xe_In s D B sv cy L xs h H locs) (h0 : s.heap.size = B + n0) (hc : cells + n0 = xe_n h) (hT : T.heap = H) (X : Stand p l e R s m args below meth c T locs cells slots) : H.size = B + xe_n h := by
  have h1 := xe_lower hG I
  have h2 := X.heapSize
  rw [hT] at h2
  omega
set_option maxHeartbeats 200000 in
theorem xe_ok_ldc {i : Nat} (hF : xe_Fr p s m args meth c nL y) (hG : xe_G D B sv cy L xs s) (hd : decode (xe_by y) pc = .ok (.ldc i, 2)) (ha : xe_hp (xe_o y) ((xe_nm y).name == "<init>") (.ldc i) st h = some (st', h')) (k : xe_Ok p l e R s m args below meth c Q D B sv cy L xs n0 z0 nL (pc + 2) ls st' h') : xe_Ok p l e R s m args below meth c Q D B sv cy L xs n0 z0 nL pc ls st h := by
  obtain ⟨hx, hb, hml, hown, hts, hnm⟩ := hF
  obtain ⟨g1, hK, ⟨b, gb1, gb2, gb3⟩, g4, ⟨adK, adV, g5, g5'⟩, g6, g7, g8, g9, hs⟩ := hG
  intro H locs A cells slots X I hc hz
  simp only [xe_hp] at ha
  split at ha
  next v e1 => cases ha; exact lv_ldc hx hb hown (hts _ (xe_fI_ok e1)) hd (k H locs A cells slots X I hc hz)
  next =>
    split at ha
    next j e1 =>
      cases ha
      obtain ⟨o2, o3, o4⟩ := xe_fT_ok e1
      obtain ⟨q1, q2, q3⟩ := g5' j o3
      have kk := k H locs A cells slots X I hc hz
      simp only [List.map_cons] at kk
      rw [xe_mv_hi, q1] at kk
      rw [o4] at hd
      rw [o2] at hown
      exact va_ldcS hx hb (own := "CrossShuts$Teller") hown q3 hd kk
    next => cases ha
set_option maxHeartbeats 200000 in
theorem xe_ok_gets {i : Nat} (hF : xe_Fr p s m args meth c nL y) (hG : xe_G D B sv cy L xs s) (hd : decode (xe_by y) pc = .ok (.getstatic i, 3)) (ha : xe_hp (xe_o y) ((xe_nm y).name == "<init>") (.getstatic i) st h = some (st', h')) (k : xe_Ok p l e R s m args below meth c Q D B sv cy L xs n0 z0 nL (pc + 3) ls st' h') : xe_Ok p l e R s m args below meth c Q D B sv cy L xs n0 z0 nL pc ls st h := by
  obtain ⟨hx, hb, hml, hown, hts, hnm⟩ := hF
  obtain ⟨g1, hK, ⟨b, gb1, gb2, gb3⟩, g4, ⟨adK, adV, g5, g5'⟩, g6, g7, g8, g9, hs⟩ := hG
  intro H locs A cells slots X I hc hz
  obtain ⟨I2, I3, I4⟩ := id I
  simp only [xe_hp] at ha
  split at ha
  next j e1 =>
    obtain ⟨hj, hlk⟩ := xe_fS_ok e1
    have hlk := hts _ hlk
    by_cases h20 : j = 20
    · rw [if_pos h20] at ha
      cases ha
      subst h20
      have hlk : (Cond.fieldLink (xe_on (xe_o y)) i "java/lang/String" "COMPACT_STRINGS" "Z").before args s = true := hlk
      exact va_gets hx hb g6 I4 hown hlk (fun _ q => q) hd (k H locs A cells slots X I hc hz)
    · rw [if_neg h20] at ha
      cases ha
      have kk := k H locs A cells slots X I hc hz
      simp only [List.map_cons] at kk
      rw [xe_mv_hi] at kk
      rcases hj with rfl | q | ⟨q1, q2⟩
      · have hlk : (Cond.fieldLink (xe_on (xe_o y)) i "jdk/internal/util/Preconditions" "SIOOBE_FORMATTER" "Ljava/util/function/BiFunction;").before args s = true := hlk
        exact va_gets hx hb g7 I4 hown hlk (fun _ q => q) hd kk
      · exact absurd q h20
      · obtain ⟨t, t1, t2, t3⟩ := g4 (j - 1) (by omega)
        rw [show 1 + (j - 1) = j by omega] at t1
        rw [t1] at kk
        have hsf : xe_sf j = ("CrossShuts$Teller", xe_sn.getD (j - 1) "", "[I") := by
          rcases (show j = 1 ∨ j = 2 ∨ j = 3 ∨ j = 4 by omega) with rfl | rfl | rfl | rfl <;> rfl
        rw [hsf] at hlk
        exact va_gets hx hb t3 I4 hown hlk (fun _ q => q) hd kk
  next => cases ha
set_option maxHeartbeats 200000 in
theorem xe_ok_getf {i : Nat} (hF : xe_Fr p s m args meth c nL y) (hG : xe_G D B sv cy L xs s) (hd : decode (xe_by y) pc = .ok (.getfield i, 3)) (ha : xe_hp (xe_o y) ((xe_nm y).name == "<init>") (.getfield i) st h = some (st', h')) (k : xe_Ok p l e R s m args below meth c Q D B sv cy L xs n0 z0 nL (pc + 3) ls st' h') : xe_Ok p l e R s m args below meth c Q D B sv cy L xs n0 z0 nL pc ls st h := by
  obtain ⟨hx, hb, hml, hown, hts, hnm⟩ := hF
  obtain ⟨g1, hK, ⟨b, gb1, gb2, gb3⟩, g4, ⟨adK, adV, g5, g5'⟩, g6, g7, g8, g9, hs⟩ := hG
  intro H locs A cells slots X I hc hz
  obtain ⟨I2, I3, I4⟩ := id I
  have hSn : xe_n h ≤ xe_S := I3.1
  simp only [xe_hp] at ha
  split at ha
  next ci kf a r e1 =>
    by_cases hc8 : ci < 8
    · rw [if_pos hc8] at ha
      split at ha
      next hq =>
        cases ha
        obtain ⟨q1, q2⟩ := xe_fF_ok e1 hc8
        simp only [List.map_cons]
        rw [xe_mv_lo (Nat.lt_of_lt_of_le hq.1 hSn)]
        exact va_get hx hb hts (xe_uws ci hc8) hown hK I2 a (by rw [xe_W_at hq.1, xe_E_obj hq.2 hc8]) (xe_clat ci hc8) kf q1 (hts _ q2) (fun _ q => q) (by simp [q1]) hd (k H locs A cells slots X I hc hz)
      next => cases ha
    · rw [if_neg hc8] at ha
      split at ha
      next hq =>
        have hq1 : xe_S + 5 ≤ (a : Nat) := hq.1
        have hq2 : @LT.lt Nat _ a (xe_S + 12) := hq.2
        have hj0 : @Eq Nat a (xe_S + (5 + (a - (xe_S + 5)))) := by omega
        have hj : @LT.lt Nat _ (a - (xe_S + 5)) 7 := by omega
        generalize (a - (xe_S + 5) : Nat) = j at hj0 hj
        subst hj0
        obtain ⟨q1, q2, -⟩ := g5' j hj
        obtain ⟨-, v1, v2, -⟩ := g5.1 j hj
        simp only [List.map_cons]
        rw [xe_mv_hi, q1]
        rcases xe_fF_str e1 hc8 with ⟨hk0, w⟩ | ⟨hk0, w⟩
        · rw [if_pos hk0] at ha
          cases ha
          have kk := k H locs A cells slots X I hc hz
          simp only [List.map_cons] at kk
          rw [show xe_S + (5 + j) + 7 = xe_S + (12 + j) by omega, xe_mv_hi, q2] at kk
          exact vk_getf hx hb v2 I4 hown (hts _ w) (fun _ q => q) hd kk
        · rw [if_neg hk0] at ha
          cases ha
          exact vk_getf hx hb v1 I4 hown (hts _ w) (fun _ q => q) hd (k H locs A cells slots X I hc hz)
      next => cases ha
  next => cases ha
set_option maxHeartbeats 200000 in
theorem xe_ok_putf {i : Nat} (hF : xe_Fr p s m args meth c nL y) (hG : xe_G D B sv cy L xs s) (hd : decode (xe_by y) pc = .ok (.putfield i, 3)) (ha : xe_hp (xe_o y) ((xe_nm y).name == "<init>") (.putfield i) st h = some (st', h')) (k : xe_Ok p l e R s m args below meth c Q D B sv cy L xs n0 z0 nL (pc + 3) ls st' h') : xe_Ok p l e R s m args below meth c Q D B sv cy L xs n0 z0 nL pc ls st h := by
  obtain ⟨hx, hb, hml, hown, hts, hnm⟩ := hF
  obtain ⟨g1, hK, -⟩ := hG
  intro H locs A cells slots X I hc hz
  obtain ⟨I2, I3, I4⟩ := id I
  have hD := xe_W_D B sv cy h
  have hSn : xe_n h ≤ xe_S := I3.1
  simp only [xe_hp] at ha
  split at ha
  next ci kf v a r e1 =>
    split at ha
    next hq =>
      cases ha
      obtain ⟨hc8, hfin, han, hT, hfit⟩ := hq
      obtain ⟨q1, q2⟩ := xe_fF_ok e1 hc8
      obtain ⟨f1, f2⟩ := xe_fit_ok (B := B) (sv := sv) hfit
      simp only [List.map_cons]
      rw [xe_mv_lo (Nat.lt_of_lt_of_le han hSn)]
      have he : (xe_W B sv cy h)[a]? = some (B + a, .inr (ci, (List.range (xe_nf ci)).map (fun j => xe_mv B sv (xe_fv (xe_ty ci j) h a j)))) := by rw [xe_W_at han, xe_E_obj hT hc8]
      have kk : ∀ (H1 : Heap) (locs1 : List Loc), va_P D xe_cl ((xe_W B sv cy h).set a (B + a, .inr (ci, ((List.range (xe_nf ci)).map (fun j => xe_mv B sv (xe_fv (xe_ty ci j) h a j))).set kf (xe_mv B sv v)))) H1 → va_D (xe_F B) ((xe_W B sv cy h).set a (B + a, .inr (ci, ((List.range (xe_nf ci)).map (fun j => xe_mv B sv (xe_fv (xe_ty ci j) h a j))).set kf (xe_mv B sv v)))) → va_S (xe_F B) s.heap H1 locs1 → W p l e R s m args below meth c H1 locs1 cells slots Q (F0 m (pc + 3) A (st'.map (xe_mv B sv))) := by
        intro H1 locs1 hP1 _ hS1
        rw [xe_W_pf hT hc8 hfit] at hP1
        exact k H1 locs1 A cells slots X ⟨hP1, xe_HS_pf I3 han, hS1⟩ (by rw [xe_pf_nz.1]; exact hc) (by rw [xe_pf_nz.2]; exact hz)
      by_cases hfn : (xe_tb ci kf).2.2.2 = true
      · obtain ⟨i1, i2⟩ := hfin hfn
        exact va_putF hx hb hts (xe_uws ci hc8) (xe_ty ci) (xe_tyok ci hc8) (xe_nms ci hc8) hown hK I2 hD I4 a he (xe_clat ci hc8) kf q1 (hts _ q2) (fun _ q => q) hfn (hnm (by simpa using i1)) (by rw [xe_tb1 ci hc8, i2]) (xe_tyok ci hc8 kf q1) f1 f2 (by simp [q1]) hd kk
      · exact va_put hx hb hts (xe_uws ci hc8) (xe_ty ci) (xe_tyok ci hc8) (xe_nms ci hc8) hown hK I2 hD I4 a he (xe_clat ci hc8) kf q1 (hts _ q2) (fun _ q => q) (by simpa using hfn) (xe_tyok ci hc8 kf q1) f1 f2 (by simp [q1]) hd kk
    next => cases ha
  next => cases ha
end XP
