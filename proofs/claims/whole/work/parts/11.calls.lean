/-! calls, answers, and the whole run -/
def xe_ws (y : Nat) : List Cond := Cond.code (xe_nm y) (xe_by y) (xe_ml y) (xe_rt y) :: xe_tbl
def xe_Pc (D : va_G) (B : Nat) (sv : Nat → Value) (cy : Nat → ClassId) (L : Nat) (xs : Nat → Int32) (as : List Value) (h : xe_H) : Array Value → State → Prop := fun v U =>
  v = (as.map (xe_mv B sv)).toArray ∧ xe_G D B sv cy L xs U ∧ U.heap.size = B + xe_n h ∧ va_P D xe_cl (xe_W B sv cy h) U.heap ∧ xe_HS L xs h
def xe_Qc (D : va_G) (B : Nat) (sv : Nat → Value) (cy : Nat → ClassId) (L : Nat) (xs : Nat → Int32) (r : xe_A) : Array Value → State → Outcome → State → Prop := fun _ st oc t =>
  oc = .returned (r.1.map (xe_mv B sv)) ∧ va_P D xe_cl (xe_W B sv cy r.2) t.heap ∧ xe_HS L xs r.2 ∧ va_F (xe_F B) st t
def xe_rm (d mc ms : Nat) : Room := { frames := d, cells := mc, slots := ms, locals := 64 * d }
/-- a method's contract, for this start and this answer -/
def xe_Met (l : Launch) (D : va_G) (B : Nat) (sv : Nat → Value) (cy : Nat → ClassId) (L : Nat) (xs : Nat → Int32) (d y : Nat) (as : List Value) (h : xe_H) (r : xe_A) : Prop :=
  ∃ mc ms : Nat, mc + xe_n h = xe_n r.2 ∧ ms + xe_z h = xe_z r.2 ∧ Met l (xe_nm y) (xe_ws y) (xe_rm d mc ms) (xe_Pc D B sv cy L xs as h) (xe_Qc D B sv cy L xs r) mc ms (xe_F B)
theorem xe_blind {D : va_G} {B : Nat} {sv : Nat → Value} {cy : Nat → ClassId} {L : Nat} {xs : Nat → Int32} {as : List Value} {h : xe_H} : FrameBlind (xe_Pc D B sv cy L xs as h) := by
  intro a U g mk hp
  obtain ⟨h1, h2, h3, h4, h5⟩ := hp
  exact ⟨h1, xe_G.next (U := U.calling g mk a) h2 (Nat.le_refl _) (fun _ _ _ => rfl) (State.WarmedH.refl U), h3, h4, h5⟩
theorem xe_good {w : Cond} (h : w ∈ xe_tbl) : w ∈ xe_tbl ∧ ((w.onTables && w.keeps) = true ∨ ∃ ty, w = .arrayClass ty) := ⟨h, good_of_word (xe_tbl_good h)⟩
theorem xe_gws {y : Nat} (hy : y < 219) : GoodIn xe_tbl (xe_ws y) := by
  intro w hw
  rcases List.mem_cons.mp hw with rfl | hw
  · exact xe_good (xe_code_in hy)
  · exact xe_good hw
theorem xe_w_cat {B : Nat} {sv : Nat → Value} (hs : ∀ j, (∃ t, sv j = .ref t) ∨ sv j = .null) : ∀ st : List Value, ((st.map (xe_mv B sv)).map fun v => v.category).sum = xe_w st := by
  intro st
  induction st with
  | nil => rfl
  | cons a l ih =>
    simp only [List.map_cons, List.sum_cons, xe_w]
    rw [← ih, xe_mv_cat hs]
section XC
variable {p : Program} {l : Launch} {e : Env} {R : Room} {s : State} {m : MethodId} {args : Array Value} {below : List Frame} {meth : Method} {c : Code} {Q : State → Prop} {D : va_G} {B : Nat} {sv : Nat → Value} {cy : Nat → ClassId} {L : Nat} {xs : Nat → Int32} {n0 z0 nL y : Nat} {pc len : Nat} {ins : Instr} {ls ls' st st' : List Value} {h h' : xe_H}
theorem xe_nm_ok {z : Nat} (hz : z < 220) : plainName (xe_nm z).cls = true ∧ (xe_nm z).cls = xe_on (xe_o z) ∧ (xe_nm z).cls ≠ "java/lang/invoke/MethodHandle" ∧ (xe_nm z).cls ≠ "java/lang/invoke/VarHandle" ∧ (parseMethodDescriptor (xe_nm z).desc).map (fun d => d.parameters.length) = some (xe_np z) ∧ xe_ml z ≤ 40 := by
  have h1 := xe_okM_all hz
  unfold xe_okM at h1
  simp only [Bool.and_eq_true, decide_eq_true_eq] at h1
  obtain ⟨⟨⟨⟨⟨a1, a2⟩, a3⟩, a4⟩, a5⟩, a6⟩ := h1
  exact ⟨a1, a2, a3, a4, a5, a6⟩
theorem xe_fC_ok {o i k z : Nat} (h : xe_fC o i = some (k, z)) : ∃ ps, xe_okC ((o, i, k, z), ps) = true := by
  have h1 := xe_find h
  rw [← xe_cLp_ok] at h1
  obtain ⟨⟨e, q⟩, he, rfl⟩ := List.mem_map.mp h1
  exact ⟨q, xe_cLp_all _ he⟩
/-- behind a call -/
theorem xe_ok_run {as as' : List Value} {z d mc ms : Nat} {r : xe_A} (hG : xe_G D B sv cy L xs s) (h0 : s.heap.size = B + n0) (hmc : mc + xe_n h = xe_n r.2) (hms : ms + xe_z h = xe_z r.2)
    (run : ∀ (H : Heap) (locs : List Loc) (A : Array Slot) (cells slots : Nat), A.size = nL → xe_In s D B sv cy L xs h H locs → H.size = B + xe_n h → cells + n0 = xe_n h → slots + z0 = xe_z h → va_Run p l e R s m args below meth c H locs cells slots mc ms (F0 m pc A (st.map (xe_mv B sv))) (st'.map (xe_mv B sv)) (xe_Qc D B sv cy L xs r #[]) (xe_F B))
    (k : xe_Ok p l e R s m args below meth c Q D B sv cy L xs n0 z0 nL (pc + 3) ls (r.1.toList ++ st') r.2) : xe_Ok p l e R s m args below meth c Q D B sv cy L xs n0 z0 nL pc ls st h := by
  intro H locs A cells slots X I hc hz T hT XT
  have hsz := xe_size hG I h0 hc hT XT
  obtain ⟨v, st0, t, T', L', e0, X', hL, e1, e2, ⟨q1, q2, q3, q4⟩, go⟩ := run H locs A cells slots X.1 I hsz hc hz T hT XT
  have hv : v = r.1.map (xe_mv B sv) := Outcome.returned.inj q1
  obtain ⟨I2, I3, I4⟩ := I
  have hS : va_S (xe_F B) s.heap t.heap (locs ++ L') := by
    obtain ⟨f1, f2⟩ := q4
    rw [e0] at f1 f2
    refine ⟨Nat.le_trans I4.1 f1, fun q g1 g2 => ?_, fun q hq => ?_⟩
    · rw [f2 q (Nat.lt_of_lt_of_le g1 I4.1) g2]
      exact I4.2.1 q g1 g2
    · rcases List.mem_append.mp hq with h | h
      · exact I4.2.2 q h
      · exact hL q h
  have kk := k t.heap (locs ++ L') A (cells + mc) (slots + ms) X ⟨q2, q3, hS⟩ (by omega) (by omega) T' e1 X'
  obtain ⟨t2, a1, b1⟩ := kk
  refine ⟨t2, go t2 ?_, b1⟩
  have hst : v.toList ++ st'.map (xe_mv B sv) = (r.1.toList ++ st').map (xe_mv B sv) := by
    rw [hv]
    cases r.1 <;> simp
  show Steps p.tables e below (T'.setTop (F0 m (pc + 3) A (v.toList ++ st'.map (xe_mv B sv)))) t2
  rw [hst]
  exact a1
theorem xe_Pc_at {as : List Value} {H : Heap} {locs : List Loc} (hG : xe_G D B sv cy L xs s) (I : xe_In s D B sv cy L xs h H locs) (hsz : H.size = B + xe_n h) : ∀ U : State, U.heap = H → s.WarmedH U.vm → xe_Pc D B sv cy L xs as h ((as.map (xe_mv B sv)).toArray) U := by
  intro U hU hW
  obtain ⟨I2, I3, I4⟩ := I
  exact ⟨rfl, xe_G.next hG (by rw [hU]; exact I4.1) (fun a g1 g2 => by rw [hU]; exact I4.2.1 a g1 g2) hW, by rw [hU]; exact hsz, by rw [hU]; exact I2, I3⟩
theorem xe_cls_recv {H : Heap} {locs : List Loc} {a o : Nat} (hG : xe_G D B sv cy L xs s) (I : xe_In s D B sv cy L xs h H locs) (ho : (o < 8 ∧ a < xe_n h ∧ xe_T h a = o) ∨ (o = 9 ∧ xe_S + 5 ≤ a ∧ a < xe_S + 12)) : ∃ b, xe_mv B sv (.ref a) = .ref b ∧ ∃ cellB : Cell, H[b]? = some cellB ∧ cellB.vm.isStatics = false ∧ s.vm.findClass (xe_on o) = some cellB.cls := by
  obtain ⟨I2, I3, I4⟩ := I
  obtain ⟨g1, hK, -, -, ⟨adK, adV, g5, g5'⟩, -⟩ := hG
  rcases ho with ⟨o1, o2, o3⟩ | ⟨rfl, o2, o3⟩
  · refine ⟨B + a, xe_mv_lo (Nat.lt_of_lt_of_le o2 I3.1), ?_⟩
    exact va_recv hK I2 (xe_clat o o1) (by rw [xe_W_at o2, xe_E_obj o3 o1])
  · obtain ⟨j, rfl⟩ := Nat.exists_eq_add_of_le o2
    have hj : j < 7 := Nat.lt_of_add_lt_add_left (n := xe_S + 5) (Nat.lt_of_lt_of_eq o3 (by rfl))
    refine ⟨adK j, ?_, vk_recv g5 hj I4⟩
    rw [Nat.add_assoc, xe_mv_hi]
    exact (g5' j hj).1
theorem xe_take_rev {n : Nat} (hn : n ≤ st.length) : (((st.take n).reverse.map (xe_mv B sv)).length = n) ∧ ((st.take n).reverse.map (xe_mv B sv)).reverse = (st.take n).map (xe_mv B sv) := by
  refine ⟨by simp; omega, ?_⟩
  rw [← List.map_reverse, List.reverse_reverse]
set_option maxHeartbeats 1000000 in
/-- a call of a method of the program -/
theorem xe_ok_ca {z d : Nat} {as : List Value} {r : xe_A} (hF : xe_Fr p s m args meth c nL y) (hG : xe_G D B sv cy L xs s) (h0 : s.heap.size = B + n0) (hR : d + 1 ≤ R.frames ∧ 64 * d + 64 ≤ R.locals) (hRn : xe_n r.2 ≤ n0 + R.cells) (hRz : xe_z r.2 ≤ z0 + R.slots) (hd : decode (xe_by y) pc = .ok (ins, len)) (hl : xe_lok ins len = true) (ha : xe_ca (xe_o y) ins st h = some (z, as, st')) (hM : xe_Met l D B sv cy L xs d z as h r) (k : xe_Ok p l e R s m args below meth c Q D B sv cy L xs n0 z0 nL (pc + len) ls (r.1.toList ++ st') r.2) : xe_Ok p l e R s m args below meth c Q D B sv cy L xs n0 z0 nL pc ls st h := by
  obtain ⟨mc, ms, hmc, hms, hM⟩ := hM
  obtain ⟨hx, hb, hml, hown, hts, hnm⟩ := hF
  have hs := hG.2.2.2.2.2.2.2.2.2
  have room : ∀ (cells slots : Nat), cells + n0 = xe_n h → slots + z0 = xe_z h → cells + mc ≤ R.cells ∧ slots + ms ≤ R.slots := fun cells slots q1 q2 => ⟨by omega, by omega⟩
  cases ins
  case invokestatic i =>
    cases (of_decide_eq_true hl : len = 3)
    simp only [xe_ca] at ha
    split at ha
    next k0 z1 e1 =>
      split at ha
      next hq =>
        cases ha
        obtain ⟨rfl, hq2, hq3⟩ := hq
        obtain ⟨ps, ok⟩ := xe_fC_ok e1
        simp only [xe_okC, Bool.and_eq_true, decide_eq_true_eq] at ok
        obtain ⟨⟨⟨hzl, w1⟩, w2⟩, w3⟩ := ok
        have w1 := xe_is_in w1
        have w2 := xe_is_in w2
        have w3 := xe_is_in w3
        obtain ⟨b1, b2, b3, b4, b5, b6⟩ := xe_nm_ok (z := z) (by omega)
        refine xe_ok_run (as := []) (as' := []) (z := z) (d := d) hG h0 hmc hms (fun H locs A cells slots hA I hsz q1 q2 => ?_) k
        obtain ⟨t1, t2⟩ := xe_take_rev (st := st) (B := B) (sv := sv) hq2
        have hgood : GoodIn xe_tbl (va_wsS (xe_on (xe_o y)) i (xe_nm z) (xe_ws z)) := by
          intro w hw
          unfold va_wsS at hw
          rcases List.mem_append.mp hw with hw | hw
          · simp only [List.mem_cons, List.not_mem_nil, or_false] at hw
            rcases hw with rfl | rfl | rfl
            · exact xe_good w1
            · exact xe_good w2
            · exact xe_good w3
          · exact xe_gws hzl w hw
        exact va_runS (Ts := xe_tbl) (cc := xe_by y) (nL := nL) (own := xe_on (xe_o y)) (As := (st.take (xe_np z)).reverse.map (xe_mv B sv)) (rest := (st.drop (xe_np z)).map (xe_mv B sv)) ⟨hx, hb, hml, hown, hts⟩ hM (va_cwS (xe_np z) hts hgood rfl rfl rfl ⟨b3, b4, b5⟩ ⟨hR.1, by show 8 + (xe_ml z + 11) + 64 * d ≤ R.locals; omega⟩) ⟨xe_blind, xe_Pc_at hG I hsz⟩ rfl t1 hA (by
            show st.map (xe_mv B sv) = _
            rw [t2, ← List.map_append, List.take_append_drop]) (lv_room (by rw [xe_w_cat hs]; exact hq3)) hd (room cells slots q1 q2)
      next => cases ha
    next => cases ha
  case invokevirtual i =>
    cases (of_decide_eq_true hl : len = 3)
    simp only [xe_ca] at ha
    split at ha
    next k0 z1 e1 =>
      split at ha
      next a rest e2 =>
        split at ha
        next hq =>
          cases ha
          obtain ⟨rfl, hq2, hq3⟩ := hq
          obtain ⟨ps, ok⟩ := xe_fC_ok e1
          simp only [xe_okC, Bool.and_eq_true, decide_eq_true_eq] at ok
          obtain ⟨⟨⟨⟨hzl, w1⟩, w2⟩, w3⟩, w4⟩ := ok
          have w1 := xe_is_in w1
          have w2 := xe_is_in w2
          have w3 := xe_is_in w3
          have w4 := xe_is_in w4
          obtain ⟨b1, b2, b3, b4, b5, b6⟩ := xe_nm_ok (z := z) (by omega)
          have hlen : xe_np z ≤ st.length := by
            rcases Nat.lt_or_ge st.length (xe_np z) with q | q
            · rw [List.drop_eq_nil_of_le (Nat.le_of_lt q)] at e2; cases e2
            · exact q
          refine xe_ok_run (as := []) (as' := []) (z := z) (d := d) hG h0 hmc hms (fun H locs A cells slots hA I hsz q1 q2 => ?_) k
          obtain ⟨t1, t2⟩ := xe_take_rev (st := st) (B := B) (sv := sv) hlen
          obtain ⟨bb, m1, m2⟩ := xe_cls_recv hG I hq3
          have hgood : GoodIn xe_tbl (wsV (xe_on (xe_o y)) i (xe_nm z).cls (xe_nm z) (xe_ws z)) := by
            intro w hw
            unfold wsV at hw
            rcases List.mem_append.mp hw with hw | hw
            · simp only [List.mem_cons, List.not_mem_nil, or_false] at hw
              rcases hw with rfl | rfl | rfl | rfl
              · exact xe_good w1
              · exact xe_good w2
              · exact xe_good w3
              · exact xe_good w4
            · exact xe_gws hzl w hw
          have hPc := xe_Pc_at (as := .ref a :: (st.take (xe_np z)).reverse) hG I hsz
          simp only [List.map_cons, m1] at hPc
          rw [← b2] at m2
          exact va_runV (Ts := xe_tbl) (cc := xe_by y) (nL := nL) (own := xe_on (xe_o y)) (C := (xe_nm z).cls) (b := bb) (As := (st.take (xe_np z)).reverse.map (xe_mv B sv)) (rest := st'.map (xe_mv B sv)) ⟨hx, hb, hml, hown, hts⟩ hM (cwV (xe_np z) hts hgood rfl rfl rfl ⟨rfl, b3, b4, b5⟩ ⟨hR.1, by show 8 + (xe_ml z + 11) + 64 * d ≤ R.locals; omega⟩) ⟨xe_blind, m2, hPc⟩ rfl t1 hA (by
              show st.map (xe_mv B sv) = _
              rw [t2, ← m1, ← List.map_cons, ← List.map_append, ← e2, List.take_append_drop]) (lv_room (by rw [xe_w_cat hs]; exact hq2)) hd (room cells slots q1 q2)
        next => cases ha
      next => cases ha
    next => cases ha
  case invokespecial i =>
    cases (of_decide_eq_true hl : len = 3)
    simp only [xe_ca] at ha
    split at ha
    next k0 z1 e1 =>
      split at ha
      next a rest e2 =>
        split at ha
        next hq =>
          cases ha
          obtain ⟨hk, hq2, hq3, hq4⟩ := hq
          obtain ⟨ps, ok⟩ := xe_fC_ok e1
          have hlen : xe_np z ≤ st.length := by
            rcases Nat.lt_or_ge st.length (xe_np z) with q | q
            · rw [List.drop_eq_nil_of_le (Nat.le_of_lt q)] at e2; cases e2
            · exact q
          have m1 : xe_mv B sv (.ref a) = .ref (B + a) := xe_mv_lo (Nat.lt_of_lt_of_le hq3 hq4)
          rcases hk with rfl | rfl
          · simp only [xe_okC, Bool.and_eq_true, decide_eq_true_eq] at ok
            obtain ⟨⟨⟨⟨⟨hzl, w1⟩, w2⟩, w3⟩, w4⟩, w5⟩ := ok
            have w1 := xe_is_in w1
            have w2 := xe_is_in w2
            have w3 := xe_is_in w3
            obtain ⟨b1, b2, b3, b4, b5, b6⟩ := xe_nm_ok (z := z) (by omega)
            refine xe_ok_run (as := []) (as' := []) (z := z) (d := d) hG h0 hmc hms (fun H locs A cells slots hA I hsz q1 q2 => ?_) k
            obtain ⟨t1, t2⟩ := xe_take_rev (st := st) (B := B) (sv := sv) hlen
            have hPc := xe_Pc_at (as := .ref a :: (st.take (xe_np z)).reverse) hG I hsz
            simp only [List.map_cons, m1] at hPc
            exact va_runI (Ts := xe_tbl) (cc := xe_by y) (nL := nL) (own := xe_on (xe_o y)) (b := B + a) (As := (st.take (xe_np z)).reverse.map (xe_mv B sv)) (rest := st'.map (xe_mv B sv)) ⟨hx, hb, hml, hown, hts⟩ hM (cwI (xe_np z) hts (xe_gws hzl) (by unfold xe_ws; rw [w5]) rfl rfl (hts _ w3) (hts _ w1) (hts _ w2) w4 ⟨b3, b4, b5⟩ ⟨hR.1, by show 8 + (xe_ml z + 11) + 64 * d ≤ R.locals; omega⟩) ⟨xe_blind, hPc⟩ rfl t1 hA (by
                show st.map (xe_mv B sv) = _
                rw [t2, ← m1, ← List.map_cons, ← List.map_append, ← e2, List.take_append_drop]) (lv_room (by rw [xe_w_cat hs]; exact hq2)) hd (room cells slots q1 q2)
          · have hnest := hG.2.2.2.2.2.2.2.1 (xe_o y, i, 3, z) (xe_find e1) rfl
            simp only [xe_okC, Bool.and_eq_true, decide_eq_true_eq] at ok
            obtain ⟨⟨⟨⟨⟨hzl, w1⟩, w2⟩, w3⟩, w4⟩, w5⟩ := ok
            have w2 := xe_is_in w2
            have w3 := xe_is_in w3
            obtain ⟨b1, b2, b3, b4, b5, b6⟩ := xe_nm_ok (z := z) (by omega)
            refine xe_ok_run (as := []) (as' := []) (z := z) (d := d) hG h0 hmc hms (fun H locs A cells slots hA I hsz q1 q2 => ?_) k
            obtain ⟨t1, t2⟩ := xe_take_rev (st := st) (B := B) (sv := sv) hlen
            have hPc := xe_Pc_at (as := .ref a :: (st.take (xe_np z)).reverse) hG I hsz
            simp only [List.map_cons, m1] at hPc
            exact va_runIN (Ts := xe_tbl) (cc := xe_by y) (nL := nL) (own := xe_on (xe_o y)) (b := B + a) (As := (st.take (xe_np z)).reverse.map (xe_mv B sv)) (rest := st'.map (xe_mv B sv)) ⟨hx, hb, hml, hown, hts⟩ hM ⟨va_cnB (ret := none) (xe_np z) hts (xe_gws hzl) (by unfold xe_ws; rw [w5]) rfl rfl hnest (hts _ w3) ⟨b3, b4, b5⟩ ⟨hR.1, by show 8 + (xe_ml z + 11) + 64 * d ≤ R.locals; omega⟩, w4, hts _ w2⟩ ⟨xe_blind, hPc⟩ rfl t1 hA (by
                show st.map (xe_mv B sv) = _
                rw [t2, ← m1, ← List.map_cons, ← List.map_append, ← e2, List.take_append_drop]) (lv_room (by rw [xe_w_cat hs]; exact hq2)) hd (room cells slots q1 q2)
        next => cases ha
      next => cases ha
    next => cases ha
  all_goals cases ha
end XC
