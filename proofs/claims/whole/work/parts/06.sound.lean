/-! The model's machine follows the small one. -/
/-- what was there before the law began, at a state -/
def xe_G (D : va_G) (B : Nat) (sv : Nat → Value) (cy : Nat → ClassId) (L : Nat) (xs : Nat → Int32) (s : State) : Prop :=
  B ≤ s.heap.size ∧ va_K D xe_cl (xe_tys cy) s ∧ (∃ b, sv 0 = .ref b ∧ b < B ∧ va_X b L xs s s.heap) ∧
  (∀ j, j < 4 → ∃ t, sv (1 + j) = .ref t ∧ va_T .int t 7 (fun i => .int ((xe_sa.getD j []).getD i 0)) (xe_F B) s s.heap ∧ va_Z "CrossShuts$Teller" (xe_sn.getD j "") "[I" (.ref t) (xe_F B) s s.heap) ∧
  (∃ adK adV, vk_S 7 xe_len xe_byt adK adV (xe_F B) s s.heap ∧ ∀ k, k < 7 → sv (5 + k) = .ref (adK k) ∧ sv (12 + k) = .ref (adV k) ∧ vk_R "CrossShuts$Teller" (xe_sx.getD k 0) (xe_tx.getD k "") (adK k) s) ∧
  va_Z "java/lang/String" "COMPACT_STRINGS" "Z" (.int 1) (xe_F B) s s.heap ∧
  va_Z "jdk/internal/util/Preconditions" "SIOOBE_FORMATTER" "Ljava/util/function/BiFunction;" (sv 19) (xe_F B) s s.heap ∧
  (∀ e ∈ xe_cL, e.2.2.1 = 3 → va_Nw (.methodLinkNest (xe_on e.1) e.2.1 (xe_nm e.2.2.2) "CrossShuts") s) ∧
  va_AO "CrossShuts$Town" s ∧ ∀ j, (∃ t, sv j = .ref t) ∨ sv j = .null
theorem xe_G.next {D : va_G} {B : Nat} {sv : Nat → Value} {cy : Nat → ClassId} {L : Nat} {xs : Nat → Int32} {s U : State} (h : xe_G D B sv cy L xs s) (hz : s.heap.size ≤ U.heap.size) (hq : ∀ a : Nat, a < s.heap.size → ¬ xe_F B a → U.heap[a]? = s.heap[a]?) (hW : s.WarmedH U.vm) : xe_G D B sv cy L xs U := by
  obtain ⟨h1, h2, ⟨b, b1, b2, b3⟩, h4, ⟨adK, adV, c1, c2⟩, h6, h7, h8, h9, h10⟩ := h
  have hvm := hW.alike
  refine ⟨Nat.le_trans h1 hz, va_K.moved hvm h2, ⟨b, b1, b2, (b3.moved hvm).kept (hq b (Nat.lt_of_lt_of_le b2 h1) (Nat.not_le.mpr b2))⟩, fun j hj => ?_, ⟨adK, adV, (c1.moved hvm).kept hq, fun k hk => ?_⟩, (h6.moved hvm).kept hq, (h7.moved hvm).kept hq, fun e he hk => va_Nw.warmM hW (h8 e he hk), h9.moved hvm, h10⟩
  · obtain ⟨t, t1, t2, t3⟩ := h4 j hj
    exact ⟨t, t1, (t2.moved hvm).kept hq, (t3.moved hvm).kept hq⟩
  · obtain ⟨k1, k2, k3⟩ := c2 k hk
    exact ⟨k1, k2, k3.warm hW⟩
/-- the heap of the model holds the own heap; what was there before is as it was -/
def xe_In (s : State) (D : va_G) (B : Nat) (sv : Nat → Value) (cy : Nat → ClassId) (L : Nat) (xs : Nat → Int32) (h : xe_H) (H : Heap) (locs : List Loc) : Prop :=
  va_P D xe_cl (xe_W B sv cy h) H ∧ xe_HS L xs h ∧ va_S (xe_F B) s.heap H locs
section XS
variable {p : Program} {l : Launch} {e : Env} {R : Room} {s : State} {m : MethodId} {args : Array Value} {below : List Frame} {meth : Method} {c : Code} {Q : State → Prop} {D : va_G} {B : Nat} {sv : Nat → Value} {cy : Nat → ClassId} {L : Nat} {xs : Nat → Int32} {n0 z0 nL y : Nat} {pc len : Nat} {ins : Instr} {ls ls' st st' : List Value} {h h' : xe_H}
/-- the frame of a method of the program -/
def xe_Fr (p : Program) (s : State) (m : MethodId) (args : Array Value) (meth : Method) (c : Code) (nL y : Nat) : Prop :=
  p.tables.exec = Jvm.exec ∧ c.code = xe_by y ∧ c.maxLocals = nL ∧ s.vm.findClass (xe_on (xe_o y)) = some m.cls ∧ (∀ w ∈ xe_tbl, w.before args s = true) ∧ ((xe_nm y).name = "<init>" → meth.name = "<init>")
def xe_Ok (p : Program) (l : Launch) (e : Env) (R : Room) (s : State) (m : MethodId) (args : Array Value) (below : List Frame) (meth : Method) (c : Code) (Q : State → Prop) (D : va_G) (B : Nat) (sv : Nat → Value) (cy : Nat → ClassId) (L : Nat) (xs : Nat → Int32) (n0 z0 nL : Nat) (pc : Nat) (ls st : List Value) (h : xe_H) : Prop :=
  ∀ (H : Heap) (locs : List Loc) (A : Array Slot) (cells slots : Nat), xe_XL B sv A nL ls → xe_In s D B sv cy L xs h H locs → cells + n0 = xe_n h → slots + z0 = xe_z h → W p l e R s m args below meth c H locs cells slots Q (F0 m pc A (st.map (xe_mv B sv)))
theorem xe_ii_inv {st st' : List Value} {f : Int32 → Int32 → Int32} (h : xe_ii st f = some st') : ∃ x y r, st = .int y :: .int x :: r ∧ st' = .int (f x y) :: r := by
  unfold xe_ii at h
  split at h
  next y x r => cases h; exact ⟨x, y, r, rfl, rfl⟩
  next => cases h
theorem xe_ll_inv {st st' : List Value} {f : Int64 → Int64 → Int64} (h : xe_ll st f = some st') : ∃ x y r, st = .long y :: .long x :: r ∧ st' = .long (f x y) :: r := by
  unfold xe_ll at h
  split at h
  next y x r => cases h; exact ⟨x, y, r, rfl, rfl⟩
  next => cases h
theorem xe_iid_inv {st st' : List Value} {f : Int32 → Int32 → Int32} (h : xe_iid st f = some st') : ∃ x y r, st = .int y :: .int x :: r ∧ st' = .int (f x y) :: r ∧ ¬ y = 0 := by
  unfold xe_iid at h
  split at h
  next y x r =>
    split at h
    next => cases h
    next hy => cases h; exact ⟨x, y, r, rfl, rfl, hy⟩
  next => cases h
theorem xe_lld_inv {st st' : List Value} {f : Int64 → Int64 → Int64} (h : xe_lld st f = some st') : ∃ x y r, st = .long y :: .long x :: r ∧ st' = .long (f x y) :: r ∧ ¬ y = 0 := by
  unfold xe_lld at h
  split at h
  next y x r =>
    split at h
    next => cases h
    next hy => cases h; exact ⟨x, y, r, rfl, rfl, hy⟩
  next => cases h
set_option maxHeartbeats 2000000 in
theorem xe_ok_ar (hF : xe_Fr p s m args meth c nL y) (hs : ∀ j, (∃ t, sv j = .ref t) ∨ sv j = .null) (hd : decode (xe_by y) pc = .ok (ins, len)) (hl : xe_lok ins len = true) (ha : xe_ar ins st = some st') (k : xe_Ok p l e R s m args below meth c Q D B sv cy L xs n0 z0 nL (pc + len) ls st' h) : xe_Ok p l e R s m args below meth c Q D B sv cy L xs n0 z0 nL pc ls st h := by
  obtain ⟨hx, hb, -⟩ := hF
  intro H locs A cells slots X I hc hz
  have kk := k H locs A cells slots X I hc hz
  cases ins
  case iconst n => cases ha; cases (of_decide_eq_true hl : len = 1); exact lv_iconst hx hb hd rfl kk
  case bipush n => cases ha; cases (of_decide_eq_true hl : len = 2); exact lv_bipush hx hb hd rfl kk
  case sipush n => cases ha; cases (of_decide_eq_true hl : len = 3); exact lv_sipush hx hb hd rfl kk
  case lconst n => cases ha; cases (of_decide_eq_true hl : len = 1); exact lv_lconst hx hb hd rfl kk
  case iadd => obtain ⟨x, y, r, rfl, rfl⟩ := xe_ii_inv ha; cases (of_decide_eq_true hl : len = 1); exact lv_iadd hx hb hd kk
  case isub => obtain ⟨x, y, r, rfl, rfl⟩ := xe_ii_inv ha; cases (of_decide_eq_true hl : len = 1); exact lv_isub hx hb hd kk
  case imul => obtain ⟨x, y, r, rfl, rfl⟩ := xe_ii_inv ha; cases (of_decide_eq_true hl : len = 1); exact lv_imul hx hb hd kk
  case iand => obtain ⟨x, y, r, rfl, rfl⟩ := xe_ii_inv ha; cases (of_decide_eq_true hl : len = 1); exact lv_iand hx hb hd kk
  case ior => obtain ⟨x, y, r, rfl, rfl⟩ := xe_ii_inv ha; cases (of_decide_eq_true hl : len = 1); exact lv_ior hx hb hd kk
  case ixor => obtain ⟨x, y, r, rfl, rfl⟩ := xe_ii_inv ha; cases (of_decide_eq_true hl : len = 1); exact lv_ixor hx hb hd kk
  case ishl => obtain ⟨x, y, r, rfl, rfl⟩ := xe_ii_inv ha; cases (of_decide_eq_true hl : len = 1); exact lv_ishl hx hb hd kk
  case ishr => obtain ⟨x, y, r, rfl, rfl⟩ := xe_ii_inv ha; cases (of_decide_eq_true hl : len = 1); exact lv_ishr hx hb hd kk
  case idiv => obtain ⟨x, y, r, rfl, rfl, h0⟩ := xe_iid_inv ha; cases (of_decide_eq_true hl : len = 1); exact lv_idiv hx hb hd h0 kk
  case irem => obtain ⟨x, y, r, rfl, rfl, h0⟩ := xe_iid_inv ha; cases (of_decide_eq_true hl : len = 1); exact lv_irem hx hb hd h0 kk
  case ladd => obtain ⟨x, y, r, rfl, rfl⟩ := xe_ll_inv ha; cases (of_decide_eq_true hl : len = 1); exact lv_ladd hx hb hd kk
  case lmul => obtain ⟨x, y, r, rfl, rfl⟩ := xe_ll_inv ha; cases (of_decide_eq_true hl : len = 1); exact lv_lmul hx hb hd kk
  case land => obtain ⟨x, y, r, rfl, rfl⟩ := xe_ll_inv ha; cases (of_decide_eq_true hl : len = 1); exact lv_land hx hb hd kk
  case lor => obtain ⟨x, y, r, rfl, rfl⟩ := xe_ll_inv ha; cases (of_decide_eq_true hl : len = 1); exact lv_lor hx hb hd kk
  case ldiv => obtain ⟨x, y, r, rfl, rfl, h0⟩ := xe_lld_inv ha; cases (of_decide_eq_true hl : len = 1); exact lv_ldiv hx hb hd h0 kk
  case lrem => obtain ⟨x, y, r, rfl, rfl, h0⟩ := xe_lld_inv ha; cases (of_decide_eq_true hl : len = 1); exact lv_lrem hx hb hd h0 kk
  case lshl =>
    simp only [xe_ar] at ha
    split at ha
    next => cases ha; cases (of_decide_eq_true hl : len = 1); exact lv_lshl hx hb hd rfl kk
    next => cases ha
  case lshr =>
    simp only [xe_ar] at ha
    split at ha
    next => cases ha; cases (of_decide_eq_true hl : len = 1); exact lv_lshr hx hb hd rfl kk
    next => cases ha
  case lcmp =>
    simp only [xe_ar] at ha
    split at ha
    next => cases ha; cases (of_decide_eq_true hl : len = 1); exact W.lcmp hx hb hd kk
    next => cases ha
  case i2l =>
    simp only [xe_ar] at ha
    split at ha
    next => cases ha; cases (of_decide_eq_true hl : len = 1); exact lv_i2l hx hb hd rfl kk
    next => cases ha
  case l2i =>
    simp only [xe_ar] at ha
    split at ha
    next => cases ha; cases (of_decide_eq_true hl : len = 1); exact lv_l2i hx hb hd rfl kk
    next => cases ha
  case i2b =>
    simp only [xe_ar] at ha
    split at ha
    next => cases ha; cases (of_decide_eq_true hl : len = 1); exact lv_i2b hx hb hd rfl kk
    next => cases ha
  case i2s =>
    simp only [xe_ar] at ha
    split at ha
    next => cases ha; cases (of_decide_eq_true hl : len = 1); exact lv_i2s hx hb hd rfl kk
    next => cases ha
  case i2c =>
    simp only [xe_ar] at ha
    split at ha
    next => cases ha; cases (of_decide_eq_true hl : len = 1); exact lv_i2c hx hb hd rfl kk
    next => cases ha
  case dup =>
    simp only [xe_ar] at ha
    split at ha
    next => cases ha; cases (of_decide_eq_true hl : len = 1); exact lv_dup hx hb hd rfl kk
    next => cases ha; cases (of_decide_eq_true hl : len = 1); exact lv_dup hx hb hd (xe_mv_cat hs _) kk
    next => cases ha
  case pop =>
    simp only [xe_ar] at ha
    split at ha
    next => cases ha; cases (of_decide_eq_true hl : len = 1); exact lv_pop hx hb hd rfl kk
    next => cases ha; cases (of_decide_eq_true hl : len = 1); exact lv_pop hx hb hd (xe_mv_cat hs _) kk
    next => cases ha
  case dup2 =>
    simp only [xe_ar] at ha
    split at ha
    next => cases ha; cases (of_decide_eq_true hl : len = 1); exact lv_dup2_11 hx hb hd rfl (xe_mv_cat hs _) kk
    next => cases ha
  all_goals cases ha
theorem xe_mv_ref (hs : ∀ j, (∃ t, sv j = .ref t) ∨ sv j = .null) (a : Nat) : (∃ t, xe_mv B sv (.ref a) = .ref t) ∨ xe_mv B sv (.ref a) = .null := by
  show (∃ t, (if a < xe_S then Value.ref (B + a) else sv (a - xe_S)) = .ref t) ∨ (if a < xe_S then Value.ref (B + a) else sv (a - xe_S)) = .null
  by_cases h : a < xe_S
  · rw [if_pos h]; exact Or.inl ⟨_, rfl⟩
  · rw [if_neg h]; exact hs _
theorem xe_mv_lo {a : Nat} (h : a < xe_S) : xe_mv B sv (.ref a) = .ref (B + a) := by
  show (if a < xe_S then Value.ref (B + a) else sv (a - xe_S)) = _
  rw [if_pos h]
theorem xe_mv_hi {j : Nat} : xe_mv B sv (.ref (xe_S + j)) = sv j := by
  show (if xe_S + j < xe_S then Value.ref (B + (xe_S + j)) else sv (xe_S + j - xe_S)) = _
  rw [if_neg (by omega), Nat.add_sub_cancel_left]
set_option maxHeartbeats 2000000 in
theorem xe_ok_lo (hF : xe_Fr p s m args meth c nL y) (hs : ∀ j, (∃ t, sv j = .ref t) ∨ sv j = .null) (hd : decode (xe_by y) pc = .ok (ins, len)) (hl : xe_lok ins len = true) (ha : xe_lo ins ls st = some (ls', st')) (k : xe_Ok p l e R s m args below meth c Q D B sv cy L xs n0 z0 nL (pc + len) ls' st' h) : xe_Ok p l e R s m args below meth c Q D B sv cy L xs n0 z0 nL pc ls st h := by
  obtain ⟨hx, hb, -⟩ := hF
  intro H locs A cells slots X I hc hz
  have get : ∀ (i : Nat) (v : Value), ls[i]? = some v → (∀ r, v ≠ .retAddr r) → A[i]? = some (.val (xe_mv B sv v)) := X.2.2.2
  cases ins
  case iload i =>
    simp only [xe_lo, xe_ldI] at ha
    split at ha
    next x e1 => cases ha; cases (of_decide_eq_true hl : len = 2); exact lv_iload hx hb hd (get _ _ e1 (fun r q => by cases q)) (k H locs A cells slots X I hc hz)
    next => cases ha
  case iload_n i =>
    simp only [xe_lo, xe_ldI] at ha
    split at ha
    next x e1 => cases ha; cases (of_decide_eq_true hl : len = 1); exact lv_iload_n hx hb hd rfl (get _ _ e1 (fun r q => by cases q)) (k H locs A cells slots X I hc hz)
    next => cases ha
  case lload i =>
    simp only [xe_lo, xe_ldL] at ha
    split at ha
    next x e1 => cases ha; cases (of_decide_eq_true hl : len = 2); exact lv_lload hx hb hd (get _ _ e1 (fun r q => by cases q)) (k H locs A cells slots X I hc hz)
    next => cases ha
  case lload_n i =>
    simp only [xe_lo, xe_ldL] at ha
    split at ha
    next x e1 => cases ha; cases (of_decide_eq_true hl : len = 1); exact lv_lload_n hx hb hd rfl (get _ _ e1 (fun r q => by cases q)) (k H locs A cells slots X I hc hz)
    next => cases ha
  case aload i =>
    simp only [xe_lo, xe_ldA] at ha
    split at ha
    next x e1 =>
      cases ha; cases (of_decide_eq_true hl : len = 2)
      have g := get _ _ e1 (fun r q => by cases q)
      have kk := k H locs A cells slots X I hc hz
      simp only [List.map_cons] at kk
      rcases xe_mv_ref (B := B) hs x with ⟨t, q⟩ | q
      · rw [q] at g kk; exact lv_aload hx hb hd g kk
      · rw [q] at g kk; exact lv_aloadN hx hb hd g kk
    next => cases ha
  case aload_n i =>
    simp only [xe_lo, xe_ldA] at ha
    split at ha
    next x e1 =>
      cases ha; cases (of_decide_eq_true hl : len = 1)
      have g := get _ _ e1 (fun r q => by cases q)
      have kk := k H locs A cells slots X I hc hz
      simp only [List.map_cons] at kk
      rcases xe_mv_ref (B := B) hs x with ⟨t, q⟩ | q
      · rw [q] at g kk; exact lv_aload_n hx hb hd rfl g kk
      · rw [q] at g kk; exact lv_aload_nN hx hb hd rfl g kk
    next => cases ha
  case istore i =>
    simp only [xe_lo, xe_stI] at ha
    split at ha
    next x r =>
      obtain ⟨q, e1, e2⟩ := Option.map_eq_some_iff.mp ha
      cases e2; cases (of_decide_eq_true hl : len = 2)
      exact lv_istore hx hb hd (xe_XL_has X) (by rw [← X.2.2.1]; exact (xe_st_get _ _ _ _ e1).2.1) rfl (fun A' hl' => k H locs A' cells slots (xe_XL_st hs X e1 hl') I hc hz)
    next => cases ha
  case istore_n i =>
    simp only [xe_lo, xe_stI] at ha
    split at ha
    next x r =>
      obtain ⟨q, e1, e2⟩ := Option.map_eq_some_iff.mp ha
      cases e2; cases (of_decide_eq_true hl : len = 1)
      exact lv_istore_n hx hb hd rfl (xe_XL_has X) (by rw [← X.2.2.1]; exact (xe_st_get _ _ _ _ e1).2.1) rfl (fun A' hl' => k H locs A' cells slots (xe_XL_st hs X e1 hl') I hc hz)
    next => cases ha
  case lstore i =>
    simp only [xe_lo, xe_stL] at ha
    split at ha
    next x r =>
      obtain ⟨q, e1, e2⟩ := Option.map_eq_some_iff.mp ha
      cases e2; cases (of_decide_eq_true hl : len = 2)
      exact lv_lstore hx hb hd (xe_XL_has X) (by rw [← X.2.2.1]; exact (xe_st2_get _ _ _ _ e1).2.1) rfl (fun A' hl' => k H locs A' cells slots (xe_XL_st2 hs X e1 hl') I hc hz)
    next => cases ha
  case lstore_n i =>
    simp only [xe_lo, xe_stL] at ha
    split at ha
    next x r =>
      obtain ⟨q, e1, e2⟩ := Option.map_eq_some_iff.mp ha
      cases e2; cases (of_decide_eq_true hl : len = 1)
      exact lv_lstore_n hx hb hd rfl (xe_XL_has X) (by rw [← X.2.2.1]; exact (xe_st2_get _ _ _ _ e1).2.1) rfl (fun A' hl' => k H locs A' cells slots (xe_XL_st2 hs X e1 hl') I hc hz)
    next => cases ha
  case astore i =>
    simp only [xe_lo, xe_stA] at ha
    split at ha
    next x r =>
      split at ha
      next hlo =>
        obtain ⟨q, e1, e2⟩ := Option.map_eq_some_iff.mp ha
        cases e2; cases (of_decide_eq_true hl : len = 2)
        simp only [List.map_cons]
        rw [xe_mv_lo hlo]
        exact lv_astore hx hb hd (xe_XL_has X) (by rw [← X.2.2.1]; exact (xe_st_get _ _ _ _ e1).2.1) rfl (fun A' hl' => k H locs A' cells slots (xe_XL_st hs X e1 (by rw [xe_mv_lo hlo]; exact hl')) I hc hz)
      next => cases ha
    next => cases ha
  case astore_n i =>
    simp only [xe_lo, xe_stA] at ha
    split at ha
    next x r =>
      split at ha
      next hlo =>
        obtain ⟨q, e1, e2⟩ := Option.map_eq_some_iff.mp ha
        cases e2; cases (of_decide_eq_true hl : len = 1)
        simp only [List.map_cons]
        rw [xe_mv_lo hlo]
        exact lv_astore_n hx hb hd rfl (xe_XL_has X) (by rw [← X.2.2.1]; exact (xe_st_get _ _ _ _ e1).2.1) rfl (fun A' hl' => k H locs A' cells slots (xe_XL_st hs X e1 (by rw [xe_mv_lo hlo]; exact hl')) I hc hz)
      next => cases ha
    next => cases ha
  case iinc i n =>
    simp only [xe_lo] at ha
    split at ha
    next x e0 =>
      obtain ⟨q, e1, e2⟩ := Option.map_eq_some_iff.mp ha
      cases e2; cases (of_decide_eq_true hl : len = 3)
      obtain ⟨j, hj⟩ := List.getElem?_of_mem (xe_lv_mem (B := B) (sv := sv) (ls := ls) (q := (i, .int x)).mpr ⟨.int x, e0, fun r q => (by cases q), rfl⟩)
      exact lv_iinc hx hb hd (xe_XL_has X) hj rfl (by rw [← X.2.2.1]; exact (xe_st_get _ _ _ _ e1).2.1) rfl (fun A' hl' => k H locs A' cells slots (xe_XL_st hs X e1 hl') I hc hz)
    next => cases ha
  all_goals cases ha
end XS
