/-! What the Statement gives of the start: statics, String constants, the classes; and the claim out of the small machine's run of the law. -/
def xe_fl : List Cond := flatC (Jvm.Cond.and given_1 narrow_1)
def xe_fi (i : Nat) (w : Cond) : Bool := decide (xe_fl[i]? = some w)
theorem xe_fi_in {i : Nat} {w : Cond} (h : xe_fi i w = true) : w ∈ xe_fl := List.mem_of_getElem? (of_decide_eq_true h)
def xe_pA : List Nat := [10, 20, 30, 40]
def xe_pL : List Nat := [11, 21, 31, 41]
def xe_pX : List Nat := [49, 59, 68, 77, 90, 103, 116]
def xe_pC : List Nat := [50, 60, 69, 78, 91, 104, 117]
def xe_pV : List Nat := [51, 61, 70, 79, 92, 105, 118]
def xe_pN : List Nat := [52, 62, 71, 80, 93, 106, 119]
def xe_pE : List (List Nat) := [[12, 13, 14, 15, 16, 17, 18], [22, 23, 24, 25, 26, 27, 28], [32, 33, 34, 35, 36, 37, 38], [42, 43, 44, 45, 46, 47, 48]]
def xe_pB : List (List Nat) := [[53, 54, 55, 56, 57, 58], [63, 64, 65, 66], [72, 73, 74], [81, 82, 83, 84, 85, 86], [94, 95, 96, 97, 98], [107, 108, 109, 110], [120, 121, 122]]
def xe_pP : List (List Nat) := [[0, 67, 75, 87, 99, 111, 123], [67, 0, 76, 88, 100, 112, 124], [75, 76, 0, 89, 101, 113, 125], [87, 88, 89, 0, 102, 114, 126], [99, 100, 101, 102, 0, 115, 127], [111, 112, 113, 114, 115, 0, 128], [123, 124, 125, 126, 127, 128, 0]]
abbrev xe_tA (j : Nat) : Term := .static "CrossShuts$Teller" (xe_sn.getD j "") "[I"
abbrev xe_tS (k : Nat) : Term := .string "CrossShuts$Teller" (xe_sx.getD k 0)
abbrev xe_tV (k : Nat) : Term := .field (xe_tS k) "java/lang/String" "value" "[B"
theorem xe_c1 : (List.range 4).all (fun j => xe_fi (xe_pA.getD j 0) (.arrayOf (xe_tA j) .int) && xe_fi (xe_pL.getD j 0) (.eq (.length (xe_tA j)) (.int (Int32.ofNat 7))) && (List.range 7).all (fun i => xe_fi ((xe_pE.getD j []).getD i 0) (.eq (.elem (xe_tA j) (.int (Int32.ofNat i))) (.int ((xe_sa.getD j []).getD i 0))))) = true := by decide +kernel
theorem xe_c2 : (List.range 7).all (fun k => xe_fi (xe_pX.getD k 0) (.exactly (xe_tS k) "java/lang/String") && xe_fi (xe_pC.getD k 0) (.eq (.field (xe_tS k) "java/lang/String" "coder" "B") (.int 0)) && xe_fi (xe_pV.getD k 0) (.arrayOf (xe_tV k) .byte) && xe_fi (xe_pN.getD k 0) (.eq (.length (xe_tV k)) (.int (Int32.ofNat (xe_len.getD k 0)))) && (List.range (xe_len.getD k 0)).all (fun j => xe_fi ((xe_pB.getD k []).getD j 0) (.eq (.elem (xe_tV k) (.int (Int32.ofNat j))) (.int ((xe_byt.getD k []).getD j 0)))) && decide (xe_len.getD k 0 < 2 ^ 31)) = true := by decide +kernel
theorem xe_c3 : (List.range 7).all (fun i => (List.range 7).all (fun j => decide (i = j) || xe_fi ((xe_pP.getD i []).getD j 0) (.not (.eq (xe_tS i) (xe_tS j))) || xe_fi ((xe_pP.getD i []).getD j 0) (.not (.eq (xe_tS j) (xe_tS i))))) = true := by decide +kernel
theorem xe_c4 : xe_fi 4 (.eq (.static "java/lang/String" "COMPACT_STRINGS" "Z") (.int 1)) = true := by decide +kernel
theorem xe_c5 : xe_fi 5 (.isRef (.static "jdk/internal/util/Preconditions" "SIOOBE_FORMATTER" "Ljava/util/function/BiFunction;")) = true := by decide +kernel
def xe_pS : List Nat := [517, 519, 532, 534]
theorem xe_c6 : (List.range 4).all (fun j => decide (lw_tbl[xe_pS.getD j 0]? = some (.laysStatic "CrossShuts$Teller" (xe_sn.getD j "") "[I"))) = true := by decide +kernel
theorem xe_c7 : Cond.laysStatic "java/lang/String" "COMPACT_STRINGS" "Z" ∈ lw_tbl := List.mem_of_getElem? (i := 477) (by decide +kernel)
theorem xe_c8 : Cond.laysStatic "jdk/internal/util/Preconditions" "SIOOBE_FORMATTER" "Ljava/util/function/BiFunction;" ∈ lw_tbl := List.mem_of_getElem? (i := 493) (by decide +kernel)
theorem xe_c9 : Cond.initialized "CrossShuts$Teller" ∈ lw_tbl := List.mem_of_getElem? (i := 80) (by decide +kernel)
theorem xe_c10 : Cond.initialized "java/lang/String" ∈ lw_tbl := List.mem_of_getElem? (i := 87) (by decide +kernel)
theorem xe_c11 : Cond.initialized "jdk/internal/util/Preconditions" ∈ lw_tbl := List.mem_of_getElem? (i := 89) (by decide +kernel)
def xe_pR : List Nat := [457, 458, 459, 460, 461, 462, 463]
theorem xe_c12 : (List.range 7).all (fun k => decide (lw_tbl[xe_pR.getD k 0]? = some (.stringRef "CrossShuts$Teller" (xe_sx.getD k 0) (xe_tx.getD k "")))) = true := by decide +kernel
theorem xe_c13 : Cond.arrayOver (.object "CrossShuts$Town") ∈ lw_tbl := List.mem_of_getElem? (i := 185) (by decide +kernel)
def xe_pI : List Nat := [272, 349, 187, 101, 300, 234, 93, 953]
theorem xe_c14 : (List.range 8).all (fun c => decide (lw_tbl[xe_pI.getD c 0]? = some (.instantiable (xe_on c) (xe_nf c)))) = true := by decide +kernel
/-- the own heap at the law's begin: nothing made yet; the script, the rows, the Strings -/
def xe_h0 (L : Nat) (xs : Nat → Int32) : xe_H := (0, 0,
  fun a => if a = xe_S then (8, L) else if xe_S + 1 ≤ a ∧ a < xe_S + 5 then (8, 7) else if xe_S + 12 ≤ a ∧ a < xe_S + 19 then (10, xe_len.getD (a - (xe_S + 12)) 0) else (13, 0),
  fun a => if a = xe_S then xs else if xe_S + 1 ≤ a ∧ a < xe_S + 5 then (fun i => (xe_sa.getD (a - (xe_S + 1)) []).getD i 0) else (fun i => (xe_byt.getD (a - (xe_S + 12)) []).getD i 0),
  fun _ _ => 0, fun _ _ => none)
theorem xe_h0_HS (L : Nat) (xs : Nat → Int32) : xe_HS L xs (xe_h0 L xs) := by
  refine ⟨Nat.zero_le _, ⟨rfl, rfl, rfl⟩, fun j hj => ?_, fun k hk => ?_⟩
  · have h1 : ¬ xe_S + (1 + j) = xe_S := by omega
    have h2 : xe_S + 1 ≤ xe_S + (1 + j) ∧ xe_S + (1 + j) < xe_S + 5 := by omega
    have h3 : xe_S + (1 + j) - (xe_S + 1) = j := by omega
    refine ⟨?_, ?_, fun i => ?_⟩
    · simp only [xe_T, xe_h0, if_neg h1, if_pos h2]
    · simp only [xe_N, xe_h0, if_neg h1, if_pos h2]
    · simp only [xe_I, xe_h0, if_neg h1, if_pos h2, h3]
  · have h1 : ¬ xe_S + (12 + k) = xe_S := by omega
    have h2 : ¬ (xe_S + 1 ≤ xe_S + (12 + k) ∧ xe_S + (12 + k) < xe_S + 5) := by omega
    have h4 : xe_S + 12 ≤ xe_S + (12 + k) ∧ xe_S + (12 + k) < xe_S + 19 := by omega
    have h3 : xe_S + (12 + k) - (xe_S + 12) = k := by omega
    refine ⟨?_, ?_, fun i => ?_⟩
    · simp only [xe_T, xe_h0, if_neg h1, if_neg h2, if_pos h4]
    · simp only [xe_N, xe_h0, if_neg h1, if_neg h2, if_pos h4, h3]
    · simp only [xe_I, xe_h0, if_neg h1, if_neg h2, h3]
theorem xe_arrK {args : Array Value} {s : State} {ty : FieldType} (hw : (Cond.arrayClass ty).before args s = true) (hra : ∀ cA, va_RA s cA ty = (s.vm.findClass ("[" ++ ty.toString) = some cA)) : ∃ cA, ArrOfT s cA ty ∧ va_RA s cA ty := by
  obtain ⟨cA, kA, comp, hfind, hk, hkind⟩ := Cond.arrayClass_spec hw
  refine ⟨cA, fun n z => ⟨fun k h => (by cases h), kA, hk, comp, hkind⟩, ?_⟩
  rw [hra]
  exact hfind
set_option maxHeartbeats 1000000 in
/-- what the start holds -/
theorem xe_G0 {s : State} {b L : Nat} {xs : Nat → Int32} (hts : ∀ w ∈ lw_tbl, w.before #[Value.ref b] s = true) (hX : va_X b L xs s s.heap) (hbl : b < s.heap.size) (hgv : (Jvm.Cond.and given_1 narrow_1).before #[Value.ref b] s = true) :
    ∃ (D : va_G) (sv : Nat → Value) (cy : Nat → ClassId), sv 0 = .ref b ∧ xe_G D s.heap.size sv cy L xs s := by
  have hs := flat_of_before _ hgv
  have hs : ∀ c ∈ xe_fl, c.before #[Value.ref b] s = true := hs
  have hA : ∀ a : Nat, a < s.heap.size → ¬ xe_F s.heap.size a := fun a h => Nat.not_le.mpr h
  have htb : ∀ w ∈ xe_tbl, w.before #[Value.ref b] s = true := fun w hw => hts w (xe_tbl_lw hw)
  -- the classes
  have hcls : ∀ c, ∃ q : ClassId × (Nat → Nat), c < 8 → u_Kn s (xe_on c) (xe_tb c) (xe_nf c) q.1 q.2 := by
    intro c
    by_cases hc : c < 8
    · have hi := hts _ (List.mem_of_getElem? (of_decide_eq_true (List.all_eq_true.mp xe_c14 c (List.mem_range.mpr hc))))
      obtain ⟨cC, iS, hk⟩ := u_known (C := xe_on c) (T := xe_tb c) (N := xe_nf c) (n := xe_nf c) htb (xe_uws c hc) hi
      exact ⟨(cC, iS), fun _ => hk⟩
    · exact ⟨(0, fun _ => 0), fun h => absurd h hc⟩
  obtain ⟨qc, hqc⟩ := Classical.axiomOfChoice hcls
  -- the array classes
  obtain ⟨cI, aI⟩ := xe_arrK (ty := .int) (htb _ xe_w_arrI) (fun _ => rfl)
  obtain ⟨cJ, aJ⟩ := xe_arrK (ty := .long) (htb _ xe_w_arrJ) (fun _ => rfl)
  obtain ⟨cB, aB⟩ := xe_arrK (ty := .byte) (htb _ xe_w_arrB) (fun _ => rfl)
  obtain ⟨cZ, aZ⟩ := xe_arrK (ty := .boolean) (htb _ xe_w_arrZ) (fun _ => rfl)
  obtain ⟨compT, cT, kT, o1, -, o3, o4, o5⟩ := Cond.arrayOver_spec (hts _ xe_c13)
  have aT : ArrOfT s cT (.object "CrossShuts$Town") ∧ va_RA s cT (.object "CrossShuts$Town") := ⟨fun n z => ⟨fun k h => (by cases h), kT, o3, compT, o4⟩, kT, compT, o3, o4, o1, o5⟩
  -- the rows
  have hrow : ∀ j, ∃ t : Nat, j < 4 → va_T .int t 7 (fun i => .int ((xe_sa.getD j []).getD i 0)) (xe_F s.heap.size) s s.heap ∧ va_Z "CrossShuts$Teller" (xe_sn.getD j "") "[I" (.ref t) (xe_F s.heap.size) s s.heap := by
    intro j
    by_cases hj : j < 4
    · have c1 := List.all_eq_true.mp xe_c1 j (List.mem_range.mpr hj)
      simp only [Bool.and_eq_true] at c1
      obtain ⟨⟨w1, w2⟩, w3⟩ := c1
      obtain ⟨t, ht, hT⟩ := va_Tof (f := fun i => .int ((xe_sa.getD j []).getD i 0)) (A := xe_F s.heap.size) (by decide) (hs _ (xe_fi_in w1)) (va_eqt (hs _ (xe_fi_in w2))) (fun i hi => va_eqt (hs _ (xe_fi_in (List.all_eq_true.mp w3 i (List.mem_range.mpr hi))))) hA
      have hl := hts _ (List.mem_of_getElem? (of_decide_eq_true (List.all_eq_true.mp xe_c6 j (List.mem_range.mpr hj))))
      exact ⟨t, fun _ => ⟨hT, va_Zof hl (hts _ xe_c9) ht hA⟩⟩
    · exact ⟨0, fun h => absurd h hj⟩
  obtain ⟨qr, hqr⟩ := Classical.axiomOfChoice hrow
  -- the Strings
  have c2 : ∀ k, k < 7 → _ := fun k hk => List.all_eq_true.mp xe_c2 k (List.mem_range.mpr hk)
  simp only [Bool.and_eq_true] at c2
  obtain ⟨adK, adV, hS, hK⟩ := vk_Sof (args := #[Value.ref b]) (s := s) (N := 7) (tm := xe_tS) (len := xe_len) (byt := xe_byt) (A := xe_F s.heap.size)
    (fun i hi => of_decide_eq_true (c2 i hi).2) (fun i hi => hs _ (xe_fi_in (c2 i hi).1.1.1.1.1)) (fun i hi => hs _ (xe_fi_in (c2 i hi).1.1.1.1.2)) (fun i hi => hs _ (xe_fi_in (c2 i hi).1.1.1.2)) (fun i hi => hs _ (xe_fi_in (c2 i hi).1.1.2))
    (fun i hi j hj => hs _ (xe_fi_in (List.all_eq_true.mp (c2 i hi).1.2 j (List.mem_range.mpr hj))))
    (fun i j hi hj hij => by
      have c3 := List.all_eq_true.mp (List.all_eq_true.mp xe_c3 i (List.mem_range.mpr hi)) j (List.mem_range.mpr hj)
      simp only [Bool.or_eq_true, decide_eq_true_eq] at c3
      rcases c3 with (q | q) | q
      · exact absurd q hij
      · exact Or.inl (hs _ (xe_fi_in q))
      · exact Or.inr (hs _ (xe_fi_in q))) hA
  have hcs : va_Z "java/lang/String" "COMPACT_STRINGS" "Z" (.int 1) (xe_F s.heap.size) s s.heap := va_Zof (hts _ xe_c7) (hts _ xe_c10) (va_eqi (hs _ (xe_fi_in xe_c4))) hA
  obtain ⟨fm, hfm, hfr⟩ : ∃ fm : Value, va_Z "jdk/internal/util/Preconditions" "SIOOBE_FORMATTER" "Ljava/util/function/BiFunction;" fm (xe_F s.heap.size) s s.heap ∧ ((∃ t, fm = .ref t) ∨ fm = .null) := by
    rcases va_Zqof (hts _ xe_c8) (hts _ xe_c11) (hs _ (xe_fi_in xe_c5)) hA with q | ⟨t, q⟩
    · exact ⟨.null, q, Or.inr rfl⟩
    · exact ⟨.ref t, q, Or.inl ⟨t, rfl⟩⟩
  refine ⟨(fun c => (qc c).1, fun c => (qc c).2), (fun j => if j = 0 then .ref b else if j < 5 then .ref (qr (j - 1)) else if j < 12 then .ref (adK (j - 5)) else if j < 19 then .ref (adV (j - 12)) else if j = 19 then fm else .null), (fun t => if t = 8 then cI else if t = 9 then cJ else if t = 10 then cB else if t = 11 then cZ else cT), rfl, ?_⟩
  refine ⟨Nat.le_refl _, ⟨?_, ?_⟩, ⟨b, rfl, hbl, hX⟩, fun j hj => ?_, ⟨adK, adV, hS, fun k hk => ?_⟩, hcs, hfm, ?_, va_AO.of (hts _ xe_c13), fun j => ?_⟩
  · intro c q hq
    have hc : c < 8 := (List.getElem?_eq_some_iff.mp hq).1
    rw [xe_clat c hc] at hq
    cases hq
    exact hqc c hc
  · intro k q hq
    match k, hq with
    | 0, hq => cases hq; exact aI
    | 1, hq => cases hq; exact aJ
    | 2, hq => cases hq; exact aB
    | 3, hq => cases hq; exact aZ
    | 4, hq => cases hq; exact aT
    | k + 5, hq => simp [xe_tys] at hq
  · refine ⟨qr j, ?_, (hqr j hj).1, (hqr j hj).2⟩
    dsimp only
    rw [if_neg (by omega), if_pos (by omega), Nat.add_sub_cancel_left]
  · refine ⟨?_, ?_, vk_R.of (hts _ (List.mem_of_getElem? (of_decide_eq_true (List.all_eq_true.mp xe_c12 k (List.mem_range.mpr hk))))) (hK k hk)⟩
    · dsimp only
      rw [if_neg (by omega), if_neg (by omega), if_pos (by omega), Nat.add_sub_cancel_left]
    · dsimp only
      rw [if_neg (by omega), if_neg (by omega), if_neg (by omega), if_pos (by omega), Nat.add_sub_cancel_left]
  · intro en he hk
    rw [← xe_cLp_ok] at he
    obtain ⟨⟨e1, ps⟩, he2, rfl⟩ := List.mem_map.mp he
    have ok := xe_cLp_all _ he2
    unfold xe_okC at ok
    dsimp only at hk ok
    rw [hk] at ok
    simp only [Bool.and_eq_true, decide_eq_true_eq] at ok
    exact va_Nw.of rfl (hts _ (List.mem_of_getElem? ok.1.1.1.1.2))
  · dsimp only
    split
    · exact Or.inl ⟨_, rfl⟩
    · split
      · exact Or.inl ⟨_, rfl⟩
      · split
        · exact Or.inl ⟨_, rfl⟩
        · split
          · exact Or.inl ⟨_, rfl⟩
          · split
            · exact hfr
            · exact Or.inr rfl

/-- THE LAW, out of the small machine's run of it -/
theorem xe_law_start {p : Program} {l : Launch} {e : Env} {s : State} {m : MethodId} {below : List Frame} {meth : Method} {c : Code} {b L : Nat} {xs : Nat → Int32} {Q : State → Prop} {d : Nat} (hd : d ≤ 1000)
    (hx : p.tables.exec = Jvm.exec) (hb : c.code = code) (hml : c.maxLocals = 4) (hown : s.vm.findClass "CrossShutsLaw" = some m.cls) (hts : ∀ w ∈ lw_tbl, w.before #[Value.ref b] s = true) (hX : va_X b L xs s s.heap) (hbl : b < s.heap.size) (hgv : (Jvm.Cond.and given_1 narrow_1).before #[Value.ref b] s = true)
    (hlaw : xe_C (d + 1) 219 [.ref xe_S] (xe_h0 L xs) (fun v h => v = some (.int 1) ∧ xe_n h ≤ 600000 ∧ xe_z h ≤ 7302250))
    (hret : ∀ (H : Heap) (locs : List Loc) (A : Array Slot) (cells slots pc : Nat), decode code pc = .ok (.ireturn, 1) → (∀ q ∈ locs, s.heap.size ≤ q.base) → cells ≤ 600000 → slots ≤ 7302250 → W p l e room_1 s m #[Value.ref b] below meth c H locs cells slots Q (F0 m pc A [.int 1])) :
    W p l e room_1 s m #[Value.ref b] below meth c s.heap [] 0 0 Q (entryFrame m ([Value.ref b] : List Value).toArray 4) := by
  obtain ⟨D, sv, cy, hsv, hG⟩ := xe_G0 hts hX hbl hgv
  have hs := hG.2.2.2.2.2.2.2.2.2
  obtain ⟨r, hr, hr1, hr2, hr3⟩ := hlaw
  obtain ⟨hlen, F, hF⟩ := (xe_ex_iff d 219 _ _ r).mp hr
  have hmv : ([.ref xe_S] : List Value).map (xe_mv s.heap.size sv) = [Value.ref b] := by
    have h1 : xe_mv s.heap.size sv (.ref xe_S) = sv 0 := xe_mv_hi (j := 0)
    simp only [List.map_cons, List.map_nil]
    rw [h1, hsv]
  have hFr : xe_Fr p s m #[Value.ref b] meth c 4 219 := ⟨hx, hb, hml, hown, fun w hw => hts w (xe_tbl_lw hw), fun q => absurd q (by decide +kernel)⟩
  have hXL := xe_XL_entry (B := s.heap.size) (n := 4) hs hlen
  rw [hmv] at hXL
  rw [lg_entry_eq]
  refine xe_follow (n0 := 0) (z0 := 0) (nL := 4) (d := d) (r := r) (fun z as h r hz hr => xe_sound l D s.heap.size sv cy L xs d z as h r hz hr) hFr hG rfl ⟨by show d + 1 ≤ 2048; omega, by show 64 * d + 64 ≤ 84000; omega⟩ (by show xe_n r.2 ≤ 0 + 600000; omega) (by show xe_z r.2 ≤ 0 + 7302250; omega) ?_ F 0 _ [] (xe_h0 L xs) hF s.heap [] _ 0 0 hXL ⟨fun k q hq => by simp [xe_W, xe_n, xe_h0] at hq, xe_h0_HS L xs, va_S.rf⟩ rfl rfl
  intro H locs A cells slots pc len ins st hdc hl hrv I hc hz
  rw [hr1] at hrv
  have hst : ins = .ireturn ∧ st = [.int 1] := by
    unfold xe_rv at hrv
    split at hrv
    next => cases hrv
    next x e3 => cases hrv; exact ⟨rfl, rfl⟩
    next x e3 =>
      split at hrv
      next => cases hrv; exact ⟨rfl, rfl⟩
      next => cases hrv
    next x e3 =>
      split at hrv
      next => cases hrv; exact ⟨rfl, rfl⟩
      next => cases hrv
    next x e3 =>
      split at hrv
      next => cases hrv; exact ⟨rfl, rfl⟩
      next => cases hrv
    next x e3 => cases hrv
    next x e3 =>
      split at hrv <;> cases hrv
    next x e3 =>
      split at hrv <;> cases hrv
    next => cases hrv
  obtain ⟨rfl, rfl⟩ := hst
  cases (of_decide_eq_true hl : len = 1)
  exact hret H locs A cells slots pc hdc I.2.2.2.2 (by omega) (by omega)

