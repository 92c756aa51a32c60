/-! ways: the class's list -/
def CQ (t : Bool) (b : bL) (q k : Nat) (h : xe_H) : Prop := (xe_R h 29 1 = some q ∧ k ≤ 9 ∧ (q = 31 ∨ (72 ≤ q ∧ q < xe_S)) ∧ xe_ob h q 9 ∧ xe_N h q = 256 * 2 ^ k ∧ xe_n h ≤ 72 + k ∧ xe_z h ≤ 209500 + 512 * 2 ^ k) ∧ b.1 ≤ 256 * 2 ^ k ∧ ∀ i, i < b.1 → xe_L h q i = lN (ent t (bS b i) (bM b i) (bF b i))
def CK (t : Bool) (b : bL) (h : xe_H) : Prop := ∀ X, X < bnd t → (xe_L h 30 (kx t X / 64)).toBitVec.getLsbD (kx t X % 64) = kn b X
def CW (t : Bool) (b : bL) (h : xe_H) : Prop := (∃ q k, CQ t b q k h) ∧ CK t b h ∧ xe_R h 29 4 = some 1 ∧ xe_I h 29 2 = nI b.1 ∧ xe_I h 29 5 = (if t then 1 else 0)
theorem CW_rm {t : Bool} {b : bL} {h : xe_H} (C : CW t b h) : rm h := by
  obtain ⟨⟨q, k, A, -⟩, -⟩ := C
  exact ⟨q, k, A⟩
/-- what was written, the queue's cells aside -/
def wq (S : Nat → Nat → Prop) (h h' : xe_H) : Prop := (sh h → sh h') ∧ (∀ a, a < 72 ∨ xe_S ≤ a → xe_T h' a = xe_T h a ∧ xe_N h' a = xe_N h a) ∧ ∀ a j, ¬ S a j → a < 72 ∨ xe_S ≤ a → xe_I h' a j = xe_I h a j
theorem wq_rf (S : Nat → Nat → Prop) (h : xe_H) : wq S h h := ⟨id, fun _ _ => ⟨rfl, rfl⟩, fun _ _ _ _ => rfl⟩
theorem wq_tr {S : Nat → Nat → Prop} {h1 h2 h3 : xe_H} (A : wq S h1 h2) (B : wq S h2 h3) : wq S h1 h3 := ⟨fun z => B.1 (A.1 z), fun a ha => ⟨(B.2.1 a ha).1.trans (A.2.1 a ha).1, (B.2.1 a ha).2.trans (A.2.1 a ha).2⟩, fun a j q ha => (B.2.2 a j q ha).trans (A.2.2 a j q ha)⟩
theorem wq_sub {S S' : Nat → Nat → Prop} {h h' : xe_H} (A : wq S h h') (q : ∀ a j, S a j → S' a j) : wq S' h h' := ⟨A.1, A.2.1, fun a j z ha => A.2.2 a j (fun y => z (q a j y)) ha⟩
theorem wq_sI {S : Nat → Nat → Prop} {h h' : xe_H} {a k : Nat} {v : Int32} (A : wq S h h') (q : S a k) : wq S h (xe_sI h' a k v) := ⟨A.1, A.2.1, fun b j z hb => by
  rw [hI_sI, if_neg (fun y => z (by rw [y.1, y.2]; exact q))]
  exact A.2.2 b j z hb⟩
theorem wq_sL {S : Nat → Nat → Prop} {h h' : xe_H} {a k : Nat} {v : Int64} (A : wq S h h') : wq S h (xe_sL2 h' a k v) := ⟨A.1, A.2.1, A.2.2⟩
theorem wq_fr {S : Nat → Nat → Prop} {h h' : xe_H} (A : wq S h h') (q : ∀ a j, S a j → a = 29 ∨ a = 32) (R : rm h') : fr h h' := ⟨A.1, fun _ => R, fun a ha => A.2.1 a (Or.inr ha), fun a j z => by
  have hS : xe_S = 1099511627776 := rfl
  refine A.2.2 a j (fun y => ?_) ?_
  · have := q a j y
    unfold cc cm' at z
    omega
  · unfold cc cm' at z
    omega⟩
theorem lg_0 (x : Int64) : (lg_cmp x 0 = 0) = (x = 0) := by
  rw [eq_iff_iff]
  unfold lg_cmp
  have h2 := fa_lt64 0 x
  have h3 := fa_eq64 x 0
  split
  · rename_i hq
    have hq := h2.mp hq
    exact ⟨fun z => absurd z (by decide), fun z => by rw [h3] at z; omega⟩
  · split
    · rename_i hq
      exact ⟨fun _ => hq, fun _ => rfl⟩
    · rename_i q1 q2
      exact ⟨fun z => absurd z (by decide), fun z => absurd z q2⟩
theorem kn_A {b : bL} {X k m Y : Nat} : kn (bA b X k m) Y = (kn b Y || decide (Y = X)) := by
  cases hk : kn b X with
  | true =>
    rw [bA_old hk]
    by_cases e : Y = X
    · rw [e, hk]; rfl
    · rw [decide_eq_false e, Bool.or_false]
  | false =>
    rw [bA_new hk]
    rw [Bool.eq_iff_iff, Bool.or_eq_true, decide_eq_true_iff, kn_t, kn_t]
    constructor
    · rintro ⟨i, hi, e⟩
      have hi : i < b.1 + 1 := hi
      have e : (if i = b.1 then ((X, k, m, bD b k + 1) : bE4) else b.2 i).1 = Y := e
      by_cases z : i = b.1
      · rw [if_pos z] at e; exact Or.inr e.symm
      · rw [if_neg z] at e; exact Or.inl ⟨i, by omega, e⟩
    · rintro (⟨i, hi, e⟩ | e)
      · refine ⟨i, Nat.lt_succ_of_lt hi, ?_⟩
        show (if i = b.1 then ((X, k, m, bD b k + 1) : bE4) else b.2 i).1 = Y
        rw [if_neg (by omega)]; exact e
      · refine ⟨b.1, Nat.lt_succ_self _, ?_⟩
        show (if b.1 = b.1 then ((X, k, m, bD b k + 1) : bE4) else b.2 b.1).1 = Y
        rw [if_pos rfl]; exact e.symm
section WI
variable {d : Nat} {h : xe_H} {t : Bool}
/-- the entry put at the end -/
theorem cl_putE {b : bL} {X m f q k : Nat} {l6 l7 l8 l9 : Value} (hX : X < bnd t) (hm : m < 64) (hf : f < 102400) (hb : b.1 < 102400) (hk : kn b X = false) (H : sh h) (C : CQ t b q k h) (hq : b.1 < 256 * 2 ^ k) (K : CK t (bA b X f m) h) (c4 : xe_R h 29 4 = some 1) (c2 : xe_I h 29 2 = nI b.1) (c5 : xe_I h 29 5 = (if t then 1 else 0)) {Q : Option Value → xe_H → Prop} (fin : ∀ h', wq (fun a j => a = 29 ∧ j = 2) h h' → CW t (bA b X f m) h' → Q (some (.int 1)) h') : xe_P d 78 105 [.ref 29, .int (nI (rp (fd X))), .int (nI (we t (X / 4096))), .int (nI (wl t (X / 4096))), .int (nI m), .int (nI f), l6, l7, l8, l9] [] h Q := by
  obtain ⟨⟨c1, ck, cq, co, cN, cn, cz⟩, cb, cL⟩ := C
  obtain ⟨w1, w2⟩ := we_5 hX
  have hr := rp_lt (fd_rp X)
  have eo := ent_or (r := rp (fd X)) (e := we t (X / 4096)) (l := wl t (X / 4096)) (m := m) (f := f) hr (by omega) (by omega) hm (by omega)
  have eN : b.1 < xe_N h q := by rw [cN]; exact hq
  simp only [xs_78_105, xs_78_106, xs_78_109, xs_78_110, xs_78_113, xs_78_114, xs_78_115, xs_78_116, xs_78_117, xs_78_119, xs_78_120, xs_78_121, xs_78_122, xs_78_123, xs_78_125, xs_78_126, xs_78_127, xs_78_129, xs_78_130, xs_78_132, xs_78_133, xs_78_134, xs_78_136, xs_78_137, xs_78_139, xs_78_140, xs_78_141, xs_78_142, xs_78_143, xs_78_143i, xs_78_144, xs_78_147, xs_78_148, xs_78_149, xs_78_152, xs_78_153, H, sT_0, sT_1, sT_2, sN_2, sA_2, sT_3, sN_3, sA_3, sT_4, sN_4, sA_4, sT_5, sN_5, sA_5, sT_6, sN_6, sA_6, sT_7, sT_8, sN_8, sA_8, sT_9, sN_9, sA_9, sT_10, sN_10, sA_10, sT_11, sN_11, sA_11, sT_12, sN_12, sA_12, sT_13, sN_13, sT_14, sT_15, sN_15, sA_15, sT_16, sN_16, sA_16, sT_17, sN_17, sA_17, sT_18, sN_18, sA_18, sT_19, sN_19, sA_19, sT_20, sT_21, sN_21, sA_21, sT_22, sN_22, sA_22, sT_23, sN_23, sA_23, sT_24, sN_24, sA_24, sT_25, sN_25, sA_25, sT_26, sN_26, sB_26, sT_27, sT_28, sN_28, sB_28, sT_29, sT_30, sN_30, sT_32, sN_32, sA_32, sT_33, sT_34, sN_34, sA_34, sT_35, sN_35, sA_35, sT_36, sT_37, sN_37, sA_37, sT_38, sN_38, sA_38, sT_39, sN_39, sA_39, sT_40, sN_40, sB_40, sT_41, sN_41, sA_41, sT_42, sN_42, sA_42, sT_43, sN_43, sA_43, sT_44, sT_45, sN_45, sA_45, sT_46, sN_46, sA_46, sT_47, sN_47, sA_47, sR_1_7, sR_1_8, sR_1_9, sR_1_10, sR_1_11, sR_0_0, sR_7_7, sR_7_8, sR_7_9, sR_7_10, sR_7_11, sR_0_1, sR_0_2, sR_14_7, sR_14_8, sR_14_9, sR_14_10, sR_14_11, sR_13_0, sR_20_7, sR_20_8, sR_20_9, sR_20_10, sR_20_11, sR_13_1, sR_0_3, sR_0_4, sR_27_0, sR_0_5, sR_29_0, sR_29_3, sR_0_6, sR_33_1, sR_33_2, sR_0_7, sR_36_2, sR_36_3, sR_36_4, sR_36_5, sR_36_6, sR_36_7, sR_36_8, sR_0_8, sR_44_0, sR_44_1, sR_44_2, c1, c2, co, eo, nIlt0 (show b.1 < 2 ^ 31 by omega), nI_clamp (show b.1 < 2 ^ 31 by omega), eN, nI_1, hI_sL, ho_sL, hR_sL, sh_sL, rf_some, xc_int, xc_ref, xc_ret, xc_long, xw_nil, xw_int, xw_ref, xw_long, tl_some, tl_none, true_and, and_true, Nat.zero_le, Nat.reduceAdd, Nat.reduceMul, Nat.reduceLeDiff, Nat.reduceLT, Nat.reduceEqDiff, Nat.reducePow, Int32.reduceAdd, Int32.reduceMul, Int32.reduceSub, Int32.reduceLT, Int32.reduceLE, Int32.reduceToNatClampNeg, litE, ixU, not_false_eq_true, not_true_eq_false, ↓reduceIte, eq_self, true_or, or_true, false_and, and_false, or_false, false_or, i10, i01, in10, i1n, xbT, xbF, r_lt]
  refine fin _ (wq_sI (wq_sL (wq_rf _ h)) ⟨rfl, rfl⟩) ?_
  have q30 : ¬ 30 = q := by omega
  rw [bA_new hk] at K ⊢
  refine ⟨⟨q, k, ⟨c1, ck, cq, co, cN, cn, cz⟩, hq, fun i hi => ?_⟩, fun Y hY => ?_, c4, ?_, ?_⟩
  · have hi : i < b.1 + 1 := hi
    rw [hL_sI, hL_sL]
    by_cases e : i = b.1
    · rw [if_pos ⟨rfl, e⟩]
      show _ = lN (ent t (if i = b.1 then ((X, f, m, bD b f + 1) : bE4) else b.2 i).1 (if i = b.1 then ((X, f, m, bD b f + 1) : bE4) else b.2 i).2.2.1 (if i = b.1 then ((X, f, m, bD b f + 1) : bE4) else b.2 i).2.1)
      rw [if_pos e]
      rfl
    · rw [if_neg (fun z => e z.2), cL i (by omega)]
      show _ = lN (ent t (if i = b.1 then ((X, f, m, bD b f + 1) : bE4) else b.2 i).1 (if i = b.1 then ((X, f, m, bD b f + 1) : bE4) else b.2 i).2.2.1 (if i = b.1 then ((X, f, m, bD b f + 1) : bE4) else b.2 i).2.1)
      rw [if_neg e]
      rfl
  · rw [hL_sI, hL_sL, if_neg (fun z => q30 z.1)]
    exact K Y hY
  · rw [hI_sI, if_pos ⟨rfl, rfl⟩]
  · rw [hI_sI, if_neg (by omega), hI_sL]
    exact c5
end WI
