/-! heap instructions, calls and answers, as equations -/
section XT2
variable {d y pc len : Nat} {ins : Instr} {ls ls' st st' : List Value} {h h' : xe_H} {Q : Option Value → xe_H → Prop}
def xe_ia (h : xe_H) (a : Nat) : Prop := xe_T h a = 8 ∧ (a < xe_n h ∨ (xe_S ≤ a ∧ a < xe_S + 5))
def xe_ba (h : xe_H) (a : Nat) : Prop := (xe_T h a = 10 ∧ (a < xe_n h ∨ (xe_S + 12 ≤ a ∧ a < xe_S + 19))) ∨ (xe_T h a = 11 ∧ a < xe_n h)
def xe_al (h : xe_H) (a : Nat) : Prop := 8 ≤ xe_T h a ∧ xe_T h a ≤ 12 ∧ (a < xe_n h ∨ (xe_S ≤ a ∧ a < xe_S + 5 ∧ xe_T h a = 8) ∨ (xe_S + 12 ≤ a ∧ a < xe_S + 19 ∧ xe_T h a = 10))
theorem xe_P_getI {i ci k a : Nat} (hc : xe_code y pc = some (.getfield i, 3)) (hf : xe_fF (xe_o y) i = some (ci, k)) (h8 : ci < 8) (ht : xe_isr (xe_ty ci k) = false) : xe_P d y pc ls (.ref a :: st) h Q = (xe_ob h a ci ∧ xe_P d y (pc + 3) ls (.int (xe_I h a k) :: st) h Q) :=
  xe_P_hp (b := a < xe_n h ∧ xe_T h a = ci) hc rfl rfl rfl rfl rfl (fun _ q => by cases q) (fun _ q => by cases q) (by simp only [xe_hp, hf, if_pos h8, xe_fv, ht]; rfl)
theorem xe_P_getR {i ci k a : Nat} (hc : xe_code y pc = some (.getfield i, 3)) (hf : xe_fF (xe_o y) i = some (ci, k)) (h8 : ci < 8) (ht : xe_isr (xe_ty ci k) = true) : xe_P d y pc ls (.ref a :: st) h Q = (xe_ob h a ci ∧ xe_P d y (pc + 3) ls (va_rf (xe_R h a k) :: st) h Q) :=
  xe_P_hp (b := a < xe_n h ∧ xe_T h a = ci) hc rfl rfl rfl rfl rfl (fun _ q => by cases q) (fun _ q => by cases q) (by simp only [xe_hp, hf, if_pos h8, xe_fv, ht]; rfl)
theorem xe_P_getS {i k a : Nat} (hc : xe_code y pc = some (.getfield i, 3)) (hf : xe_fF (xe_o y) i = some (13, k)) : xe_P d y pc ls (.ref a :: st) h Q = ((xe_S + 5 ≤ a ∧ a < xe_S + 12) ∧ xe_P d y (pc + 3) ls ((if k = 0 then .ref (a + 7) else .int 0) :: st) h Q) :=
  xe_P_hp (b := xe_S + 5 ≤ a ∧ a < xe_S + 12) hc rfl rfl rfl rfl rfl (fun _ q => by cases q) (fun _ q => by cases q) (by simp only [xe_hp, hf]; rfl)
theorem xe_P_putI {i ci k a : Nat} {v : Int32} (hc : xe_code y pc = some (.putfield i, 3)) (hf : xe_fF (xe_o y) i = some (ci, k)) (h8 : ci < 8) (hfin : (xe_tb ci k).2.2.2 = true → ((xe_nm y).name == "<init>") = true ∧ xe_o y = ci) (ht : xe_ty ci k = .int) : xe_P d y pc ls (.int v :: .ref a :: st) h Q = (xe_ob h a ci ∧ xe_P d y (pc + 3) ls st (xe_sI h a k v) Q) :=
  xe_P_hp (b := a < xe_n h ∧ xe_T h a = ci) hc rfl rfl rfl rfl rfl (fun _ q => by cases q) (fun _ q => by cases q) (by
    simp only [xe_hp, hf, ht, xe_fit]
    by_cases hq : a < xe_n h ∧ xe_T h a = ci
    · rw [if_pos hq, if_pos ⟨h8, hfin, hq.1, hq.2, trivial⟩]; rfl
    · rw [if_neg hq, if_neg (fun z => hq ⟨z.2.2.1, z.2.2.2.1⟩)])
theorem xe_P_putZ {i ci k a : Nat} {v : Int32} (hc : xe_code y pc = some (.putfield i, 3)) (hf : xe_fF (xe_o y) i = some (ci, k)) (h8 : ci < 8) (hfin : (xe_tb ci k).2.2.2 = true → ((xe_nm y).name == "<init>") = true ∧ xe_o y = ci) (ht : xe_ty ci k = .boolean) : xe_P d y pc ls (.int v :: .ref a :: st) h Q = ((xe_ob h a ci ∧ (v = 0 ∨ v = 1)) ∧ xe_P d y (pc + 3) ls st (xe_sI h a k v) Q) :=
  xe_P_hp (b := (a < xe_n h ∧ xe_T h a = ci) ∧ (v = 0 ∨ v = 1)) hc rfl rfl rfl rfl rfl (fun _ q => by cases q) (fun _ q => by cases q) (by
    simp only [xe_hp, hf, ht, xe_fit]
    by_cases hq : (a < xe_n h ∧ xe_T h a = ci) ∧ (v = 0 ∨ v = 1)
    · rw [if_pos hq, if_pos ⟨h8, hfin, hq.1.1, hq.1.2, by rcases hq.2 with q | q <;> rw [q] <;> rfl⟩]; rfl
    · rw [if_neg hq, if_neg (fun z => hq ⟨⟨z.2.2.1, z.2.2.2.1⟩, by have := z.2.2.2.2; simpa using this⟩)])
theorem xe_P_putR {i ci k a v : Nat} (hc : xe_code y pc = some (.putfield i, 3)) (hf : xe_fF (xe_o y) i = some (ci, k)) (h8 : ci < 8) (hfin : (xe_tb ci k).2.2.2 = true → ((xe_nm y).name == "<init>") = true ∧ xe_o y = ci) (ht : xe_isr (xe_ty ci k) = true) : xe_P d y pc ls (.ref v :: .ref a :: st) h Q = ((xe_ob h a ci ∧ v < xe_S) ∧ xe_P d y (pc + 3) ls st (xe_sR h a k (some v)) Q) := by
  have hft : xe_fit (xe_ty ci k) (.ref v) = decide (v < xe_S) := by
    cases e : xe_ty ci k <;> rw [e] at ht <;> first | rfl | cases ht
  refine xe_P_hp (b := (a < xe_n h ∧ xe_T h a = ci) ∧ v < xe_S) hc rfl rfl rfl rfl rfl (fun _ q => by cases q) (fun _ q => by cases q) ?_
  simp only [xe_hp, hf, hft]
  by_cases hq : (a < xe_n h ∧ xe_T h a = ci) ∧ v < xe_S
  · rw [if_pos hq, if_pos ⟨h8, hfin, hq.1.1, hq.1.2, decide_eq_true hq.2⟩]; rfl
  · rw [if_neg hq, if_neg (fun z => hq ⟨⟨z.2.2.1, z.2.2.2.1⟩, of_decide_eq_true z.2.2.2.2⟩)]
theorem xe_P_iald {i : Int32} {a : Nat} (hc : xe_code y pc = some (.iaload, 1)) : xe_P d y pc ls (.int i :: .ref a :: st) h Q = ((xe_ia h a ∧ xe_ix h a i) ∧ xe_P d y (pc + 1) ls (.int (xe_I h a i.toNatClampNeg) :: st) h Q) := by
  rw [xe_P_hp (b := xe_T h a = 8 ∧ (a < xe_n h ∨ (xe_S ≤ a ∧ a < xe_S + 5)) ∧ (decide (i < 0) || decide (xe_N h a ≤ i.toNatClampNeg)) = false) (st' := .int (xe_I h a i.toNatClampNeg) :: st) (h' := h) hc rfl rfl rfl rfl rfl (fun _ q => by cases q) (fun _ q => by cases q) rfl]
  simp only [xe_ia, xe_ix, and_assoc]
theorem xe_P_bald {i : Int32} {a : Nat} (hc : xe_code y pc = some (.baload, 1)) : xe_P d y pc ls (.int i :: .ref a :: st) h Q = ((xe_ba h a ∧ xe_ix h a i) ∧ xe_P d y (pc + 1) ls (.int (xe_I h a i.toNatClampNeg) :: st) h Q) := by
  rw [xe_P_hp (b := ((xe_T h a = 10 ∧ (a < xe_n h ∨ (xe_S + 12 ≤ a ∧ a < xe_S + 19))) ∨ (xe_T h a = 11 ∧ a < xe_n h)) ∧ (decide (i < 0) || decide (xe_N h a ≤ i.toNatClampNeg)) = false) (st' := .int (xe_I h a i.toNatClampNeg) :: st) (h' := h) hc rfl rfl rfl rfl rfl (fun _ q => by cases q) (fun _ q => by cases q) rfl]
  simp only [xe_ba, xe_ix]
theorem xe_P_lald {i : Int32} {a : Nat} (hc : xe_code y pc = some (.laload, 1)) : xe_P d y pc ls (.int i :: .ref a :: st) h Q = ((xe_ob h a 9 ∧ xe_ix h a i) ∧ xe_P d y (pc + 1) ls (.long (xe_L h a i.toNatClampNeg) :: st) h Q) := by
  rw [xe_P_hp (b := xe_T h a = 9 ∧ a < xe_n h ∧ (decide (i < 0) || decide (xe_N h a ≤ i.toNatClampNeg)) = false) (st' := .long (xe_L h a i.toNatClampNeg) :: st) (h' := h) hc rfl rfl rfl rfl rfl (fun _ q => by cases q) (fun _ q => by cases q) rfl]
  simp only [xe_ob, xe_ix, and_assoc, and_left_comm]
theorem xe_P_aald {i : Int32} {a b : Nat} (hc : xe_code y pc = some (.aaload, 1)) (hb : xe_R h a i.toNatClampNeg = some b) (hS : b < xe_S) : xe_P d y pc ls (.int i :: .ref a :: st) h Q = ((xe_ob h a 12 ∧ xe_ix h a i) ∧ xe_P d y (pc + 1) ls (.ref b :: st) h Q) := by
  rw [xe_P_hp (b := xe_T h a = 12 ∧ a < xe_n h ∧ (decide (i < 0) || decide (xe_N h a ≤ i.toNatClampNeg)) = false) (st' := .ref b :: st) (h' := h) hc rfl rfl rfl rfl rfl (fun _ q => by cases q) (fun _ q => by cases q) (by simp only [xe_hp, hb, if_pos hS])]
  simp only [xe_ob, xe_ix, and_assoc, and_left_comm]
theorem xe_P_iast {i x : Int32} {a : Nat} (hc : xe_code y pc = some (.iastore, 1)) : xe_P d y pc ls (.int x :: .int i :: .ref a :: st) h Q = ((xe_ob h a 8 ∧ xe_ix h a i) ∧ xe_P d y (pc + 1) ls st (xe_sI h a i.toNatClampNeg x) Q) := by
  rw [xe_P_hp (b := xe_T h a = 8 ∧ a < xe_n h ∧ (decide (i < 0) || decide (xe_N h a ≤ i.toNatClampNeg)) = false) (st' := st) (h' := xe_sI h a i.toNatClampNeg x) hc rfl rfl rfl rfl rfl (fun _ q => by cases q) (fun _ q => by cases q) rfl]
  simp only [xe_ob, xe_ix, and_assoc, and_left_comm]
theorem xe_P_last {i : Int32} {x : Int64} {a : Nat} (hc : xe_code y pc = some (.lastore, 1)) : xe_P d y pc ls (.long x :: .int i :: .ref a :: st) h Q = ((xe_ob h a 9 ∧ xe_ix h a i) ∧ xe_P d y (pc + 1) ls st (xe_sL2 h a i.toNatClampNeg x) Q) := by
  rw [xe_P_hp (b := xe_T h a = 9 ∧ a < xe_n h ∧ (decide (i < 0) || decide (xe_N h a ≤ i.toNatClampNeg)) = false) (st' := st) (h' := xe_sL2 h a i.toNatClampNeg x) hc rfl rfl rfl rfl rfl (fun _ q => by cases q) (fun _ q => by cases q) rfl]
  simp only [xe_ob, xe_ix, and_assoc, and_left_comm]
theorem xe_P_bastB {i x : Int32} {a : Nat} (hc : xe_code y pc = some (.bastore, 1)) (hT : xe_T h a = 10) : xe_P d y pc ls (.int x :: .int i :: .ref a :: st) h Q = ((xe_ob h a 10 ∧ xe_ix h a i) ∧ xe_P d y (pc + 1) ls st (xe_sI h a i.toNatClampNeg x.toInt8.toInt32) Q) := by
  rw [xe_P_hp (b := a < xe_n h ∧ (decide (i < 0) || decide (xe_N h a ≤ i.toNatClampNeg)) = false) (st' := st) (h' := xe_sI h a i.toNatClampNeg x.toInt8.toInt32) hc rfl rfl rfl rfl rfl (fun _ q => by cases q) (fun _ q => by cases q) (by simp only [xe_hp, if_pos hT])]
  simp only [xe_ob, xe_ix, hT, and_true, and_assoc]
theorem xe_P_bastZ {i x : Int32} {a : Nat} (hc : xe_code y pc = some (.bastore, 1)) (hT : xe_T h a = 11) : xe_P d y pc ls (.int x :: .int i :: .ref a :: st) h Q = ((xe_ob h a 11 ∧ xe_ix h a i ∧ (x = 0 ∨ x = 1)) ∧ xe_P d y (pc + 1) ls st (xe_sI h a i.toNatClampNeg x) Q) := by
  rw [xe_P_hp (b := a < xe_n h ∧ (decide (i < 0) || decide (xe_N h a ≤ i.toNatClampNeg)) = false ∧ (x = 0 ∨ x = 1)) (st' := st) (h' := xe_sI h a i.toNatClampNeg x) hc rfl rfl rfl rfl rfl (fun _ q => by cases q) (fun _ q => by cases q) (by
    simp only [xe_hp, hT]
    by_cases h1 : a < xe_n h ∧ (decide (i < 0) || decide (xe_N h a ≤ i.toNatClampNeg)) = false
    · by_cases h2 : x = 0 ∨ x = 1
      · rw [if_pos h1, if_neg (by decide), if_pos ⟨trivial, h2⟩, if_pos ⟨h1.1, h1.2, h2⟩]
      · rw [if_pos h1, if_neg (by decide), if_neg (fun z => h2 z.2), if_neg (fun z => h2 z.2.2)]
    · rw [if_neg h1, if_neg (fun z => h1 ⟨z.1, z.2.1⟩)])]
  simp only [xe_ob, xe_ix, hT, and_true, and_assoc]
theorem xe_P_aast {i : Int32} {a x : Nat} (hc : xe_code y pc = some (.aastore, 1)) : xe_P d y pc ls (.ref x :: .int i :: .ref a :: st) h Q = ((xe_ob h a 12 ∧ xe_ob h x 3 ∧ xe_n h ≤ xe_S ∧ xe_ix h a i) ∧ xe_P d y (pc + 1) ls st (xe_sR h a i.toNatClampNeg (some x)) Q) := by
  rw [xe_P_hp (b := xe_T h a = 12 ∧ a < xe_n h ∧ x < xe_n h ∧ xe_n h ≤ xe_S ∧ xe_T h x = 3 ∧ (decide (i < 0) || decide (xe_N h a ≤ i.toNatClampNeg)) = false) (st' := st) (h' := xe_sR h a i.toNatClampNeg (some x)) hc rfl rfl rfl rfl rfl (fun _ q => by cases q) (fun _ q => by cases q) rfl]
  simp only [xe_ob, xe_ix]
  rw [eq_iff_iff]
  constructor
  · rintro ⟨⟨a1, a2, a3, a4, a5, a6⟩, a7⟩; exact ⟨⟨⟨a2, a1⟩, ⟨a3, a5⟩, a4, a6⟩, a7⟩
  · rintro ⟨⟨⟨a2, a1⟩, ⟨a3, a5⟩, a4, a6⟩, a7⟩; exact ⟨⟨a1, a2, a3, a4, a5, a6⟩, a7⟩
theorem xe_P_alen {a : Nat} (hc : xe_code y pc = some (.arraylength, 1)) : xe_P d y pc ls (.ref a :: st) h Q = (xe_al h a ∧ xe_P d y (pc + 1) ls (.int (Int32.ofNat (xe_N h a)) :: st) h Q) :=
  xe_P_hp (b := 8 ≤ xe_T h a ∧ xe_T h a ≤ 12 ∧ (a < xe_n h ∨ (xe_S ≤ a ∧ a < xe_S + 5 ∧ xe_T h a = 8) ∨ (xe_S + 12 ≤ a ∧ a < xe_S + 19 ∧ xe_T h a = 10))) hc rfl rfl rfl rfl rfl (fun _ q => by cases q) (fun _ q => by cases q) rfl
theorem xe_P_newa {i : Int32} {t : ArrayType} (hc : xe_code y pc = some (.newarray t, 2)) (h8 : 8 ≤ xe_at t) : xe_P d y pc ls (.int i :: st) h Q = ((¬ i < 0 ∧ i.toNatClampNeg ≤ 200000 ∧ xe_n h < xe_S) ∧ xe_P d y (pc + 2) ls (.ref (xe_n h) :: st) (xe_new h (xe_at t) i.toNatClampNeg) Q) := by
  rw [xe_P_hp (b := 8 ≤ xe_at t ∧ ¬ i < 0 ∧ i.toNatClampNeg ≤ 200000 ∧ xe_n h < xe_S) (st' := .ref (xe_n h) :: st) (h' := xe_new h (xe_at t) i.toNatClampNeg) hc rfl rfl rfl rfl rfl (fun _ q => by cases q) (fun _ q => by cases q) rfl]
  simp only [h8, true_and]
theorem xe_P_newq {i : Int32} {j : Nat} (hc : xe_code y pc = some (.anewarray j, 3)) (hf : xe_fA (xe_o y) j = true) : xe_P d y pc ls (.int i :: st) h Q = ((¬ i < 0 ∧ i.toNatClampNeg ≤ 200000 ∧ xe_n h < xe_S) ∧ xe_P d y (pc + 3) ls (.ref (xe_n h) :: st) (xe_new h 12 i.toNatClampNeg) Q) := by
  rw [xe_P_hp (b := xe_fA (xe_o y) j = true ∧ ¬ i < 0 ∧ i.toNatClampNeg ≤ 200000 ∧ xe_n h < xe_S) (st' := .ref (xe_n h) :: st) (h' := xe_new h 12 i.toNatClampNeg) hc rfl rfl rfl rfl rfl (fun _ q => by cases q) (fun _ q => by cases q) rfl]
  simp only [hf, true_and]
theorem xe_P_new {j ci : Nat} (hc : xe_code y pc = some (.new j, 3)) (hf : xe_fK (xe_o y) j = some ci) (h8 : ci < 8) : xe_P d y pc ls st h Q = (xe_n h < xe_S ∧ xe_P d y (pc + 3) ls (.ref (xe_n h) :: st) (xe_new h ci (xe_nf ci)) Q) := by
  rw [xe_P_hp (b := ci < 8 ∧ xe_n h < xe_S) (st' := .ref (xe_n h) :: st) (h' := xe_new h ci (xe_nf ci)) hc rfl rfl rfl (by cases xe_rt y <;> rfl) rfl (fun _ q => by cases q) (fun _ q => by cases q) (by simp only [xe_hp, hf])]
  simp only [h8, true_and]
theorem xe_P_ldc {j : Nat} {v : Int32} (hc : xe_code y pc = some (.ldc j, 2)) (hf : xe_fI (xe_o y) j = some v) : xe_P d y pc ls st h Q = xe_P d y (pc + 2) ls (.int v :: st) h Q :=
  xe_P_hp1 hc rfl rfl rfl (by simp only [xe_hp, hf])
theorem xe_P_ldcS {j k : Nat} (hc : xe_code y pc = some (.ldc j, 2)) (hf : xe_fI (xe_o y) j = none) (hf2 : xe_fT (xe_o y) j = some k) : xe_P d y pc ls st h Q = xe_P d y (pc + 2) ls (.ref (xe_S + (5 + k)) :: st) h Q :=
  xe_P_hp1 hc rfl rfl rfl (by simp only [xe_hp, hf, hf2])
theorem xe_P_ldc2 {j : Nat} {v : Int64} (hc : xe_code y pc = some (.ldc2_w j, 3)) (hf : xe_fJ (xe_o y) j = some v) : xe_P d y pc ls st h Q = xe_P d y (pc + 3) ls (.long v :: st) h Q :=
  xe_P_hp1 hc rfl rfl rfl (by simp only [xe_hp, hf])
theorem xe_P_gets {j k : Nat} (hc : xe_code y pc = some (.getstatic j, 3)) (hf : xe_fS (xe_o y) j = some k) (hk : ¬ k = 20) : xe_P d y pc ls st h Q = xe_P d y (pc + 3) ls (.ref (xe_S + k) :: st) h Q :=
  xe_P_hp1 hc rfl rfl rfl (by simp only [xe_hp, hf, if_neg hk])
theorem xe_P_gets1 {j : Nat} (hc : xe_code y pc = some (.getstatic j, 3)) (hf : xe_fS (xe_o y) j = some 20) : xe_P d y pc ls st h Q = xe_P d y (pc + 3) ls (.int 1 :: st) h Q :=
  xe_P_hp1 hc rfl rfl rfl (by simp only [xe_hp, hf]; rfl)
/-- answers -/
theorem xe_P_ret {v : Option Value} {b : Prop} [Decidable b] (hc : xe_code y pc = some (ins, len)) (ha : xe_ar ins st = none) (hl : xe_lo ins ls st = none) (hb : xe_br ins st = none) (hh : xe_hp (xe_o y) ((xe_nm y).name == "<init>") ins st h = none) (hk : xe_ca (xe_o y) ins st h = none) (h1 : ∀ i, ins ≠ .invokespecial i) (h2 : ∀ i, ins ≠ .invokestatic i) (hr : xe_rv (xe_rt y) ins st = if b then some v else none) : xe_P d y pc ls st h Q = (b ∧ Q v h) := by
  rw [eq_iff_iff, xe_P_at hc]
  by_cases hq : b
  · rw [if_pos hq] at hr
    have e1 : xe_one (xe_ex d) y pc ins len ls st h = some (.inr (v, h)) := by unfold xe_one; rw [ha, hl, hb, hh, hr]
    rw [e1]
    simp [hq]
  · rw [if_neg hq] at hr
    have e1 : xe_one (xe_ex d) y pc ins len ls st h = none := by
      unfold xe_one
      rw [ha, hl, hb, hh, hr, hk]
      dsimp only
      split
      · exact absurd rfl (h1 _)
      · exact absurd rfl (h2 _)
      · rfl
    rw [e1]
    simp [hq]
theorem xe_P_ireturn {x : Int32} (hc : xe_code y pc = some (.ireturn, 1)) (ht : xe_rt y = some .int) : xe_P d y pc ls [.int x] h Q = Q (some (.int x)) h := by
  rw [xe_P_ret (v := some (.int x)) (b := True) hc rfl rfl rfl rfl rfl (fun _ q => by cases q) (fun _ q => by cases q) (by rw [ht]; rfl)]
  simp
theorem xe_P_zreturn {x : Int32} (hc : xe_code y pc = some (.ireturn, 1)) (ht : xe_rt y = some .boolean) : xe_P d y pc ls [.int x] h Q = ((x = 0 ∨ x = 1) ∧ Q (some (.int x)) h) :=
  xe_P_ret (v := some (.int x)) (b := x = 0 ∨ x = 1) hc rfl rfl rfl rfl rfl (fun _ q => by cases q) (fun _ q => by cases q) (by rw [ht]; rfl)
theorem xe_P_breturn {x : Int32} (hc : xe_code y pc = some (.ireturn, 1)) (ht : xe_rt y = some .byte) : xe_P d y pc ls [.int x] h Q = (x = 0 ∧ Q (some (.int x)) h) :=
  xe_P_ret (v := some (.int x)) (b := x = 0) hc rfl rfl rfl rfl rfl (fun _ q => by cases q) (fun _ q => by cases q) (by rw [ht]; rfl)
theorem xe_P_creturn {x : Int32} (hc : xe_code y pc = some (.ireturn, 1)) (ht : xe_rt y = some .char) : xe_P d y pc ls [.int x] h Q = ((¬ x < 0 ∧ x ≤ 255) ∧ Q (some (.int x)) h) :=
  xe_P_ret (v := some (.int x)) (b := ¬ x < 0 ∧ x ≤ 255) hc rfl rfl rfl rfl rfl (fun _ q => by cases q) (fun _ q => by cases q) (by rw [ht]; rfl)
theorem xe_P_lreturn {x : Int64} (hc : xe_code y pc = some (.lreturn, 1)) (ht : xe_rt y = some .long) : xe_P d y pc ls [.long x] h Q = Q (some (.long x)) h := by
  rw [xe_P_ret (v := some (.long x)) (b := True) hc rfl rfl rfl rfl rfl (fun _ q => by cases q) (fun _ q => by cases q) (by rw [ht]; rfl)]
  simp
theorem xe_P_vreturn (hc : xe_code y pc = some (.return_, 1)) (ht : xe_rt y = none) : xe_P d y pc ls [] h Q = Q none h := by
  rw [xe_P_ret (v := none) (b := True) hc rfl rfl rfl rfl rfl (fun _ q => by cases q) (fun _ q => by cases q) (by rw [ht]; rfl)]
  simp
theorem xe_P_areturn {x : Nat} {t : FieldType} (hc : xe_code y pc = some (.areturn, 1)) (ht : xe_rt y = some (.array t)) : xe_P d y pc ls [.ref x] h Q = (x < xe_S ∧ Q (some (.ref x)) h) :=
  xe_P_ret (v := some (.ref x)) (b := x < xe_S) hc rfl rfl rfl rfl rfl (fun _ q => by cases q) (fun _ q => by cases q) (by rw [ht]; rfl)
theorem xe_P_oreturn {x : Nat} {t : String} (hc : xe_code y pc = some (.areturn, 1)) (ht : xe_rt y = some (.object t)) : xe_P d y pc ls [.ref x] h Q = ((xe_S + 5 ≤ x ∧ x < xe_S + 12) ∧ Q (some (.ref x)) h) :=
  xe_P_ret (v := some (.ref x)) (b := xe_S + 5 ≤ x ∧ x < xe_S + 12) hc rfl rfl rfl rfl rfl (fun _ q => by cases q) (fun _ q => by cases q) (by rw [ht]; rfl)
/-- calls -/
theorem xe_P_call {z : Nat} {as rest : List Value} {b : Prop} [Decidable b] (hc : xe_code y pc = some (ins, len)) (ha : xe_ar ins st = none) (hl : xe_lo ins ls st = none) (hb : xe_br ins st = none) (hh : xe_hp (xe_o y) ((xe_nm y).name == "<init>") ins st h = none) (hr : xe_rv (xe_rt y) ins st = none) (h1 : ∀ i, ins = .invokespecial i → xe_fC (xe_o y) i ≠ some (4, 0)) (h2 : ∀ i, ins = .invokestatic i → xe_mm (xe_fC (xe_o y) i) st h = none) (hk : xe_ca (xe_o y) ins st h = if b then some (z, as, rest) else none) : xe_P d y pc ls st h Q = (b ∧ xe_C d z as h (fun r h' => xe_P d y (pc + len) ls (r.toList ++ rest) h' Q)) := by
  rw [eq_iff_iff, xe_P_at hc]
  by_cases hq : b
  · rw [if_pos hq] at hk
    have e1 : xe_one (xe_ex d) y pc ins len ls st h = match xe_ex d z as h with
        | some (some v, h') => some (.inl (pc + len, ls, v :: rest, h'))
        | some (none, h') => some (.inl (pc + len, ls, rest, h'))
        | none => none := by
      unfold xe_one
      rw [ha, hl, hb, hh, hr, hk]
      dsimp only
      rcases xe_ex d z as h with _ | ⟨_ | v, h'⟩ <;> rfl
    rw [e1]
    unfold xe_C
    cases hx : xe_ex d z as h with
    | none => simp
    | some r =>
      obtain ⟨v, h'⟩ := r
      cases v <;> simp [hq]
  · rw [if_neg hq] at hk
    have e1 : xe_one (xe_ex d) y pc ins len ls st h = none := by
      unfold xe_one
      rw [ha, hl, hb, hh, hr, hk]
      dsimp only
      split
      · rw [if_neg (fun z => h1 _ rfl z.1)]
      · rw [h2 _ rfl]
      · rfl
    rw [e1]
    simp [hq]
theorem xe_P_ivs {i z : Nat} {vs : List Value} (hc : xe_code y pc = some (.invokestatic i, 3)) (hf : xe_fC (xe_o y) i = some (1, z)) (hn : vs.length = xe_np z) : xe_P d y pc ls (vs ++ st) h Q = (xe_w st ≤ 8 ∧ xe_C d z vs.reverse h (fun r h' => xe_P d y (pc + 3) ls (r.toList ++ st) h' Q)) := by
  refine xe_P_call hc rfl rfl rfl rfl (by cases xe_rt y <;> rfl) (fun _ q => by cases q) (fun j q => by cases q; rw [hf]; rfl) ?_
  simp only [xe_ca, hf, ← hn, List.length_append, Nat.le_add_right, true_and, List.take_left', List.drop_left']
theorem xe_P_ivv {i z a : Nat} {vs : List Value} (hc : xe_code y pc = some (.invokevirtual i, 3)) (hf : xe_fC (xe_o y) i = some (0, z)) (hn : vs.length = xe_np z) (ho : xe_o z < 8) : xe_P d y pc ls (vs ++ .ref a :: st) h Q = ((xe_w st ≤ 8 ∧ xe_ob h a (xe_o z)) ∧ xe_C d z (.ref a :: vs.reverse) h (fun r h' => xe_P d y (pc + 3) ls (r.toList ++ st) h' Q)) := by
  refine xe_P_call (b := xe_w st ≤ 8 ∧ (a < xe_n h ∧ xe_T h a = xe_o z)) hc rfl rfl rfl rfl (by cases xe_rt y <;> rfl) (fun _ q => by cases q) (fun _ q => by cases q) ?_
  have h9 : ¬ xe_o z = 9 := by omega
  simp only [xe_ca, hf, ← hn, List.take_left', List.drop_left', true_and, ho, h9, false_and, or_false]
theorem xe_P_ivstr {i z a : Nat} {vs : List Value} (hc : xe_code y pc = some (.invokevirtual i, 3)) (hf : xe_fC (xe_o y) i = some (0, z)) (hn : vs.length = xe_np z) (ho : xe_o z = 9) : xe_P d y pc ls (vs ++ .ref a :: st) h Q = ((xe_w st ≤ 8 ∧ xe_S + 5 ≤ a ∧ a < xe_S + 12) ∧ xe_C d z (.ref a :: vs.reverse) h (fun r h' => xe_P d y (pc + 3) ls (r.toList ++ st) h' Q)) := by
  refine xe_P_call (b := xe_w st ≤ 8 ∧ (xe_S + 5 ≤ a ∧ a < xe_S + 12)) hc rfl rfl rfl rfl (by cases xe_rt y <;> rfl) (fun _ q => by cases q) (fun _ q => by cases q) ?_
  have h9 : ¬ xe_o z < 8 := by omega
  simp only [xe_ca, hf, ← hn, List.take_left', List.drop_left', true_and, ho, show ¬ (9 : Nat) < 8 by decide, false_and, false_or]
theorem xe_P_ivi {i z a k : Nat} {vs : List Value} (hc : xe_code y pc = some (.invokespecial i, 3)) (hf : xe_fC (xe_o y) i = some (k, z)) (hk : k = 2 ∨ k = 3) (hn : vs.length = xe_np z) : xe_P d y pc ls (vs ++ .ref a :: st) h Q = ((xe_w st ≤ 8 ∧ a < xe_n h ∧ xe_n h ≤ xe_S) ∧ xe_C d z (.ref a :: vs.reverse) h (fun r h' => xe_P d y (pc + 3) ls (r.toList ++ st) h' Q)) := by
  refine xe_P_call (b := xe_w st ≤ 8 ∧ a < xe_n h ∧ xe_n h ≤ xe_S) hc rfl rfl rfl rfl (by cases xe_rt y <;> rfl) (fun j q => by cases q; rw [hf]; intro q; cases q; omega) (fun _ q => by cases q) ?_
  simp only [xe_ca, hf, ← hn, List.take_left', List.drop_left', hk, true_and]
theorem xe_P_obj {i a : Nat} (hc : xe_code y pc = some (.invokespecial i, 3)) (hf : xe_fC (xe_o y) i = some (4, 0)) (hn : xe_np 0 = 0) : xe_P d y pc ls (.ref a :: st) h Q = ((a < xe_n h ∧ xe_n h ≤ xe_S ∧ xe_w st ≤ 8) ∧ xe_P d y (pc + 3) ls st h Q) := by
  have hk : xe_ca (xe_o y) (.invokespecial i) (.ref a :: st) h = none := by
    simp only [xe_ca, hf, hn, List.drop_zero]
    rw [if_neg (by omega)]
  by_cases hq : a < xe_n h ∧ xe_n h ≤ xe_S ∧ xe_w st ≤ 8
  · rw [xe_P_next (x := (pc + 3, ls, st, h)) hc (by
      unfold xe_one
      rw [hk]
      have e1 : xe_rv (xe_rt y) (.invokespecial i) (.ref a :: st) = none := by cases xe_rt y <;> rfl
      rw [e1]
      simp only [xe_ar, xe_lo, xe_br, xe_hp]
      rw [if_pos ⟨hf, hq⟩])]
    simp [hq]
  · rw [xe_P_none hc (by
      unfold xe_one
      rw [hk]
      have e1 : xe_rv (xe_rt y) (.invokespecial i) (.ref a :: st) = none := by cases xe_rt y <;> rfl
      rw [e1]
      simp only [xe_ar, xe_lo, xe_br, xe_hp]
      rw [if_neg (fun z => hq z.2)])]
    simp [hq]
theorem xe_P_mm {i k : Nat} {b : Prop} [Decidable b] (hc : xe_code y pc = some (.invokestatic i, 3)) (hf : xe_fC (xe_o y) i = some (k, 0)) (hk : k ≠ 1) (hm : xe_mm (some (k, 0)) st h = if b then some (st', h') else none) : xe_P d y pc ls st h Q = (b ∧ xe_P d y (pc + 3) ls st' h' Q) := by
  have hca : xe_ca (xe_o y) (.invokestatic i) st h = none := by
    simp only [xe_ca, hf]
    rw [if_neg (fun z => hk z.1)]
  have e1 : xe_rv (xe_rt y) (.invokestatic i) st = none := by cases xe_rt y <;> rfl
  by_cases hq : b
  · rw [if_pos hq] at hm
    rw [xe_P_next (x := (pc + 3, ls, st', h')) hc (by
      unfold xe_one
      rw [hca, e1]
      simp only [xe_ar, xe_lo, xe_br, xe_hp, hf, hm])]
    simp [hq]
  · rw [if_neg hq] at hm
    rw [xe_P_none hc (by
      unfold xe_one
      rw [hca, e1]
      simp only [xe_ar, xe_lo, xe_br, xe_hp, hf, hm])]
    simp [hq]
theorem xe_P_max {i : Nat} {x v : Int32} (hc : xe_code y pc = some (.invokestatic i, 3)) (hf : xe_fC (xe_o y) i = some (6, 0)) : xe_P d y pc ls (.int v :: .int x :: st) h Q = (xe_w st ≤ 8 ∧ xe_P d y (pc + 3) ls (.int (if x < v then v else x) :: st) h Q) :=
  xe_P_mm hc hf (by decide) rfl
theorem xe_P_min {i : Nat} {x v : Int32} (hc : xe_code y pc = some (.invokestatic i, 3)) (hf : xe_fC (xe_o y) i = some (7, 0)) : xe_P d y pc ls (.int v :: .int x :: st) h Q = (xe_w st ≤ 8 ∧ xe_P d y (pc + 3) ls (.int (if v < x then v else x) :: st) h Q) :=
  xe_P_mm hc hf (by decide) rfl
theorem xe_P_cpyI {i a b : Nat} {n dp sp : Int32} (hc : xe_code y pc = some (.invokestatic i, 3)) (hf : xe_fC (xe_o y) i = some (5, 0)) (hTa : xe_T h a = 8) (hTb : xe_T h b = 8) : xe_P d y pc ls (.int n :: .int dp :: .ref b :: .int sp :: .ref a :: st) h Q = ((xe_w st ≤ 8 ∧ a < xe_n h ∧ b < xe_n h ∧ ¬ sp < 0 ∧ ¬ dp < 0 ∧ ¬ n < 0 ∧ sp.toNatClampNeg + n.toNatClampNeg ≤ xe_N h a ∧ dp.toNatClampNeg + n.toNatClampNeg ≤ xe_N h b) ∧ xe_P d y (pc + 3) ls st (xe_aI h b (va_cpy (xe_I h a) (xe_I h b) sp.toNatClampNeg dp.toNatClampNeg n.toNatClampNeg)) Q) :=
  xe_P_mm hc hf (by decide) (by simp only [xe_mm, xe_cp, hTa, hTb]; rfl)
theorem xe_P_cpyL {i a b : Nat} {n dp sp : Int32} (hc : xe_code y pc = some (.invokestatic i, 3)) (hf : xe_fC (xe_o y) i = some (5, 0)) (hTa : xe_T h a = 9) (hTb : xe_T h b = 9) : xe_P d y pc ls (.int n :: .int dp :: .ref b :: .int sp :: .ref a :: st) h Q = ((xe_w st ≤ 8 ∧ a < xe_n h ∧ b < xe_n h ∧ ¬ sp < 0 ∧ ¬ dp < 0 ∧ ¬ n < 0 ∧ sp.toNatClampNeg + n.toNatClampNeg ≤ xe_N h a ∧ dp.toNatClampNeg + n.toNatClampNeg ≤ xe_N h b) ∧ xe_P d y (pc + 3) ls st (xe_aL2 h b (va_cpy (xe_L h a) (xe_L h b) sp.toNatClampNeg dp.toNatClampNeg n.toNatClampNeg)) Q) :=
  xe_P_mm hc hf (by decide) (by simp only [xe_mm, xe_cp, hTa, hTb]; rfl)
/-- a method's begin -/
theorem xe_C_at {as : List Value} (hl : (xe_la as).length ≤ xe_ml y) (h0 : xe_l0 (xe_ml y) as = ls) : xe_C (d + 1) y as h Q = xe_P d y 0 ls [] h Q := by
  rw [eq_iff_iff, xe_C_iff, h0]
  simp [hl]
end XT2
