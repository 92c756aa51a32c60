/-! the own heap, read behind writes -/
section HP
variable (h : xe_H) (a k b j t n : Nat) (v : Int32) (w : Int64) (r : Option Nat) (i : Int32)
theorem hI_sI : xe_I (xe_sI h a k v) b j = if b = a ∧ j = k then v else xe_I h b j := by
  show (if b = a then upd (xe_I h a) k v else xe_I h b) j = _
  by_cases h1 : b = a
  · subst h1
    by_cases h2 : j = k
    · subst h2; simp [upd]
    · simp [upd, h2]
  · simp [h1]
theorem hL_sI : xe_L (xe_sI h a k v) = xe_L h := rfl
theorem hR_sI : xe_R (xe_sI h a k v) = xe_R h := rfl
theorem hT_sI : xe_T (xe_sI h a k v) b = xe_T h b := rfl
theorem hN_sI : xe_N (xe_sI h a k v) b = xe_N h b := rfl
theorem hn_sI : xe_n (xe_sI h a k v) = xe_n h := rfl
theorem hz_sI : xe_z (xe_sI h a k v) = xe_z h := rfl
theorem ho_sI : xe_ob (xe_sI h a k v) b t = xe_ob h b t := rfl
theorem hia_sI : xe_ia (xe_sI h a k v) b = xe_ia h b := rfl
theorem hba_sI : xe_ba (xe_sI h a k v) b = xe_ba h b := rfl
theorem hal_sI : xe_al (xe_sI h a k v) b = xe_al h b := rfl
theorem hix_sI : xe_ix (xe_sI h a k v) b i = xe_ix h b i := rfl
theorem hL_sL : xe_L (xe_sL2 h a k w) b j = if b = a ∧ j = k then w else xe_L h b j := by
  show (if b = a then vp_updL (xe_L h a) k w else xe_L h b) j = _
  by_cases h1 : b = a
  · subst h1
    by_cases h2 : j = k
    · subst h2; simp [vp_updL]
    · simp [vp_updL, h2]
  · simp [h1]
theorem hI_sL : xe_I (xe_sL2 h a k w) = xe_I h := rfl
theorem hR_sL : xe_R (xe_sL2 h a k w) = xe_R h := rfl
theorem hT_sL : xe_T (xe_sL2 h a k w) b = xe_T h b := rfl
theorem hN_sL : xe_N (xe_sL2 h a k w) b = xe_N h b := rfl
theorem hn_sL : xe_n (xe_sL2 h a k w) = xe_n h := rfl
theorem hz_sL : xe_z (xe_sL2 h a k w) = xe_z h := rfl
theorem ho_sL : xe_ob (xe_sL2 h a k w) b t = xe_ob h b t := rfl
theorem hia_sL : xe_ia (xe_sL2 h a k w) b = xe_ia h b := rfl
theorem hba_sL : xe_ba (xe_sL2 h a k w) b = xe_ba h b := rfl
theorem hal_sL : xe_al (xe_sL2 h a k w) b = xe_al h b := rfl
theorem hix_sL : xe_ix (xe_sL2 h a k w) b i = xe_ix h b i := rfl
theorem hR_sR : xe_R (xe_sR h a k r) b j = if b = a ∧ j = k then r else xe_R h b j := by
  show (if b = a then va_up (xe_R h a) k r else xe_R h b) j = _
  by_cases h1 : b = a
  · subst h1
    by_cases h2 : j = k
    · subst h2; simp [va_up]
    · simp [va_up, h2]
  · simp [h1]
theorem hI_sR : xe_I (xe_sR h a k r) = xe_I h := rfl
theorem hL_sR : xe_L (xe_sR h a k r) = xe_L h := rfl
theorem hT_sR : xe_T (xe_sR h a k r) b = xe_T h b := rfl
theorem hN_sR : xe_N (xe_sR h a k r) b = xe_N h b := rfl
theorem hn_sR : xe_n (xe_sR h a k r) = xe_n h := rfl
theorem hz_sR : xe_z (xe_sR h a k r) = xe_z h := rfl
theorem ho_sR : xe_ob (xe_sR h a k r) b t = xe_ob h b t := rfl
theorem hia_sR : xe_ia (xe_sR h a k r) b = xe_ia h b := rfl
theorem hba_sR : xe_ba (xe_sR h a k r) b = xe_ba h b := rfl
theorem hal_sR : xe_al (xe_sR h a k r) b = xe_al h b := rfl
theorem hix_sR : xe_ix (xe_sR h a k r) b i = xe_ix h b i := rfl
theorem hI_aI (f : Nat → Int32) : xe_I (xe_aI h a f) b j = if b = a then f j else xe_I h b j := by
  show (if b = a then f else xe_I h b) j = _
  split <;> rfl
theorem hL_aI (f : Nat → Int32) : xe_L (xe_aI h a f) = xe_L h := rfl
theorem hR_aI (f : Nat → Int32) : xe_R (xe_aI h a f) = xe_R h := rfl
theorem hT_aI (f : Nat → Int32) : xe_T (xe_aI h a f) b = xe_T h b := rfl
theorem hN_aI (f : Nat → Int32) : xe_N (xe_aI h a f) b = xe_N h b := rfl
theorem hn_aI (f : Nat → Int32) : xe_n (xe_aI h a f) = xe_n h := rfl
theorem hz_aI (f : Nat → Int32) : xe_z (xe_aI h a f) = xe_z h := rfl
theorem ho_aI (f : Nat → Int32) : xe_ob (xe_aI h a f) b t = xe_ob h b t := rfl
theorem hia_aI (f : Nat → Int32) : xe_ia (xe_aI h a f) b = xe_ia h b := rfl
theorem hal_aI (f : Nat → Int32) : xe_al (xe_aI h a f) b = xe_al h b := rfl
theorem hix_aI (f : Nat → Int32) : xe_ix (xe_aI h a f) b i = xe_ix h b i := rfl
theorem hL_aL (f : Nat → Int64) : xe_L (xe_aL2 h a f) b j = if b = a then f j else xe_L h b j := by
  show (if b = a then f else xe_L h b) j = _
  split <;> rfl
theorem hI_aL (f : Nat → Int64) : xe_I (xe_aL2 h a f) = xe_I h := rfl
theorem hR_aL (f : Nat → Int64) : xe_R (xe_aL2 h a f) = xe_R h := rfl
theorem hT_aL (f : Nat → Int64) : xe_T (xe_aL2 h a f) b = xe_T h b := rfl
theorem hN_aL (f : Nat → Int64) : xe_N (xe_aL2 h a f) b = xe_N h b := rfl
theorem hn_aL (f : Nat → Int64) : xe_n (xe_aL2 h a f) = xe_n h := rfl
theorem hz_aL (f : Nat → Int64) : xe_z (xe_aL2 h a f) = xe_z h := rfl
theorem ho_aL (f : Nat → Int64) : xe_ob (xe_aL2 h a f) b t = xe_ob h b t := rfl
theorem hT_new : xe_T (xe_new h t n) b = if b = xe_n h then t else xe_T h b := by
  show (if b = xe_n h then (t, n) else h.2.2.1 b).1 = _
  split <;> rfl
theorem hN_new : xe_N (xe_new h t n) b = if b = xe_n h then n else xe_N h b := by
  show (if b = xe_n h then (t, n) else h.2.2.1 b).2 = _
  split <;> rfl
theorem hn_new : xe_n (xe_new h t n) = xe_n h + 1 := rfl
theorem hz_new : xe_z (xe_new h t n) = xe_z h + n := rfl
theorem hI_new : xe_I (xe_new h t n) b j = if b = xe_n h then 0 else xe_I h b j := by
  show (if b = xe_n h then (fun _ => 0) else xe_I h b) j = _
  split <;> rfl
theorem hL_new : xe_L (xe_new h t n) b j = if b = xe_n h then 0 else xe_L h b j := by
  show (if b = xe_n h then (fun _ => 0) else xe_L h b) j = _
  split <;> rfl
theorem hR_new : xe_R (xe_new h t n) b j = if b = xe_n h then none else xe_R h b j := by
  show (if b = xe_n h then (fun _ => none) else xe_R h b) j = _
  split <;> rfl
theorem rf_some : va_rf (some a) = .ref a := rfl
theorem rf_none : va_rf none = .null := rfl
theorem ix_nI {h : xe_H} {a m N : Nat} (hN : xe_N h a = N) (hm : m < N) (hb : N < 2 ^ 31) : xe_ix h a (nI m) := by
  unfold xe_ix
  rw [hN, nI_clamp (by omega)]
  have h1 : ¬ nI m < 0 := nI_pos (by omega)
  simp [h1]
  omega
end HP
/-- a truth as a number -/
def xb (b : Prop) [Decidable b] : Int32 := if b then 1 else 0
theorem xb_0 (b : Prop) [Decidable b] : (xb b = 0) ↔ ¬ b := by unfold xb; split <;> simp_all
theorem xb_1 (b : Prop) [Decidable b] : (xb b = 1) ↔ b := by unfold xb; split <;> simp_all
theorem xb_01 (b : Prop) [Decidable b] : (xb b = 0 ∨ xb b = 1) := by unfold xb; split <;> simp
theorem xb_t {b : Prop} [Decidable b] (h : b) : xb b = 1 := if_pos h
theorem xb_f {b : Prop} [Decidable b] (h : ¬ b) : xb b = 0 := if_neg h
theorem xb_c {b c : Prop} [Decidable b] [Decidable c] (h : b ↔ c) : xb b = xb c := by unfold xb; simp only [h]
theorem xc_int (x : Int32) : xe_cut (.int x) = .int x := rfl
theorem xc_ref (x : Nat) : xe_cut (.ref x) = .ref x := rfl
theorem xc_ret : xe_cut (.retAddr 0) = .retAddr 0 := rfl
theorem xc_long (x : Int64) : xe_cut (.long x) = .retAddr 0 := rfl
theorem xw_nil : xe_w [] = 0 := rfl
theorem xw_int (x : Int32) (l : List Value) : xe_w (.int x :: l) = 1 + xe_w l := rfl
theorem xw_ref (x : Nat) (l : List Value) : xe_w (.ref x :: l) = 1 + xe_w l := rfl
theorem xw_long (x : Int64) (l : List Value) : xe_w (.long x :: l) = 2 + xe_w l := rfl
theorem tl_some (v : Value) (l : List Value) : (some v).toList ++ l = v :: l := rfl
theorem tl_none (l : List Value) : (none : Option Value).toList ++ l = l := rfl
