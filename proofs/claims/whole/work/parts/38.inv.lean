/-! what holds between two calls of the law -/
theorem xe_C_mono {d y : Nat} {as : List Value} {h : xe_H} {Q Q' : Option Value → xe_H → Prop} (H : xe_C d y as h Q) (hq : ∀ v h', Q v h' → Q' v h') : xe_C d y as h Q' := by
  obtain ⟨r, e, q⟩ := H
  exact ⟨r, e, hq _ _ q⟩
theorem xe_P_mono {d y pc : Nat} {ls st : List Value} {h : xe_H} {Q Q' : Option Value → xe_H → Prop} (H : xe_P d y pc ls st h Q) (hq : ∀ v h', Q v h' → Q' v h') : xe_P d y pc ls st h Q' := by
  obtain ⟨F, r, e, q⟩ := H
  exact ⟨F, r, e, hq _ _ q⟩
/-- the queue of Ways, and the room -/
def rm (h : xe_H) : Prop := ∃ q k, xe_R h 29 1 = some q ∧ k ≤ 9 ∧ (q = 31 ∨ (72 ≤ q ∧ q < xe_S)) ∧ xe_ob h q 9 ∧ xe_N h q = 256 * 2 ^ k ∧ xe_n h ≤ 72 + k ∧ xe_z h ≤ 209500 + 512 * 2 ^ k
theorem rm_sI (h : xe_H) (a k : Nat) (v : Int32) : rm (xe_sI h a k v) = rm h := rfl
theorem rm_aI (h : xe_H) (a : Nat) (f : Nat → Int32) : rm (xe_aI h a f) = rm h := rfl
/-- what was there before the law began -/
def sV (L : Nat) (xs : Nat → Int32) (h : xe_H) : Prop := ∀ a, xe_S ≤ a → (∀ j, xe_I h a j = xe_I (xe_h0 L xs) a j) ∧ xe_T h a = xe_T (xe_h0 L xs) a ∧ xe_N h a = xe_N (xe_h0 L xs) a
/-! the abstract state: rows 0 now, 1, 2 the images, 3 kept, 4 the tape, 5 (its length, fault, seen, torn), 6 what was seen, 7 lanes (3: none), 8 lengths -/
def seen_ok (s : Nat → Nat → Nat) : Prop := s 5 2 ≤ 6 ∧ ∀ k, k < s 5 2 → (s 6 (3 * k) = 6 ∨ s 6 (3 * k) < s 0 24) ∧ s 6 (3 * k + 1) < s 0 24 ∧ s 6 (3 * k + 2) ≤ 1
def img_ok (s : Nat → Nat → Nat) (k : Nat) : Prop := s 3 k ≤ 1 ∧ (s 3 k = 1 → pg_ok (s (k + 1)) ∧ s (k + 1) 35 = s 0 35 ∧ s (k + 1) 24 = s 0 24)
def pOK (s : Nat → Nat → Nat) : Prop := pg_ok (s 0) ∧ (img_ok s 0 ∧ img_ok s 1) ∧ (s 5 0 ≤ 320 ∧ ∀ k, k < s 5 0 → s 4 k < 256) ∧ seen_ok s ∧ (∀ k, k < 4 → s 7 k ≤ 3 ∧ s 8 k ≤ 40) ∧ s 5 1 ≤ 6 ∧ s 5 3 ≤ 3
def no4 (n : Nat) : Int32 := if n = 6 then -4 else nI n
def sx (n : Nat) : Int32 := (nI n).toInt8.toInt32
def cIm (s : Nat → Nat → Nat) (h : xe_H) : Prop := (xe_I h 26 0 = nI (s 3 0) ∧ xe_I h 26 1 = nI (s 3 1)) ∧ (s 3 0 = 1 → tn_v h 14 (s 1)) ∧ (s 3 1 = 1 → tn_v h 20 (s 2))
def cTp (s : Nat → Nat → Nat) (h : xe_H) : Prop := xe_I h 27 1 = nI (s 5 0) ∧ xe_I h 27 2 = nI (s 5 1) ∧ ∀ k, k < s 5 0 → xe_I h 28 k = sx (s 4 k)
def cSn (s : Nat → Nat → Nat) (h : xe_H) : Prop := xe_I h 36 0 = nI (s 5 2) ∧ ∀ k, k < s 5 2 → xe_I h 38 k = nI (s 6 (3 * k)) ∧ xe_I h 39 k = nI (s 6 (3 * k + 1)) ∧ xe_I h 40 k = nI (s 6 (3 * k + 2))
def cSh (s : Nat → Nat → Nat) (ce : Nat → Int32) (h : xe_H) : Prop := (∀ k, k < 4 → xe_I h 46 k = (if s 7 k = 3 then -1 else nI (s 7 k)) ∧ xe_I h 47 k = nI (s 8 k)) ∧ ∀ j, j < 160 → xe_I h 45 j = ce j
def cV (s : Nat → Nat → Nat) (ce : Nat → Int32) (h : xe_H) : Prop := tn_v h 1 (s 0) ∧ cIm s h ∧ cTp s h ∧ cSn s h ∧ cSh s ce h ∧ xe_I h 0 9 = nI (s 5 3)
def mNw (s : Nat → Nat → Nat) (h : xe_H) : Prop := mp h 0 (s 0) ∧ xe_I h 48 1 = nI (s 0 35)
def mIm (s : Nat → Nat → Nat) (h : xe_H) : Prop := (xe_I h 68 0 = nI (s 3 0) ∧ xe_I h 68 1 = nI (s 3 1)) ∧ (s 3 0 = 1 → mp h 35 (s 1)) ∧ (s 3 1 = 1 → mp h 70 (s 2))
def mTp (s : Nat → Nat → Nat) (h : xe_H) : Prop := xe_I h 48 12 = nI (s 5 0) ∧ xe_I h 48 13 = nI (s 5 1) ∧ ∀ k, k < s 5 0 → xe_I h 53 k = nI (s 4 k)
def mSn (s : Nat → Nat → Nat) (h : xe_H) : Prop := xe_I h 48 32 = nI (s 5 2) ∧ ∀ k, k < s 5 2 → xe_I h 64 (3 * k) = no4 (s 6 (3 * k)) ∧ xe_I h 64 (3 * k + 1) = nI (s 6 (3 * k + 1)) ∧ xe_I h 64 (3 * k + 2) = nI (s 6 (3 * k + 2))
def mSh (s : Nat → Nat → Nat) (ce : Nat → Int32) (h : xe_H) : Prop := (∀ k, k < 4 → xe_I h 69 k = (if s 7 k = 3 then -4 else nI (s 7 k)) ∧ xe_I h 70 k = nI (s 8 k)) ∧ ∀ j, j < 160 → xe_I h 71 j = ce j
def cutL : List Nat := [0, 6, 10, 13, 19, 24, 28, 31]
def letL : List Nat := [112, 108, 97, 99, 101, 115, 104, 111, 108, 100, 108, 97, 119, 98, 114, 105, 100, 103, 101, 99, 104, 97, 105, 110, 115, 104, 117, 116, 111, 110, 101]
def mWd (h : xe_H) : Prop := (∀ j, j < 8 → xe_I h 54 j = nI (cutL.getD j 0)) ∧ ∀ j, j < 31 → xe_I h 55 j = nI (letL.getD j 0)
def mV (s : Nat → Nat → Nat) (ce : Nat → Int32) (h : xe_H) : Prop := mNw s h ∧ mIm s h ∧ mTp s h ∧ mSn s h ∧ mSh s ce h ∧ xe_I h 48 40 = nI (s 5 3) ∧ mWd h
def Inv (L : Nat) (xs : Nat → Int32) (s : Nat → Nat → Nat) (ce : Nat → Int32) (h : xe_H) : Prop := sh h ∧ rm h ∧ sV L xs h ∧ pOK s ∧ cV s ce h ∧ mV s ce h
/-! frames -/
section FR
variable {h h' : xe_H} {s : Nat → Nat → Nat} {ce : Nat → Int32} {L : Nat} {xs : Nat → Int32}
theorem tn_v_c {o : Nat} {g : Nat → Nat} (H : tn_v h o g) (e : ∀ a j, o ≤ a → a ≤ o + 5 → xe_I h' a j = xe_I h a j) : tn_v h' o g := by
  unfold tn_v
  simp only [e o _ (by omega) (by omega), e (o + 1) _ (by omega) (by omega), e (o + 2) _ (by omega) (by omega), e (o + 3) _ (by omega) (by omega), e (o + 4) _ (by omega) (by omega), e (o + 5) _ (by omega) (by omega)]
  exact H
theorem mp_c {o : Nat} {g : Nat → Nat} (hg : pg_ok g) (H : mp h o g) (e : ∀ j, o ≤ j → j < o + 35 → xe_I h' 49 j = xe_I h 49 j) : mp h' o g := by
  obtain ⟨g1, g2, -⟩ := hg
  obtain ⟨⟨a1, a2, a3, a4, a5⟩, b, c, p⟩ := H
  refine ⟨⟨?_, ?_, ?_, ?_, ?_⟩, fun k hk => ⟨?_, ?_⟩, fun k hk => ⟨?_, ?_⟩, fun k hk => ⟨?_, ?_⟩⟩
  · rw [e _ (by omega) (by omega)]; exact a1
  · rw [e _ (by omega) (by omega)]; exact a2
  · rw [e _ (by omega) (by omega)]; exact a3
  · rw [e _ (by omega) (by omega)]; exact a4
  · rw [e _ (by omega) (by omega)]; exact a5
  · rw [e _ (by omega) (by omega)]; exact (b k hk).1
  · rw [e _ (by omega) (by omega)]; exact (b k hk).2
  · intro y; rw [e _ (by omega) (by omega)]; exact (c k hk).1 y
  · rw [e _ (by omega) (by omega)]; exact (c k hk).2
  · rw [e _ (by omega) (by omega)]; exact (p k hk).1
  · rw [e _ (by omega) (by omega)]; exact (p k hk).2
theorem cIm_c (H : cIm s h) (e : ∀ a j, 14 ≤ a → a ≤ 26 → xe_I h' a j = xe_I h a j) : cIm s h' := by
  unfold cIm
  rw [e 26 0 (by omega) (by omega), e 26 1 (by omega) (by omega)]
  exact ⟨H.1, fun z => tn_v_c (H.2.1 z) (fun a j h1 h2 => e a j (by omega) (by omega)), fun z => tn_v_c (H.2.2 z) (fun a j h1 h2 => e a j (by omega) (by omega))⟩
theorem cTp_c (H : cTp s h) (e1 : xe_I h' 27 1 = xe_I h 27 1) (e2 : xe_I h' 27 2 = xe_I h 27 2) (e : ∀ j, xe_I h' 28 j = xe_I h 28 j) : cTp s h' := by
  unfold cTp
  simp only [e1, e2, e]
  exact H
theorem cSn_c (H : cSn s h) (e1 : xe_I h' 36 0 = xe_I h 36 0) (e : ∀ a j, 38 ≤ a → a ≤ 40 → xe_I h' a j = xe_I h a j) : cSn s h' := by
  unfold cSn
  simp only [e1, e 38 _ (by omega) (by omega), e 39 _ (by omega) (by omega), e 40 _ (by omega) (by omega)]
  exact H
theorem cSh_c (H : cSh s ce h) (e : ∀ a j, 45 ≤ a → a ≤ 47 → xe_I h' a j = xe_I h a j) : cSh s ce h' := by
  unfold cSh
  simp only [e 45 _ (by omega) (by omega), e 46 _ (by omega) (by omega), e 47 _ (by omega) (by omega)]
  exact H
/-- what of the class's ints is no scratch -/
def cc (a j : Nat) : Prop := (1 ≤ a ∧ a ≤ 6) ∨ (14 ≤ a ∧ a ≤ 26) ∨ (a = 27 ∧ (j = 1 ∨ j = 2)) ∨ a = 28 ∨ (a = 36 ∧ j = 0) ∨ (38 ≤ a ∧ a ≤ 40) ∨ (45 ≤ a ∧ a ≤ 47) ∨ (a = 0 ∧ j = 9)
theorem cV_c (H : cV s ce h) (e : ∀ a j, cc a j → xe_I h' a j = xe_I h a j) : cV s ce h' := by
  obtain ⟨h1, h2, h3, h4, h5, h6⟩ := H
  refine ⟨tn_v_c h1 (fun a j x1 x2 => e a j ?_), cIm_c h2 (fun a j x1 x2 => e a j ?_), cTp_c h3 (e 27 1 ?_) (e 27 2 ?_) (fun j => e 28 j ?_), cSn_c h4 (e 36 0 ?_) (fun a j x1 x2 => e a j ?_), cSh_c h5 (fun a j x1 x2 => e a j ?_), ?_⟩
  any_goals (unfold cc; omega)
  rw [e 0 9 (by unfold cc; omega)]
  exact h6
/-- what of the reference's ints is no scratch -/
def cm' (a j : Nat) : Prop := (a = 49 ∧ j < 105) ∨ a = 53 ∨ a = 54 ∨ a = 55 ∨ a = 64 ∨ (68 ≤ a ∧ a ≤ 71) ∨ (a = 48 ∧ (j = 1 ∨ j = 12 ∨ j = 13 ∨ j = 32 ∨ j = 40))
theorem mNw_c (hg : pg_ok (s 0)) (H : mNw s h) (e : ∀ a j, cm' a j → xe_I h' a j = xe_I h a j) : mNw s h' := by
  refine ⟨mp_c hg H.1 (fun j h1 h2 => e 49 j (by unfold cm'; omega)), ?_⟩
  rw [e 48 1 (by unfold cm'; omega)]
  exact H.2
theorem mIm_c (hp : pOK s) (H : mIm s h) (e0 : ∀ j, 35 ≤ j → j < 105 → xe_I h' 49 j = xe_I h 49 j) (e : ∀ j, xe_I h' 68 j = xe_I h 68 j) : mIm s h' := by
  refine ⟨by rw [e, e]; exact H.1, fun z => mp_c (hp.2.1.1.2 z).1 (H.2.1 z) (fun j h1 h2 => e0 j (by omega) (by omega)), fun z => mp_c (hp.2.1.2.2 z).1 (H.2.2 z) (fun j h1 h2 => e0 j (by omega) (by omega))⟩
theorem mTp_c (H : mTp s h) (e1 : xe_I h' 48 12 = xe_I h 48 12) (e2 : xe_I h' 48 13 = xe_I h 48 13) (e : ∀ j, xe_I h' 53 j = xe_I h 53 j) : mTp s h' := by
  unfold mTp
  simp only [e1, e2, e]
  exact H
theorem mSn_c (H : mSn s h) (e1 : xe_I h' 48 32 = xe_I h 48 32) (e : ∀ j, xe_I h' 64 j = xe_I h 64 j) : mSn s h' := by
  unfold mSn
  simp only [e1, e]
  exact H
theorem mSh_c (H : mSh s ce h) (e : ∀ a j, 69 ≤ a → a ≤ 71 → xe_I h' a j = xe_I h a j) : mSh s ce h' := by
  unfold mSh
  simp only [e 69 _ (by omega) (by omega), e 70 _ (by omega) (by omega), e 71 _ (by omega) (by omega)]
  exact H
theorem mWd_c (H : mWd h) (e1 : ∀ j, xe_I h' 54 j = xe_I h 54 j) (e : ∀ j, xe_I h' 55 j = xe_I h 55 j) : mWd h' := by
  unfold mWd
  simp only [e1, e]
  exact H
theorem mV_c (hp : pOK s) (H : mV s ce h) (e : ∀ a j, cm' a j → xe_I h' a j = xe_I h a j) : mV s ce h' := by
  obtain ⟨h1, h2, h3, h4, h5, h6, h7⟩ := H
  refine ⟨mNw_c hp.1 h1 e, mIm_c hp h2 (fun j x1 x2 => e 49 j ?_) (fun j => e 68 j ?_), mTp_c h3 (e 48 12 ?_) (e 48 13 ?_) (fun j => e 53 j ?_), mSn_c h4 (e 48 32 ?_) (fun j => e 64 j ?_), mSh_c h5 (fun a j x1 x2 => e a j ?_), ?_, mWd_c h7 (fun j => e 54 j ?_) (fun j => e 55 j ?_)⟩
  any_goals (unfold cm'; omega)
  rw [e 48 40 (by unfold cm'; omega)]
  exact h6
/-- scratch alone was written -/
def fr (h h' : xe_H) : Prop := (sh h → sh h') ∧ (rm h → rm h') ∧ (∀ a, xe_S ≤ a → xe_T h' a = xe_T h a ∧ xe_N h' a = xe_N h a) ∧ ∀ a j, (cc a j ∨ cm' a j ∨ xe_S ≤ a) → xe_I h' a j = xe_I h a j
theorem fr_rf (h : xe_H) : fr h h := ⟨id, id, fun _ _ => ⟨rfl, rfl⟩, fun _ _ _ => rfl⟩
theorem fr_tr {h1 h2 h3 : xe_H} (H1 : fr h1 h2) (H2 : fr h2 h3) : fr h1 h3 := ⟨fun z => H2.1 (H1.1 z), fun z => H2.2.1 (H1.2.1 z), fun a ha => ⟨(H2.2.2.1 a ha).1.trans (H1.2.2.1 a ha).1, (H2.2.2.1 a ha).2.trans (H1.2.2.1 a ha).2⟩, fun a j hj => (H2.2.2.2 a j hj).trans (H1.2.2.2 a j hj)⟩
theorem fr_sI {h h' : xe_H} {a k : Nat} {v : Int32} (H : fr h h') (hs : ¬ (cc a k ∨ cm' a k ∨ xe_S ≤ a)) : fr h (xe_sI h' a k v) := ⟨H.1, H.2.1, H.2.2.1, fun b j hj => by
  rw [hI_sI, if_neg (fun z => hs (by rw [← z.1, ← z.2]; exact hj))]
  exact H.2.2.2 b j hj⟩
theorem Inv_fr (H : Inv L xs s ce h) (F : fr h h') : Inv L xs s ce h' := by
  obtain ⟨h1, h2, h3, h4, h5, h6⟩ := H
  refine ⟨F.1 h1, F.2.1 h2, fun a ha => ⟨fun j => ?_, ?_, ?_⟩, h4, cV_c h5 (fun a j q => F.2.2.2 a j (Or.inl q)), mV_c h4 h6 (fun a j q => F.2.2.2 a j (Or.inr (Or.inl q)))⟩
  · rw [F.2.2.2 a j (Or.inr (Or.inr ha))]; exact (h3 a ha).1 j
  · rw [(F.2.2.1 a ha).1]; exact (h3 a ha).2.1
  · rw [(F.2.2.1 a ha).2]; exact (h3 a ha).2.2
end FR
/-- a number within a range -/
theorem rg {x : Int32} {n : Nat} (hn : n < 2 ^ 31) (H : 0 ≤ x ∧ x < nI n) : ∃ b, b < n ∧ x = nI b := by
  obtain ⟨h1, h2⟩ := H
  rw [fa_le, show Int32.toInt 0 = 0 by decide] at h1
  rw [fa_lt, nI_toInt hn] at h2
  refine ⟨x.toInt.toNat, by omega, ?_⟩
  rw [fa_eq, nI_toInt (by omega)]
  omega
