/-! the law's cases -/
theorem tl_w (v : Option Value) : xe_w (v.toList ++ []) ≤ 8 := by
  cases v with
  | none => exact Nat.zero_le _
  | some v => cases v <;> exact Nat.le_of_ble_eq_true rfl
theorem lz_self (x : Int64) : lg_cmp x x = 0 := by
  unfold lg_cmp
  rw [if_neg (fun z => by rw [gt_iff_lt, fa_lt64] at z; omega), if_pos rfl]
/-- the script, read in h -/
def rd (L : Nat) (xs : Nat → Int32) (h : xe_H) : Prop := xe_n h ≤ xe_S ∧ xe_T h xe_S = 8 ∧ xe_N h xe_S = L ∧ ∀ j, xe_I h xe_S j = xs j
section RD
variable {L : Nat} {xs : Nat → Int32} {s : Nat → Nat → Nat} {ce : Nat → Int32} {h h' : xe_H}
theorem rd_Inv (HI : Inv L xs s ce h) : rd L xs h := by
  obtain ⟨q1, q2, q3⟩ := HI.2.2.1 xe_S (Nat.le_refl _)
  refine ⟨HI.1.1.2, q2, q3, fun j => (q1 j).trans ?_⟩
  simp only [xe_I, xe_h0, ↓reduceIte]
theorem rd_kp (H : rd L xs h) (K : kp h h') : rd L xs h' := by
  obtain ⟨h1, h2, h3, h4⟩ := H
  have q := K.2.2.1 xe_S (Or.inr (Nat.le_refl _))
  exact ⟨K.2.1, q.1.trans h2, q.2.trans h3, fun j => (K.2.2.2 xe_S j (Nat.le_refl _)).trans (h4 j)⟩
theorem rd_ia (H : rd L xs h) : xe_ia h xe_S := ⟨H.2.1, Or.inr ⟨Nat.le_refl _, by omega⟩⟩
theorem rd_al (H : rd L xs h) : xe_al h xe_S := ⟨by rw [H.2.1]; decide, by rw [H.2.1]; decide, Or.inr (Or.inl ⟨Nat.le_refl _, by omega, H.2.1⟩)⟩
theorem rd_ix (H : rd L xs h) {i k : Nat} (hk : i + k < L) (hL : L ≤ 2560) : xe_ix h xe_S (nI i + nI k) := by rw [nI_add]; exact ix_nI H.2.2.1 hk (by omega)
theorem rd_ix0 (H : rd L xs h) {i : Nat} (hk : i < L) (hL : L ≤ 2560) : xe_ix h xe_S (nI i) := ix_nI H.2.2.1 hk (by omega)
theorem rd_I (H : rd L xs h) {i k : Nat} (hk : i + k < L) (hL : L ≤ 2560) : xe_I h xe_S (nI i + nI k).toNatClampNeg = xs (i + k) := by rw [nI_add, nI_clamp (by omega)]; exact H.2.2.2 _
theorem rd_I0 (H : rd L xs h) {i : Nat} (hk : i < L) (hL : L ≤ 2560) : xe_I h xe_S (nI i).toNatClampNeg = xs i := by rw [nI_clamp (by omega)]; exact H.2.2.2 _
theorem ob_kp (K : kp h h') {a t : Nat} (H : xe_ob h a t) : xe_ob h' a t := ⟨Nat.lt_of_lt_of_le H.1 K.1, (K.2.2.1 a (Or.inl H.1)).1.trans H.2⟩
end RD
section LC
variable {d L i : Nat} {xs : Nat → Int32} {s : Nat → Nat → Nat} {ce : Nat → Int32} {h : xe_H} {Q : Option Value → xe_H → Prop}

theorem lc_0 (HI : Inv L xs s ce h) (hi : i + 5 ≤ L) (hL : L ≤ 2560) (K : ∀ h', (∃ s ce, Inv L xs s ce h') → xe_P (d + 40) 219 1216 [.ref xe_S, .ref 0, .ref 48, .int (nI i)] [] h' Q) : xe_P (d + 40) 219 180 [.ref xe_S, .ref 0, .ref 48, .int (nI i)] [] h Q := by
  have R := rd_Inv HI
  have o1 := sT_0 HI.1
  have a0 : xe_ia h xe_S := rd_ia R
  have a1 : xe_ix h xe_S (nI i + 1) := rd_ix R (k := 1) (by omega) hL
  have b1 : xe_I h xe_S (nI i + 1).toNatClampNeg = xs (i + 1) := rd_I R (k := 1) (by omega) hL
  have a2 : xe_ix h xe_S (nI i + 2) := rd_ix R (k := 2) (by omega) hL
  have b2 : xe_I h xe_S (nI i + 2).toNatClampNeg = xs (i + 2) := rd_I R (k := 2) (by omega) hL
  simp only [xs_219_180, xs_219_181, xs_219_182, xs_219_183, xs_219_184, xs_219_185, xs_219_186, xs_219_187, xs_219_189, xs_219_190, xs_219_191, xs_219_192, xs_219_193, xs_219_194, xs_219_195, xs_219_196, xs_219_199, xs_219_200, xs_219_201, o1, a0, a1, b1, a2, b2, rf_some, xw_nil, xw_int, xw_ref, xw_long, true_and, and_true, Nat.zero_le, Nat.reduceAdd, Nat.reduceLeDiff, ↓reduceIte, eq_self]
  refine xe_C_mono (xe_C_kp R.1 (ok_feed HI _ d)) (fun v h1 qk => ?_)
  obtain ⟨q, kk⟩ := qk
  have R1 := rd_kp R kk
  have o2 := ob_kp kk (sT_48 HI.1)
  have a01 : xe_ia h1 xe_S := rd_ia R1
  have a11 : xe_ix h1 xe_S (nI i + 1) := rd_ix R1 (k := 1) (by omega) hL
  have b11 : xe_I h1 xe_S (nI i + 1).toNatClampNeg = xs (i + 1) := rd_I R1 (k := 1) (by omega) hL
  have a21 : xe_ix h1 xe_S (nI i + 2) := rd_ix R1 (k := 2) (by omega) hL
  have b21 : xe_I h1 xe_S (nI i + 2).toNatClampNeg = xs (i + 2) := rd_I R1 (k := 2) (by omega) hL
  have wv := tl_w v
  generalize hv : v.toList ++ [] = vs at wv ⊢
  simp only [xs_219_204, xs_219_205, xs_219_206, xs_219_207, xs_219_208, xs_219_209, xs_219_210, xs_219_211, xs_219_213, xs_219_214, xs_219_215, xs_219_216, xs_219_217, xs_219_218, xs_219_219, xs_219_220, xs_219_223, xs_219_224, xs_219_225, o2, wv, a01, a11, b11, a21, b21, rf_some, xw_nil, xw_int, xw_ref, xw_long, true_and, and_true, Nat.zero_le, Nat.reduceAdd, Nat.reduceLeDiff, ↓reduceIte, eq_self]
  refine xe_C_mono q (fun w h2 z => ?_)
  obtain ⟨⟨x, e1, e2⟩, z⟩ := z
  rw [← hv, e1, e2]
  simp only [tl_some, xs_219_228, eq_self, ↓reduceIte]
  exact K h2 z
theorem lc_1 (HI : Inv L xs s ce h) (hi : i + 5 ≤ L) (hL : L ≤ 2560) (K : ∀ h', (∃ s ce, Inv L xs s ce h') → xe_P (d + 40) 219 1216 [.ref xe_S, .ref 0, .ref 48, .int (nI i)] [] h' Q) : xe_P (d + 40) 219 233 [.ref xe_S, .ref 0, .ref 48, .int (nI i)] [] h Q := by
  have R := rd_Inv HI
  have o1 := sT_0 HI.1
  have a0 : xe_ia h xe_S := rd_ia R
  have a1 : xe_ix h xe_S (nI i + 1) := rd_ix R (k := 1) (by omega) hL
  have b1 : xe_I h xe_S (nI i + 1).toNatClampNeg = xs (i + 1) := rd_I R (k := 1) (by omega) hL
  simp only [xs_219_233, xs_219_234, xs_219_235, xs_219_236, xs_219_237, xs_219_238, xs_219_239, o1, a0, a1, b1, rf_some, xw_nil, xw_int, xw_ref, xw_long, true_and, and_true, Nat.zero_le, Nat.reduceAdd, Nat.reduceLeDiff, ↓reduceIte, eq_self]
  refine xe_C_mono (xe_C_kp R.1 (ok_end HI (xs (i + 1)) d)) (fun v h1 qk => ?_)
  obtain ⟨q, kk⟩ := qk
  have R1 := rd_kp R kk
  have o2 := ob_kp kk (sT_48 HI.1)
  have a01 : xe_ia h1 xe_S := rd_ia R1
  have a11 : xe_ix h1 xe_S (nI i + 1) := rd_ix R1 (k := 1) (by omega) hL
  have b11 : xe_I h1 xe_S (nI i + 1).toNatClampNeg = xs (i + 1) := rd_I R1 (k := 1) (by omega) hL
  have wv := tl_w v
  generalize hv : v.toList ++ [] = vs at wv ⊢
  simp only [xs_219_242, xs_219_243, xs_219_244, xs_219_245, xs_219_246, xs_219_247, xs_219_248, o2, wv, a01, a11, b11, rf_some, xw_nil, xw_int, xw_ref, xw_long, true_and, and_true, Nat.zero_le, Nat.reduceAdd, Nat.reduceLeDiff, ↓reduceIte, eq_self]
  refine xe_C_mono q (fun w h2 z => ?_)
  obtain ⟨⟨x, e1, e2⟩, z⟩ := z
  rw [← hv, e1, e2]
  simp only [tl_some, xs_219_251, eq_self, ↓reduceIte]
  exact K h2 z
theorem lc_2 (HI : Inv L xs s ce h) (hi : i + 5 ≤ L) (hL : L ≤ 2560) (K : ∀ h', (∃ s ce, Inv L xs s ce h') → xe_P (d + 40) 219 1216 [.ref xe_S, .ref 0, .ref 48, .int (nI i)] [] h' Q) : xe_P (d + 40) 219 256 [.ref xe_S, .ref 0, .ref 48, .int (nI i)] [] h Q := by
  have R := rd_Inv HI
  have o1 := sT_0 HI.1
  simp only [xs_219_256, xs_219_257, o1, rf_some, xw_nil, xw_int, xw_ref, xw_long, true_and, and_true, Nat.zero_le, Nat.reduceAdd, Nat.reduceLeDiff, ↓reduceIte, eq_self]
  refine xe_C_mono (xe_C_kp R.1 (ok_text HI d)) (fun v h1 qk => ?_)
  obtain ⟨q, kk⟩ := qk
  have R1 := rd_kp R kk
  have o2 := ob_kp kk (sT_48 HI.1)
  have wv := tl_w v
  generalize hv : v.toList ++ [] = vs at wv ⊢
  simp only [xs_219_260, xs_219_261, o2, wv, rf_some, xw_nil, xw_int, xw_ref, xw_long, true_and, and_true, Nat.zero_le, Nat.reduceAdd, Nat.reduceLeDiff, ↓reduceIte, eq_self]
  refine xe_C_mono q (fun w h2 z => ?_)
  obtain ⟨⟨x, e1, e2⟩, z⟩ := z
  rw [← hv, e1, e2]
  simp only [tl_some, xs_219_264, eq_self, ↓reduceIte]
  exact K h2 z
theorem lc_3 (HI : Inv L xs s ce h) (hi : i + 5 ≤ L) (hL : L ≤ 2560) (K : ∀ h', (∃ s ce, Inv L xs s ce h') → xe_P (d + 40) 219 1216 [.ref xe_S, .ref 0, .ref 48, .int (nI i)] [] h' Q) : xe_P (d + 40) 219 269 [.ref xe_S, .ref 0, .ref 48, .int (nI i)] [] h Q := by
  have R := rd_Inv HI
  have o1 := sT_0 HI.1
  simp only [xs_219_269, xs_219_270, o1, rf_some, xw_nil, xw_int, xw_ref, xw_long, true_and, and_true, Nat.zero_le, Nat.reduceAdd, Nat.reduceLeDiff, ↓reduceIte, eq_self]
  refine xe_C_mono (xe_C_kp R.1 (ok_fault HI d)) (fun v h1 qk => ?_)
  obtain ⟨q, kk⟩ := qk
  have R1 := rd_kp R kk
  have o2 := ob_kp kk (sT_48 HI.1)
  have wv := tl_w v
  generalize hv : v.toList ++ [] = vs at wv ⊢
  simp only [xs_219_273, xs_219_274, o2, wv, rf_some, xw_nil, xw_int, xw_ref, xw_long, true_and, and_true, Nat.zero_le, Nat.reduceAdd, Nat.reduceLeDiff, ↓reduceIte, eq_self]
  refine xe_C_mono q (fun w h2 z => ?_)
  obtain ⟨⟨x, e1, e2⟩, z⟩ := z
  rw [← hv, e1, e2]
  simp only [tl_some, xs_219_277, eq_self, ↓reduceIte]
  exact K h2 z
theorem lc_4 (HI : Inv L xs s ce h) (hi : i + 5 ≤ L) (hL : L ≤ 2560) (K : ∀ h', (∃ s ce, Inv L xs s ce h') → xe_P (d + 40) 219 1216 [.ref xe_S, .ref 0, .ref 48, .int (nI i)] [] h' Q) : xe_P (d + 40) 219 282 [.ref xe_S, .ref 0, .ref 48, .int (nI i)] [] h Q := by
  have R := rd_Inv HI
  have o1 := sT_0 HI.1
  have a0 : xe_ia h xe_S := rd_ia R
  have a1 : xe_ix h xe_S (nI i + 1) := rd_ix R (k := 1) (by omega) hL
  have b1 : xe_I h xe_S (nI i + 1).toNatClampNeg = xs (i + 1) := rd_I R (k := 1) (by omega) hL
  simp only [xs_219_282, xs_219_283, xs_219_284, xs_219_285, xs_219_286, xs_219_287, xs_219_288, o1, a0, a1, b1, rf_some, xw_nil, xw_int, xw_ref, xw_long, true_and, and_true, Nat.zero_le, Nat.reduceAdd, Nat.reduceLeDiff, ↓reduceIte, eq_self]
  refine xe_C_mono (xe_C_kp R.1 (ok_rule HI (xs (i + 1)) d)) (fun v h1 qk => ?_)
  obtain ⟨q, kk⟩ := qk
  have R1 := rd_kp R kk
  have o2 := ob_kp kk (sT_48 HI.1)
  have a01 : xe_ia h1 xe_S := rd_ia R1
  have a11 : xe_ix h1 xe_S (nI i + 1) := rd_ix R1 (k := 1) (by omega) hL
  have b11 : xe_I h1 xe_S (nI i + 1).toNatClampNeg = xs (i + 1) := rd_I R1 (k := 1) (by omega) hL
  have wv := tl_w v
  generalize hv : v.toList ++ [] = vs at wv ⊢
  simp only [xs_219_291, xs_219_292, xs_219_293, xs_219_294, xs_219_295, xs_219_296, xs_219_297, o2, wv, a01, a11, b11, rf_some, xw_nil, xw_int, xw_ref, xw_long, true_and, and_true, Nat.zero_le, Nat.reduceAdd, Nat.reduceLeDiff, ↓reduceIte, eq_self]
  refine xe_C_mono q (fun w h2 z => ?_)
  obtain ⟨⟨x, e1, e2⟩, z⟩ := z
  rw [← hv, e1, e2]
  simp only [tl_some, xs_219_300, eq_self, ↓reduceIte]
  exact K h2 z
theorem lc_5 (HI : Inv L xs s ce h) (hi : i + 5 ≤ L) (hL : L ≤ 2560) (K : ∀ h', (∃ s ce, Inv L xs s ce h') → xe_P (d + 40) 219 1216 [.ref xe_S, .ref 0, .ref 48, .int (nI i)] [] h' Q) : xe_P (d + 40) 219 305 [.ref xe_S, .ref 0, .ref 48, .int (nI i)] [] h Q := by
  have R := rd_Inv HI
  have o1 := sT_0 HI.1
  have a0 : xe_ia h xe_S := rd_ia R
  have a1 : xe_ix h xe_S (nI i + 1) := rd_ix R (k := 1) (by omega) hL
  have b1 : xe_I h xe_S (nI i + 1).toNatClampNeg = xs (i + 1) := rd_I R (k := 1) (by omega) hL
  have a2 : xe_ix h xe_S (nI i + 2) := rd_ix R (k := 2) (by omega) hL
  have b2 : xe_I h xe_S (nI i + 2).toNatClampNeg = xs (i + 2) := rd_I R (k := 2) (by omega) hL
  simp only [xs_219_305, xs_219_306, xs_219_307, xs_219_308, xs_219_309, xs_219_310, xs_219_311, xs_219_312, xs_219_313, xs_219_314, xs_219_315, xs_219_316, o1, a0, a1, b1, a2, b2, rf_some, xw_nil, xw_int, xw_ref, xw_long, true_and, and_true, Nat.zero_le, Nat.reduceAdd, Nat.reduceLeDiff, ↓reduceIte, eq_self]
  refine xe_C_mono (xe_C_kp R.1 (ok_bridge HI (xs (i + 1)) (xs (i + 2)) d)) (fun v h1 qk => ?_)
  obtain ⟨q, kk⟩ := qk
  have R1 := rd_kp R kk
  have o2 := ob_kp kk (sT_48 HI.1)
  have a01 : xe_ia h1 xe_S := rd_ia R1
  have a11 : xe_ix h1 xe_S (nI i + 1) := rd_ix R1 (k := 1) (by omega) hL
  have b11 : xe_I h1 xe_S (nI i + 1).toNatClampNeg = xs (i + 1) := rd_I R1 (k := 1) (by omega) hL
  have a21 : xe_ix h1 xe_S (nI i + 2) := rd_ix R1 (k := 2) (by omega) hL
  have b21 : xe_I h1 xe_S (nI i + 2).toNatClampNeg = xs (i + 2) := rd_I R1 (k := 2) (by omega) hL
  have wv := tl_w v
  generalize hv : v.toList ++ [] = vs at wv ⊢
  simp only [xs_219_319, xs_219_320, xs_219_321, xs_219_322, xs_219_323, xs_219_324, xs_219_325, xs_219_326, xs_219_327, xs_219_328, xs_219_329, xs_219_330, o2, wv, a01, a11, b11, a21, b21, rf_some, xw_nil, xw_int, xw_ref, xw_long, true_and, and_true, Nat.zero_le, Nat.reduceAdd, Nat.reduceLeDiff, ↓reduceIte, eq_self]
  refine xe_C_mono q (fun w h2 z => ?_)
  obtain ⟨⟨x, e1, e2⟩, z⟩ := z
  rw [← hv, e1, e2]
  simp only [tl_some, xs_219_333, eq_self, ↓reduceIte]
  exact K h2 z
theorem lc_6 (HI : Inv L xs s ce h) (hi : i + 5 ≤ L) (hL : L ≤ 2560) (K : ∀ h', (∃ s ce, Inv L xs s ce h') → xe_P (d + 40) 219 1216 [.ref xe_S, .ref 0, .ref 48, .int (nI i)] [] h' Q) : xe_P (d + 40) 219 338 [.ref xe_S, .ref 0, .ref 48, .int (nI i)] [] h Q := by
  have R := rd_Inv HI
  have o1 := sT_0 HI.1
  have a0 : xe_ia h xe_S := rd_ia R
  have a1 : xe_ix h xe_S (nI i + 1) := rd_ix R (k := 1) (by omega) hL
  have b1 : xe_I h xe_S (nI i + 1).toNatClampNeg = xs (i + 1) := rd_I R (k := 1) (by omega) hL
  have a2 : xe_ix h xe_S (nI i + 2) := rd_ix R (k := 2) (by omega) hL
  have b2 : xe_I h xe_S (nI i + 2).toNatClampNeg = xs (i + 2) := rd_I R (k := 2) (by omega) hL
  simp only [xs_219_338, xs_219_339, xs_219_340, xs_219_341, xs_219_342, xs_219_343, xs_219_344, xs_219_345, xs_219_346, xs_219_347, xs_219_348, xs_219_349, o1, a0, a1, b1, a2, b2, rf_some, xw_nil, xw_int, xw_ref, xw_long, true_and, and_true, Nat.zero_le, Nat.reduceAdd, Nat.reduceLeDiff, ↓reduceIte, eq_self]
  refine xe_C_mono (xe_C_kp R.1 (ok_one HI (xs (i + 1)) (xs (i + 2)) d)) (fun v h1 qk => ?_)
  obtain ⟨q, kk⟩ := qk
  have R1 := rd_kp R kk
  have o2 := ob_kp kk (sT_48 HI.1)
  have a01 : xe_ia h1 xe_S := rd_ia R1
  have a11 : xe_ix h1 xe_S (nI i + 1) := rd_ix R1 (k := 1) (by omega) hL
  have b11 : xe_I h1 xe_S (nI i + 1).toNatClampNeg = xs (i + 1) := rd_I R1 (k := 1) (by omega) hL
  have a21 : xe_ix h1 xe_S (nI i + 2) := rd_ix R1 (k := 2) (by omega) hL
  have b21 : xe_I h1 xe_S (nI i + 2).toNatClampNeg = xs (i + 2) := rd_I R1 (k := 2) (by omega) hL
  have wv := tl_w v
  generalize hv : v.toList ++ [] = vs at wv ⊢
  simp only [xs_219_352, xs_219_353, xs_219_354, xs_219_355, xs_219_356, xs_219_357, xs_219_358, xs_219_359, xs_219_360, xs_219_361, xs_219_362, xs_219_363, o2, wv, a01, a11, b11, a21, b21, rf_some, xw_nil, xw_int, xw_ref, xw_long, true_and, and_true, Nat.zero_le, Nat.reduceAdd, Nat.reduceLeDiff, ↓reduceIte, eq_self]
  refine xe_C_mono q (fun w h2 z => ?_)
  obtain ⟨⟨x, e1, e2⟩, z⟩ := z
  rw [← hv, e1, e2]
  simp only [tl_some, xs_219_366, eq_self, ↓reduceIte]
  exact K h2 z
theorem lc_7 (HI : Inv L xs s ce h) (hi : i + 5 ≤ L) (hL : L ≤ 2560) (K : ∀ h', (∃ s ce, Inv L xs s ce h') → xe_P (d + 40) 219 1216 [.ref xe_S, .ref 0, .ref 48, .int (nI i)] [] h' Q) : xe_P (d + 40) 219 371 [.ref xe_S, .ref 0, .ref 48, .int (nI i)] [] h Q := by
  have R := rd_Inv HI
  have o1 := sT_0 HI.1
  have a0 : xe_ia h xe_S := rd_ia R
  have a1 : xe_ix h xe_S (nI i + 1) := rd_ix R (k := 1) (by omega) hL
  have b1 : xe_I h xe_S (nI i + 1).toNatClampNeg = xs (i + 1) := rd_I R (k := 1) (by omega) hL
  simp only [xs_219_371, xs_219_372, xs_219_373, xs_219_374, xs_219_375, xs_219_376, xs_219_377, o1, a0, a1, b1, rf_some, xw_nil, xw_int, xw_ref, xw_long, true_and, and_true, Nat.zero_le, Nat.reduceAdd, Nat.reduceLeDiff, ↓reduceIte, eq_self]
  refine xe_C_mono (xe_C_kp R.1 (ok_law HI (xs (i + 1)) d)) (fun v h1 qk => ?_)
  obtain ⟨q, kk⟩ := qk
  have R1 := rd_kp R kk
  have o2 := ob_kp kk (sT_48 HI.1)
  have a01 : xe_ia h1 xe_S := rd_ia R1
  have a11 : xe_ix h1 xe_S (nI i + 1) := rd_ix R1 (k := 1) (by omega) hL
  have b11 : xe_I h1 xe_S (nI i + 1).toNatClampNeg = xs (i + 1) := rd_I R1 (k := 1) (by omega) hL
  have wv := tl_w v
  generalize hv : v.toList ++ [] = vs at wv ⊢
  simp only [xs_219_380, xs_219_381, xs_219_382, xs_219_383, xs_219_384, xs_219_385, xs_219_386, o2, wv, a01, a11, b11, rf_some, xw_nil, xw_int, xw_ref, xw_long, true_and, and_true, Nat.zero_le, Nat.reduceAdd, Nat.reduceLeDiff, ↓reduceIte, eq_self]
  refine xe_C_mono q (fun w h2 z => ?_)
  obtain ⟨⟨x, e1, e2⟩, z⟩ := z
  rw [← hv, e1, e2]
  simp only [tl_some, xs_219_389, eq_self, ↓reduceIte]
  exact K h2 z
theorem lc_8 (HI : Inv L xs s ce h) (hi : i + 5 ≤ L) (hL : L ≤ 2560) (K : ∀ h', (∃ s ce, Inv L xs s ce h') → xe_P (d + 40) 219 1216 [.ref xe_S, .ref 0, .ref 48, .int (nI i)] [] h' Q) : xe_P (d + 40) 219 394 [.ref xe_S, .ref 0, .ref 48, .int (nI i)] [] h Q := by
  have R := rd_Inv HI
  have o1 := sT_0 HI.1
  have a0 : xe_ia h xe_S := rd_ia R
  have a1 : xe_ix h xe_S (nI i + 1) := rd_ix R (k := 1) (by omega) hL
  have b1 : xe_I h xe_S (nI i + 1).toNatClampNeg = xs (i + 1) := rd_I R (k := 1) (by omega) hL
  simp only [xs_219_394, xs_219_395, xs_219_396, xs_219_397, xs_219_398, xs_219_399, xs_219_400, o1, a0, a1, b1, rf_some, xw_nil, xw_int, xw_ref, xw_long, true_and, and_true, Nat.zero_le, Nat.reduceAdd, Nat.reduceLeDiff, ↓reduceIte, eq_self]
  refine xe_C_mono (xe_C_kp R.1 (ok_hold HI (xs (i + 1)) d)) (fun v h1 qk => ?_)
  obtain ⟨q, kk⟩ := qk
  have R1 := rd_kp R kk
  have o2 := ob_kp kk (sT_48 HI.1)
  have a01 : xe_ia h1 xe_S := rd_ia R1
  have a11 : xe_ix h1 xe_S (nI i + 1) := rd_ix R1 (k := 1) (by omega) hL
  have b11 : xe_I h1 xe_S (nI i + 1).toNatClampNeg = xs (i + 1) := rd_I R1 (k := 1) (by omega) hL
  have wv := tl_w v
  generalize hv : v.toList ++ [] = vs at wv ⊢
  simp only [xs_219_403, xs_219_404, xs_219_405, xs_219_406, xs_219_407, xs_219_408, xs_219_409, o2, wv, a01, a11, b11, rf_some, xw_nil, xw_int, xw_ref, xw_long, true_and, and_true, Nat.zero_le, Nat.reduceAdd, Nat.reduceLeDiff, ↓reduceIte, eq_self]
  refine xe_C_mono q (fun w h2 z => ?_)
  obtain ⟨⟨x, e1, e2⟩, z⟩ := z
  rw [← hv, e1, e2]
  simp only [tl_some, xs_219_412, eq_self, ↓reduceIte]
  exact K h2 z
theorem lc_9 (HI : Inv L xs s ce h) (hi : i + 5 ≤ L) (hL : L ≤ 2560) (K : ∀ h', (∃ s ce, Inv L xs s ce h') → xe_P (d + 40) 219 1216 [.ref xe_S, .ref 0, .ref 48, .int (nI i)] [] h' Q) : xe_P (d + 40) 219 417 [.ref xe_S, .ref 0, .ref 48, .int (nI i)] [] h Q := by
  have R := rd_Inv HI
  have o1 := sT_0 HI.1
  have a0 : xe_ia h xe_S := rd_ia R
  have a1 : xe_ix h xe_S (nI i + 1) := rd_ix R (k := 1) (by omega) hL
  have b1 : xe_I h xe_S (nI i + 1).toNatClampNeg = xs (i + 1) := rd_I R (k := 1) (by omega) hL
  have a2 : xe_ix h xe_S (nI i + 2) := rd_ix R (k := 2) (by omega) hL
  have b2 : xe_I h xe_S (nI i + 2).toNatClampNeg = xs (i + 2) := rd_I R (k := 2) (by omega) hL
  simp only [xs_219_417, xs_219_418, xs_219_419, xs_219_420, xs_219_421, xs_219_422, xs_219_423, xs_219_424, xs_219_425, xs_219_426, xs_219_427, xs_219_428, o1, a0, a1, b1, a2, b2, rf_some, xw_nil, xw_int, xw_ref, xw_long, true_and, and_true, Nat.zero_le, Nat.reduceAdd, Nat.reduceLeDiff, ↓reduceIte, eq_self]
  refine xe_C_mono (xe_C_kp R.1 (ok_chain HI (xs (i + 1)) (xs (i + 2)) d)) (fun v h1 qk => ?_)
  obtain ⟨q, kk⟩ := qk
  have R1 := rd_kp R kk
  have o2 := ob_kp kk (sT_48 HI.1)
  have a01 : xe_ia h1 xe_S := rd_ia R1
  have a11 : xe_ix h1 xe_S (nI i + 1) := rd_ix R1 (k := 1) (by omega) hL
  have b11 : xe_I h1 xe_S (nI i + 1).toNatClampNeg = xs (i + 1) := rd_I R1 (k := 1) (by omega) hL
  have a21 : xe_ix h1 xe_S (nI i + 2) := rd_ix R1 (k := 2) (by omega) hL
  have b21 : xe_I h1 xe_S (nI i + 2).toNatClampNeg = xs (i + 2) := rd_I R1 (k := 2) (by omega) hL
  have wv := tl_w v
  generalize hv : v.toList ++ [] = vs at wv ⊢
  simp only [xs_219_431, xs_219_432, xs_219_433, xs_219_434, xs_219_435, xs_219_436, xs_219_437, xs_219_438, xs_219_439, xs_219_440, xs_219_441, xs_219_442, o2, wv, a01, a11, b11, a21, b21, rf_some, xw_nil, xw_int, xw_ref, xw_long, true_and, and_true, Nat.zero_le, Nat.reduceAdd, Nat.reduceLeDiff, ↓reduceIte, eq_self]
  refine xe_C_mono q (fun w h2 z => ?_)
  obtain ⟨⟨x, e1, e2⟩, z⟩ := z
  rw [← hv, e1, e2]
  simp only [tl_some, xs_219_445, eq_self, ↓reduceIte]
  exact K h2 z
theorem lc_10 (HI : Inv L xs s ce h) (hi : i + 5 ≤ L) (hL : L ≤ 2560) (K : ∀ h', (∃ s ce, Inv L xs s ce h') → xe_P (d + 40) 219 1216 [.ref xe_S, .ref 0, .ref 48, .int (nI i)] [] h' Q) : xe_P (d + 40) 219 450 [.ref xe_S, .ref 0, .ref 48, .int (nI i)] [] h Q := by
  have R := rd_Inv HI
  have o1 := sT_0 HI.1
  have a0 : xe_ia h xe_S := rd_ia R
  have a1 : xe_ix h xe_S (nI i + 1) := rd_ix R (k := 1) (by omega) hL
  have b1 : xe_I h xe_S (nI i + 1).toNatClampNeg = xs (i + 1) := rd_I R (k := 1) (by omega) hL
  have a2 : xe_ix h xe_S (nI i + 2) := rd_ix R (k := 2) (by omega) hL
  have b2 : xe_I h xe_S (nI i + 2).toNatClampNeg = xs (i + 2) := rd_I R (k := 2) (by omega) hL
  simp only [xs_219_450, xs_219_451, xs_219_452, xs_219_453, xs_219_454, xs_219_455, xs_219_456, xs_219_457, xs_219_458, xs_219_459, xs_219_460, xs_219_461, o1, a0, a1, b1, a2, b2, rf_some, xw_nil, xw_int, xw_ref, xw_long, true_and, and_true, Nat.zero_le, Nat.reduceAdd, Nat.reduceLeDiff, ↓reduceIte, eq_self]
  refine xe_C_mono (xe_C_kp R.1 (ok_shut HI (xs (i + 1)) (xs (i + 2)) d)) (fun v h1 qk => ?_)
  obtain ⟨q, kk⟩ := qk
  have R1 := rd_kp R kk
  have o2 := ob_kp kk (sT_48 HI.1)
  have a01 : xe_ia h1 xe_S := rd_ia R1
  have a11 : xe_ix h1 xe_S (nI i + 1) := rd_ix R1 (k := 1) (by omega) hL
  have b11 : xe_I h1 xe_S (nI i + 1).toNatClampNeg = xs (i + 1) := rd_I R1 (k := 1) (by omega) hL
  have a21 : xe_ix h1 xe_S (nI i + 2) := rd_ix R1 (k := 2) (by omega) hL
  have b21 : xe_I h1 xe_S (nI i + 2).toNatClampNeg = xs (i + 2) := rd_I R1 (k := 2) (by omega) hL
  have wv := tl_w v
  generalize hv : v.toList ++ [] = vs at wv ⊢
  simp only [xs_219_464, xs_219_465, xs_219_466, xs_219_467, xs_219_468, xs_219_469, xs_219_470, xs_219_471, xs_219_472, xs_219_473, xs_219_474, xs_219_475, o2, wv, a01, a11, b11, a21, b21, rf_some, xw_nil, xw_int, xw_ref, xw_long, true_and, and_true, Nat.zero_le, Nat.reduceAdd, Nat.reduceLeDiff, ↓reduceIte, eq_self]
  refine xe_C_mono q (fun w h2 z => ?_)
  obtain ⟨⟨x, e1, e2⟩, z⟩ := z
  rw [← hv, e1, e2]
  simp only [tl_some, xs_219_478, eq_self, ↓reduceIte]
  exact K h2 z
theorem lc_11 (HI : Inv L xs s ce h) (hi : i + 5 ≤ L) (hL : L ≤ 2560) (K : ∀ h', (∃ s ce, Inv L xs s ce h') → xe_P (d + 40) 219 1216 [.ref xe_S, .ref 0, .ref 48, .int (nI i)] [] h' Q) : xe_P (d + 40) 219 483 [.ref xe_S, .ref 0, .ref 48, .int (nI i)] [] h Q := by
  have R := rd_Inv HI
  have o1 := sT_0 HI.1
  have a0 : xe_ia h xe_S := rd_ia R
  have a1 : xe_ix h xe_S (nI i + 1) := rd_ix R (k := 1) (by omega) hL
  have b1 : xe_I h xe_S (nI i + 1).toNatClampNeg = xs (i + 1) := rd_I R (k := 1) (by omega) hL
  have a2 : xe_ix h xe_S (nI i + 2) := rd_ix R (k := 2) (by omega) hL
  have b2 : xe_I h xe_S (nI i + 2).toNatClampNeg = xs (i + 2) := rd_I R (k := 2) (by omega) hL
  have a3 : xe_ix h xe_S (nI i + 3) := rd_ix R (k := 3) (by omega) hL
  have b3 : xe_I h xe_S (nI i + 3).toNatClampNeg = xs (i + 3) := rd_I R (k := 3) (by omega) hL
  simp only [xs_219_483, xs_219_484, xs_219_485, xs_219_486, xs_219_487, xs_219_488, xs_219_489, xs_219_490, xs_219_491, xs_219_492, xs_219_493, xs_219_494, xs_219_495, xs_219_496, xs_219_497, xs_219_498, xs_219_499, o1, a0, a1, b1, a2, b2, a3, b3, rf_some, xw_nil, xw_int, xw_ref, xw_long, true_and, and_true, Nat.zero_le, Nat.reduceAdd, Nat.reduceLeDiff, ↓reduceIte, eq_self]
  refine xe_C_mono (xe_C_kp R.1 (ok_send HI (xs (i + 1)) (xs (i + 2)) (xs (i + 3)) d)) (fun v h1 qk => ?_)
  obtain ⟨q, kk⟩ := qk
  have R1 := rd_kp R kk
  have o2 := ob_kp kk (sT_48 HI.1)
  have a01 : xe_ia h1 xe_S := rd_ia R1
  have a11 : xe_ix h1 xe_S (nI i + 1) := rd_ix R1 (k := 1) (by omega) hL
  have b11 : xe_I h1 xe_S (nI i + 1).toNatClampNeg = xs (i + 1) := rd_I R1 (k := 1) (by omega) hL
  have a21 : xe_ix h1 xe_S (nI i + 2) := rd_ix R1 (k := 2) (by omega) hL
  have b21 : xe_I h1 xe_S (nI i + 2).toNatClampNeg = xs (i + 2) := rd_I R1 (k := 2) (by omega) hL
  have a31 : xe_ix h1 xe_S (nI i + 3) := rd_ix R1 (k := 3) (by omega) hL
  have b31 : xe_I h1 xe_S (nI i + 3).toNatClampNeg = xs (i + 3) := rd_I R1 (k := 3) (by omega) hL
  have wv := tl_w v
  generalize hv : v.toList ++ [] = vs at wv ⊢
  simp only [xs_219_502, xs_219_503, xs_219_504, xs_219_505, xs_219_506, xs_219_507, xs_219_508, xs_219_509, xs_219_510, xs_219_511, xs_219_512, xs_219_513, xs_219_514, xs_219_515, xs_219_516, xs_219_517, xs_219_518, o2, wv, a01, a11, b11, a21, b21, a31, b31, rf_some, xw_nil, xw_int, xw_ref, xw_long, true_and, and_true, Nat.zero_le, Nat.reduceAdd, Nat.reduceLeDiff, ↓reduceIte, eq_self]
  refine xe_C_mono q (fun w h2 z => ?_)
  obtain ⟨⟨x, e1, e2⟩, z⟩ := z
  rw [← hv, e1, e2]
  simp only [tl_some, xs_219_521, eq_self, ↓reduceIte]
  exact K h2 z
theorem lc_12 (HI : Inv L xs s ce h) (hi : i + 5 ≤ L) (hL : L ≤ 2560) (K : ∀ h', (∃ s ce, Inv L xs s ce h') → xe_P (d + 40) 219 1216 [.ref xe_S, .ref 0, .ref 48, .int (nI i)] [] h' Q) : xe_P (d + 40) 219 526 [.ref xe_S, .ref 0, .ref 48, .int (nI i)] [] h Q := by
  have R := rd_Inv HI
  have o1 := sT_0 HI.1
  have a0 : xe_ia h xe_S := rd_ia R
  have a1 : xe_ix h xe_S (nI i + 1) := rd_ix R (k := 1) (by omega) hL
  have b1 : xe_I h xe_S (nI i + 1).toNatClampNeg = xs (i + 1) := rd_I R (k := 1) (by omega) hL
  simp only [xs_219_526, xs_219_527, xs_219_528, xs_219_529, xs_219_530, xs_219_531, xs_219_532, o1, a0, a1, b1, rf_some, xw_nil, xw_int, xw_ref, xw_long, true_and, and_true, Nat.zero_le, Nat.reduceAdd, Nat.reduceLeDiff, ↓reduceIte, eq_self]
  refine xe_C_mono (xe_C_kp R.1 (ok_minute HI (xs (i + 1)) d)) (fun v h1 qk => ?_)
  obtain ⟨q, kk⟩ := qk
  have R1 := rd_kp R kk
  have o2 := ob_kp kk (sT_48 HI.1)
  have a01 : xe_ia h1 xe_S := rd_ia R1
  have a11 : xe_ix h1 xe_S (nI i + 1) := rd_ix R1 (k := 1) (by omega) hL
  have b11 : xe_I h1 xe_S (nI i + 1).toNatClampNeg = xs (i + 1) := rd_I R1 (k := 1) (by omega) hL
  have wv := tl_w v
  generalize hv : v.toList ++ [] = vs at wv ⊢
  simp only [xs_219_535, xs_219_536, xs_219_537, xs_219_538, xs_219_539, xs_219_540, xs_219_541, o2, wv, a01, a11, b11, rf_some, xw_nil, xw_int, xw_ref, xw_long, true_and, and_true, Nat.zero_le, Nat.reduceAdd, Nat.reduceLeDiff, ↓reduceIte, eq_self]
  refine xe_C_mono q (fun w h2 z => ?_)
  obtain ⟨⟨x, e1, e2⟩, z⟩ := z
  rw [← hv, e1, e2]
  simp only [tl_some, xs_219_544, eq_self, ↓reduceIte]
  exact K h2 z
theorem lc_13 (HI : Inv L xs s ce h) (hi : i + 5 ≤ L) (hL : L ≤ 2560) (K : ∀ h', (∃ s ce, Inv L xs s ce h') → xe_P (d + 40) 219 1216 [.ref xe_S, .ref 0, .ref 48, .int (nI i)] [] h' Q) : xe_P (d + 40) 219 549 [.ref xe_S, .ref 0, .ref 48, .int (nI i)] [] h Q := by
  have R := rd_Inv HI
  have o1 := sT_0 HI.1
  have a0 : xe_ia h xe_S := rd_ia R
  have a1 : xe_ix h xe_S (nI i + 1) := rd_ix R (k := 1) (by omega) hL
  have b1 : xe_I h xe_S (nI i + 1).toNatClampNeg = xs (i + 1) := rd_I R (k := 1) (by omega) hL
  have a2 : xe_ix h xe_S (nI i + 2) := rd_ix R (k := 2) (by omega) hL
  have b2 : xe_I h xe_S (nI i + 2).toNatClampNeg = xs (i + 2) := rd_I R (k := 2) (by omega) hL
  simp only [xs_219_549, xs_219_550, xs_219_551, xs_219_552, xs_219_553, xs_219_554, xs_219_555, xs_219_556, xs_219_557, xs_219_558, xs_219_559, xs_219_560, o1, a0, a1, b1, a2, b2, rf_some, xw_nil, xw_int, xw_ref, xw_long, true_and, and_true, Nat.zero_le, Nat.reduceAdd, Nat.reduceLeDiff, ↓reduceIte, eq_self]
  refine xe_C_mono (xe_C_kp R.1 (ok_way HI (xs (i + 1)) (xs (i + 2)) d)) (fun v h1 qk => ?_)
  obtain ⟨q, kk⟩ := qk
  have R1 := rd_kp R kk
  have o2 := ob_kp kk (sT_48 HI.1)
  have a01 : xe_ia h1 xe_S := rd_ia R1
  have a11 : xe_ix h1 xe_S (nI i + 1) := rd_ix R1 (k := 1) (by omega) hL
  have b11 : xe_I h1 xe_S (nI i + 1).toNatClampNeg = xs (i + 1) := rd_I R1 (k := 1) (by omega) hL
  have a21 : xe_ix h1 xe_S (nI i + 2) := rd_ix R1 (k := 2) (by omega) hL
  have b21 : xe_I h1 xe_S (nI i + 2).toNatClampNeg = xs (i + 2) := rd_I R1 (k := 2) (by omega) hL
  have wv := tl_w v
  generalize hv : v.toList ++ [] = vs at wv ⊢
  simp only [xs_219_563, xs_219_564, xs_219_565, xs_219_566, xs_219_567, xs_219_568, xs_219_569, xs_219_570, xs_219_571, xs_219_572, xs_219_573, xs_219_574, o2, wv, a01, a11, b11, a21, b21, rf_some, xw_nil, xw_int, xw_ref, xw_long, true_and, and_true, Nat.zero_le, Nat.reduceAdd, Nat.reduceLeDiff, ↓reduceIte, eq_self]
  refine xe_C_mono q (fun w h2 z => ?_)
  obtain ⟨⟨x, e1, e2⟩, z⟩ := z
  rw [← hv, e1, e2]
  simp only [tl_some, xs_219_577, eq_self, ↓reduceIte]
  exact K h2 z
theorem lc_14 (HI : Inv L xs s ce h) (hi : i + 5 ≤ L) (hL : L ≤ 2560) (K : ∀ h', (∃ s ce, Inv L xs s ce h') → xe_P (d + 40) 219 1216 [.ref xe_S, .ref 0, .ref 48, .int (nI i)] [] h' Q) : xe_P (d + 40) 219 582 [.ref xe_S, .ref 0, .ref 48, .int (nI i)] [] h Q := by
  have R := rd_Inv HI
  have o1 := sT_0 HI.1
  have a0 : xe_ia h xe_S := rd_ia R
  have a1 : xe_ix h xe_S (nI i + 1) := rd_ix R (k := 1) (by omega) hL
  have b1 : xe_I h xe_S (nI i + 1).toNatClampNeg = xs (i + 1) := rd_I R (k := 1) (by omega) hL
  simp only [xs_219_582, xs_219_583, xs_219_584, xs_219_585, xs_219_586, xs_219_587, xs_219_588, o1, a0, a1, b1, rf_some, xw_nil, xw_int, xw_ref, xw_long, true_and, and_true, Nat.zero_le, Nat.reduceAdd, Nat.reduceLeDiff, ↓reduceIte, eq_self]
  refine xe_C_mono (xe_C_kp R.1 (ok_can HI (xs (i + 1)) d)) (fun v h1 qk => ?_)
  obtain ⟨q, kk⟩ := qk
  have R1 := rd_kp R kk
  have o2 := ob_kp kk (sT_48 HI.1)
  have a01 : xe_ia h1 xe_S := rd_ia R1
  have a11 : xe_ix h1 xe_S (nI i + 1) := rd_ix R1 (k := 1) (by omega) hL
  have b11 : xe_I h1 xe_S (nI i + 1).toNatClampNeg = xs (i + 1) := rd_I R1 (k := 1) (by omega) hL
  have wv := tl_w v
  generalize hv : v.toList ++ [] = vs at wv ⊢
  simp only [xs_219_591, xs_219_592, xs_219_593, xs_219_594, xs_219_595, xs_219_596, xs_219_597, o2, wv, a01, a11, b11, rf_some, xw_nil, xw_int, xw_ref, xw_long, true_and, and_true, Nat.zero_le, Nat.reduceAdd, Nat.reduceLeDiff, ↓reduceIte, eq_self]
  refine xe_C_mono q (fun w h2 z => ?_)
  obtain ⟨⟨x, e1, e2⟩, z⟩ := z
  rw [← hv, e1, e2]
  simp only [tl_some, xs_219_600, eq_self, ↓reduceIte]
  exact K h2 z
theorem lc_15 (HI : Inv L xs s ce h) (hi : i + 5 ≤ L) (hL : L ≤ 2560) (K : ∀ h', (∃ s ce, Inv L xs s ce h') → xe_P (d + 40) 219 1216 [.ref xe_S, .ref 0, .ref 48, .int (nI i)] [] h' Q) : xe_P (d + 40) 219 605 [.ref xe_S, .ref 0, .ref 48, .int (nI i)] [] h Q := by
  have R := rd_Inv HI
  have o1 := sT_0 HI.1
  have a0 : xe_ia h xe_S := rd_ia R
  have a1 : xe_ix h xe_S (nI i + 1) := rd_ix R (k := 1) (by omega) hL
  have b1 : xe_I h xe_S (nI i + 1).toNatClampNeg = xs (i + 1) := rd_I R (k := 1) (by omega) hL
  have a2 : xe_ix h xe_S (nI i + 2) := rd_ix R (k := 2) (by omega) hL
  have b2 : xe_I h xe_S (nI i + 2).toNatClampNeg = xs (i + 2) := rd_I R (k := 2) (by omega) hL
  have a3 : xe_ix h xe_S (nI i + 3) := rd_ix R (k := 3) (by omega) hL
  have b3 : xe_I h xe_S (nI i + 3).toNatClampNeg = xs (i + 3) := rd_I R (k := 3) (by omega) hL
  simp only [xs_219_605, xs_219_606, xs_219_607, xs_219_608, xs_219_609, xs_219_610, xs_219_611, xs_219_612, xs_219_613, xs_219_614, xs_219_615, xs_219_616, xs_219_617, xs_219_618, xs_219_619, xs_219_620, xs_219_621, o1, a0, a1, b1, a2, b2, a3, b3, rf_some, xw_nil, xw_int, xw_ref, xw_long, true_and, and_true, Nat.zero_le, Nat.reduceAdd, Nat.reduceLeDiff, ↓reduceIte, eq_self]
  refine xe_C_mono (xe_C_kp R.1 (ok_both HI (xs (i + 1)) (xs (i + 2)) (xs (i + 3)) d)) (fun v h1 qk => ?_)
  obtain ⟨q, kk⟩ := qk
  have R1 := rd_kp R kk
  have o2 := ob_kp kk (sT_48 HI.1)
  have a01 : xe_ia h1 xe_S := rd_ia R1
  have a11 : xe_ix h1 xe_S (nI i + 1) := rd_ix R1 (k := 1) (by omega) hL
  have b11 : xe_I h1 xe_S (nI i + 1).toNatClampNeg = xs (i + 1) := rd_I R1 (k := 1) (by omega) hL
  have a21 : xe_ix h1 xe_S (nI i + 2) := rd_ix R1 (k := 2) (by omega) hL
  have b21 : xe_I h1 xe_S (nI i + 2).toNatClampNeg = xs (i + 2) := rd_I R1 (k := 2) (by omega) hL
  have a31 : xe_ix h1 xe_S (nI i + 3) := rd_ix R1 (k := 3) (by omega) hL
  have b31 : xe_I h1 xe_S (nI i + 3).toNatClampNeg = xs (i + 3) := rd_I R1 (k := 3) (by omega) hL
  have wv := tl_w v
  generalize hv : v.toList ++ [] = vs at wv ⊢
  simp only [xs_219_624, xs_219_625, xs_219_626, xs_219_627, xs_219_628, xs_219_629, xs_219_630, xs_219_631, xs_219_632, xs_219_633, xs_219_634, xs_219_635, xs_219_636, xs_219_637, xs_219_638, xs_219_639, xs_219_640, o2, wv, a01, a11, b11, a21, b21, a31, b31, rf_some, xw_nil, xw_int, xw_ref, xw_long, true_and, and_true, Nat.zero_le, Nat.reduceAdd, Nat.reduceLeDiff, ↓reduceIte, eq_self]
  refine xe_C_mono q (fun w h2 z => ?_)
  obtain ⟨⟨x, e1, e2⟩, z⟩ := z
  rw [← hv, e1, e2]
  simp only [tl_some, xs_219_643, eq_self, ↓reduceIte]
  exact K h2 z
theorem lc_16 (HI : Inv L xs s ce h) (hi : i + 5 ≤ L) (hL : L ≤ 2560) (K : ∀ h', (∃ s ce, Inv L xs s ce h') → xe_P (d + 40) 219 1216 [.ref xe_S, .ref 0, .ref 48, .int (nI i)] [] h' Q) : xe_P (d + 40) 219 648 [.ref xe_S, .ref 0, .ref 48, .int (nI i)] [] h Q := by
  have R := rd_Inv HI
  have o1 := sT_0 HI.1
  simp only [xs_219_648, xs_219_649, o1, rf_some, xw_nil, xw_int, xw_ref, xw_long, true_and, and_true, Nat.zero_le, Nat.reduceAdd, Nat.reduceLeDiff, ↓reduceIte, eq_self]
  refine xe_C_mono (xe_C_kp R.1 (ok_rings HI d)) (fun v h1 qk => ?_)
  obtain ⟨q, kk⟩ := qk
  have R1 := rd_kp R kk
  have o2 := ob_kp kk (sT_48 HI.1)
  have wv := tl_w v
  generalize hv : v.toList ++ [] = vs at wv ⊢
  simp only [xs_219_652, xs_219_653, o2, wv, rf_some, xw_nil, xw_int, xw_ref, xw_long, true_and, and_true, Nat.zero_le, Nat.reduceAdd, Nat.reduceLeDiff, ↓reduceIte, eq_self]
  refine xe_C_mono q (fun w h2 z => ?_)
  obtain ⟨⟨x, e1, e2⟩, z⟩ := z
  rw [← hv, e1, e2]
  simp only [tl_some, xs_219_656, eq_self, ↓reduceIte]
  exact K h2 z
theorem lc_17 (HI : Inv L xs s ce h) (hi : i + 5 ≤ L) (hL : L ≤ 2560) (K : ∀ h', (∃ s ce, Inv L xs s ce h') → xe_P (d + 40) 219 1216 [.ref xe_S, .ref 0, .ref 48, .int (nI i)] [] h' Q) : xe_P (d + 40) 219 661 [.ref xe_S, .ref 0, .ref 48, .int (nI i)] [] h Q := by
  have R := rd_Inv HI
  have o1 := sT_0 HI.1
  have a0 : xe_ia h xe_S := rd_ia R
  have a1 : xe_ix h xe_S (nI i + 1) := rd_ix R (k := 1) (by omega) hL
  have b1 : xe_I h xe_S (nI i + 1).toNatClampNeg = xs (i + 1) := rd_I R (k := 1) (by omega) hL
  have a2 : xe_ix h xe_S (nI i + 2) := rd_ix R (k := 2) (by omega) hL
  have b2 : xe_I h xe_S (nI i + 2).toNatClampNeg = xs (i + 2) := rd_I R (k := 2) (by omega) hL
  have a3 : xe_ix h xe_S (nI i + 3) := rd_ix R (k := 3) (by omega) hL
  have b3 : xe_I h xe_S (nI i + 3).toNatClampNeg = xs (i + 3) := rd_I R (k := 3) (by omega) hL
  have a4 : xe_ix h xe_S (nI i + 4) := rd_ix R (k := 4) (by omega) hL
  have b4 : xe_I h xe_S (nI i + 4).toNatClampNeg = xs (i + 4) := rd_I R (k := 4) (by omega) hL
  simp only [xs_219_661, xs_219_662, xs_219_663, xs_219_664, xs_219_665, xs_219_666, xs_219_667, xs_219_668, xs_219_669, xs_219_670, xs_219_671, xs_219_672, xs_219_673, xs_219_674, xs_219_675, xs_219_676, xs_219_677, xs_219_678, xs_219_679, xs_219_680, xs_219_681, xs_219_682, o1, a0, a1, b1, a2, b2, a3, b3, a4, b4, rf_some, xw_nil, xw_int, xw_ref, xw_long, true_and, and_true, Nat.zero_le, Nat.reduceAdd, Nat.reduceLeDiff, ↓reduceIte, eq_self]
  refine xe_C_mono (xe_C_kp R.1 (ok_guard HI (xs (i + 1)) (xs (i + 2)) (xs (i + 3)) (xs (i + 4)) d)) (fun v h1 qk => ?_)
  obtain ⟨q, kk⟩ := qk
  have R1 := rd_kp R kk
  have o2 := ob_kp kk (sT_48 HI.1)
  have a01 : xe_ia h1 xe_S := rd_ia R1
  have a11 : xe_ix h1 xe_S (nI i + 1) := rd_ix R1 (k := 1) (by omega) hL
  have b11 : xe_I h1 xe_S (nI i + 1).toNatClampNeg = xs (i + 1) := rd_I R1 (k := 1) (by omega) hL
  have a21 : xe_ix h1 xe_S (nI i + 2) := rd_ix R1 (k := 2) (by omega) hL
  have b21 : xe_I h1 xe_S (nI i + 2).toNatClampNeg = xs (i + 2) := rd_I R1 (k := 2) (by omega) hL
  have a31 : xe_ix h1 xe_S (nI i + 3) := rd_ix R1 (k := 3) (by omega) hL
  have b31 : xe_I h1 xe_S (nI i + 3).toNatClampNeg = xs (i + 3) := rd_I R1 (k := 3) (by omega) hL
  have a41 : xe_ix h1 xe_S (nI i + 4) := rd_ix R1 (k := 4) (by omega) hL
  have b41 : xe_I h1 xe_S (nI i + 4).toNatClampNeg = xs (i + 4) := rd_I R1 (k := 4) (by omega) hL
  have wv := tl_w v
  generalize hv : v.toList ++ [] = vs at wv ⊢
  simp only [xs_219_685, xs_219_686, xs_219_687, xs_219_688, xs_219_689, xs_219_690, xs_219_691, xs_219_692, xs_219_693, xs_219_694, xs_219_695, xs_219_696, xs_219_697, xs_219_698, xs_219_699, xs_219_700, xs_219_701, xs_219_702, xs_219_703, xs_219_704, xs_219_705, xs_219_706, o2, wv, a01, a11, b11, a21, b21, a31, b31, a41, b41, rf_some, xw_nil, xw_int, xw_ref, xw_long, true_and, and_true, Nat.zero_le, Nat.reduceAdd, Nat.reduceLeDiff, ↓reduceIte, eq_self]
  refine xe_C_mono q (fun w h2 z => ?_)
  obtain ⟨⟨x, e1, e2⟩, z⟩ := z
  rw [← hv, e1, e2]
  simp only [tl_some, xs_219_709, eq_self, ↓reduceIte]
  exact K h2 z
theorem lc_18 (HI : Inv L xs s ce h) (hi : i + 5 ≤ L) (hL : L ≤ 2560) (K : ∀ h', (∃ s ce, Inv L xs s ce h') → xe_P (d + 40) 219 1216 [.ref xe_S, .ref 0, .ref 48, .int (nI i)] [] h' Q) : xe_P (d + 40) 219 714 [.ref xe_S, .ref 0, .ref 48, .int (nI i)] [] h Q := by
  have R := rd_Inv HI
  have o1 := sT_0 HI.1
  have a0 : xe_ia h xe_S := rd_ia R
  have a1 : xe_ix h xe_S (nI i + 1) := rd_ix R (k := 1) (by omega) hL
  have b1 : xe_I h xe_S (nI i + 1).toNatClampNeg = xs (i + 1) := rd_I R (k := 1) (by omega) hL
  have a2 : xe_ix h xe_S (nI i + 2) := rd_ix R (k := 2) (by omega) hL
  have b2 : xe_I h xe_S (nI i + 2).toNatClampNeg = xs (i + 2) := rd_I R (k := 2) (by omega) hL
  have a3 : xe_ix h xe_S (nI i + 3) := rd_ix R (k := 3) (by omega) hL
  have b3 : xe_I h xe_S (nI i + 3).toNatClampNeg = xs (i + 3) := rd_I R (k := 3) (by omega) hL
  have a4 : xe_ix h xe_S (nI i + 4) := rd_ix R (k := 4) (by omega) hL
  have b4 : xe_I h xe_S (nI i + 4).toNatClampNeg = xs (i + 4) := rd_I R (k := 4) (by omega) hL
  simp only [xs_219_714, xs_219_715, xs_219_716, xs_219_717, xs_219_718, xs_219_719, xs_219_720, xs_219_721, xs_219_722, xs_219_723, xs_219_724, xs_219_725, xs_219_726, xs_219_727, xs_219_728, xs_219_729, xs_219_730, xs_219_731, xs_219_732, xs_219_733, xs_219_734, xs_219_735, o1, a0, a1, b1, a2, b2, a3, b3, a4, b4, rf_some, xw_nil, xw_int, xw_ref, xw_long, true_and, and_true, Nat.zero_le, Nat.reduceAdd, Nat.reduceLeDiff, ↓reduceIte, eq_self]
  refine xe_C_mono (xe_C_kp R.1 (ok_game HI (xs (i + 1)) (xs (i + 2)) (xs (i + 3)) (xs (i + 4)) d)) (fun v h1 qk => ?_)
  obtain ⟨q, kk⟩ := qk
  have R1 := rd_kp R kk
  have o2 := ob_kp kk (sT_48 HI.1)
  have a01 : xe_ia h1 xe_S := rd_ia R1
  have a11 : xe_ix h1 xe_S (nI i + 1) := rd_ix R1 (k := 1) (by omega) hL
  have b11 : xe_I h1 xe_S (nI i + 1).toNatClampNeg = xs (i + 1) := rd_I R1 (k := 1) (by omega) hL
  have a21 : xe_ix h1 xe_S (nI i + 2) := rd_ix R1 (k := 2) (by omega) hL
  have b21 : xe_I h1 xe_S (nI i + 2).toNatClampNeg = xs (i + 2) := rd_I R1 (k := 2) (by omega) hL
  have a31 : xe_ix h1 xe_S (nI i + 3) := rd_ix R1 (k := 3) (by omega) hL
  have b31 : xe_I h1 xe_S (nI i + 3).toNatClampNeg = xs (i + 3) := rd_I R1 (k := 3) (by omega) hL
  have a41 : xe_ix h1 xe_S (nI i + 4) := rd_ix R1 (k := 4) (by omega) hL
  have b41 : xe_I h1 xe_S (nI i + 4).toNatClampNeg = xs (i + 4) := rd_I R1 (k := 4) (by omega) hL
  have wv := tl_w v
  generalize hv : v.toList ++ [] = vs at wv ⊢
  simp only [xs_219_738, xs_219_739, xs_219_740, xs_219_741, xs_219_742, xs_219_743, xs_219_744, xs_219_745, xs_219_746, xs_219_747, xs_219_748, xs_219_749, xs_219_750, xs_219_751, xs_219_752, xs_219_753, xs_219_754, xs_219_755, xs_219_756, xs_219_757, xs_219_758, xs_219_759, o2, wv, a01, a11, b11, a21, b21, a31, b31, a41, b41, rf_some, xw_nil, xw_int, xw_ref, xw_long, true_and, and_true, Nat.zero_le, Nat.reduceAdd, Nat.reduceLeDiff, ↓reduceIte, eq_self]
  refine xe_C_mono q (fun w h2 z => ?_)
  obtain ⟨⟨x, e1, e2⟩, z⟩ := z
  rw [← hv, e1, e2]
  simp only [tl_some, xs_219_762, eq_self, ↓reduceIte]
  exact K h2 z
theorem lc_19 (HI : Inv L xs s ce h) (hi : i + 5 ≤ L) (hL : L ≤ 2560) (K : ∀ h', (∃ s ce, Inv L xs s ce h') → xe_P (d + 40) 219 1216 [.ref xe_S, .ref 0, .ref 48, .int (nI i)] [] h' Q) : xe_P (d + 40) 219 767 [.ref xe_S, .ref 0, .ref 48, .int (nI i)] [] h Q := by
  have R := rd_Inv HI
  have o1 := sT_0 HI.1
  have a0 : xe_ia h xe_S := rd_ia R
  have a1 : xe_ix h xe_S (nI i + 1) := rd_ix R (k := 1) (by omega) hL
  have b1 : xe_I h xe_S (nI i + 1).toNatClampNeg = xs (i + 1) := rd_I R (k := 1) (by omega) hL
  have a2 : xe_ix h xe_S (nI i + 2) := rd_ix R (k := 2) (by omega) hL
  have b2 : xe_I h xe_S (nI i + 2).toNatClampNeg = xs (i + 2) := rd_I R (k := 2) (by omega) hL
  simp only [xs_219_767, xs_219_768, xs_219_769, xs_219_770, xs_219_771, xs_219_772, xs_219_773, xs_219_774, xs_219_775, xs_219_776, xs_219_777, xs_219_778, o1, a0, a1, b1, a2, b2, rf_some, xw_nil, xw_int, xw_ref, xw_long, true_and, and_true, Nat.zero_le, Nat.reduceAdd, Nat.reduceLeDiff, ↓reduceIte, eq_self]
  refine xe_C_mono (xe_C_kp R.1 (ok_relay HI (xs (i + 1)) (xs (i + 2)) d)) (fun v h1 qk => ?_)
  obtain ⟨q, kk⟩ := qk
  have R1 := rd_kp R kk
  have o2 := ob_kp kk (sT_48 HI.1)
  have a01 : xe_ia h1 xe_S := rd_ia R1
  have a11 : xe_ix h1 xe_S (nI i + 1) := rd_ix R1 (k := 1) (by omega) hL
  have b11 : xe_I h1 xe_S (nI i + 1).toNatClampNeg = xs (i + 1) := rd_I R1 (k := 1) (by omega) hL
  have a21 : xe_ix h1 xe_S (nI i + 2) := rd_ix R1 (k := 2) (by omega) hL
  have b21 : xe_I h1 xe_S (nI i + 2).toNatClampNeg = xs (i + 2) := rd_I R1 (k := 2) (by omega) hL
  have wv := tl_w v
  generalize hv : v.toList ++ [] = vs at wv ⊢
  simp only [xs_219_781, xs_219_782, xs_219_783, xs_219_784, xs_219_785, xs_219_786, xs_219_787, xs_219_788, xs_219_789, xs_219_790, xs_219_791, xs_219_792, o2, wv, a01, a11, b11, a21, b21, rf_some, xw_nil, xw_int, xw_ref, xw_long, true_and, and_true, Nat.zero_le, Nat.reduceAdd, Nat.reduceLeDiff, ↓reduceIte, eq_self]
  refine xe_C_mono q (fun w h2 z => ?_)
  obtain ⟨⟨x, e1, e2⟩, z⟩ := z
  rw [← hv, e1, e2]
  simp only [tl_some, xs_219_795, eq_self, ↓reduceIte]
  exact K h2 z
theorem lc_20 (HI : Inv L xs s ce h) (hi : i + 5 ≤ L) (hL : L ≤ 2560) (K : ∀ h', (∃ s ce, Inv L xs s ce h') → xe_P (d + 40) 219 1216 [.ref xe_S, .ref 0, .ref 48, .int (nI i)] [] h' Q) : xe_P (d + 40) 219 800 [.ref xe_S, .ref 0, .ref 48, .int (nI i)] [] h Q := by
  have R := rd_Inv HI
  have o1 := sT_0 HI.1
  have a0 : xe_ia h xe_S := rd_ia R
  have a1 : xe_ix h xe_S (nI i + 1) := rd_ix R (k := 1) (by omega) hL
  have b1 : xe_I h xe_S (nI i + 1).toNatClampNeg = xs (i + 1) := rd_I R (k := 1) (by omega) hL
  have a2 : xe_ix h xe_S (nI i + 2) := rd_ix R (k := 2) (by omega) hL
  have b2 : xe_I h xe_S (nI i + 2).toNatClampNeg = xs (i + 2) := rd_I R (k := 2) (by omega) hL
  have a3 : xe_ix h xe_S (nI i + 3) := rd_ix R (k := 3) (by omega) hL
  have b3 : xe_I h xe_S (nI i + 3).toNatClampNeg = xs (i + 3) := rd_I R (k := 3) (by omega) hL
  simp only [xs_219_800, xs_219_801, xs_219_802, xs_219_803, xs_219_804, xs_219_805, xs_219_806, xs_219_807, xs_219_808, xs_219_809, xs_219_810, xs_219_811, xs_219_812, xs_219_813, xs_219_814, xs_219_815, xs_219_816, o1, a0, a1, b1, a2, b2, a3, b3, rf_some, xw_nil, xw_int, xw_ref, xw_long, true_and, and_true, Nat.zero_le, Nat.reduceAdd, Nat.reduceLeDiff, ↓reduceIte, eq_self]
  refine xe_C_mono (xe_C_kp R.1 (ok_chance HI (xs (i + 1)) (xs (i + 2)) (xs (i + 3)) d)) (fun v h1 qk => ?_)
  obtain ⟨q, kk⟩ := qk
  have R1 := rd_kp R kk
  have o2 := ob_kp kk (sT_48 HI.1)
  have a01 : xe_ia h1 xe_S := rd_ia R1
  have a11 : xe_ix h1 xe_S (nI i + 1) := rd_ix R1 (k := 1) (by omega) hL
  have b11 : xe_I h1 xe_S (nI i + 1).toNatClampNeg = xs (i + 1) := rd_I R1 (k := 1) (by omega) hL
  have a21 : xe_ix h1 xe_S (nI i + 2) := rd_ix R1 (k := 2) (by omega) hL
  have b21 : xe_I h1 xe_S (nI i + 2).toNatClampNeg = xs (i + 2) := rd_I R1 (k := 2) (by omega) hL
  have a31 : xe_ix h1 xe_S (nI i + 3) := rd_ix R1 (k := 3) (by omega) hL
  have b31 : xe_I h1 xe_S (nI i + 3).toNatClampNeg = xs (i + 3) := rd_I R1 (k := 3) (by omega) hL
  have wv := tl_w v
  generalize hv : v.toList ++ [] = vs at wv ⊢
  simp only [xs_219_819, xs_219_820, xs_219_821, xs_219_822, xs_219_823, xs_219_824, xs_219_825, xs_219_826, xs_219_827, xs_219_828, xs_219_829, xs_219_830, xs_219_831, xs_219_832, xs_219_833, xs_219_834, xs_219_835, o2, wv, a01, a11, b11, a21, b21, a31, b31, rf_some, xw_nil, xw_int, xw_ref, xw_long, true_and, and_true, Nat.zero_le, Nat.reduceAdd, Nat.reduceLeDiff, ↓reduceIte, eq_self]
  refine xe_C_mono q (fun w h2 z => ?_)
  obtain ⟨⟨x, e1, e2⟩, z⟩ := z
  rw [← hv, e1, e2]
  simp only [tl_some, xs_219_838, xs_219_839, lz_self, eq_self, ↓reduceIte]
  exact K h2 z
theorem lc_21 (HI : Inv L xs s ce h) (hi : i + 5 ≤ L) (hL : L ≤ 2560) (K : ∀ h', (∃ s ce, Inv L xs s ce h') → xe_P (d + 40) 219 1216 [.ref xe_S, .ref 0, .ref 48, .int (nI i)] [] h' Q) : xe_P (d + 40) 219 844 [.ref xe_S, .ref 0, .ref 48, .int (nI i)] [] h Q := by
  have R := rd_Inv HI
  have o1 := sT_0 HI.1
  have a0 : xe_ia h xe_S := rd_ia R
  have a1 : xe_ix h xe_S (nI i + 1) := rd_ix R (k := 1) (by omega) hL
  have b1 : xe_I h xe_S (nI i + 1).toNatClampNeg = xs (i + 1) := rd_I R (k := 1) (by omega) hL
  have a2 : xe_ix h xe_S (nI i + 2) := rd_ix R (k := 2) (by omega) hL
  have b2 : xe_I h xe_S (nI i + 2).toNatClampNeg = xs (i + 2) := rd_I R (k := 2) (by omega) hL
  have a3 : xe_ix h xe_S (nI i + 3) := rd_ix R (k := 3) (by omega) hL
  have b3 : xe_I h xe_S (nI i + 3).toNatClampNeg = xs (i + 3) := rd_I R (k := 3) (by omega) hL
  by_cases zz : xs (i + 3) = 0
  · simp only [xs_219_844, xs_219_845, xs_219_846, xs_219_847, xs_219_848, xs_219_849, xs_219_850, xs_219_851, xs_219_852, xs_219_853, xs_219_854, xs_219_855, xs_219_856, xs_219_857, xs_219_858, xs_219_859, xs_219_860, xs_219_863, xs_219_864, xs_219_867, xs_219_868, o1, a0, a1, b1, a2, b2, a3, b3, zz, rf_some, xw_nil, xw_int, xw_ref, xw_long, true_and, and_true, Nat.zero_le, Nat.reduceAdd, Nat.reduceLeDiff, ↓reduceIte, eq_self]
    refine xe_C_mono (xe_C_kp R.1 (ok_saw HI (xs (i + 1)) (xs (i + 2)) (z := 0) (by omega) d)) (fun v h1 qk => ?_)
    obtain ⟨q, kk⟩ := qk
    have R1 := rd_kp R kk
    have o2 := ob_kp kk (sT_48 HI.1)
    have a01 : xe_ia h1 xe_S := rd_ia R1
    have a11 : xe_ix h1 xe_S (nI i + 1) := rd_ix R1 (k := 1) (by omega) hL
    have b11 : xe_I h1 xe_S (nI i + 1).toNatClampNeg = xs (i + 1) := rd_I R1 (k := 1) (by omega) hL
    have a21 : xe_ix h1 xe_S (nI i + 2) := rd_ix R1 (k := 2) (by omega) hL
    have b21 : xe_I h1 xe_S (nI i + 2).toNatClampNeg = xs (i + 2) := rd_I R1 (k := 2) (by omega) hL
    have a31 : xe_ix h1 xe_S (nI i + 3) := rd_ix R1 (k := 3) (by omega) hL
    have b31 : xe_I h1 xe_S (nI i + 3).toNatClampNeg = xs (i + 3) := rd_I R1 (k := 3) (by omega) hL
    have wv := tl_w v
    generalize hv : v.toList ++ [] = vs at wv ⊢
    simp only [xs_219_871, xs_219_872, xs_219_873, xs_219_874, xs_219_875, xs_219_876, xs_219_877, xs_219_878, xs_219_879, xs_219_880, xs_219_881, xs_219_882, xs_219_883, xs_219_884, xs_219_885, xs_219_886, xs_219_887, xs_219_890, xs_219_891, xs_219_894, xs_219_895, o2, wv, a01, a11, b11, a21, b21, a31, b31, zz, rf_some, xw_nil, xw_int, xw_ref, xw_long, true_and, and_true, Nat.zero_le, Nat.reduceAdd, Nat.reduceLeDiff, ↓reduceIte, eq_self]
    refine xe_C_mono q (fun w h2 z => ?_)
    obtain ⟨⟨x, e1, e2⟩, z⟩ := z
    rw [← hv, e1, e2]
    simp only [tl_some, xs_219_898, eq_self, ↓reduceIte]
    exact K h2 z
  · simp only [xs_219_844, xs_219_845, xs_219_846, xs_219_847, xs_219_848, xs_219_849, xs_219_850, xs_219_851, xs_219_852, xs_219_853, xs_219_854, xs_219_855, xs_219_856, xs_219_857, xs_219_858, xs_219_859, xs_219_860, xs_219_863, xs_219_864, xs_219_867, xs_219_868, o1, a0, a1, b1, a2, b2, a3, b3, zz, rf_some, xw_nil, xw_int, xw_ref, xw_long, true_and, and_true, Nat.zero_le, Nat.reduceAdd, Nat.reduceLeDiff, ↓reduceIte, eq_self]
    refine xe_C_mono (xe_C_kp R.1 (ok_saw HI (xs (i + 1)) (xs (i + 2)) (z := 1) (by omega) d)) (fun v h1 qk => ?_)
    obtain ⟨q, kk⟩ := qk
    have R1 := rd_kp R kk
    have o2 := ob_kp kk (sT_48 HI.1)
    have a01 : xe_ia h1 xe_S := rd_ia R1
    have a11 : xe_ix h1 xe_S (nI i + 1) := rd_ix R1 (k := 1) (by omega) hL
    have b11 : xe_I h1 xe_S (nI i + 1).toNatClampNeg = xs (i + 1) := rd_I R1 (k := 1) (by omega) hL
    have a21 : xe_ix h1 xe_S (nI i + 2) := rd_ix R1 (k := 2) (by omega) hL
    have b21 : xe_I h1 xe_S (nI i + 2).toNatClampNeg = xs (i + 2) := rd_I R1 (k := 2) (by omega) hL
    have a31 : xe_ix h1 xe_S (nI i + 3) := rd_ix R1 (k := 3) (by omega) hL
    have b31 : xe_I h1 xe_S (nI i + 3).toNatClampNeg = xs (i + 3) := rd_I R1 (k := 3) (by omega) hL
    have wv := tl_w v
    generalize hv : v.toList ++ [] = vs at wv ⊢
    simp only [xs_219_871, xs_219_872, xs_219_873, xs_219_874, xs_219_875, xs_219_876, xs_219_877, xs_219_878, xs_219_879, xs_219_880, xs_219_881, xs_219_882, xs_219_883, xs_219_884, xs_219_885, xs_219_886, xs_219_887, xs_219_890, xs_219_891, xs_219_894, xs_219_895, o2, wv, a01, a11, b11, a21, b21, a31, b31, zz, rf_some, xw_nil, xw_int, xw_ref, xw_long, true_and, and_true, Nat.zero_le, Nat.reduceAdd, Nat.reduceLeDiff, ↓reduceIte, eq_self]
    refine xe_C_mono q (fun w h2 z => ?_)
    obtain ⟨⟨x, e1, e2⟩, z⟩ := z
    rw [← hv, e1, e2]
    simp only [tl_some, xs_219_898, eq_self, ↓reduceIte]
    exact K h2 z
theorem lc_22 (HI : Inv L xs s ce h) (hi : i + 5 ≤ L) (hL : L ≤ 2560) (K : ∀ h', (∃ s ce, Inv L xs s ce h') → xe_P (d + 40) 219 1216 [.ref xe_S, .ref 0, .ref 48, .int (nI i)] [] h' Q) : xe_P (d + 40) 219 903 [.ref xe_S, .ref 0, .ref 48, .int (nI i)] [] h Q := by
  have R := rd_Inv HI
  have o1 := sT_0 HI.1
  have a0 : xe_ia h xe_S := rd_ia R
  have a1 : xe_ix h xe_S (nI i + 1) := rd_ix R (k := 1) (by omega) hL
  have b1 : xe_I h xe_S (nI i + 1).toNatClampNeg = xs (i + 1) := rd_I R (k := 1) (by omega) hL
  simp only [xs_219_903, xs_219_904, xs_219_905, xs_219_906, xs_219_907, xs_219_908, xs_219_909, o1, a0, a1, b1, rf_some, xw_nil, xw_int, xw_ref, xw_long, true_and, and_true, Nat.zero_le, Nat.reduceAdd, Nat.reduceLeDiff, ↓reduceIte, eq_self]
  refine xe_C_mono (xe_C_kp R.1 (ok_forget HI (xs (i + 1)) d)) (fun v h1 qk => ?_)
  obtain ⟨q, kk⟩ := qk
  have R1 := rd_kp R kk
  have o2 := ob_kp kk (sT_48 HI.1)
  have a01 : xe_ia h1 xe_S := rd_ia R1
  have a11 : xe_ix h1 xe_S (nI i + 1) := rd_ix R1 (k := 1) (by omega) hL
  have b11 : xe_I h1 xe_S (nI i + 1).toNatClampNeg = xs (i + 1) := rd_I R1 (k := 1) (by omega) hL
  have wv := tl_w v
  generalize hv : v.toList ++ [] = vs at wv ⊢
  simp only [xs_219_912, xs_219_913, xs_219_914, xs_219_915, xs_219_916, xs_219_917, xs_219_918, o2, wv, a01, a11, b11, rf_some, xw_nil, xw_int, xw_ref, xw_long, true_and, and_true, Nat.zero_le, Nat.reduceAdd, Nat.reduceLeDiff, ↓reduceIte, eq_self]
  refine xe_C_mono q (fun w h2 z => ?_)
  obtain ⟨⟨x, e1, e2⟩, z⟩ := z
  rw [← hv, e1, e2]
  simp only [tl_some, xs_219_921, eq_self, ↓reduceIte]
  exact K h2 z
theorem lc_23 (HI : Inv L xs s ce h) (hi : i + 5 ≤ L) (hL : L ≤ 2560) (K : ∀ h', (∃ s ce, Inv L xs s ce h') → xe_P (d + 40) 219 1216 [.ref xe_S, .ref 0, .ref 48, .int (nI i)] [] h' Q) : xe_P (d + 40) 219 926 [.ref xe_S, .ref 0, .ref 48, .int (nI i)] [] h Q := by
  have R := rd_Inv HI
  have o1 := sT_0 HI.1
  have a0 : xe_ia h xe_S := rd_ia R
  have a1 : xe_ix h xe_S (nI i + 1) := rd_ix R (k := 1) (by omega) hL
  have b1 : xe_I h xe_S (nI i + 1).toNatClampNeg = xs (i + 1) := rd_I R (k := 1) (by omega) hL
  simp only [xs_219_926, xs_219_927, xs_219_928, xs_219_929, xs_219_930, xs_219_931, xs_219_932, o1, a0, a1, b1, rf_some, xw_nil, xw_int, xw_ref, xw_long, true_and, and_true, Nat.zero_le, Nat.reduceAdd, Nat.reduceLeDiff, ↓reduceIte, eq_self]
  refine xe_C_mono (xe_C_kp R.1 (ok_rigs HI (xs (i + 1)) d)) (fun v h1 qk => ?_)
  obtain ⟨q, kk⟩ := qk
  have R1 := rd_kp R kk
  have o2 := ob_kp kk (sT_48 HI.1)
  have a01 : xe_ia h1 xe_S := rd_ia R1
  have a11 : xe_ix h1 xe_S (nI i + 1) := rd_ix R1 (k := 1) (by omega) hL
  have b11 : xe_I h1 xe_S (nI i + 1).toNatClampNeg = xs (i + 1) := rd_I R1 (k := 1) (by omega) hL
  have wv := tl_w v
  generalize hv : v.toList ++ [] = vs at wv ⊢
  simp only [xs_219_935, xs_219_936, xs_219_937, xs_219_938, xs_219_939, xs_219_940, xs_219_941, o2, wv, a01, a11, b11, rf_some, xw_nil, xw_int, xw_ref, xw_long, true_and, and_true, Nat.zero_le, Nat.reduceAdd, Nat.reduceLeDiff, ↓reduceIte, eq_self]
  refine xe_C_mono q (fun w h2 z => ?_)
  obtain ⟨⟨x, e1, e2⟩, z⟩ := z
  rw [← hv, e1, e2]
  simp only [tl_some, xs_219_944, eq_self, ↓reduceIte]
  exact K h2 z
theorem lc_24 (HI : Inv L xs s ce h) (hi : i + 5 ≤ L) (hL : L ≤ 2560) (K : ∀ h', (∃ s ce, Inv L xs s ce h') → xe_P (d + 40) 219 1216 [.ref xe_S, .ref 0, .ref 48, .int (nI i)] [] h' Q) : xe_P (d + 40) 219 949 [.ref xe_S, .ref 0, .ref 48, .int (nI i)] [] h Q := by
  have R := rd_Inv HI
  have o1 := sT_0 HI.1
  have a0 : xe_ia h xe_S := rd_ia R
  have a1 : xe_ix h xe_S (nI i + 1) := rd_ix R (k := 1) (by omega) hL
  have b1 : xe_I h xe_S (nI i + 1).toNatClampNeg = xs (i + 1) := rd_I R (k := 1) (by omega) hL
  simp only [xs_219_949, xs_219_950, xs_219_951, xs_219_952, xs_219_953, xs_219_954, xs_219_955, o1, a0, a1, b1, rf_some, xw_nil, xw_int, xw_ref, xw_long, true_and, and_true, Nat.zero_le, Nat.reduceAdd, Nat.reduceLeDiff, ↓reduceIte, eq_self]
  refine xe_C_mono (xe_C_kp R.1 (ok_hangs HI (xs (i + 1)) d)) (fun v h1 qk => ?_)
  obtain ⟨q, kk⟩ := qk
  have R1 := rd_kp R kk
  have o2 := ob_kp kk (sT_48 HI.1)
  have a01 : xe_ia h1 xe_S := rd_ia R1
  have a11 : xe_ix h1 xe_S (nI i + 1) := rd_ix R1 (k := 1) (by omega) hL
  have b11 : xe_I h1 xe_S (nI i + 1).toNatClampNeg = xs (i + 1) := rd_I R1 (k := 1) (by omega) hL
  have wv := tl_w v
  generalize hv : v.toList ++ [] = vs at wv ⊢
  simp only [xs_219_958, xs_219_959, xs_219_960, xs_219_961, xs_219_962, xs_219_963, xs_219_964, o2, wv, a01, a11, b11, rf_some, xw_nil, xw_int, xw_ref, xw_long, true_and, and_true, Nat.zero_le, Nat.reduceAdd, Nat.reduceLeDiff, ↓reduceIte, eq_self]
  refine xe_C_mono q (fun w h2 z => ?_)
  obtain ⟨⟨x, e1, e2⟩, z⟩ := z
  rw [← hv, e1, e2]
  simp only [tl_some, xs_219_967, eq_self, ↓reduceIte]
  exact K h2 z
theorem lc_25 (HI : Inv L xs s ce h) (hi : i + 5 ≤ L) (hL : L ≤ 2560) (K : ∀ h', (∃ s ce, Inv L xs s ce h') → xe_P (d + 40) 219 1216 [.ref xe_S, .ref 0, .ref 48, .int (nI i)] [] h' Q) : xe_P (d + 40) 219 972 [.ref xe_S, .ref 0, .ref 48, .int (nI i)] [] h Q := by
  have R := rd_Inv HI
  have o1 := sT_0 HI.1
  have a0 : xe_ia h xe_S := rd_ia R
  have a1 : xe_ix h xe_S (nI i + 1) := rd_ix R (k := 1) (by omega) hL
  have b1 : xe_I h xe_S (nI i + 1).toNatClampNeg = xs (i + 1) := rd_I R (k := 1) (by omega) hL
  simp only [xs_219_972, xs_219_973, xs_219_974, xs_219_975, xs_219_976, xs_219_977, xs_219_978, o1, a0, a1, b1, rf_some, xw_nil, xw_int, xw_ref, xw_long, true_and, and_true, Nat.zero_le, Nat.reduceAdd, Nat.reduceLeDiff, ↓reduceIte, eq_self]
  refine xe_C_mono (xe_C_kp R.1 (ok_look HI (xs (i + 1)) d)) (fun v h1 qk => ?_)
  obtain ⟨q, kk⟩ := qk
  have R1 := rd_kp R kk
  have o2 := ob_kp kk (sT_48 HI.1)
  have a01 : xe_ia h1 xe_S := rd_ia R1
  have a11 : xe_ix h1 xe_S (nI i + 1) := rd_ix R1 (k := 1) (by omega) hL
  have b11 : xe_I h1 xe_S (nI i + 1).toNatClampNeg = xs (i + 1) := rd_I R1 (k := 1) (by omega) hL
  have wv := tl_w v
  generalize hv : v.toList ++ [] = vs at wv ⊢
  simp only [xs_219_981, xs_219_982, xs_219_983, xs_219_984, xs_219_985, xs_219_986, xs_219_987, o2, wv, a01, a11, b11, rf_some, xw_nil, xw_int, xw_ref, xw_long, true_and, and_true, Nat.zero_le, Nat.reduceAdd, Nat.reduceLeDiff, ↓reduceIte, eq_self]
  refine xe_C_mono q (fun w h2 z => ?_)
  obtain ⟨⟨x, e1, e2⟩, z⟩ := z
  rw [← hv, e1, e2]
  simp only [tl_some, xs_219_990, eq_self, ↓reduceIte]
  exact K h2 z
theorem lc_26 (HI : Inv L xs s ce h) (hi : i + 5 ≤ L) (hL : L ≤ 2560) (K : ∀ h', (∃ s ce, Inv L xs s ce h') → xe_P (d + 40) 219 1216 [.ref xe_S, .ref 0, .ref 48, .int (nI i)] [] h' Q) : xe_P (d + 40) 219 995 [.ref xe_S, .ref 0, .ref 48, .int (nI i)] [] h Q := by
  have R := rd_Inv HI
  have o1 := sT_0 HI.1
  have a0 : xe_ia h xe_S := rd_ia R
  have a1 : xe_ix h xe_S (nI i + 1) := rd_ix R (k := 1) (by omega) hL
  have b1 : xe_I h xe_S (nI i + 1).toNatClampNeg = xs (i + 1) := rd_I R (k := 1) (by omega) hL
  simp only [xs_219_995, xs_219_996, xs_219_997, xs_219_998, xs_219_999, xs_219_1000, xs_219_1001, o1, a0, a1, b1, rf_some, xw_nil, xw_int, xw_ref, xw_long, true_and, and_true, Nat.zero_le, Nat.reduceAdd, Nat.reduceLeDiff, ↓reduceIte, eq_self]
  refine xe_C_mono (xe_C_kp R.1 (ok_keep HI (xs (i + 1)) d)) (fun v h1 qk => ?_)
  obtain ⟨q, kk⟩ := qk
  have R1 := rd_kp R kk
  have o2 := ob_kp kk (sT_48 HI.1)
  have a01 : xe_ia h1 xe_S := rd_ia R1
  have a11 : xe_ix h1 xe_S (nI i + 1) := rd_ix R1 (k := 1) (by omega) hL
  have b11 : xe_I h1 xe_S (nI i + 1).toNatClampNeg = xs (i + 1) := rd_I R1 (k := 1) (by omega) hL
  have wv := tl_w v
  generalize hv : v.toList ++ [] = vs at wv ⊢
  simp only [xs_219_1004, xs_219_1005, xs_219_1006, xs_219_1007, xs_219_1008, xs_219_1009, xs_219_1010, o2, wv, a01, a11, b11, rf_some, xw_nil, xw_int, xw_ref, xw_long, true_and, and_true, Nat.zero_le, Nat.reduceAdd, Nat.reduceLeDiff, ↓reduceIte, eq_self]
  refine xe_C_mono q (fun w h2 z => ?_)
  obtain ⟨⟨x, e1, e2⟩, z⟩ := z
  rw [← hv, e1, e2]
  simp only [tl_some, xs_219_1013, eq_self, ↓reduceIte]
  exact K h2 z
theorem lc_27 (HI : Inv L xs s ce h) (hi : i + 5 ≤ L) (hL : L ≤ 2560) (K : ∀ h', (∃ s ce, Inv L xs s ce h') → xe_P (d + 40) 219 1216 [.ref xe_S, .ref 0, .ref 48, .int (nI i)] [] h' Q) : xe_P (d + 40) 219 1018 [.ref xe_S, .ref 0, .ref 48, .int (nI i)] [] h Q := by
  have R := rd_Inv HI
  have o1 := sT_0 HI.1
  have a0 : xe_ia h xe_S := rd_ia R
  have a1 : xe_ix h xe_S (nI i + 1) := rd_ix R (k := 1) (by omega) hL
  have b1 : xe_I h xe_S (nI i + 1).toNatClampNeg = xs (i + 1) := rd_I R (k := 1) (by omega) hL
  simp only [xs_219_1018, xs_219_1019, xs_219_1020, xs_219_1021, xs_219_1022, xs_219_1023, xs_219_1024, o1, a0, a1, b1, rf_some, xw_nil, xw_int, xw_ref, xw_long, true_and, and_true, Nat.zero_le, Nat.reduceAdd, Nat.reduceLeDiff, ↓reduceIte, eq_self]
  refine xe_C_mono (xe_C_kp R.1 (ok_back HI (xs (i + 1)) d)) (fun v h1 qk => ?_)
  obtain ⟨q, kk⟩ := qk
  have R1 := rd_kp R kk
  have o2 := ob_kp kk (sT_48 HI.1)
  have a01 : xe_ia h1 xe_S := rd_ia R1
  have a11 : xe_ix h1 xe_S (nI i + 1) := rd_ix R1 (k := 1) (by omega) hL
  have b11 : xe_I h1 xe_S (nI i + 1).toNatClampNeg = xs (i + 1) := rd_I R1 (k := 1) (by omega) hL
  have wv := tl_w v
  generalize hv : v.toList ++ [] = vs at wv ⊢
  simp only [xs_219_1027, xs_219_1028, xs_219_1029, xs_219_1030, xs_219_1031, xs_219_1032, xs_219_1033, o2, wv, a01, a11, b11, rf_some, xw_nil, xw_int, xw_ref, xw_long, true_and, and_true, Nat.zero_le, Nat.reduceAdd, Nat.reduceLeDiff, ↓reduceIte, eq_self]
  refine xe_C_mono q (fun w h2 z => ?_)
  obtain ⟨⟨x, e1, e2⟩, z⟩ := z
  rw [← hv, e1, e2]
  simp only [tl_some, xs_219_1036, eq_self, ↓reduceIte]
  exact K h2 z
theorem lc_28 (HI : Inv L xs s ce h) (hi : i + 5 ≤ L) (hL : L ≤ 2560) (K : ∀ h', (∃ s ce, Inv L xs s ce h') → xe_P (d + 40) 219 1216 [.ref xe_S, .ref 0, .ref 48, .int (nI i)] [] h' Q) : xe_P (d + 40) 219 1041 [.ref xe_S, .ref 0, .ref 48, .int (nI i)] [] h Q := by
  have R := rd_Inv HI
  have o1 := sT_0 HI.1
  have a0 : xe_ia h xe_S := rd_ia R
  have a1 : xe_ix h xe_S (nI i + 1) := rd_ix R (k := 1) (by omega) hL
  have b1 : xe_I h xe_S (nI i + 1).toNatClampNeg = xs (i + 1) := rd_I R (k := 1) (by omega) hL
  have a2 : xe_ix h xe_S (nI i + 2) := rd_ix R (k := 2) (by omega) hL
  have b2 : xe_I h xe_S (nI i + 2).toNatClampNeg = xs (i + 2) := rd_I R (k := 2) (by omega) hL
  have a3 : xe_ix h xe_S (nI i + 3) := rd_ix R (k := 3) (by omega) hL
  have b3 : xe_I h xe_S (nI i + 3).toNatClampNeg = xs (i + 3) := rd_I R (k := 3) (by omega) hL
  simp only [xs_219_1041, xs_219_1042, xs_219_1043, xs_219_1044, xs_219_1045, xs_219_1046, xs_219_1047, xs_219_1048, xs_219_1049, xs_219_1050, xs_219_1051, xs_219_1052, xs_219_1053, xs_219_1054, xs_219_1055, xs_219_1056, xs_219_1057, o1, a0, a1, b1, a2, b2, a3, b3, rf_some, xw_nil, xw_int, xw_ref, xw_long, true_and, and_true, Nat.zero_le, Nat.reduceAdd, Nat.reduceLeDiff, ↓reduceIte, eq_self]
  refine xe_C_mono (xe_C_kp R.1 (ok_sheet HI (xs (i + 1)) (xs (i + 2)) (xs (i + 3)) d)) (fun v h1 qk => ?_)
  obtain ⟨q, kk⟩ := qk
  have R1 := rd_kp R kk
  have o2 := ob_kp kk (sT_48 HI.1)
  have a01 : xe_ia h1 xe_S := rd_ia R1
  have a11 : xe_ix h1 xe_S (nI i + 1) := rd_ix R1 (k := 1) (by omega) hL
  have b11 : xe_I h1 xe_S (nI i + 1).toNatClampNeg = xs (i + 1) := rd_I R1 (k := 1) (by omega) hL
  have a21 : xe_ix h1 xe_S (nI i + 2) := rd_ix R1 (k := 2) (by omega) hL
  have b21 : xe_I h1 xe_S (nI i + 2).toNatClampNeg = xs (i + 2) := rd_I R1 (k := 2) (by omega) hL
  have a31 : xe_ix h1 xe_S (nI i + 3) := rd_ix R1 (k := 3) (by omega) hL
  have b31 : xe_I h1 xe_S (nI i + 3).toNatClampNeg = xs (i + 3) := rd_I R1 (k := 3) (by omega) hL
  have wv := tl_w v
  generalize hv : v.toList ++ [] = vs at wv ⊢
  simp only [xs_219_1060, xs_219_1061, xs_219_1062, xs_219_1063, xs_219_1064, xs_219_1065, xs_219_1066, xs_219_1067, xs_219_1068, xs_219_1069, xs_219_1070, xs_219_1071, xs_219_1072, xs_219_1073, xs_219_1074, xs_219_1075, xs_219_1076, o2, wv, a01, a11, b11, a21, b21, a31, b31, rf_some, xw_nil, xw_int, xw_ref, xw_long, true_and, and_true, Nat.zero_le, Nat.reduceAdd, Nat.reduceLeDiff, ↓reduceIte, eq_self]
  refine xe_C_mono q (fun w h2 z => ?_)
  obtain ⟨⟨x, e1, e2⟩, z⟩ := z
  rw [← hv, e1, e2]
  simp only [tl_some, xs_219_1079, eq_self, ↓reduceIte]
  exact K h2 z
theorem lc_29 (HI : Inv L xs s ce h) (hi : i + 5 ≤ L) (hL : L ≤ 2560) (K : ∀ h', (∃ s ce, Inv L xs s ce h') → xe_P (d + 40) 219 1216 [.ref xe_S, .ref 0, .ref 48, .int (nI i)] [] h' Q) : xe_P (d + 40) 219 1084 [.ref xe_S, .ref 0, .ref 48, .int (nI i)] [] h Q := by
  have R := rd_Inv HI
  have o1 := sT_0 HI.1
  have a0 : xe_ia h xe_S := rd_ia R
  have a1 : xe_ix h xe_S (nI i + 1) := rd_ix R (k := 1) (by omega) hL
  have b1 : xe_I h xe_S (nI i + 1).toNatClampNeg = xs (i + 1) := rd_I R (k := 1) (by omega) hL
  have a2 : xe_ix h xe_S (nI i + 2) := rd_ix R (k := 2) (by omega) hL
  have b2 : xe_I h xe_S (nI i + 2).toNatClampNeg = xs (i + 2) := rd_I R (k := 2) (by omega) hL
  have a3 : xe_ix h xe_S (nI i + 3) := rd_ix R (k := 3) (by omega) hL
  have b3 : xe_I h xe_S (nI i + 3).toNatClampNeg = xs (i + 3) := rd_I R (k := 3) (by omega) hL
  simp only [xs_219_1084, xs_219_1085, xs_219_1086, xs_219_1087, xs_219_1088, xs_219_1089, xs_219_1090, xs_219_1091, xs_219_1092, xs_219_1093, xs_219_1094, xs_219_1095, xs_219_1096, xs_219_1097, xs_219_1098, xs_219_1099, xs_219_1100, o1, a0, a1, b1, a2, b2, a3, b3, rf_some, xw_nil, xw_int, xw_ref, xw_long, true_and, and_true, Nat.zero_le, Nat.reduceAdd, Nat.reduceLeDiff, ↓reduceIte, eq_self]
  refine xe_C_mono (xe_C_kp R.1 (ok_lay HI (xs (i + 1)) (xs (i + 2)) (xs (i + 3)) d)) (fun v h1 qk => ?_)
  obtain ⟨q, kk⟩ := qk
  have R1 := rd_kp R kk
  have o2 := ob_kp kk (sT_48 HI.1)
  have a01 : xe_ia h1 xe_S := rd_ia R1
  have a11 : xe_ix h1 xe_S (nI i + 1) := rd_ix R1 (k := 1) (by omega) hL
  have b11 : xe_I h1 xe_S (nI i + 1).toNatClampNeg = xs (i + 1) := rd_I R1 (k := 1) (by omega) hL
  have a21 : xe_ix h1 xe_S (nI i + 2) := rd_ix R1 (k := 2) (by omega) hL
  have b21 : xe_I h1 xe_S (nI i + 2).toNatClampNeg = xs (i + 2) := rd_I R1 (k := 2) (by omega) hL
  have a31 : xe_ix h1 xe_S (nI i + 3) := rd_ix R1 (k := 3) (by omega) hL
  have b31 : xe_I h1 xe_S (nI i + 3).toNatClampNeg = xs (i + 3) := rd_I R1 (k := 3) (by omega) hL
  have wv := tl_w v
  generalize hv : v.toList ++ [] = vs at wv ⊢
  simp only [xs_219_1103, xs_219_1104, xs_219_1105, xs_219_1106, xs_219_1107, xs_219_1108, xs_219_1109, xs_219_1110, xs_219_1111, xs_219_1112, xs_219_1113, xs_219_1114, xs_219_1115, xs_219_1116, xs_219_1117, xs_219_1118, xs_219_1119, o2, wv, a01, a11, b11, a21, b21, a31, b31, rf_some, xw_nil, xw_int, xw_ref, xw_long, true_and, and_true, Nat.zero_le, Nat.reduceAdd, Nat.reduceLeDiff, ↓reduceIte, eq_self]
  refine xe_C_mono q (fun w h2 z => ?_)
  obtain ⟨⟨x, e1, e2⟩, z⟩ := z
  rw [← hv, e1, e2]
  simp only [tl_some, xs_219_1122, eq_self, ↓reduceIte]
  exact K h2 z
theorem lc_30 (HI : Inv L xs s ce h) (hi : i + 5 ≤ L) (hL : L ≤ 2560) (K : ∀ h', (∃ s ce, Inv L xs s ce h') → xe_P (d + 40) 219 1216 [.ref xe_S, .ref 0, .ref 48, .int (nI i)] [] h' Q) : xe_P (d + 40) 219 1127 [.ref xe_S, .ref 0, .ref 48, .int (nI i)] [] h Q := by
  have R := rd_Inv HI
  have o1 := sT_0 HI.1
  have a0 : xe_ia h xe_S := rd_ia R
  have a1 : xe_ix h xe_S (nI i + 1) := rd_ix R (k := 1) (by omega) hL
  have b1 : xe_I h xe_S (nI i + 1).toNatClampNeg = xs (i + 1) := rd_I R (k := 1) (by omega) hL
  have a2 : xe_ix h xe_S (nI i + 2) := rd_ix R (k := 2) (by omega) hL
  have b2 : xe_I h xe_S (nI i + 2).toNatClampNeg = xs (i + 2) := rd_I R (k := 2) (by omega) hL
  have a3 : xe_ix h xe_S (nI i + 3) := rd_ix R (k := 3) (by omega) hL
  have b3 : xe_I h xe_S (nI i + 3).toNatClampNeg = xs (i + 3) := rd_I R (k := 3) (by omega) hL
  have a4 : xe_ix h xe_S (nI i + 4) := rd_ix R (k := 4) (by omega) hL
  have b4 : xe_I h xe_S (nI i + 4).toNatClampNeg = xs (i + 4) := rd_I R (k := 4) (by omega) hL
  simp only [xs_219_1127, xs_219_1128, xs_219_1129, xs_219_1130, xs_219_1131, xs_219_1132, xs_219_1133, xs_219_1134, xs_219_1135, xs_219_1136, xs_219_1137, xs_219_1138, xs_219_1139, xs_219_1140, xs_219_1141, xs_219_1142, xs_219_1143, xs_219_1144, xs_219_1145, xs_219_1146, xs_219_1147, xs_219_1148, o1, a0, a1, b1, a2, b2, a3, b3, a4, b4, rf_some, xw_nil, xw_int, xw_ref, xw_long, true_and, and_true, Nat.zero_le, Nat.reduceAdd, Nat.reduceLeDiff, ↓reduceIte, eq_self]
  refine xe_C_mono (xe_C_kp R.1 (ok_read HI (xs (i + 1)) (xs (i + 2)) (xs (i + 3)) (xs (i + 4)) d)) (fun v h1 qk => ?_)
  obtain ⟨q, kk⟩ := qk
  have R1 := rd_kp R kk
  have o2 := ob_kp kk (sT_48 HI.1)
  have a01 : xe_ia h1 xe_S := rd_ia R1
  have a11 : xe_ix h1 xe_S (nI i + 1) := rd_ix R1 (k := 1) (by omega) hL
  have b11 : xe_I h1 xe_S (nI i + 1).toNatClampNeg = xs (i + 1) := rd_I R1 (k := 1) (by omega) hL
  have a21 : xe_ix h1 xe_S (nI i + 2) := rd_ix R1 (k := 2) (by omega) hL
  have b21 : xe_I h1 xe_S (nI i + 2).toNatClampNeg = xs (i + 2) := rd_I R1 (k := 2) (by omega) hL
  have a31 : xe_ix h1 xe_S (nI i + 3) := rd_ix R1 (k := 3) (by omega) hL
  have b31 : xe_I h1 xe_S (nI i + 3).toNatClampNeg = xs (i + 3) := rd_I R1 (k := 3) (by omega) hL
  have a41 : xe_ix h1 xe_S (nI i + 4) := rd_ix R1 (k := 4) (by omega) hL
  have b41 : xe_I h1 xe_S (nI i + 4).toNatClampNeg = xs (i + 4) := rd_I R1 (k := 4) (by omega) hL
  have wv := tl_w v
  generalize hv : v.toList ++ [] = vs at wv ⊢
  simp only [xs_219_1151, xs_219_1152, xs_219_1153, xs_219_1154, xs_219_1155, xs_219_1156, xs_219_1157, xs_219_1158, xs_219_1159, xs_219_1160, xs_219_1161, xs_219_1162, xs_219_1163, xs_219_1164, xs_219_1165, xs_219_1166, xs_219_1167, xs_219_1168, xs_219_1169, xs_219_1170, xs_219_1171, xs_219_1172, o2, wv, a01, a11, b11, a21, b21, a31, b31, a41, b41, rf_some, xw_nil, xw_int, xw_ref, xw_long, true_and, and_true, Nat.zero_le, Nat.reduceAdd, Nat.reduceLeDiff, ↓reduceIte, eq_self]
  refine xe_C_mono q (fun w h2 z => ?_)
  obtain ⟨⟨x, e1, e2⟩, z⟩ := z
  rw [← hv, e1, e2]
  simp only [tl_some, xs_219_1175, eq_self, ↓reduceIte]
  exact K h2 z
theorem lc_31 (HI : Inv L xs s ce h) (hi : i + 5 ≤ L) (hL : L ≤ 2560) (K : ∀ h', (∃ s ce, Inv L xs s ce h') → xe_P (d + 40) 219 1216 [.ref xe_S, .ref 0, .ref 48, .int (nI i)] [] h' Q) : xe_P (d + 40) 219 1180 [.ref xe_S, .ref 0, .ref 48, .int (nI i)] [] h Q := by
  have R := rd_Inv HI
  have o1 := sT_0 HI.1
  simp only [xs_219_1180, xs_219_1181, o1, rf_some, xw_nil, xw_int, xw_ref, xw_long, true_and, and_true, Nat.zero_le, Nat.reduceAdd, Nat.reduceLeDiff, ↓reduceIte, eq_self]
  refine xe_C_mono (xe_C_kp R.1 (ok_torn HI d)) (fun v h1 qk => ?_)
  obtain ⟨q, kk⟩ := qk
  have R1 := rd_kp R kk
  have o2 := ob_kp kk (sT_48 HI.1)
  have wv := tl_w v
  generalize hv : v.toList ++ [] = vs at wv ⊢
  simp only [xs_219_1184, xs_219_1185, o2, wv, rf_some, xw_nil, xw_int, xw_ref, xw_long, true_and, and_true, Nat.zero_le, Nat.reduceAdd, Nat.reduceLeDiff, ↓reduceIte, eq_self]
  refine xe_C_mono q (fun w h2 z => ?_)
  obtain ⟨⟨x, e1, e2⟩, z⟩ := z
  rw [← hv, e1, e2]
  simp only [tl_some, xs_219_1188, eq_self, ↓reduceIte]
  exact K h2 z
theorem lc_32 (HI : Inv L xs s ce h) (hi : i + 5 ≤ L) (hL : L ≤ 2560) (K : ∀ h', (∃ s ce, Inv L xs s ce h') → xe_P (d + 40) 219 1216 [.ref xe_S, .ref 0, .ref 48, .int (nI i)] [] h' Q) : xe_P (d + 40) 219 1193 [.ref xe_S, .ref 0, .ref 48, .int (nI i)] [] h Q := by
  have R := rd_Inv HI
  have o1 := sT_0 HI.1
  have a0 : xe_ia h xe_S := rd_ia R
  have a1 : xe_ix h xe_S (nI i + 1) := rd_ix R (k := 1) (by omega) hL
  have b1 : xe_I h xe_S (nI i + 1).toNatClampNeg = xs (i + 1) := rd_I R (k := 1) (by omega) hL
  simp only [xs_219_1193, xs_219_1194, xs_219_1195, xs_219_1196, xs_219_1197, xs_219_1198, xs_219_1199, o1, a0, a1, b1, rf_some, xw_nil, xw_int, xw_ref, xw_long, true_and, and_true, Nat.zero_le, Nat.reduceAdd, Nat.reduceLeDiff, ↓reduceIte, eq_self]
  refine xe_C_mono (xe_C_kp R.1 (ok_count HI (xs (i + 1)) d)) (fun v h1 qk => ?_)
  obtain ⟨q, kk⟩ := qk
  have R1 := rd_kp R kk
  have o2 := ob_kp kk (sT_48 HI.1)
  have a01 : xe_ia h1 xe_S := rd_ia R1
  have a11 : xe_ix h1 xe_S (nI i + 1) := rd_ix R1 (k := 1) (by omega) hL
  have b11 : xe_I h1 xe_S (nI i + 1).toNatClampNeg = xs (i + 1) := rd_I R1 (k := 1) (by omega) hL
  have wv := tl_w v
  generalize hv : v.toList ++ [] = vs at wv ⊢
  simp only [xs_219_1202, xs_219_1203, xs_219_1204, xs_219_1205, xs_219_1206, xs_219_1207, xs_219_1208, o2, wv, a01, a11, b11, rf_some, xw_nil, xw_int, xw_ref, xw_long, true_and, and_true, Nat.zero_le, Nat.reduceAdd, Nat.reduceLeDiff, ↓reduceIte, eq_self]
  refine xe_C_mono q (fun w h2 z => ?_)
  obtain ⟨⟨x, e1, e2⟩, z⟩ := z
  rw [← hv, e1, e2]
  simp only [tl_some, xs_219_1211, eq_self, ↓reduceIte]
  exact K h2 z
end LC
