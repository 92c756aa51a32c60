/-! ways: how the class packs a state -/
theorem and_blk4 (n s : Nat) : n &&& 3 * 2 ^ s = (n / 2 ^ s % 4) * 2 ^ s := by
  apply Nat.eq_of_testBit_eq
  intro i
  rw [Nat.testBit_and, Nat.testBit_mul_two_pow, Nat.testBit_mul_two_pow, show (4 : Nat) = 2 ^ 2 from rfl, Nat.testBit_mod_two_pow, Nat.testBit_div_two_pow]
  by_cases h : s ≤ i
  · have h7 : Nat.testBit 3 (i - s) = decide (i - s < 2) := by
      rw [show (3 : Nat) = 2 ^ 2 - 1 from rfl, Nat.testBit_two_pow_sub_one]
    rw [h7]
    simp [h, Bool.and_comm]
  · simp [h]
theorem or_add {a k : Nat} (b : Nat) (h : a < 2 ^ k) : a ||| b * 2 ^ k = a + b * 2 ^ k := by
  rw [Nat.or_comm, Nat.mul_comm, ← Nat.two_pow_add_eq_or_of_lt h, Nat.add_comm]
theorem rp_4 {f : Nat → Nat} (h : ∀ b, b < 6 → f b ≤ 3) : rp_ok f := fun b hb => Nat.lt_of_le_of_lt (h b hb) (by decide)
theorem sq_n {f : Nat → Nat} (hf : ∀ b, b < 6 → f b ≤ 3) : (((((rp f &&& 3 ||| rp f / 2 &&& 12) ||| rp f / 4 &&& 48) ||| rp f / 8 &&& 192) ||| rp f / 16 &&& 768) ||| rp f / 32 &&& 3072) = rc f := by
  have h0 := hf 0 (by omega); have h1 := hf 1 (by omega); have h2 := hf 2 (by omega); have h3 := hf 3 (by omega); have h4 := hf 4 (by omega); have h5 := hf 5 (by omega)
  have e0 : rp f &&& 3 = f 0 := by rw [show (3 : Nat) = 3 * 2 ^ 0 from rfl, and_blk4]; unfold rp; omega
  have e1 : rp f / 2 &&& 12 = f 1 * 2 ^ 2 := by rw [show (12 : Nat) = 3 * 2 ^ 2 from rfl, and_blk4]; unfold rp; omega
  have e2 : rp f / 4 &&& 48 = f 2 * 2 ^ 4 := by rw [show (48 : Nat) = 3 * 2 ^ 4 from rfl, and_blk4]; unfold rp; omega
  have e3 : rp f / 8 &&& 192 = f 3 * 2 ^ 6 := by rw [show (192 : Nat) = 3 * 2 ^ 6 from rfl, and_blk4]; unfold rp; omega
  have e4 : rp f / 16 &&& 768 = f 4 * 2 ^ 8 := by rw [show (768 : Nat) = 3 * 2 ^ 8 from rfl, and_blk4]; unfold rp; omega
  have e5 : rp f / 32 &&& 3072 = f 5 * 2 ^ 10 := by rw [show (3072 : Nat) = 3 * 2 ^ 10 from rfl, and_blk4]; unfold rp; omega
  rw [e0, e1, e2, e3, e4, e5, or_add _ (show f 0 < 2 ^ 2 by omega), or_add _ (show f 0 + f 1 * 2 ^ 2 < 2 ^ 4 by omega), or_add _ (show f 0 + f 1 * 2 ^ 2 + f 2 * 2 ^ 4 < 2 ^ 6 by omega), or_add _ (show f 0 + f 1 * 2 ^ 2 + f 2 * 2 ^ 4 + f 3 * 2 ^ 6 < 2 ^ 8 by omega), or_add _ (show f 0 + f 1 * 2 ^ 2 + f 2 * 2 ^ 4 + f 3 * 2 ^ 6 + f 4 * 2 ^ 8 < 2 ^ 10 by omega)]
  unfold rc
  omega
theorem lN_low (n : Nat) : (lN n).toInt32 = nI n := by
  apply Int32.toBitVec_inj.mp
  show (BitVec.ofNat 64 n).signExtend 32 = BitVec.ofNat 32 n
  rw [BitVec.signExtend_eq_setWidth_of_le _ (by decide)]
  apply BitVec.eq_of_toNat_eq
  rw [BitVec.toNat_setWidth, BitVec.toNat_ofNat, BitVec.toNat_ofNat]
  omega
theorem lN_wide {n : Nat} (h : n < 2 ^ 31) : (nI n).toInt64 = lN n := by
  apply Int64.toInt_inj.mp
  rw [Int32.toInt_toInt64, nI_toInt h, pf_lI (by omega)]
section WE
variable {d : Nat} {h : xe_H} {Q : Option Value → xe_H → Prop}
theorem cl_squeezed {f : Nat → Nat} (hf : ∀ b, b < 6 → f b ≤ 3) : xe_C (d + 1) 79 [.int (nI (rp f))] h Q = Q (some (.int (nI (rc f)))) h := by
  have hl := rp_lt (rp_4 hf)
  have e1 : nI (rp f) >>> ((1 : Int32) &&& 31) = nI (rp f / 2) := pk_shrN (by omega) _ 1 (by decide)
  have e2 : nI (rp f) >>> ((2 : Int32) &&& 31) = nI (rp f / 4) := pk_shrN (by omega) _ 2 (by decide)
  have e3 : nI (rp f) >>> ((3 : Int32) &&& 31) = nI (rp f / 8) := pk_shrN (by omega) _ 3 (by decide)
  have e4 : nI (rp f) >>> ((4 : Int32) &&& 31) = nI (rp f / 16) := pk_shrN (by omega) _ 4 (by decide)
  have e5 : nI (rp f) >>> ((5 : Int32) &&& 31) = nI (rp f / 32) := pk_shrN (by omega) _ 5 (by decide)
  simp only [xs_79, xs_79_0, xs_79_1, xs_79_2, xs_79_3, xs_79_4, xs_79_5, xs_79_6, xs_79_8, xs_79_9, xs_79_10, xs_79_11, xs_79_12, xs_79_13, xs_79_15, xs_79_16, xs_79_17, xs_79_18, xs_79_19, xs_79_20, xs_79_23, xs_79_24, xs_79_25, xs_79_26, xs_79_27, xs_79_28, xs_79_31, xs_79_32, xs_79_33, xs_79_34, xs_79_35, xs_79_36, xs_79_39, xs_79_40, xs_79_41, e1, e2, e3, e4, e5]
  rw [show (3 : Int32) = nI 3 from rfl, show (12 : Int32) = nI 12 from rfl, show (48 : Int32) = nI 48 from rfl, show (192 : Int32) = nI 192 from rfl, show (768 : Int32) = nI 768 from rfl, show (3072 : Int32) = nI 3072 from rfl, fa_and, fa_and, fa_and, fa_and, fa_and, fa_and, fa_or, fa_or, fa_or, fa_or, fa_or, sq_n hf]
theorem cl_placeIn {n s : Nat} (hn : n < 2 ^ 62) (hs : s < 63) : xe_C (d + 1) 80 [.long (lN n), .int (nI s)] h Q = Q (some (.int (nI (n / 2 ^ s % 8)))) h := by
  have e1 : lN n >>> ((nI s).toInt64 &&& 63) = lN (n / 2 ^ s) := by
    refine pf_shr ?_ hn
    rw [wb_c s (by omega), wb_tb, wb_sm s (by omega), BitVec.toNat_ofNat]
    omega
  simp only [xs_80, xs_80_0, xs_80_1, xs_80_2, xs_80_3, xs_80_4, xs_80_6, xs_80_7, e1, lN_low]
  rw [show (7 : Int32) = nI (2 ^ 3 - 1) from rfl, fa_mask]
end WE
/-- early and late place, the key, the entry -/
def we (t : Bool) (w : Nat) : Nat := if t then w / 5 else w
def wl (t : Bool) (w : Nat) : Nat := if t then w % 5 else 0
def kx (t : Bool) (X : Nat) : Nat := 4096 * (we t (X / 4096) + 5 * wl t (X / 4096)) + X % 4096
def bnd (t : Bool) : Nat := if t then 102400 else 20480
theorem we_5 {t : Bool} {X : Nat} (h : X < bnd t) : we t (X / 4096) < 5 ∧ wl t (X / 4096) < 5 := by
  unfold bnd at h
  unfold we wl
  cases t
  · simp only [Bool.false_eq_true, if_false] at h ⊢; omega
  · simp only [if_true] at h ⊢; omega
theorem kx_b {t : Bool} {X : Nat} (h : X < bnd t) : kx t X < bnd t := by
  unfold bnd at h ⊢
  unfold kx we wl
  cases t
  · simp only [Bool.false_eq_true, if_false] at h ⊢; omega
  · simp only [if_true] at h ⊢; omega
theorem kx_inj {t : Bool} {X Y : Nat} (h1 : X < bnd t) (h2 : Y < bnd t) (e : kx t X = kx t Y) : X = Y := by
  unfold bnd at h1 h2
  unfold kx we wl at e
  cases t
  · simp only [Bool.false_eq_true, if_false] at h1 h2 e; omega
  · simp only [if_true] at h1 h2 e; omega
def ent (t : Bool) (X m f : Nat) : Nat := rp (fd X) + we t (X / 4096) * 2 ^ 18 + wl t (X / 4096) * 2 ^ 21 + m * 2 ^ 24 + f * 2 ^ 30
theorem ent_all {t : Bool} {X m f : Nat} (h : X < bnd t) (hm : m < 64) (hf : f < 102400) : ent t X m f < 2 ^ 62 ∧ ent t X m f % 2 ^ 18 = rp (fd X) ∧ ent t X m f / 2 ^ 18 % 8 = we t (X / 4096) ∧ ent t X m f / 2 ^ 21 % 8 = wl t (X / 4096) ∧ ent t X m f / 2 ^ 24 % 64 = m ∧ ent t X m f / 2 ^ 30 = f := by
  obtain ⟨h1, h2⟩ := we_5 h
  have h3 := rp_lt (fd_rp X)
  unfold ent
  omega
/-- an entry as it is put together -/
theorem ent_or {r e l m f : Nat} (hr : r < 2 ^ 18) (he : e < 8) (hl : l < 8) (hm : m < 64) (hf : f < 2 ^ 31) : ((((nI r).toInt64 ||| (nI e).toInt64 <<< ((18 : Int32).toInt64 &&& 63)) ||| (nI l).toInt64 <<< ((21 : Int32).toInt64 &&& 63)) ||| (nI m).toInt64 <<< ((24 : Int32).toInt64 &&& 63)) ||| (nI f).toInt64 <<< ((30 : Int32).toInt64 &&& 63) = lN (r + e * 2 ^ 18 + l * 2 ^ 21 + m * 2 ^ 24 + f * 2 ^ 30) := by
  rw [lN_wide (by omega), lN_wide (by omega), lN_wide (by omega), lN_wide (by omega), lN_wide (by omega), show (18 : Int32) = nI 18 from rfl, show (21 : Int32) = nI 21 from rfl, show (24 : Int32) = nI 24 from rfl, show (30 : Int32) = nI 30 from rfl, wb_shl e (by omega), wb_shl l (by omega), wb_shl m (by omega), wb_shl f (by omega), g_or' (k := 18) rfl (by omega) (by omega), g_or' (k := 21) rfl (by omega) (by omega), g_or' (k := 24) rfl (by omega) (by omega), g_or' (k := 30) rfl (by omega) (by omega)]
/-- one bit of the known -/
theorem bitK {w : Int64} {k : Nat} (hk : k < 64) : ((w &&& (1 : Int64) <<< ((nI k).toInt64 &&& 63)) = 0) = (w.toBitVec.getLsbD k = false) := by
  have e : ((1 : Int64) <<< ((nI k).toInt64 &&& 63)).toBitVec = BitVec.twoPow 64 k := by
    rw [show (1 : Int64) = lN 1 from rfl, wb_shl 1 hk, wb_tb, Nat.one_mul]
    apply BitVec.eq_of_toNat_eq
    rw [BitVec.toNat_ofNat, BitVec.toNat_twoPow]
  apply propext
  rw [← Int64.toBitVec_inj, Int64.toBitVec_and, e, BitVec.and_twoPow]
  cases hb : w.toBitVec.getLsbD k
  · simp
  · simp only [if_true]
    refine ⟨fun z => ?_, fun z => by cases z⟩
    exfalso
    have := congrArg (fun x => BitVec.getLsbD x k) z
    simp [BitVec.getLsbD_twoPow, hk] at this
theorem bitO {w : Int64} {k j : Nat} (hk : k < 64) (hj : j < 64) : (w ||| (1 : Int64) <<< ((nI k).toInt64 &&& 63)).toBitVec.getLsbD j = (w.toBitVec.getLsbD j || decide (j = k)) := by
  have e : ((1 : Int64) <<< ((nI k).toInt64 &&& 63)).toBitVec = BitVec.twoPow 64 k := by
    rw [show (1 : Int64) = lN 1 from rfl, wb_shl 1 hk, wb_tb, Nat.one_mul]
    apply BitVec.eq_of_toNat_eq
    rw [BitVec.toNat_ofNat, BitVec.toNat_twoPow]
  rw [Int64.toBitVec_or, e, BitVec.getLsbD_or, BitVec.getLsbD_twoPow]
  by_cases q : j = k
  · subst q; simp [hj]
  · have q' : ¬ k = j := fun z => q z.symm
    simp [q, q']
