section XSX7f
variable {d : Nat} {l0 l1 l2 l3 l4 l5 l6 l7 l8 l9 l10 l11 v0 v1 v2 v3 v4 v5 : Value} {x v n x0 x1 x2 x3 x4 x5 : Int32} {w u w0 w1 w2 w3 : Int64} {a b a0 a1 a2 : Nat} {ls st : List Value} {h : xe_H} {Q : Option Value → xe_H → Prop}
theorem xs_195_0 : xe_P d 195 0 ls st h Q = xe_P d 195 1 ls (.int 0 :: st) h Q := xe_P_ar (ins := .iconst 0) (len := 1) (by decide +kernel) rfl
theorem xs_195_1 : xe_P d 195 1 [l0, l1, l2, l3] (.int x :: st) h Q = xe_P d 195 2 [l0, l1, xe_cut l2, .int x] st h Q := xe_P_lo (ins := .istore_n 3) (len := 1) (by decide +kernel) rfl rfl
theorem xs_195_2 : xe_P d 195 2 [l0, l1, l2, .int x] st h Q = xe_P d 195 3 [l0, l1, l2, .int x] (.int x :: st) h Q := xe_P_lo (ins := .iload_n 3) (len := 1) (by decide +kernel) rfl rfl
theorem xs_195_3 : xe_P d 195 3 ls st h Q = xe_P d 195 5 ls (.int 35 :: st) h Q := xe_P_ar (ins := .bipush 35) (len := 2) (by decide +kernel) rfl
theorem xs_195_5 : xe_P d 195 5 ls (.int v :: .int x :: st) h Q = (if v ≤ x then xe_P d 195 30 ls st h Q else xe_P d 195 8 ls st h Q) := xe_P_if (ins := .if_icmp .ge 25) (len := 3) (off := 25) (by decide +kernel) (by decide) rfl rfl rfl
theorem xs_195_8 : xe_P d 195 8 [.ref a, l1, l2, l3] st h Q = xe_P d 195 9 [.ref a, l1, l2, l3] (.ref a :: st) h Q := xe_P_lo (ins := .aload_n 0) (len := 1) (by decide +kernel) rfl rfl
theorem xs_195_9 : xe_P d 195 9 ls (.ref a :: st) h Q = (xe_ob h a 7 ∧ xe_P d 195 12 ls (va_rf (xe_R h a 0) :: st) h Q) := xe_P_getR (i := 7) (by decide +kernel) (by decide +kernel) (by decide) rfl
theorem xs_195_12 : xe_P d 195 12 [l0, l1, .int x, l3] st h Q = xe_P d 195 13 [l0, l1, .int x, l3] (.int x :: st) h Q := xe_P_lo (ins := .iload_n 2) (len := 1) (by decide +kernel) rfl rfl
theorem xs_195_13 : xe_P d 195 13 [l0, l1, l2, .int x] st h Q = xe_P d 195 14 [l0, l1, l2, .int x] (.int x :: st) h Q := xe_P_lo (ins := .iload_n 3) (len := 1) (by decide +kernel) rfl rfl
theorem xs_195_14 : xe_P d 195 14 ls (.int v :: .int x :: st) h Q = xe_P d 195 15 ls (.int (x + v) :: st) h Q := xe_P_ar (ins := .iadd) (len := 1) (by decide +kernel) rfl
theorem xs_195_15 : xe_P d 195 15 [.ref a, l1, l2, l3] st h Q = xe_P d 195 16 [.ref a, l1, l2, l3] (.ref a :: st) h Q := xe_P_lo (ins := .aload_n 0) (len := 1) (by decide +kernel) rfl rfl
theorem xs_195_16 : xe_P d 195 16 ls (.ref a :: st) h Q = (xe_ob h a 7 ∧ xe_P d 195 19 ls (va_rf (xe_R h a 0) :: st) h Q) := xe_P_getR (i := 7) (by decide +kernel) (by decide +kernel) (by decide) rfl
theorem xs_195_19 : xe_P d 195 19 [l0, .int x, l2, l3] st h Q = xe_P d 195 20 [l0, .int x, l2, l3] (.int x :: st) h Q := xe_P_lo (ins := .iload_n 1) (len := 1) (by decide +kernel) rfl rfl
theorem xs_195_20 : xe_P d 195 20 [l0, l1, l2, .int x] st h Q = xe_P d 195 21 [l0, l1, l2, .int x] (.int x :: st) h Q := xe_P_lo (ins := .iload_n 3) (len := 1) (by decide +kernel) rfl rfl
theorem xs_195_21 : xe_P d 195 21 ls (.int v :: .int x :: st) h Q = xe_P d 195 22 ls (.int (x + v) :: st) h Q := xe_P_ar (ins := .iadd) (len := 1) (by decide +kernel) rfl
theorem xs_195_22 : xe_P d 195 22 ls (.int v :: .ref a :: st) h Q = ((xe_ia h a ∧ xe_ix h a v) ∧ xe_P d 195 23 ls (.int (xe_I h a v.toNatClampNeg) :: st) h Q) := xe_P_iald (by decide +kernel)
theorem xs_195_23 : xe_P d 195 23 ls (.int x :: .int v :: .ref a :: st) h Q = ((xe_ob h a 8 ∧ xe_ix h a v) ∧ xe_P d 195 24 ls st (xe_sI h a v.toNatClampNeg x) Q) := xe_P_iast (by decide +kernel)
theorem xs_195_24 : xe_P d 195 24 [l0, l1, l2, .int x] st h Q = xe_P d 195 27 [l0, l1, xe_cut l2, .int (x + 1)] st h Q := xe_P_lo (ins := .iinc 3 1) (len := 3) (by decide +kernel) rfl rfl
theorem xs_195_27 : xe_P d 195 27 ls st h Q = xe_P d 195 2 ls st h Q := xe_P_go (len := 3) (off := (-25)) (by decide +kernel) (by decide)
theorem xs_195_30 : xe_P d 195 30 ls [] h Q = Q none h := xe_P_vreturn (by decide +kernel) rfl
theorem xs_195 : xe_C (d + 1) 195 [.ref a, .int x0, .int x1] h Q = xe_P d 195 0 [.ref a, .int x0, .int x1, .retAddr 0] [] h Q := xe_C_at (Nat.le_of_ble_eq_true rfl) rfl
theorem xs_196_0 : xe_P d 196 0 [l0, .int x, l2] st h Q = xe_P d 196 1 [l0, .int x, l2] (.int x :: st) h Q := xe_P_lo (ins := .iload_n 1) (len := 1) (by decide +kernel) rfl rfl
theorem xs_196_1 : xe_P d 196 1 ls (.int x :: st) h Q = xe_P d 196 2 ls (.long x.toInt64 :: st) h Q := xe_P_ar (ins := .i2l) (len := 1) (by decide +kernel) rfl
theorem xs_196_2 : xe_P d 196 2 ls st h Q = xe_P d 196 3 ls (.long 0 :: st) h Q := xe_P_ar (ins := .lconst 0) (len := 1) (by decide +kernel) rfl
theorem xs_196_3 : xe_P d 196 3 ls st h Q = xe_P d 196 4 ls (.long 1 :: st) h Q := xe_P_ar (ins := .lconst 1) (len := 1) (by decide +kernel) rfl
theorem xs_196_4 : xe_P d 196 4 ls (v2 :: v1 :: v0 :: st) h Q = (xe_w st ≤ 8 ∧ xe_C d 120 [v0, v1, v2] h (fun r h' => xe_P d 196 7 ls (r.toList ++ st) h' Q)) := xe_P_ivs (y := 196) (pc := 4) (z := 120) (i := 88) (vs := [v2, v1, v0]) (by decide +kernel) (by decide +kernel) rfl
theorem xs_196_7 : xe_P d 196 7 ls (.int x :: st) h Q = (if x = 0 then xe_P d 196 10 ls st h Q else xe_P d 196 12 ls st h Q) := xe_P_ifn (ins := .ifCond .ne 5) (len := 3) (off := 5) (by decide +kernel) (by decide) rfl rfl rfl
theorem xs_196_10 : xe_P d 196 10 ls st h Q = xe_P d 196 11 ls (.int (-1) :: st) h Q := xe_P_ar (ins := .iconst (-1)) (len := 1) (by decide +kernel) rfl
theorem xs_196_11 : xe_P d 196 11 ls [.int x] h Q = Q (some (.int x)) h := xe_P_ireturn (by decide +kernel) rfl
theorem xs_196_12 : xe_P d 196 12 [.ref a, l1, l2] st h Q = xe_P d 196 13 [.ref a, l1, l2] (.ref a :: st) h Q := xe_P_lo (ins := .aload_n 0) (len := 1) (by decide +kernel) rfl rfl
theorem xs_196_13 : xe_P d 196 13 ls st h Q = xe_P d 196 14 ls (.int 0 :: st) h Q := xe_P_ar (ins := .iconst 0) (len := 1) (by decide +kernel) rfl
theorem xs_196_14 : xe_P d 196 14 ls st h Q = xe_P d 196 16 ls (.int 35 :: st) h Q := xe_P_ar (ins := .bipush 35) (len := 2) (by decide +kernel) rfl
theorem xs_196_16 : xe_P d 196 16 [l0, .int x, l2] st h Q = xe_P d 196 17 [l0, .int x, l2] (.int x :: st) h Q := xe_P_lo (ins := .iload_n 1) (len := 1) (by decide +kernel) rfl rfl
theorem xs_196_17 : xe_P d 196 17 ls st h Q = xe_P d 196 18 ls (.int 1 :: st) h Q := xe_P_ar (ins := .iconst 1) (len := 1) (by decide +kernel) rfl
theorem xs_196_18 : xe_P d 196 18 ls (.int v :: .int x :: st) h Q = xe_P d 196 19 ls (.int (x + v) :: st) h Q := xe_P_ar (ins := .iadd) (len := 1) (by decide +kernel) rfl
theorem xs_196_19 : xe_P d 196 19 ls (.int v :: .int x :: st) h Q = xe_P d 196 20 ls (.int (x * v) :: st) h Q := xe_P_ar (ins := .imul) (len := 1) (by decide +kernel) rfl
theorem xs_196_20 : xe_P d 196 20 ls (v1 :: v0 :: .ref a :: st) h Q = ((xe_w st ≤ 8 ∧ xe_ob h a 7) ∧ xe_C d 195 [.ref a, v0, v1] h (fun r h' => xe_P d 196 23 ls (r.toList ++ st) h' Q)) := xe_P_ivv (y := 196) (pc := 20) (z := 195) (i := 320) (vs := [v1, v0]) (by decide +kernel) (by decide +kernel) rfl (by decide +kernel)
theorem xs_196_23 : xe_P d 196 23 [.ref a, l1, l2] st h Q = xe_P d 196 24 [.ref a, l1, l2] (.ref a :: st) h Q := xe_P_lo (ins := .aload_n 0) (len := 1) (by decide +kernel) rfl rfl
theorem xs_196_24 : xe_P d 196 24 ls (.ref a :: st) h Q = (xe_ob h a 7 ∧ xe_P d 196 27 ls (va_rf (xe_R h a 36) :: st) h Q) := xe_P_getR (i := 72) (by decide +kernel) (by decide +kernel) (by decide) rfl
theorem xs_196_27 : xe_P d 196 27 [l0, .int x, l2] st h Q = xe_P d 196 28 [l0, .int x, l2] (.int x :: st) h Q := xe_P_lo (ins := .iload_n 1) (len := 1) (by decide +kernel) rfl rfl
theorem xs_196_28 : xe_P d 196 28 ls (.int v :: .ref a :: st) h Q = ((xe_ba h a ∧ xe_ix h a v) ∧ xe_P d 196 29 ls (.int (xe_I h a v.toNatClampNeg) :: st) h Q) := xe_P_bald (by decide +kernel)
theorem xs_196_29 : xe_P d 196 29 ls (.int x :: st) h Q = (if x = 0 then xe_P d 196 36 ls st h Q else xe_P d 196 32 ls st h Q) := xe_P_if (ins := .ifCond .eq 7) (len := 3) (off := 7) (by decide +kernel) (by decide) rfl rfl rfl
theorem xs_196_32 : xe_P d 196 32 ls st h Q = xe_P d 196 33 ls (.int 1 :: st) h Q := xe_P_ar (ins := .iconst 1) (len := 1) (by decide +kernel) rfl
theorem xs_196_33 : xe_P d 196 33 ls st h Q = xe_P d 196 37 ls st h Q := xe_P_go (len := 3) (off := 4) (by decide +kernel) (by decide)
theorem xs_196_36 : xe_P d 196 36 ls st h Q = xe_P d 196 37 ls (.int 0 :: st) h Q := xe_P_ar (ins := .iconst 0) (len := 1) (by decide +kernel) rfl
theorem xs_196_37 : xe_P d 196 37 [l0, l1, l2] (.int x :: st) h Q = xe_P d 196 38 [l0, xe_cut l1, .int x] st h Q := xe_P_lo (ins := .istore_n 2) (len := 1) (by decide +kernel) rfl rfl
theorem xs_196_38 : xe_P d 196 38 [.ref a, l1, l2] st h Q = xe_P d 196 39 [.ref a, l1, l2] (.ref a :: st) h Q := xe_P_lo (ins := .aload_n 0) (len := 1) (by decide +kernel) rfl rfl
theorem xs_196_39 : xe_P d 196 39 ls (.ref a :: st) h Q = (xe_ob h a 7 ∧ xe_P d 196 42 ls (va_rf (xe_R h a 36) :: st) h Q) := xe_P_getR (i := 72) (by decide +kernel) (by decide +kernel) (by decide) rfl
theorem xs_196_42 : xe_P d 196 42 [l0, .int x, l2] st h Q = xe_P d 196 43 [l0, .int x, l2] (.int x :: st) h Q := xe_P_lo (ins := .iload_n 1) (len := 1) (by decide +kernel) rfl rfl
theorem xs_196_43 : xe_P d 196 43 ls st h Q = xe_P d 196 44 ls (.int 1 :: st) h Q := xe_P_ar (ins := .iconst 1) (len := 1) (by decide +kernel) rfl
theorem xs_196_44 (hT : xe_T h a = 10) : xe_P d 196 44 ls (.int x :: .int v :: .ref a :: st) h Q = ((xe_ob h a 10 ∧ xe_ix h a v) ∧ xe_P d 196 45 ls st (xe_sI h a v.toNatClampNeg x.toInt8.toInt32) Q) := xe_P_bastB (by decide +kernel) hT
theorem xs_196_44z (hT : xe_T h a = 11) : xe_P d 196 44 ls (.int x :: .int v :: .ref a :: st) h Q = ((xe_ob h a 11 ∧ xe_ix h a v ∧ (x = 0 ∨ x = 1)) ∧ xe_P d 196 45 ls st (xe_sI h a v.toNatClampNeg x) Q) := xe_P_bastZ (by decide +kernel) hT
theorem xs_196_45 : xe_P d 196 45 [l0, l1, .int x] st h Q = xe_P d 196 46 [l0, l1, .int x] (.int x :: st) h Q := xe_P_lo (ins := .iload_n 2) (len := 1) (by decide +kernel) rfl rfl
theorem xs_196_46 : xe_P d 196 46 ls [.int x] h Q = Q (some (.int x)) h := xe_P_ireturn (by decide +kernel) rfl
theorem xs_196 : xe_C (d + 1) 196 [.ref a, .int x0] h Q = xe_P d 196 0 [.ref a, .int x0, .retAddr 0] [] h Q := xe_C_at (Nat.le_of_ble_eq_true rfl) rfl
theorem xs_197_0 : xe_P d 197 0 [l0, .int x] st h Q = xe_P d 197 1 [l0, .int x] (.int x :: st) h Q := xe_P_lo (ins := .iload_n 1) (len := 1) (by decide +kernel) rfl rfl
theorem xs_197_1 : xe_P d 197 1 ls (.int x :: st) h Q = xe_P d 197 2 ls (.long x.toInt64 :: st) h Q := xe_P_ar (ins := .i2l) (len := 1) (by decide +kernel) rfl
theorem xs_197_2 : xe_P d 197 2 ls st h Q = xe_P d 197 3 ls (.long 0 :: st) h Q := xe_P_ar (ins := .lconst 0) (len := 1) (by decide +kernel) rfl
theorem xs_197_3 : xe_P d 197 3 ls st h Q = xe_P d 197 4 ls (.long 1 :: st) h Q := xe_P_ar (ins := .lconst 1) (len := 1) (by decide +kernel) rfl
theorem xs_197_4 : xe_P d 197 4 ls (v2 :: v1 :: v0 :: st) h Q = (xe_w st ≤ 8 ∧ xe_C d 120 [v0, v1, v2] h (fun r h' => xe_P d 197 7 ls (r.toList ++ st) h' Q)) := xe_P_ivs (y := 197) (pc := 4) (z := 120) (i := 88) (vs := [v2, v1, v0]) (by decide +kernel) (by decide +kernel) rfl
theorem xs_197_7 : xe_P d 197 7 ls (.int x :: st) h Q = (if x = 0 then xe_P d 197 10 ls st h Q else xe_P d 197 12 ls st h Q) := xe_P_ifn (ins := .ifCond .ne 5) (len := 3) (off := 5) (by decide +kernel) (by decide) rfl rfl rfl
theorem xs_197_10 : xe_P d 197 10 ls st h Q = xe_P d 197 11 ls (.int (-1) :: st) h Q := xe_P_ar (ins := .iconst (-1)) (len := 1) (by decide +kernel) rfl
theorem xs_197_11 : xe_P d 197 11 ls [.int x] h Q = Q (some (.int x)) h := xe_P_ireturn (by decide +kernel) rfl
theorem xs_197_12 : xe_P d 197 12 [.ref a, l1] st h Q = xe_P d 197 13 [.ref a, l1] (.ref a :: st) h Q := xe_P_lo (ins := .aload_n 0) (len := 1) (by decide +kernel) rfl rfl
theorem xs_197_13 : xe_P d 197 13 ls (.ref a :: st) h Q = (xe_ob h a 7 ∧ xe_P d 197 16 ls (va_rf (xe_R h a 36) :: st) h Q) := xe_P_getR (i := 72) (by decide +kernel) (by decide +kernel) (by decide) rfl
theorem xs_197_16 : xe_P d 197 16 [l0, .int x] st h Q = xe_P d 197 17 [l0, .int x] (.int x :: st) h Q := xe_P_lo (ins := .iload_n 1) (len := 1) (by decide +kernel) rfl rfl
theorem xs_197_17 : xe_P d 197 17 ls (.int v :: .ref a :: st) h Q = ((xe_ba h a ∧ xe_ix h a v) ∧ xe_P d 197 18 ls (.int (xe_I h a v.toNatClampNeg) :: st) h Q) := xe_P_bald (by decide +kernel)
theorem xs_197_18 : xe_P d 197 18 ls (.int x :: st) h Q = (if x = 0 then xe_P d 197 21 ls st h Q else xe_P d 197 24 ls st h Q) := xe_P_ifn (ins := .ifCond .ne 6) (len := 3) (off := 6) (by decide +kernel) (by decide) rfl rfl rfl
theorem xs_197_21 : xe_P d 197 21 ls st h Q = xe_P d 197 23 ls (.int (-2) :: st) h Q := xe_P_ar (ins := .bipush (-2)) (len := 2) (by decide +kernel) rfl
theorem xs_197_23 : xe_P d 197 23 ls [.int x] h Q = Q (some (.int x)) h := xe_P_ireturn (by decide +kernel) rfl
theorem xs_197_24 : xe_P d 197 24 [.ref a, l1] st h Q = xe_P d 197 25 [.ref a, l1] (.ref a :: st) h Q := xe_P_lo (ins := .aload_n 0) (len := 1) (by decide +kernel) rfl rfl
theorem xs_197_25 : xe_P d 197 25 ls st h Q = xe_P d 197 27 ls (.int 35 :: st) h Q := xe_P_ar (ins := .bipush 35) (len := 2) (by decide +kernel) rfl
theorem xs_197_27 : xe_P d 197 27 [l0, .int x] st h Q = xe_P d 197 28 [l0, .int x] (.int x :: st) h Q := xe_P_lo (ins := .iload_n 1) (len := 1) (by decide +kernel) rfl rfl
theorem xs_197_28 : xe_P d 197 28 ls st h Q = xe_P d 197 29 ls (.int 1 :: st) h Q := xe_P_ar (ins := .iconst 1) (len := 1) (by decide +kernel) rfl
theorem xs_197_29 : xe_P d 197 29 ls (.int v :: .int x :: st) h Q = xe_P d 197 30 ls (.int (x + v) :: st) h Q := xe_P_ar (ins := .iadd) (len := 1) (by decide +kernel) rfl
theorem xs_197_30 : xe_P d 197 30 ls (.int v :: .int x :: st) h Q = xe_P d 197 31 ls (.int (x * v) :: st) h Q := xe_P_ar (ins := .imul) (len := 1) (by decide +kernel) rfl
theorem xs_197_31 : xe_P d 197 31 ls st h Q = xe_P d 197 32 ls (.int 0 :: st) h Q := xe_P_ar (ins := .iconst 0) (len := 1) (by decide +kernel) rfl
theorem xs_197_32 : xe_P d 197 32 ls (v1 :: v0 :: .ref a :: st) h Q = ((xe_w st ≤ 8 ∧ xe_ob h a 7) ∧ xe_C d 195 [.ref a, v0, v1] h (fun r h' => xe_P d 197 35 ls (r.toList ++ st) h' Q)) := xe_P_ivv (y := 197) (pc := 32) (z := 195) (i := 320) (vs := [v1, v0]) (by decide +kernel) (by decide +kernel) rfl (by decide +kernel)
theorem xs_197_35 : xe_P d 197 35 [.ref a, l1] st h Q = xe_P d 197 36 [.ref a, l1] (.ref a :: st) h Q := xe_P_lo (ins := .aload_n 0) (len := 1) (by decide +kernel) rfl rfl
theorem xs_197_36 : xe_P d 197 36 ls (.ref a :: st) h Q = (xe_ob h a 7 ∧ xe_P d 197 39 ls (va_rf (xe_R h a 0) :: st) h Q) := xe_P_getR (i := 7) (by decide +kernel) (by decide +kernel) (by decide) rfl
theorem xs_197_39 : xe_P d 197 39 ls st h Q = xe_P d 197 41 ls (.int 34 :: st) h Q := xe_P_ar (ins := .bipush 34) (len := 2) (by decide +kernel) rfl
theorem xs_197_41 : xe_P d 197 41 ls (.int v :: .ref a :: st) h Q = ((xe_ia h a ∧ xe_ix h a v) ∧ xe_P d 197 42 ls (.int (xe_I h a v.toNatClampNeg) :: st) h Q) := xe_P_iald (by decide +kernel)
theorem xs_197_42 : xe_P d 197 42 ls [.int x] h Q = Q (some (.int x)) h := xe_P_ireturn (by decide +kernel) rfl
theorem xs_197 : xe_C (d + 1) 197 [.ref a, .int x0] h Q = xe_P d 197 0 [.ref a, .int x0] [] h Q := xe_C_at (Nat.le_of_ble_eq_true rfl) rfl
theorem xs_198_0 : xe_P d 198 0 [l0, .int x, l2, l3, l4] st h Q = xe_P d 198 1 [l0, .int x, l2, l3, l4] (.int x :: st) h Q := xe_P_lo (ins := .iload_n 1) (len := 1) (by decide +kernel) rfl rfl
theorem xs_198_1 : xe_P d 198 1 ls (.int x :: st) h Q = xe_P d 198 2 ls (.long x.toInt64 :: st) h Q := xe_P_ar (ins := .i2l) (len := 1) (by decide +kernel) rfl
theorem xs_198_2 : xe_P d 198 2 ls st h Q = xe_P d 198 3 ls (.long 0 :: st) h Q := xe_P_ar (ins := .lconst 0) (len := 1) (by decide +kernel) rfl
theorem xs_198_3 : xe_P d 198 3 ls st h Q = xe_P d 198 6 ls (.long 3 :: st) h Q := xe_P_ldc2 (j := 194) (by decide +kernel) (by decide +kernel)
theorem xs_198_6 : xe_P d 198 6 ls (v2 :: v1 :: v0 :: st) h Q = (xe_w st ≤ 8 ∧ xe_C d 120 [v0, v1, v2] h (fun r h' => xe_P d 198 9 ls (r.toList ++ st) h' Q)) := xe_P_ivs (y := 198) (pc := 6) (z := 120) (i := 88) (vs := [v2, v1, v0]) (by decide +kernel) (by decide +kernel) rfl
theorem xs_198_9 : xe_P d 198 9 ls (.int x :: st) h Q = (if x = 0 then xe_P d 198 30 ls st h Q else xe_P d 198 12 ls st h Q) := xe_P_if (ins := .ifCond .eq 21) (len := 3) (off := 21) (by decide +kernel) (by decide) rfl rfl rfl
theorem xs_198_12 : xe_P d 198 12 [l0, l1, .int x, l3, l4] st h Q = xe_P d 198 13 [l0, l1, .int x, l3, l4] (.int x :: st) h Q := xe_P_lo (ins := .iload_n 2) (len := 1) (by decide +kernel) rfl rfl
theorem xs_198_13 : xe_P d 198 13 ls (.int x :: st) h Q = xe_P d 198 14 ls (.long x.toInt64 :: st) h Q := xe_P_ar (ins := .i2l) (len := 1) (by decide +kernel) rfl
theorem xs_198_14 : xe_P d 198 14 ls st h Q = xe_P d 198 15 ls (.long 0 :: st) h Q := xe_P_ar (ins := .lconst 0) (len := 1) (by decide +kernel) rfl
theorem xs_198_15 : xe_P d 198 15 ls st h Q = xe_P d 198 18 ls (.long 2 :: st) h Q := xe_P_ldc2 (j := 207) (by decide +kernel) (by decide +kernel)
theorem xs_198_18 : xe_P d 198 18 ls (v2 :: v1 :: v0 :: st) h Q = (xe_w st ≤ 8 ∧ xe_C d 120 [v0, v1, v2] h (fun r h' => xe_P d 198 21 ls (r.toList ++ st) h' Q)) := xe_P_ivs (y := 198) (pc := 18) (z := 120) (i := 88) (vs := [v2, v1, v0]) (by decide +kernel) (by decide +kernel) rfl
theorem xs_198_21 : xe_P d 198 21 ls (.int x :: st) h Q = (if x = 0 then xe_P d 198 30 ls st h Q else xe_P d 198 24 ls st h Q) := xe_P_if (ins := .ifCond .eq 9) (len := 3) (off := 9) (by decide +kernel) (by decide) rfl rfl rfl
theorem xs_198_24 : xe_P d 198 24 [l0, l1, l2, .int x, l4] st h Q = xe_P d 198 25 [l0, l1, l2, .int x, l4] (.int x :: st) h Q := xe_P_lo (ins := .iload_n 3) (len := 1) (by decide +kernel) rfl rfl
theorem xs_198_25 : xe_P d 198 25 ls st h Q = xe_P d 198 27 ls (.int 40 :: st) h Q := xe_P_ar (ins := .bipush 40) (len := 2) (by decide +kernel) rfl
theorem xs_198_27 : xe_P d 198 27 ls (.int v :: .int x :: st) h Q = (if x ≤ v then xe_P d 198 32 ls st h Q else xe_P d 198 30 ls st h Q) := xe_P_if (ins := .if_icmp .le 5) (len := 3) (off := 5) (by decide +kernel) (by decide) rfl rfl rfl
theorem xs_198_30 : xe_P d 198 30 ls st h Q = xe_P d 198 31 ls (.int (-1) :: st) h Q := xe_P_ar (ins := .iconst (-1)) (len := 1) (by decide +kernel) rfl
theorem xs_198_31 : xe_P d 198 31 ls [.int x] h Q = Q (some (.int x)) h := xe_P_ireturn (by decide +kernel) rfl
theorem xs_198_32 : xe_P d 198 32 [l0, l1, l2, .int x, l4] st h Q = xe_P d 198 33 [l0, l1, l2, .int x, l4] (.int x :: st) h Q := xe_P_lo (ins := .iload_n 3) (len := 1) (by decide +kernel) rfl rfl
theorem xs_198_33 : xe_P d 198 33 ls (.int x :: st) h Q = (if 0 ≤ x then xe_P d 198 39 ls st h Q else xe_P d 198 36 ls st h Q) := xe_P_if (ins := .ifCond .ge 6) (len := 3) (off := 6) (by decide +kernel) (by decide) rfl rfl rfl
theorem xs_198_36 : xe_P d 198 36 ls st h Q = xe_P d 198 38 ls (.int (-14) :: st) h Q := xe_P_ar (ins := .bipush (-14)) (len := 2) (by decide +kernel) rfl
theorem xs_198_38 : xe_P d 198 38 ls [.int x] h Q = Q (some (.int x)) h := xe_P_ireturn (by decide +kernel) rfl
theorem xs_198_39 : xe_P d 198 39 [.ref a, l1, l2, l3, l4] st h Q = xe_P d 198 40 [.ref a, l1, l2, l3, l4] (.ref a :: st) h Q := xe_P_lo (ins := .aload_n 0) (len := 1) (by decide +kernel) rfl rfl
theorem xs_198_40 : xe_P d 198 40 ls (.ref a :: st) h Q = (xe_ob h a 7 ∧ xe_P d 198 43 ls (va_rf (xe_R h a 37) :: st) h Q) := xe_P_getR (i := 76) (by decide +kernel) (by decide +kernel) (by decide) rfl
theorem xs_198_43 : xe_P d 198 43 [l0, .int x, l2, l3, l4] st h Q = xe_P d 198 44 [l0, .int x, l2, l3, l4] (.int x :: st) h Q := xe_P_lo (ins := .iload_n 1) (len := 1) (by decide +kernel) rfl rfl
theorem xs_198_44 : xe_P d 198 44 [l0, l1, .int x, l3, l4] st h Q = xe_P d 198 45 [l0, l1, .int x, l3, l4] (.int x :: st) h Q := xe_P_lo (ins := .iload_n 2) (len := 1) (by decide +kernel) rfl rfl
theorem xs_198_45 : xe_P d 198 45 ls (.int x :: .int v :: .ref a :: st) h Q = ((xe_ob h a 8 ∧ xe_ix h a v) ∧ xe_P d 198 46 ls st (xe_sI h a v.toNatClampNeg x) Q) := xe_P_iast (by decide +kernel)
theorem xs_198_46 : xe_P d 198 46 [.ref a, l1, l2, l3, l4] st h Q = xe_P d 198 47 [.ref a, l1, l2, l3, l4] (.ref a :: st) h Q := xe_P_lo (ins := .aload_n 0) (len := 1) (by decide +kernel) rfl rfl
theorem xs_198_47 : xe_P d 198 47 ls (.ref a :: st) h Q = (xe_ob h a 7 ∧ xe_P d 198 50 ls (va_rf (xe_R h a 38) :: st) h Q) := xe_P_getR (i := 79) (by decide +kernel) (by decide +kernel) (by decide) rfl
theorem xs_198_50 : xe_P d 198 50 [l0, .int x, l2, l3, l4] st h Q = xe_P d 198 51 [l0, .int x, l2, l3, l4] (.int x :: st) h Q := xe_P_lo (ins := .iload_n 1) (len := 1) (by decide +kernel) rfl rfl
theorem xs_198_51 : xe_P d 198 51 [l0, l1, l2, .int x, l4] st h Q = xe_P d 198 52 [l0, l1, l2, .int x, l4] (.int x :: st) h Q := xe_P_lo (ins := .iload_n 3) (len := 1) (by decide +kernel) rfl rfl
theorem xs_198_52 : xe_P d 198 52 ls (.int x :: .int v :: .ref a :: st) h Q = ((xe_ob h a 8 ∧ xe_ix h a v) ∧ xe_P d 198 53 ls st (xe_sI h a v.toNatClampNeg x) Q) := xe_P_iast (by decide +kernel)
theorem xs_198_53 : xe_P d 198 53 ls st h Q = xe_P d 198 54 ls (.int 0 :: st) h Q := xe_P_ar (ins := .iconst 0) (len := 1) (by decide +kernel) rfl
theorem xs_198_54 : xe_P d 198 54 [l0, l1, l2, l3, l4] (.int x :: st) h Q = xe_P d 198 56 [l0, l1, l2, xe_cut l3, .int x] st h Q := xe_P_lo (ins := .istore 4) (len := 2) (by decide +kernel) rfl rfl
theorem xs_198_56 : xe_P d 198 56 [l0, l1, l2, l3, .int x] st h Q = xe_P d 198 58 [l0, l1, l2, l3, .int x] (.int x :: st) h Q := xe_P_lo (ins := .iload 4) (len := 2) (by decide +kernel) rfl rfl
theorem xs_198_58 : xe_P d 198 58 ls st h Q = xe_P d 198 60 ls (.int 40 :: st) h Q := xe_P_ar (ins := .bipush 40) (len := 2) (by decide +kernel) rfl
theorem xs_198_60 : xe_P d 198 60 ls (.int v :: .int x :: st) h Q = (if v ≤ x then xe_P d 198 82 ls st h Q else xe_P d 198 63 ls st h Q) := xe_P_if (ins := .if_icmp .ge 22) (len := 3) (off := 22) (by decide +kernel) (by decide) rfl rfl rfl
theorem xs_198_63 : xe_P d 198 63 [.ref a, l1, l2, l3, l4] st h Q = xe_P d 198 64 [.ref a, l1, l2, l3, l4] (.ref a :: st) h Q := xe_P_lo (ins := .aload_n 0) (len := 1) (by decide +kernel) rfl rfl
theorem xs_198_64 : xe_P d 198 64 ls (.ref a :: st) h Q = (xe_ob h a 7 ∧ xe_P d 198 67 ls (va_rf (xe_R h a 39) :: st) h Q) := xe_P_getR (i := 82) (by decide +kernel) (by decide +kernel) (by decide) rfl
theorem xs_198_67 : xe_P d 198 67 ls st h Q = xe_P d 198 69 ls (.int 40 :: st) h Q := xe_P_ar (ins := .bipush 40) (len := 2) (by decide +kernel) rfl
theorem xs_198_69 : xe_P d 198 69 [l0, .int x, l2, l3, l4] st h Q = xe_P d 198 70 [l0, .int x, l2, l3, l4] (.int x :: st) h Q := xe_P_lo (ins := .iload_n 1) (len := 1) (by decide +kernel) rfl rfl
theorem xs_198_70 : xe_P d 198 70 ls (.int v :: .int x :: st) h Q = xe_P d 198 71 ls (.int (x * v) :: st) h Q := xe_P_ar (ins := .imul) (len := 1) (by decide +kernel) rfl
theorem xs_198_71 : xe_P d 198 71 [l0, l1, l2, l3, .int x] st h Q = xe_P d 198 73 [l0, l1, l2, l3, .int x] (.int x :: st) h Q := xe_P_lo (ins := .iload 4) (len := 2) (by decide +kernel) rfl rfl
theorem xs_198_73 : xe_P d 198 73 ls (.int v :: .int x :: st) h Q = xe_P d 198 74 ls (.int (x + v) :: st) h Q := xe_P_ar (ins := .iadd) (len := 1) (by decide +kernel) rfl
theorem xs_198_74 : xe_P d 198 74 ls st h Q = xe_P d 198 75 ls (.int 0 :: st) h Q := xe_P_ar (ins := .iconst 0) (len := 1) (by decide +kernel) rfl
theorem xs_198_75 : xe_P d 198 75 ls (.int x :: .int v :: .ref a :: st) h Q = ((xe_ob h a 8 ∧ xe_ix h a v) ∧ xe_P d 198 76 ls st (xe_sI h a v.toNatClampNeg x) Q) := xe_P_iast (by decide +kernel)
theorem xs_198_76 : xe_P d 198 76 [l0, l1, l2, l3, .int x] st h Q = xe_P d 198 79 [l0, l1, l2, xe_cut l3, .int (x + 1)] st h Q := xe_P_lo (ins := .iinc 4 1) (len := 3) (by decide +kernel) rfl rfl
theorem xs_198_79 : xe_P d 198 79 ls st h Q = xe_P d 198 56 ls st h Q := xe_P_go (len := 3) (off := (-23)) (by decide +kernel) (by decide)
theorem xs_198_82 : xe_P d 198 82 ls st h Q = xe_P d 198 83 ls (.int 1 :: st) h Q := xe_P_ar (ins := .iconst 1) (len := 1) (by decide +kernel) rfl
theorem xs_198_83 : xe_P d 198 83 ls [.int x] h Q = Q (some (.int x)) h := xe_P_ireturn (by decide +kernel) rfl
theorem xs_198 : xe_C (d + 1) 198 [.ref a, .int x0, .int x1, .int x2] h Q = xe_P d 198 0 [.ref a, .int x0, .int x1, .int x2, .retAddr 0] [] h Q := xe_C_at (Nat.le_of_ble_eq_true rfl) rfl
theorem xs_199_0 : xe_P d 199 0 [l0, .int x, l2, l3] st h Q = xe_P d 199 1 [l0, .int x, l2, l3] (.int x :: st) h Q := xe_P_lo (ins := .iload_n 1) (len := 1) (by decide +kernel) rfl rfl
theorem xs_199_1 : xe_P d 199 1 ls (.int x :: st) h Q = xe_P d 199 2 ls (.long x.toInt64 :: st) h Q := xe_P_ar (ins := .i2l) (len := 1) (by decide +kernel) rfl
theorem xs_199_2 : xe_P d 199 2 ls st h Q = xe_P d 199 3 ls (.long 0 :: st) h Q := xe_P_ar (ins := .lconst 0) (len := 1) (by decide +kernel) rfl
theorem xs_199_3 : xe_P d 199 3 ls st h Q = xe_P d 199 6 ls (.long 3 :: st) h Q := xe_P_ldc2 (j := 194) (by decide +kernel) (by decide +kernel)
theorem xs_199_6 : xe_P d 199 6 ls (v2 :: v1 :: v0 :: st) h Q = (xe_w st ≤ 8 ∧ xe_C d 120 [v0, v1, v2] h (fun r h' => xe_P d 199 9 ls (r.toList ++ st) h' Q)) := xe_P_ivs (y := 199) (pc := 6) (z := 120) (i := 88) (vs := [v2, v1, v0]) (by decide +kernel) (by decide +kernel) rfl
theorem xs_199_9 : xe_P d 199 9 ls (.int x :: st) h Q = (if x = 0 then xe_P d 199 12 ls st h Q else xe_P d 199 14 ls st h Q) := xe_P_ifn (ins := .ifCond .ne 5) (len := 3) (off := 5) (by decide +kernel) (by decide) rfl rfl rfl
theorem xs_199_12 : xe_P d 199 12 ls st h Q = xe_P d 199 13 ls (.int (-1) :: st) h Q := xe_P_ar (ins := .iconst (-1)) (len := 1) (by decide +kernel) rfl
theorem xs_199_13 : xe_P d 199 13 ls [.int x] h Q = Q (some (.int x)) h := xe_P_ireturn (by decide +kernel) rfl
theorem xs_199_14 : xe_P d 199 14 [.ref a, l1, l2, l3] st h Q = xe_P d 199 15 [.ref a, l1, l2, l3] (.ref a :: st) h Q := xe_P_lo (ins := .aload_n 0) (len := 1) (by decide +kernel) rfl rfl
theorem xs_199_15 : xe_P d 199 15 ls (.ref a :: st) h Q = (xe_ob h a 7 ∧ xe_P d 199 18 ls (va_rf (xe_R h a 37) :: st) h Q) := xe_P_getR (i := 76) (by decide +kernel) (by decide +kernel) (by decide) rfl
theorem xs_199_18 : xe_P d 199 18 [l0, .int x, l2, l3] st h Q = xe_P d 199 19 [l0, .int x, l2, l3] (.int x :: st) h Q := xe_P_lo (ins := .iload_n 1) (len := 1) (by decide +kernel) rfl rfl
theorem xs_199_19 : xe_P d 199 19 ls (.int v :: .ref a :: st) h Q = ((xe_ia h a ∧ xe_ix h a v) ∧ xe_P d 199 20 ls (.int (xe_I h a v.toNatClampNeg) :: st) h Q) := xe_P_iald (by decide +kernel)
theorem xs_199_20 : xe_P d 199 20 ls st h Q = xe_P d 199 22 ls (.int (-4) :: st) h Q := xe_P_ar (ins := .bipush (-4)) (len := 2) (by decide +kernel) rfl
theorem xs_199_22 : xe_P d 199 22 ls (.int v :: .int x :: st) h Q = (if x = v then xe_P d 199 25 ls st h Q else xe_P d 199 28 ls st h Q) := xe_P_ifn (ins := .if_icmp .ne 6) (len := 3) (off := 6) (by decide +kernel) (by decide) rfl rfl rfl
theorem xs_199_25 : xe_P d 199 25 ls st h Q = xe_P d 199 27 ls (.int (-11) :: st) h Q := xe_P_ar (ins := .bipush (-11)) (len := 2) (by decide +kernel) rfl
theorem xs_199_27 : xe_P d 199 27 ls [.int x] h Q = Q (some (.int x)) h := xe_P_ireturn (by decide +kernel) rfl
theorem xs_199_28 : xe_P d 199 28 [l0, l1, .int x, l3] st h Q = xe_P d 199 29 [l0, l1, .int x, l3] (.int x :: st) h Q := xe_P_lo (ins := .iload_n 2) (len := 1) (by decide +kernel) rfl rfl
theorem xs_199_29 : xe_P d 199 29 ls (.int x :: st) h Q = xe_P d 199 30 ls (.long x.toInt64 :: st) h Q := xe_P_ar (ins := .i2l) (len := 1) (by decide +kernel) rfl
theorem xs_199_30 : xe_P d 199 30 ls st h Q = xe_P d 199 31 ls (.long 0 :: st) h Q := xe_P_ar (ins := .lconst 0) (len := 1) (by decide +kernel) rfl
theorem xs_199_31 : xe_P d 199 31 [.ref a, l1, l2, l3] st h Q = xe_P d 199 32 [.ref a, l1, l2, l3] (.ref a :: st) h Q := xe_P_lo (ins := .aload_n 0) (len := 1) (by decide +kernel) rfl rfl
theorem xs_199_32 : xe_P d 199 32 ls (.ref a :: st) h Q = (xe_ob h a 7 ∧ xe_P d 199 35 ls (va_rf (xe_R h a 38) :: st) h Q) := xe_P_getR (i := 79) (by decide +kernel) (by decide +kernel) (by decide) rfl
theorem xs_199_35 : xe_P d 199 35 [l0, .int x, l2, l3] st h Q = xe_P d 199 36 [l0, .int x, l2, l3] (.int x :: st) h Q := xe_P_lo (ins := .iload_n 1) (len := 1) (by decide +kernel) rfl rfl
theorem xs_199_36 : xe_P d 199 36 ls (.int v :: .ref a :: st) h Q = ((xe_ia h a ∧ xe_ix h a v) ∧ xe_P d 199 37 ls (.int (xe_I h a v.toNatClampNeg) :: st) h Q) := xe_P_iald (by decide +kernel)
theorem xs_199_37 : xe_P d 199 37 ls st h Q = xe_P d 199 38 ls (.int 1 :: st) h Q := xe_P_ar (ins := .iconst 1) (len := 1) (by decide +kernel) rfl
theorem xs_199_38 : xe_P d 199 38 ls (.int v :: .int x :: st) h Q = xe_P d 199 39 ls (.int (x - v) :: st) h Q := xe_P_ar (ins := .isub) (len := 1) (by decide +kernel) rfl
theorem xs_199_39 : xe_P d 199 39 ls (.int x :: st) h Q = xe_P d 199 40 ls (.long x.toInt64 :: st) h Q := xe_P_ar (ins := .i2l) (len := 1) (by decide +kernel) rfl
theorem xs_199_40 : xe_P d 199 40 ls (v2 :: v1 :: v0 :: st) h Q = (xe_w st ≤ 8 ∧ xe_C d 120 [v0, v1, v2] h (fun r h' => xe_P d 199 43 ls (r.toList ++ st) h' Q)) := xe_P_ivs (y := 199) (pc := 40) (z := 120) (i := 88) (vs := [v2, v1, v0]) (by decide +kernel) (by decide +kernel) rfl
theorem xs_199_43 : xe_P d 199 43 ls (.int x :: st) h Q = (if x = 0 then xe_P d 199 46 ls st h Q else xe_P d 199 49 ls st h Q) := xe_P_ifn (ins := .ifCond .ne 6) (len := 3) (off := 6) (by decide +kernel) (by decide) rfl rfl rfl
theorem xs_199_46 : xe_P d 199 46 ls st h Q = xe_P d 199 48 ls (.int (-12) :: st) h Q := xe_P_ar (ins := .bipush (-12)) (len := 2) (by decide +kernel) rfl
theorem xs_199_48 : xe_P d 199 48 ls [.int x] h Q = Q (some (.int x)) h := xe_P_ireturn (by decide +kernel) rfl
theorem xs_199_49 : xe_P d 199 49 [.ref a, l1, l2, l3] st h Q = xe_P d 199 50 [.ref a, l1, l2, l3] (.ref a :: st) h Q := xe_P_lo (ins := .aload_n 0) (len := 1) (by decide +kernel) rfl rfl
theorem xs_199_50 : xe_P d 199 50 ls (.ref a :: st) h Q = (xe_ob h a 7 ∧ xe_P d 199 53 ls (va_rf (xe_R h a 39) :: st) h Q) := xe_P_getR (i := 82) (by decide +kernel) (by decide +kernel) (by decide) rfl
theorem xs_199_53 : xe_P d 199 53 ls st h Q = xe_P d 199 55 ls (.int 40 :: st) h Q := xe_P_ar (ins := .bipush 40) (len := 2) (by decide +kernel) rfl
theorem xs_199_55 : xe_P d 199 55 [l0, .int x, l2, l3] st h Q = xe_P d 199 56 [l0, .int x, l2, l3] (.int x :: st) h Q := xe_P_lo (ins := .iload_n 1) (len := 1) (by decide +kernel) rfl rfl
theorem xs_199_56 : xe_P d 199 56 ls (.int v :: .int x :: st) h Q = xe_P d 199 57 ls (.int (x * v) :: st) h Q := xe_P_ar (ins := .imul) (len := 1) (by decide +kernel) rfl
theorem xs_199_57 : xe_P d 199 57 [l0, l1, .int x, l3] st h Q = xe_P d 199 58 [l0, l1, .int x, l3] (.int x :: st) h Q := xe_P_lo (ins := .iload_n 2) (len := 1) (by decide +kernel) rfl rfl
theorem xs_199_58 : xe_P d 199 58 ls (.int v :: .int x :: st) h Q = xe_P d 199 59 ls (.int (x + v) :: st) h Q := xe_P_ar (ins := .iadd) (len := 1) (by decide +kernel) rfl
theorem xs_199_59 : xe_P d 199 59 [.ref a, l1, l2, l3] st h Q = xe_P d 199 60 [.ref a, l1, l2, l3] (.ref a :: st) h Q := xe_P_lo (ins := .aload_n 0) (len := 1) (by decide +kernel) rfl rfl
theorem xs_199_60 : xe_P d 199 60 ls (.ref a :: st) h Q = (xe_ob h a 7 ∧ xe_P d 199 63 ls (va_rf (xe_R h a 37) :: st) h Q) := xe_P_getR (i := 76) (by decide +kernel) (by decide +kernel) (by decide) rfl
theorem xs_199_63 : xe_P d 199 63 [l0, .int x, l2, l3] st h Q = xe_P d 199 64 [l0, .int x, l2, l3] (.int x :: st) h Q := xe_P_lo (ins := .iload_n 1) (len := 1) (by decide +kernel) rfl rfl
theorem xs_199_64 : xe_P d 199 64 ls (.int v :: .ref a :: st) h Q = ((xe_ia h a ∧ xe_ix h a v) ∧ xe_P d 199 65 ls (.int (xe_I h a v.toNatClampNeg) :: st) h Q) := xe_P_iald (by decide +kernel)
theorem xs_199_65 : xe_P d 199 65 ls (.int x :: st) h Q = (if x = 0 then xe_P d 199 68 ls st h Q else xe_P d 199 78 ls st h Q) := xe_P_ifn (ins := .ifCond .ne 13) (len := 3) (off := 13) (by decide +kernel) (by decide) rfl rfl rfl
theorem xs_199_68 : xe_P d 199 68 [l0, l1, l2, .int x] st h Q = xe_P d 199 69 [l0, l1, l2, .int x] (.int x :: st) h Q := xe_P_lo (ins := .iload_n 3) (len := 1) (by decide +kernel) rfl rfl
theorem xs_199_69 : xe_P d 199 69 ls st h Q = xe_P d 199 71 ls (.int 24 :: st) h Q := xe_P_ar (ins := .bipush 24) (len := 2) (by decide +kernel) rfl
theorem xs_199_71 : xe_P d 199 71 ls (.int v :: .int x :: st) h Q = xe_P d 199 72 ls (.int (x <<< (v &&& 31)) :: st) h Q := xe_P_ar (ins := .ishl) (len := 1) (by decide +kernel) rfl
theorem xs_199_72 : xe_P d 199 72 ls st h Q = xe_P d 199 74 ls (.int 24 :: st) h Q := xe_P_ar (ins := .bipush 24) (len := 2) (by decide +kernel) rfl
theorem xs_199_74 : xe_P d 199 74 ls (.int v :: .int x :: st) h Q = xe_P d 199 75 ls (.int (x >>> (v &&& 31)) :: st) h Q := xe_P_ar (ins := .ishr) (len := 1) (by decide +kernel) rfl
theorem xs_199_75 : xe_P d 199 75 ls st h Q = xe_P d 199 99 ls st h Q := xe_P_go (len := 3) (off := 24) (by decide +kernel) (by decide)
theorem xs_199_78 : xe_P d 199 78 [.ref a, l1, l2, l3] st h Q = xe_P d 199 79 [.ref a, l1, l2, l3] (.ref a :: st) h Q := xe_P_lo (ins := .aload_n 0) (len := 1) (by decide +kernel) rfl rfl
theorem xs_199_79 : xe_P d 199 79 ls (.ref a :: st) h Q = (xe_ob h a 7 ∧ xe_P d 199 82 ls (va_rf (xe_R h a 37) :: st) h Q) := xe_P_getR (i := 76) (by decide +kernel) (by decide +kernel) (by decide) rfl
theorem xs_199_82 : xe_P d 199 82 [l0, .int x, l2, l3] st h Q = xe_P d 199 83 [l0, .int x, l2, l3] (.int x :: st) h Q := xe_P_lo (ins := .iload_n 1) (len := 1) (by decide +kernel) rfl rfl
theorem xs_199_83 : xe_P d 199 83 ls (.int v :: .ref a :: st) h Q = ((xe_ia h a ∧ xe_ix h a v) ∧ xe_P d 199 84 ls (.int (xe_I h a v.toNatClampNeg) :: st) h Q) := xe_P_iald (by decide +kernel)
theorem xs_199_84 : xe_P d 199 84 ls st h Q = xe_P d 199 85 ls (.int 1 :: st) h Q := xe_P_ar (ins := .iconst 1) (len := 1) (by decide +kernel) rfl
theorem xs_199_85 : xe_P d 199 85 ls (.int v :: .int x :: st) h Q = (if x = v then xe_P d 199 88 ls st h Q else xe_P d 199 98 ls st h Q) := xe_P_ifn (ins := .if_icmp .ne 13) (len := 3) (off := 13) (by decide +kernel) (by decide) rfl rfl rfl
theorem xs_199_88 : xe_P d 199 88 [l0, l1, l2, .int x] st h Q = xe_P d 199 89 [l0, l1, l2, .int x] (.int x :: st) h Q := xe_P_lo (ins := .iload_n 3) (len := 1) (by decide +kernel) rfl rfl
theorem xs_199_89 : xe_P d 199 89 ls st h Q = xe_P d 199 91 ls (.int 16 :: st) h Q := xe_P_ar (ins := .bipush 16) (len := 2) (by decide +kernel) rfl
theorem xs_199_91 : xe_P d 199 91 ls (.int v :: .int x :: st) h Q = xe_P d 199 92 ls (.int (x <<< (v &&& 31)) :: st) h Q := xe_P_ar (ins := .ishl) (len := 1) (by decide +kernel) rfl
theorem xs_199_92 : xe_P d 199 92 ls st h Q = xe_P d 199 94 ls (.int 16 :: st) h Q := xe_P_ar (ins := .bipush 16) (len := 2) (by decide +kernel) rfl
theorem xs_199_94 : xe_P d 199 94 ls (.int v :: .int x :: st) h Q = xe_P d 199 95 ls (.int (x >>> (v &&& 31)) :: st) h Q := xe_P_ar (ins := .ishr) (len := 1) (by decide +kernel) rfl
theorem xs_199_95 : xe_P d 199 95 ls st h Q = xe_P d 199 99 ls st h Q := xe_P_go (len := 3) (off := 4) (by decide +kernel) (by decide)
theorem xs_199_98 : xe_P d 199 98 [l0, l1, l2, .int x] st h Q = xe_P d 199 99 [l0, l1, l2, .int x] (.int x :: st) h Q := xe_P_lo (ins := .iload_n 3) (len := 1) (by decide +kernel) rfl rfl
theorem xs_199_99 : xe_P d 199 99 ls (.int x :: .int v :: .ref a :: st) h Q = ((xe_ob h a 8 ∧ xe_ix h a v) ∧ xe_P d 199 100 ls st (xe_sI h a v.toNatClampNeg x) Q) := xe_P_iast (by decide +kernel)
theorem xs_199_100 : xe_P d 199 100 ls st h Q = xe_P d 199 101 ls (.int 1 :: st) h Q := xe_P_ar (ins := .iconst 1) (len := 1) (by decide +kernel) rfl
theorem xs_199_101 : xe_P d 199 101 ls [.int x] h Q = Q (some (.int x)) h := xe_P_ireturn (by decide +kernel) rfl
theorem xs_199 : xe_C (d + 1) 199 [.ref a, .int x0, .int x1, .int x2] h Q = xe_P d 199 0 [.ref a, .int x0, .int x1, .int x2] [] h Q := xe_C_at (Nat.le_of_ble_eq_true rfl) rfl
theorem xs_200_0 : xe_P d 200 0 [l0, .int x, l2, l3, l4, l5, l6] st h Q = xe_P d 200 1 [l0, .int x, l2, l3, l4, l5, l6] (.int x :: st) h Q := xe_P_lo (ins := .iload_n 1) (len := 1) (by decide +kernel) rfl rfl
theorem xs_200_1 : xe_P d 200 1 ls (.int x :: st) h Q = xe_P d 200 2 ls (.long x.toInt64 :: st) h Q := xe_P_ar (ins := .i2l) (len := 1) (by decide +kernel) rfl
theorem xs_200_2 : xe_P d 200 2 ls st h Q = xe_P d 200 3 ls (.long 0 :: st) h Q := xe_P_ar (ins := .lconst 0) (len := 1) (by decide +kernel) rfl
theorem xs_200_3 : xe_P d 200 3 ls st h Q = xe_P d 200 6 ls (.long 3 :: st) h Q := xe_P_ldc2 (j := 194) (by decide +kernel) (by decide +kernel)
theorem xs_200_6 : xe_P d 200 6 ls (v2 :: v1 :: v0 :: st) h Q = (xe_w st ≤ 8 ∧ xe_C d 120 [v0, v1, v2] h (fun r h' => xe_P d 200 9 ls (r.toList ++ st) h' Q)) := xe_P_ivs (y := 200) (pc := 6) (z := 120) (i := 88) (vs := [v2, v1, v0]) (by decide +kernel) (by decide +kernel) rfl
theorem xs_200_9 : xe_P d 200 9 ls (.int x :: st) h Q = (if x = 0 then xe_P d 200 37 ls st h Q else xe_P d 200 12 ls st h Q) := xe_P_if (ins := .ifCond .eq 28) (len := 3) (off := 28) (by decide +kernel) (by decide) rfl rfl rfl
theorem xs_200_12 : xe_P d 200 12 [l0, l1, .int x, l3, l4, l5, l6] st h Q = xe_P d 200 13 [l0, l1, .int x, l3, l4, l5, l6] (.int x :: st) h Q := xe_P_lo (ins := .iload_n 2) (len := 1) (by decide +kernel) rfl rfl
theorem xs_200_13 : xe_P d 200 13 ls (.int x :: st) h Q = xe_P d 200 14 ls (.long x.toInt64 :: st) h Q := xe_P_ar (ins := .i2l) (len := 1) (by decide +kernel) rfl
theorem xs_200_14 : xe_P d 200 14 ls st h Q = xe_P d 200 15 ls (.long 0 :: st) h Q := xe_P_ar (ins := .lconst 0) (len := 1) (by decide +kernel) rfl
theorem xs_200_15 : xe_P d 200 15 ls st h Q = xe_P d 200 18 ls (.long 2 :: st) h Q := xe_P_ldc2 (j := 207) (by decide +kernel) (by decide +kernel)
theorem xs_200_18 : xe_P d 200 18 ls (v2 :: v1 :: v0 :: st) h Q = (xe_w st ≤ 8 ∧ xe_C d 120 [v0, v1, v2] h (fun r h' => xe_P d 200 21 ls (r.toList ++ st) h' Q)) := xe_P_ivs (y := 200) (pc := 18) (z := 120) (i := 88) (vs := [v2, v1, v0]) (by decide +kernel) (by decide +kernel) rfl
theorem xs_200_21 : xe_P d 200 21 ls (.int x :: st) h Q = (if x = 0 then xe_P d 200 37 ls st h Q else xe_P d 200 24 ls st h Q) := xe_P_if (ins := .ifCond .eq 16) (len := 3) (off := 16) (by decide +kernel) (by decide) rfl rfl rfl
theorem xs_200_24 : xe_P d 200 24 [l0, l1, l2, l3, .int x, l5, l6] st h Q = xe_P d 200 26 [l0, l1, l2, l3, .int x, l5, l6] (.int x :: st) h Q := xe_P_lo (ins := .iload 4) (len := 2) (by decide +kernel) rfl rfl
theorem xs_200_26 : xe_P d 200 26 ls (.int x :: st) h Q = xe_P d 200 27 ls (.long x.toInt64 :: st) h Q := xe_P_ar (ins := .i2l) (len := 1) (by decide +kernel) rfl
theorem xs_200_27 : xe_P d 200 27 ls st h Q = xe_P d 200 28 ls (.long 0 :: st) h Q := xe_P_ar (ins := .lconst 0) (len := 1) (by decide +kernel) rfl
theorem xs_200_28 : xe_P d 200 28 ls st h Q = xe_P d 200 31 ls (.long 20 :: st) h Q := xe_P_ldc2 (j := 324) (by decide +kernel) (by decide +kernel)
theorem xs_200_31 : xe_P d 200 31 ls (v2 :: v1 :: v0 :: st) h Q = (xe_w st ≤ 8 ∧ xe_C d 120 [v0, v1, v2] h (fun r h' => xe_P d 200 34 ls (r.toList ++ st) h' Q)) := xe_P_ivs (y := 200) (pc := 31) (z := 120) (i := 88) (vs := [v2, v1, v0]) (by decide +kernel) (by decide +kernel) rfl
theorem xs_200_34 : xe_P d 200 34 ls (.int x :: st) h Q = (if x = 0 then xe_P d 200 37 ls st h Q else xe_P d 200 39 ls st h Q) := xe_P_ifn (ins := .ifCond .ne 5) (len := 3) (off := 5) (by decide +kernel) (by decide) rfl rfl rfl
theorem xs_200_37 : xe_P d 200 37 ls st h Q = xe_P d 200 38 ls (.int (-1) :: st) h Q := xe_P_ar (ins := .iconst (-1)) (len := 1) (by decide +kernel) rfl
theorem xs_200_38 : xe_P d 200 38 ls [.int x] h Q = Q (some (.int x)) h := xe_P_ireturn (by decide +kernel) rfl
theorem xs_200_39 : xe_P d 200 39 [.ref a, l1, l2, l3, l4, l5, l6] st h Q = xe_P d 200 40 [.ref a, l1, l2, l3, l4, l5, l6] (.ref a :: st) h Q := xe_P_lo (ins := .aload_n 0) (len := 1) (by decide +kernel) rfl rfl
theorem xs_200_40 : xe_P d 200 40 ls st h Q = xe_P d 200 41 ls (.int 0 :: st) h Q := xe_P_ar (ins := .iconst 0) (len := 1) (by decide +kernel) rfl
theorem xs_200_41 : xe_P d 200 41 ls st h Q = xe_P d 200 43 ls (.int 105 :: st) h Q := xe_P_ar (ins := .bipush 105) (len := 2) (by decide +kernel) rfl
theorem xs_200_43 : xe_P d 200 43 ls (v1 :: v0 :: .ref a :: st) h Q = ((xe_w st ≤ 8 ∧ xe_ob h a 7) ∧ xe_C d 195 [.ref a, v0, v1] h (fun r h' => xe_P d 200 46 ls (r.toList ++ st) h' Q)) := xe_P_ivv (y := 200) (pc := 43) (z := 195) (i := 320) (vs := [v1, v0]) (by decide +kernel) (by decide +kernel) rfl (by decide +kernel)
theorem xs_200_46 : xe_P d 200 46 ls st h Q = xe_P d 200 47 ls (.int 0 :: st) h Q := xe_P_ar (ins := .iconst 0) (len := 1) (by decide +kernel) rfl
theorem xs_200_47 : xe_P d 200 47 [l0, l1, l2, l3, l4, l5, l6] (.int x :: st) h Q = xe_P d 200 49 [l0, l1, l2, l3, xe_cut l4, .int x, l6] st h Q := xe_P_lo (ins := .istore 5) (len := 2) (by decide +kernel) rfl rfl
theorem xs_200_49 : xe_P d 200 49 ls st h Q = xe_P d 200 50 ls (.int 0 :: st) h Q := xe_P_ar (ins := .iconst 0) (len := 1) (by decide +kernel) rfl
theorem xs_200_50 : xe_P d 200 50 [l0, l1, l2, l3, l4, l5, l6] (.int x :: st) h Q = xe_P d 200 52 [l0, l1, l2, l3, l4, xe_cut l5, .int x] st h Q := xe_P_lo (ins := .istore 6) (len := 2) (by decide +kernel) rfl rfl
theorem xs_200_52 : xe_P d 200 52 [l0, l1, l2, l3, l4, l5, .int x] st h Q = xe_P d 200 54 [l0, l1, l2, l3, l4, l5, .int x] (.int x :: st) h Q := xe_P_lo (ins := .iload 6) (len := 2) (by decide +kernel) rfl rfl
theorem xs_200_54 : xe_P d 200 54 [l0, l1, l2, l3, .int x, l5, l6] st h Q = xe_P d 200 56 [l0, l1, l2, l3, .int x, l5, l6] (.int x :: st) h Q := xe_P_lo (ins := .iload 4) (len := 2) (by decide +kernel) rfl rfl
theorem xs_200_56 : xe_P d 200 56 ls (.int v :: .int x :: st) h Q = (if v ≤ x then xe_P d 200 167 ls st h Q else xe_P d 200 59 ls st h Q) := xe_P_if (ins := .if_icmp .ge 111) (len := 3) (off := 111) (by decide +kernel) (by decide) rfl rfl rfl
theorem xs_200_59 : xe_P d 200 59 [l0, l1, l2, l3, l4, .int x, l6] st h Q = xe_P d 200 61 [l0, l1, l2, l3, l4, .int x, l6] (.int x :: st) h Q := xe_P_lo (ins := .iload 5) (len := 2) (by decide +kernel) rfl rfl
theorem xs_200_61 : xe_P d 200 61 ls (.int x :: st) h Q = (if x = 0 then xe_P d 200 64 ls st h Q else xe_P d 200 167 ls st h Q) := xe_P_ifn (ins := .ifCond .ne 106) (len := 3) (off := 106) (by decide +kernel) (by decide) rfl rfl rfl
theorem xs_200_64 : xe_P d 200 64 [.ref a, l1, l2, l3, l4, l5, l6] st h Q = xe_P d 200 65 [.ref a, l1, l2, l3, l4, l5, l6] (.ref a :: st) h Q := xe_P_lo (ins := .aload_n 0) (len := 1) (by decide +kernel) rfl rfl
theorem xs_200_65 : xe_P d 200 65 ls (.ref a :: st) h Q = (xe_ob h a 7 ∧ xe_P d 200 68 ls (va_rf (xe_R h a 37) :: st) h Q) := xe_P_getR (i := 76) (by decide +kernel) (by decide +kernel) (by decide) rfl
theorem xs_200_68 : xe_P d 200 68 [l0, .int x, l2, l3, l4, l5, l6] st h Q = xe_P d 200 69 [l0, .int x, l2, l3, l4, l5, l6] (.int x :: st) h Q := xe_P_lo (ins := .iload_n 1) (len := 1) (by decide +kernel) rfl rfl
theorem xs_200_69 : xe_P d 200 69 ls (.int v :: .ref a :: st) h Q = ((xe_ia h a ∧ xe_ix h a v) ∧ xe_P d 200 70 ls (.int (xe_I h a v.toNatClampNeg) :: st) h Q) := xe_P_iald (by decide +kernel)
theorem xs_200_70 : xe_P d 200 70 ls st h Q = xe_P d 200 72 ls (.int (-4) :: st) h Q := xe_P_ar (ins := .bipush (-4)) (len := 2) (by decide +kernel) rfl
theorem xs_200_72 : xe_P d 200 72 ls (.int v :: .int x :: st) h Q = (if x = v then xe_P d 200 75 ls st h Q else xe_P d 200 79 ls st h Q) := xe_P_ifn (ins := .if_icmp .ne 7) (len := 3) (off := 7) (by decide +kernel) (by decide) rfl rfl rfl
theorem xs_200_75 : xe_P d 200 75 ls st h Q = xe_P d 200 76 ls (.int 1 :: st) h Q := xe_P_ar (ins := .iconst 1) (len := 1) (by decide +kernel) rfl
theorem xs_200_76 : xe_P d 200 76 ls st h Q = xe_P d 200 120 ls st h Q := xe_P_go (len := 3) (off := 44) (by decide +kernel) (by decide)
theorem xs_200_79 : xe_P d 200 79 [.ref a, l1, l2, l3, l4, l5, l6] st h Q = xe_P d 200 80 [.ref a, l1, l2, l3, l4, l5, l6] (.ref a :: st) h Q := xe_P_lo (ins := .aload_n 0) (len := 1) (by decide +kernel) rfl rfl
theorem xs_200_80 : xe_P d 200 80 ls (.ref a :: st) h Q = (xe_ob h a 7 ∧ xe_P d 200 83 ls (va_rf (xe_R h a 37) :: st) h Q) := xe_P_getR (i := 76) (by decide +kernel) (by decide +kernel) (by decide) rfl
theorem xs_200_83 : xe_P d 200 83 [l0, .int x, l2, l3, l4, l5, l6] st h Q = xe_P d 200 84 [l0, .int x, l2, l3, l4, l5, l6] (.int x :: st) h Q := xe_P_lo (ins := .iload_n 1) (len := 1) (by decide +kernel) rfl rfl
theorem xs_200_84 : xe_P d 200 84 ls (.int v :: .ref a :: st) h Q = ((xe_ia h a ∧ xe_ix h a v) ∧ xe_P d 200 85 ls (.int (xe_I h a v.toNatClampNeg) :: st) h Q) := xe_P_iald (by decide +kernel)
theorem xs_200_85 : xe_P d 200 85 [l0, l1, .int x, l3, l4, l5, l6] st h Q = xe_P d 200 86 [l0, l1, .int x, l3, l4, l5, l6] (.int x :: st) h Q := xe_P_lo (ins := .iload_n 2) (len := 1) (by decide +kernel) rfl rfl
theorem xs_200_86 : xe_P d 200 86 ls (.int v :: .int x :: st) h Q = (if x = v then xe_P d 200 93 ls st h Q else xe_P d 200 89 ls st h Q) := xe_P_if (ins := .if_icmp .eq 7) (len := 3) (off := 7) (by decide +kernel) (by decide) rfl rfl rfl
theorem xs_200_89 : xe_P d 200 89 ls st h Q = xe_P d 200 90 ls (.int 3 :: st) h Q := xe_P_ar (ins := .iconst 3) (len := 1) (by decide +kernel) rfl
theorem xs_200_90 : xe_P d 200 90 ls st h Q = xe_P d 200 120 ls st h Q := xe_P_go (len := 3) (off := 30) (by decide +kernel) (by decide)
theorem xs_200_93 : xe_P d 200 93 [l0, l1, l2, .int x, l4, l5, l6] st h Q = xe_P d 200 94 [l0, l1, l2, .int x, l4, l5, l6] (.int x :: st) h Q := xe_P_lo (ins := .iload_n 3) (len := 1) (by decide +kernel) rfl rfl
theorem xs_200_94 : xe_P d 200 94 ls (.int x :: st) h Q = xe_P d 200 95 ls (.long x.toInt64 :: st) h Q := xe_P_ar (ins := .i2l) (len := 1) (by decide +kernel) rfl
theorem xs_200_95 : xe_P d 200 95 [l0, l1, l2, l3, l4, l5, .int x] st h Q = xe_P d 200 97 [l0, l1, l2, l3, l4, l5, .int x] (.int x :: st) h Q := xe_P_lo (ins := .iload 6) (len := 2) (by decide +kernel) rfl rfl
theorem xs_200_97 : xe_P d 200 97 ls (.int x :: st) h Q = xe_P d 200 98 ls (.long x.toInt64 :: st) h Q := xe_P_ar (ins := .i2l) (len := 1) (by decide +kernel) rfl
theorem xs_200_98 : xe_P d 200 98 ls (.long u :: .long w :: st) h Q = xe_P d 200 99 ls (.long (w + u) :: st) h Q := xe_P_ar (ins := .ladd) (len := 1) (by decide +kernel) rfl
theorem xs_200_99 : xe_P d 200 99 ls st h Q = xe_P d 200 100 ls (.long 0 :: st) h Q := xe_P_ar (ins := .lconst 0) (len := 1) (by decide +kernel) rfl
theorem xs_200_100 : xe_P d 200 100 [.ref a, l1, l2, l3, l4, l5, l6] st h Q = xe_P d 200 101 [.ref a, l1, l2, l3, l4, l5, l6] (.ref a :: st) h Q := xe_P_lo (ins := .aload_n 0) (len := 1) (by decide +kernel) rfl rfl
theorem xs_200_101 : xe_P d 200 101 ls (.ref a :: st) h Q = (xe_ob h a 7 ∧ xe_P d 200 104 ls (va_rf (xe_R h a 38) :: st) h Q) := xe_P_getR (i := 79) (by decide +kernel) (by decide +kernel) (by decide) rfl
theorem xs_200_104 : xe_P d 200 104 [l0, .int x, l2, l3, l4, l5, l6] st h Q = xe_P d 200 105 [l0, .int x, l2, l3, l4, l5, l6] (.int x :: st) h Q := xe_P_lo (ins := .iload_n 1) (len := 1) (by decide +kernel) rfl rfl
theorem xs_200_105 : xe_P d 200 105 ls (.int v :: .ref a :: st) h Q = ((xe_ia h a ∧ xe_ix h a v) ∧ xe_P d 200 106 ls (.int (xe_I h a v.toNatClampNeg) :: st) h Q) := xe_P_iald (by decide +kernel)
theorem xs_200_106 : xe_P d 200 106 ls st h Q = xe_P d 200 107 ls (.int 1 :: st) h Q := xe_P_ar (ins := .iconst 1) (len := 1) (by decide +kernel) rfl
theorem xs_200_107 : xe_P d 200 107 ls (.int v :: .int x :: st) h Q = xe_P d 200 108 ls (.int (x - v) :: st) h Q := xe_P_ar (ins := .isub) (len := 1) (by decide +kernel) rfl
theorem xs_200_108 : xe_P d 200 108 ls (.int x :: st) h Q = xe_P d 200 109 ls (.long x.toInt64 :: st) h Q := xe_P_ar (ins := .i2l) (len := 1) (by decide +kernel) rfl
theorem xs_200_109 : xe_P d 200 109 ls (v2 :: v1 :: v0 :: st) h Q = (xe_w st ≤ 8 ∧ xe_C d 120 [v0, v1, v2] h (fun r h' => xe_P d 200 112 ls (r.toList ++ st) h' Q)) := xe_P_ivs (y := 200) (pc := 109) (z := 120) (i := 88) (vs := [v2, v1, v0]) (by decide +kernel) (by decide +kernel) rfl
theorem xs_200_112 : xe_P d 200 112 ls (.int x :: st) h Q = (if x = 0 then xe_P d 200 115 ls st h Q else xe_P d 200 119 ls st h Q) := xe_P_ifn (ins := .ifCond .ne 7) (len := 3) (off := 7) (by decide +kernel) (by decide) rfl rfl rfl
theorem xs_200_115 : xe_P d 200 115 ls st h Q = xe_P d 200 116 ls (.int 2 :: st) h Q := xe_P_ar (ins := .iconst 2) (len := 1) (by decide +kernel) rfl
theorem xs_200_116 : xe_P d 200 116 ls st h Q = xe_P d 200 120 ls st h Q := xe_P_go (len := 3) (off := 4) (by decide +kernel) (by decide)
theorem xs_200_119 : xe_P d 200 119 ls st h Q = xe_P d 200 120 ls (.int 0 :: st) h Q := xe_P_ar (ins := .iconst 0) (len := 1) (by decide +kernel) rfl
theorem xs_200_120 : xe_P d 200 120 [l0, l1, l2, l3, l4, l5, l6] (.int x :: st) h Q = xe_P d 200 122 [l0, l1, l2, l3, xe_cut l4, .int x, l6] st h Q := xe_P_lo (ins := .istore 5) (len := 2) (by decide +kernel) rfl rfl
theorem xs_200_122 : xe_P d 200 122 [l0, l1, l2, l3, l4, .int x, l6] st h Q = xe_P d 200 124 [l0, l1, l2, l3, l4, .int x, l6] (.int x :: st) h Q := xe_P_lo (ins := .iload 5) (len := 2) (by decide +kernel) rfl rfl
theorem xs_200_124 : xe_P d 200 124 ls (.int x :: st) h Q = (if x = 0 then xe_P d 200 127 ls st h Q else xe_P d 200 52 ls st h Q) := xe_P_ifn (ins := .ifCond .ne (-72)) (len := 3) (off := (-72)) (by decide +kernel) (by decide) rfl rfl rfl
theorem xs_200_127 : xe_P d 200 127 [.ref a, l1, l2, l3, l4, l5, l6] st h Q = xe_P d 200 128 [.ref a, l1, l2, l3, l4, l5, l6] (.ref a :: st) h Q := xe_P_lo (ins := .aload_n 0) (len := 1) (by decide +kernel) rfl rfl
theorem xs_200_128 : xe_P d 200 128 [.ref a, l1, l2, l3, l4, l5, l6] st h Q = xe_P d 200 129 [.ref a, l1, l2, l3, l4, l5, l6] (.ref a :: st) h Q := xe_P_lo (ins := .aload_n 0) (len := 1) (by decide +kernel) rfl rfl
theorem xs_200_129 : xe_P d 200 129 ls (.ref a :: st) h Q = (xe_ob h a 7 ∧ xe_P d 200 132 ls (va_rf (xe_R h a 39) :: st) h Q) := xe_P_getR (i := 82) (by decide +kernel) (by decide +kernel) (by decide) rfl
theorem xs_200_132 : xe_P d 200 132 ls st h Q = xe_P d 200 134 ls (.int 40 :: st) h Q := xe_P_ar (ins := .bipush 40) (len := 2) (by decide +kernel) rfl
theorem xs_200_134 : xe_P d 200 134 [l0, .int x, l2, l3, l4, l5, l6] st h Q = xe_P d 200 135 [l0, .int x, l2, l3, l4, l5, l6] (.int x :: st) h Q := xe_P_lo (ins := .iload_n 1) (len := 1) (by decide +kernel) rfl rfl
theorem xs_200_135 : xe_P d 200 135 ls (.int v :: .int x :: st) h Q = xe_P d 200 136 ls (.int (x * v) :: st) h Q := xe_P_ar (ins := .imul) (len := 1) (by decide +kernel) rfl
theorem xs_200_136 : xe_P d 200 136 [l0, l1, l2, .int x, l4, l5, l6] st h Q = xe_P d 200 137 [l0, l1, l2, .int x, l4, l5, l6] (.int x :: st) h Q := xe_P_lo (ins := .iload_n 3) (len := 1) (by decide +kernel) rfl rfl
theorem xs_200_137 : xe_P d 200 137 ls (.int v :: .int x :: st) h Q = xe_P d 200 138 ls (.int (x + v) :: st) h Q := xe_P_ar (ins := .iadd) (len := 1) (by decide +kernel) rfl
theorem xs_200_138 : xe_P d 200 138 [l0, l1, l2, l3, l4, l5, .int x] st h Q = xe_P d 200 140 [l0, l1, l2, l3, l4, l5, .int x] (.int x :: st) h Q := xe_P_lo (ins := .iload 6) (len := 2) (by decide +kernel) rfl rfl
theorem xs_200_140 : xe_P d 200 140 ls (.int v :: .int x :: st) h Q = xe_P d 200 141 ls (.int (x + v) :: st) h Q := xe_P_ar (ins := .iadd) (len := 1) (by decide +kernel) rfl
theorem xs_200_141 : xe_P d 200 141 ls (.int v :: .ref a :: st) h Q = ((xe_ia h a ∧ xe_ix h a v) ∧ xe_P d 200 142 ls (.int (xe_I h a v.toNatClampNeg) :: st) h Q) := xe_P_iald (by decide +kernel)
theorem xs_200_142 : xe_P d 200 142 ls (v0 :: .ref a :: st) h Q = ((xe_w st ≤ 8 ∧ xe_ob h a 7) ∧ xe_C d 159 [.ref a, v0] h (fun r h' => xe_P d 200 145 ls (r.toList ++ st) h' Q)) := xe_P_ivv (y := 200) (pc := 142) (z := 159) (i := 226) (vs := [v0]) (by decide +kernel) (by decide +kernel) rfl (by decide +kernel)
theorem xs_200_145 : xe_P d 200 145 ls (.int x :: st) h Q = (if x = 0 then xe_P d 200 161 ls st h Q else xe_P d 200 148 ls st h Q) := xe_P_if (ins := .ifCond .eq 16) (len := 3) (off := 16) (by decide +kernel) (by decide) rfl rfl rfl
theorem xs_200_148 : xe_P d 200 148 [.ref a, l1, l2, l3, l4, l5, l6] st h Q = xe_P d 200 149 [.ref a, l1, l2, l3, l4, l5, l6] (.ref a :: st) h Q := xe_P_lo (ins := .aload_n 0) (len := 1) (by decide +kernel) rfl rfl
theorem xs_200_149 : xe_P d 200 149 ls st h Q = xe_P d 200 151 ls (.int 105 :: st) h Q := xe_P_ar (ins := .bipush 105) (len := 2) (by decide +kernel) rfl
theorem xs_200_151 : xe_P d 200 151 ls st h Q = xe_P d 200 152 ls (.int 0 :: st) h Q := xe_P_ar (ins := .iconst 0) (len := 1) (by decide +kernel) rfl
theorem xs_200_152 : xe_P d 200 152 ls (v1 :: v0 :: .ref a :: st) h Q = ((xe_w st ≤ 8 ∧ xe_ob h a 7) ∧ xe_C d 195 [.ref a, v0, v1] h (fun r h' => xe_P d 200 155 ls (r.toList ++ st) h' Q)) := xe_P_ivv (y := 200) (pc := 152) (z := 195) (i := 320) (vs := [v1, v0]) (by decide +kernel) (by decide +kernel) rfl (by decide +kernel)
theorem xs_200_155 : xe_P d 200 155 ls st h Q = xe_P d 200 157 ls (.int (-20) :: st) h Q := xe_P_ar (ins := .bipush (-20)) (len := 2) (by decide +kernel) rfl
theorem xs_200_157 : xe_P d 200 157 [l0, l1, l2, l3, l4, l5, .int x] st h Q = xe_P d 200 159 [l0, l1, l2, l3, l4, l5, .int x] (.int x :: st) h Q := xe_P_lo (ins := .iload 6) (len := 2) (by decide +kernel) rfl rfl
theorem xs_200_159 : xe_P d 200 159 ls (.int v :: .int x :: st) h Q = xe_P d 200 160 ls (.int (x - v) :: st) h Q := xe_P_ar (ins := .isub) (len := 1) (by decide +kernel) rfl
theorem xs_200_160 : xe_P d 200 160 ls [.int x] h Q = Q (some (.int x)) h := xe_P_ireturn (by decide +kernel) rfl
theorem xs_200_161 : xe_P d 200 161 [l0, l1, l2, l3, l4, l5, .int x] st h Q = xe_P d 200 164 [l0, l1, l2, l3, l4, xe_cut l5, .int (x + 1)] st h Q := xe_P_lo (ins := .iinc 6 1) (len := 3) (by decide +kernel) rfl rfl
theorem xs_200_164 : xe_P d 200 164 ls st h Q = xe_P d 200 52 ls st h Q := xe_P_go (len := 3) (off := (-112)) (by decide +kernel) (by decide)
theorem xs_200_167 : xe_P d 200 167 [.ref a, l1, l2, l3, l4, l5, l6] st h Q = xe_P d 200 168 [.ref a, l1, l2, l3, l4, l5, l6] (.ref a :: st) h Q := xe_P_lo (ins := .aload_n 0) (len := 1) (by decide +kernel) rfl rfl
theorem xs_200_168 : xe_P d 200 168 [l0, l1, l2, l3, l4, .int x, l6] st h Q = xe_P d 200 170 [l0, l1, l2, l3, l4, .int x, l6] (.int x :: st) h Q := xe_P_lo (ins := .iload 5) (len := 2) (by decide +kernel) rfl rfl
theorem xs_200_170 : xe_P d 200 170 ls (.int v :: .ref a :: st) h Q = (xe_ob h a 7 ∧ xe_P d 200 173 ls st (xe_sI h a 40 v) Q) := xe_P_putI (i := 326) (by decide +kernel) (by decide +kernel) (by decide) (by decide +kernel) rfl
theorem xs_200_173 : xe_P d 200 173 [l0, l1, l2, l3, l4, l5, .int x] st h Q = xe_P d 200 175 [l0, l1, l2, l3, l4, l5, .int x] (.int x :: st) h Q := xe_P_lo (ins := .iload 6) (len := 2) (by decide +kernel) rfl rfl
theorem xs_200_175 : xe_P d 200 175 ls [.int x] h Q = Q (some (.int x)) h := xe_P_ireturn (by decide +kernel) rfl
theorem xs_200 : xe_C (d + 1) 200 [.ref a, .int x0, .int x1, .int x2, .int x3] h Q = xe_P d 200 0 [.ref a, .int x0, .int x1, .int x2, .int x3, .retAddr 0, .retAddr 0] [] h Q := xe_C_at (Nat.le_of_ble_eq_true rfl) rfl
theorem xs_201_0 : xe_P d 201 0 [.ref a] st h Q = xe_P d 201 1 [.ref a] (.ref a :: st) h Q := xe_P_lo (ins := .aload_n 0) (len := 1) (by decide +kernel) rfl rfl
theorem xs_201_1 : xe_P d 201 1 ls (.ref a :: st) h Q = (xe_ob h a 7 ∧ xe_P d 201 4 ls (.int (xe_I h a 40) :: st) h Q) := xe_P_getI (i := 326) (by decide +kernel) (by decide +kernel) (by decide) rfl
theorem xs_201_4 : xe_P d 201 4 ls [.int x] h Q = Q (some (.int x)) h := xe_P_ireturn (by decide +kernel) rfl
theorem xs_201 : xe_C (d + 1) 201 [.ref a] h Q = xe_P d 201 0 [.ref a] [] h Q := xe_C_at (Nat.le_of_ble_eq_true rfl) rfl
theorem xs_202_0 : xe_P d 202 0 ls st h Q = xe_P d 202 1 ls (.int 0 :: st) h Q := xe_P_ar (ins := .iconst 0) (len := 1) (by decide +kernel) rfl
theorem xs_202_1 : xe_P d 202 1 [l0, l1, l2, l3, l4] (.int x :: st) h Q = xe_P d 202 2 [l0, xe_cut l1, .int x, l3, l4] st h Q := xe_P_lo (ins := .istore_n 2) (len := 1) (by decide +kernel) rfl rfl
theorem xs_202_2 : xe_P d 202 2 ls st h Q = xe_P d 202 3 ls (.int 0 :: st) h Q := xe_P_ar (ins := .iconst 0) (len := 1) (by decide +kernel) rfl
theorem xs_202_3 : xe_P d 202 3 [l0, l1, l2, l3, l4] (.int x :: st) h Q = xe_P d 202 4 [l0, l1, xe_cut l2, .int x, l4] st h Q := xe_P_lo (ins := .istore_n 3) (len := 1) (by decide +kernel) rfl rfl
theorem xs_202_4 : xe_P d 202 4 ls st h Q = xe_P d 202 5 ls (.int 0 :: st) h Q := xe_P_ar (ins := .iconst 0) (len := 1) (by decide +kernel) rfl
theorem xs_202_5 : xe_P d 202 5 [l0, l1, l2, l3, l4] (.int x :: st) h Q = xe_P d 202 7 [l0, l1, l2, xe_cut l3, .int x] st h Q := xe_P_lo (ins := .istore 4) (len := 2) (by decide +kernel) rfl rfl
theorem xs_202_7 : xe_P d 202 7 [l0, l1, l2, l3, .int x] st h Q = xe_P d 202 9 [l0, l1, l2, l3, .int x] (.int x :: st) h Q := xe_P_lo (ins := .iload 4) (len := 2) (by decide +kernel) rfl rfl
theorem xs_202_9 : xe_P d 202 9 [.ref a, l1, l2, l3, l4] st h Q = xe_P d 202 10 [.ref a, l1, l2, l3, l4] (.ref a :: st) h Q := xe_P_lo (ins := .aload_n 0) (len := 1) (by decide +kernel) rfl rfl
theorem xs_202_10 : xe_P d 202 10 ls (.ref a :: st) h Q = ((xe_w st ≤ 8 ∧ xe_ob h a 7) ∧ xe_C d 136 [.ref a] h (fun r h' => xe_P d 202 13 ls (r.toList ++ st) h' Q)) := xe_P_ivv (y := 202) (pc := 10) (z := 136) (i := 181) (vs := []) (by decide +kernel) (by decide +kernel) rfl (by decide +kernel)
theorem xs_202_13 : xe_P d 202 13 ls (.int v :: .int x :: st) h Q = (if v ≤ x then xe_P d 202 44 ls st h Q else xe_P d 202 16 ls st h Q) := xe_P_if (ins := .if_icmp .ge 31) (len := 3) (off := 31) (by decide +kernel) (by decide) rfl rfl rfl
theorem xs_202_16 : xe_P d 202 16 [l0, l1, .int x, l3, l4] st h Q = xe_P d 202 17 [l0, l1, .int x, l3, l4] (.int x :: st) h Q := xe_P_lo (ins := .iload_n 2) (len := 1) (by decide +kernel) rfl rfl
theorem xs_202_17 : xe_P d 202 17 [.ref a, l1, l2, l3, l4] st h Q = xe_P d 202 18 [.ref a, l1, l2, l3, l4] (.ref a :: st) h Q := xe_P_lo (ins := .aload_n 0) (len := 1) (by decide +kernel) rfl rfl
theorem xs_202_18 : xe_P d 202 18 ls (.ref a :: st) h Q = (xe_ob h a 7 ∧ xe_P d 202 21 ls (va_rf (xe_R h a 0) :: st) h Q) := xe_P_getR (i := 7) (by decide +kernel) (by decide +kernel) (by decide) rfl
theorem xs_202_21 : xe_P d 202 21 ls st h Q = xe_P d 202 22 ls (.int 4 :: st) h Q := xe_P_ar (ins := .iconst 4) (len := 1) (by decide +kernel) rfl
theorem xs_202_22 : xe_P d 202 22 [l0, l1, l2, l3, .int x] st h Q = xe_P d 202 24 [l0, l1, l2, l3, .int x] (.int x :: st) h Q := xe_P_lo (ins := .iload 4) (len := 2) (by decide +kernel) rfl rfl
theorem xs_202_24 : xe_P d 202 24 ls (.int v :: .int x :: st) h Q = xe_P d 202 25 ls (.int (x * v) :: st) h Q := xe_P_ar (ins := .imul) (len := 1) (by decide +kernel) rfl
theorem xs_202_25 : xe_P d 202 25 ls st h Q = xe_P d 202 26 ls (.int 3 :: st) h Q := xe_P_ar (ins := .iconst 3) (len := 1) (by decide +kernel) rfl
theorem xs_202_26 : xe_P d 202 26 ls (.int v :: .int x :: st) h Q = xe_P d 202 27 ls (.int (x + v) :: st) h Q := xe_P_ar (ins := .iadd) (len := 1) (by decide +kernel) rfl
theorem xs_202_27 : xe_P d 202 27 ls (.int v :: .ref a :: st) h Q = ((xe_ia h a ∧ xe_ix h a v) ∧ xe_P d 202 28 ls (.int (xe_I h a v.toNatClampNeg) :: st) h Q) := xe_P_iald (by decide +kernel)
theorem xs_202_28 : xe_P d 202 28 ls (.int x :: st) h Q = (if x = 0 then xe_P d 202 31 ls st h Q else xe_P d 202 35 ls st h Q) := xe_P_ifn (ins := .ifCond .ne 7) (len := 3) (off := 7) (by decide +kernel) (by decide) rfl rfl rfl
theorem xs_202_31 : xe_P d 202 31 ls st h Q = xe_P d 202 32 ls (.int 1 :: st) h Q := xe_P_ar (ins := .iconst 1) (len := 1) (by decide +kernel) rfl
theorem xs_202_32 : xe_P d 202 32 ls st h Q = xe_P d 202 36 ls st h Q := xe_P_go (len := 3) (off := 4) (by decide +kernel) (by decide)
theorem xs_202_35 : xe_P d 202 35 ls st h Q = xe_P d 202 36 ls (.int 0 :: st) h Q := xe_P_ar (ins := .iconst 0) (len := 1) (by decide +kernel) rfl
theorem xs_202_36 : xe_P d 202 36 ls (.int v :: .int x :: st) h Q = xe_P d 202 37 ls (.int (x + v) :: st) h Q := xe_P_ar (ins := .iadd) (len := 1) (by decide +kernel) rfl
theorem xs_202_37 : xe_P d 202 37 [l0, l1, l2, l3, l4] (.int x :: st) h Q = xe_P d 202 38 [l0, xe_cut l1, .int x, l3, l4] st h Q := xe_P_lo (ins := .istore_n 2) (len := 1) (by decide +kernel) rfl rfl
theorem xs_202_38 : xe_P d 202 38 [l0, l1, l2, l3, .int x] st h Q = xe_P d 202 41 [l0, l1, l2, xe_cut l3, .int (x + 1)] st h Q := xe_P_lo (ins := .iinc 4 1) (len := 3) (by decide +kernel) rfl rfl
theorem xs_202_41 : xe_P d 202 41 ls st h Q = xe_P d 202 7 ls st h Q := xe_P_go (len := 3) (off := (-34)) (by decide +kernel) (by decide)
theorem xs_202_44 : xe_P d 202 44 ls st h Q = xe_P d 202 45 ls (.int 0 :: st) h Q := xe_P_ar (ins := .iconst 0) (len := 1) (by decide +kernel) rfl
theorem xs_202_45 : xe_P d 202 45 [l0, l1, l2, l3, l4] (.int x :: st) h Q = xe_P d 202 47 [l0, l1, l2, xe_cut l3, .int x] st h Q := xe_P_lo (ins := .istore 4) (len := 2) (by decide +kernel) rfl rfl
theorem xs_202_47 : xe_P d 202 47 [l0, l1, l2, l3, .int x] st h Q = xe_P d 202 49 [l0, l1, l2, l3, .int x] (.int x :: st) h Q := xe_P_lo (ins := .iload 4) (len := 2) (by decide +kernel) rfl rfl
theorem xs_202_49 : xe_P d 202 49 [.ref a, l1, l2, l3, l4] st h Q = xe_P d 202 50 [.ref a, l1, l2, l3, l4] (.ref a :: st) h Q := xe_P_lo (ins := .aload_n 0) (len := 1) (by decide +kernel) rfl rfl
theorem xs_202_50 : xe_P d 202 50 ls (.ref a :: st) h Q = (xe_ob h a 7 ∧ xe_P d 202 53 ls (va_rf (xe_R h a 0) :: st) h Q) := xe_P_getR (i := 7) (by decide +kernel) (by decide +kernel) (by decide) rfl
theorem xs_202_53 : xe_P d 202 53 ls st h Q = xe_P d 202 55 ls (.int 31 :: st) h Q := xe_P_ar (ins := .bipush 31) (len := 2) (by decide +kernel) rfl
theorem xs_202_55 : xe_P d 202 55 ls (.int v :: .ref a :: st) h Q = ((xe_ia h a ∧ xe_ix h a v) ∧ xe_P d 202 56 ls (.int (xe_I h a v.toNatClampNeg) :: st) h Q) := xe_P_iald (by decide +kernel)
theorem xs_202_56 : xe_P d 202 56 ls (.int v :: .int x :: st) h Q = (if v ≤ x then xe_P d 202 88 ls st h Q else xe_P d 202 59 ls st h Q) := xe_P_if (ins := .if_icmp .ge 32) (len := 3) (off := 32) (by decide +kernel) (by decide) rfl rfl rfl
theorem xs_202_59 : xe_P d 202 59 [l0, l1, l2, .int x, l4] st h Q = xe_P d 202 60 [l0, l1, l2, .int x, l4] (.int x :: st) h Q := xe_P_lo (ins := .iload_n 3) (len := 1) (by decide +kernel) rfl rfl
theorem xs_202_60 : xe_P d 202 60 [.ref a, l1, l2, l3, l4] st h Q = xe_P d 202 61 [.ref a, l1, l2, l3, l4] (.ref a :: st) h Q := xe_P_lo (ins := .aload_n 0) (len := 1) (by decide +kernel) rfl rfl
theorem xs_202_61 : xe_P d 202 61 [l0, l1, l2, l3, .int x] st h Q = xe_P d 202 63 [l0, l1, l2, l3, .int x] (.int x :: st) h Q := xe_P_lo (ins := .iload 4) (len := 2) (by decide +kernel) rfl rfl
theorem xs_202_63 : xe_P d 202 63 ls (v0 :: .ref a :: st) h Q = ((xe_w st ≤ 8 ∧ xe_ob h a 7) ∧ xe_C d 140 [.ref a, v0] h (fun r h' => xe_P d 202 66 ls (r.toList ++ st) h' Q)) := xe_P_ivv (y := 202) (pc := 63) (z := 140) (i := 212) (vs := [v0]) (by decide +kernel) (by decide +kernel) rfl (by decide +kernel)
theorem xs_202_66 : xe_P d 202 66 [.ref a, l1, l2, l3, l4] st h Q = xe_P d 202 67 [.ref a, l1, l2, l3, l4] (.ref a :: st) h Q := xe_P_lo (ins := .aload_n 0) (len := 1) (by decide +kernel) rfl rfl
theorem xs_202_67 : xe_P d 202 67 [l0, l1, l2, l3, .int x] st h Q = xe_P d 202 69 [l0, l1, l2, l3, .int x] (.int x :: st) h Q := xe_P_lo (ins := .iload 4) (len := 2) (by decide +kernel) rfl rfl
theorem xs_202_69 : xe_P d 202 69 ls (v0 :: .ref a :: st) h Q = ((xe_w st ≤ 8 ∧ xe_ob h a 7) ∧ xe_C d 141 [.ref a, v0] h (fun r h' => xe_P d 202 72 ls (r.toList ++ st) h' Q)) := xe_P_ivv (y := 202) (pc := 69) (z := 141) (i := 215) (vs := [v0]) (by decide +kernel) (by decide +kernel) rfl (by decide +kernel)
theorem xs_202_72 : xe_P d 202 72 ls (.int v :: .int x :: st) h Q = (if x = v then xe_P d 202 75 ls st h Q else xe_P d 202 79 ls st h Q) := xe_P_ifn (ins := .if_icmp .ne 7) (len := 3) (off := 7) (by decide +kernel) (by decide) rfl rfl rfl
theorem xs_202_75 : xe_P d 202 75 ls st h Q = xe_P d 202 76 ls (.int 1 :: st) h Q := xe_P_ar (ins := .iconst 1) (len := 1) (by decide +kernel) rfl
theorem xs_202_76 : xe_P d 202 76 ls st h Q = xe_P d 202 80 ls st h Q := xe_P_go (len := 3) (off := 4) (by decide +kernel) (by decide)
theorem xs_202_79 : xe_P d 202 79 ls st h Q = xe_P d 202 80 ls (.int 0 :: st) h Q := xe_P_ar (ins := .iconst 0) (len := 1) (by decide +kernel) rfl
theorem xs_202_80 : xe_P d 202 80 ls (.int v :: .int x :: st) h Q = xe_P d 202 81 ls (.int (x + v) :: st) h Q := xe_P_ar (ins := .iadd) (len := 1) (by decide +kernel) rfl
theorem xs_202_81 : xe_P d 202 81 [l0, l1, l2, l3, l4] (.int x :: st) h Q = xe_P d 202 82 [l0, l1, xe_cut l2, .int x, l4] st h Q := xe_P_lo (ins := .istore_n 3) (len := 1) (by decide +kernel) rfl rfl
theorem xs_202_82 : xe_P d 202 82 [l0, l1, l2, l3, .int x] st h Q = xe_P d 202 85 [l0, l1, l2, xe_cut l3, .int (x + 1)] st h Q := xe_P_lo (ins := .iinc 4 1) (len := 3) (by decide +kernel) rfl rfl
theorem xs_202_85 : xe_P d 202 85 ls st h Q = xe_P d 202 47 ls st h Q := xe_P_go (len := 3) (off := (-38)) (by decide +kernel) (by decide)
theorem xs_202_88 : xe_P d 202 88 [l0, .int x, l2, l3, l4] st h Q = xe_P d 202 89 [l0, .int x, l2, l3, l4] (.int x :: st) h Q := xe_P_lo (ins := .iload_n 1) (len := 1) (by decide +kernel) rfl rfl
theorem xs_202_89 : xe_P d 202 89 ls (.int x :: st) h Q = (if x = 0 then xe_P d 202 128 ls st h Q else (if x = 1 then xe_P d 202 130 ls st h Q else (if x = 2 then xe_P d 202 132 ls st h Q else (if x = 3 then xe_P d 202 137 ls st h Q else (if x = 4 then xe_P d 202 167 ls st h Q else (if x = 5 then xe_P d 202 172 ls st h Q else xe_P d 202 195 ls st h Q)))))) := (xe_P_sw (dflt := 106) (hi := 5) (offs := #[39, 41, 43, 48, 78, 83]) (len := 39) (by decide +kernel) (by decide) (by decide)).trans rfl
theorem xs_202_128 : xe_P d 202 128 [l0, l1, .int x, l3, l4] st h Q = xe_P d 202 129 [l0, l1, .int x, l3, l4] (.int x :: st) h Q := xe_P_lo (ins := .iload_n 2) (len := 1) (by decide +kernel) rfl rfl
theorem xs_202_129 : xe_P d 202 129 ls [.int x] h Q = Q (some (.int x)) h := xe_P_ireturn (by decide +kernel) rfl
theorem xs_202_130 : xe_P d 202 130 [l0, l1, l2, .int x, l4] st h Q = xe_P d 202 131 [l0, l1, l2, .int x, l4] (.int x :: st) h Q := xe_P_lo (ins := .iload_n 3) (len := 1) (by decide +kernel) rfl rfl
theorem xs_202_131 : xe_P d 202 131 ls [.int x] h Q = Q (some (.int x)) h := xe_P_ireturn (by decide +kernel) rfl
theorem xs_202_132 : xe_P d 202 132 [.ref a, l1, l2, l3, l4] st h Q = xe_P d 202 133 [.ref a, l1, l2, l3, l4] (.ref a :: st) h Q := xe_P_lo (ins := .aload_n 0) (len := 1) (by decide +kernel) rfl rfl
theorem xs_202_133 : xe_P d 202 133 ls (.ref a :: st) h Q = (xe_ob h a 7 ∧ xe_P d 202 136 ls (.int (xe_I h a 32) :: st) h Q) := xe_P_getI (i := 178) (by decide +kernel) (by decide +kernel) (by decide) rfl
theorem xs_202_136 : xe_P d 202 136 ls [.int x] h Q = Q (some (.int x)) h := xe_P_ireturn (by decide +kernel) rfl
theorem xs_202_137 : xe_P d 202 137 [.ref a, l1, l2, l3, l4] st h Q = xe_P d 202 138 [.ref a, l1, l2, l3, l4] (.ref a :: st) h Q := xe_P_lo (ins := .aload_n 0) (len := 1) (by decide +kernel) rfl rfl
theorem xs_202_138 : xe_P d 202 138 ls (.ref a :: st) h Q = (xe_ob h a 7 ∧ xe_P d 202 141 ls (va_rf (xe_R h a 36) :: st) h Q) := xe_P_getR (i := 72) (by decide +kernel) (by decide +kernel) (by decide) rfl
theorem xs_202_141 : xe_P d 202 141 ls st h Q = xe_P d 202 142 ls (.int 0 :: st) h Q := xe_P_ar (ins := .iconst 0) (len := 1) (by decide +kernel) rfl
theorem xs_202_142 : xe_P d 202 142 ls (.int v :: .ref a :: st) h Q = ((xe_ba h a ∧ xe_ix h a v) ∧ xe_P d 202 143 ls (.int (xe_I h a v.toNatClampNeg) :: st) h Q) := xe_P_bald (by decide +kernel)
theorem xs_202_143 : xe_P d 202 143 ls (.int x :: st) h Q = (if x = 0 then xe_P d 202 150 ls st h Q else xe_P d 202 146 ls st h Q) := xe_P_if (ins := .ifCond .eq 7) (len := 3) (off := 7) (by decide +kernel) (by decide) rfl rfl rfl
theorem xs_202_146 : xe_P d 202 146 ls st h Q = xe_P d 202 147 ls (.int 1 :: st) h Q := xe_P_ar (ins := .iconst 1) (len := 1) (by decide +kernel) rfl
theorem xs_202_147 : xe_P d 202 147 ls st h Q = xe_P d 202 151 ls st h Q := xe_P_go (len := 3) (off := 4) (by decide +kernel) (by decide)
theorem xs_202_150 : xe_P d 202 150 ls st h Q = xe_P d 202 151 ls (.int 0 :: st) h Q := xe_P_ar (ins := .iconst 0) (len := 1) (by decide +kernel) rfl
theorem xs_202_151 : xe_P d 202 151 [.ref a, l1, l2, l3, l4] st h Q = xe_P d 202 152 [.ref a, l1, l2, l3, l4] (.ref a :: st) h Q := xe_P_lo (ins := .aload_n 0) (len := 1) (by decide +kernel) rfl rfl
theorem xs_202_152 : xe_P d 202 152 ls (.ref a :: st) h Q = (xe_ob h a 7 ∧ xe_P d 202 155 ls (va_rf (xe_R h a 36) :: st) h Q) := xe_P_getR (i := 72) (by decide +kernel) (by decide +kernel) (by decide) rfl
theorem xs_202_155 : xe_P d 202 155 ls st h Q = xe_P d 202 156 ls (.int 1 :: st) h Q := xe_P_ar (ins := .iconst 1) (len := 1) (by decide +kernel) rfl
theorem xs_202_156 : xe_P d 202 156 ls (.int v :: .ref a :: st) h Q = ((xe_ba h a ∧ xe_ix h a v) ∧ xe_P d 202 157 ls (.int (xe_I h a v.toNatClampNeg) :: st) h Q) := xe_P_bald (by decide +kernel)
theorem xs_202_157 : xe_P d 202 157 ls (.int x :: st) h Q = (if x = 0 then xe_P d 202 164 ls st h Q else xe_P d 202 160 ls st h Q) := xe_P_if (ins := .ifCond .eq 7) (len := 3) (off := 7) (by decide +kernel) (by decide) rfl rfl rfl
theorem xs_202_160 : xe_P d 202 160 ls st h Q = xe_P d 202 161 ls (.int 1 :: st) h Q := xe_P_ar (ins := .iconst 1) (len := 1) (by decide +kernel) rfl
theorem xs_202_161 : xe_P d 202 161 ls st h Q = xe_P d 202 165 ls st h Q := xe_P_go (len := 3) (off := 4) (by decide +kernel) (by decide)
theorem xs_202_164 : xe_P d 202 164 ls st h Q = xe_P d 202 165 ls (.int 0 :: st) h Q := xe_P_ar (ins := .iconst 0) (len := 1) (by decide +kernel) rfl
theorem xs_202_165 : xe_P d 202 165 ls (.int v :: .int x :: st) h Q = xe_P d 202 166 ls (.int (x + v) :: st) h Q := xe_P_ar (ins := .iadd) (len := 1) (by decide +kernel) rfl
theorem xs_202_166 : xe_P d 202 166 ls [.int x] h Q = Q (some (.int x)) h := xe_P_ireturn (by decide +kernel) rfl
theorem xs_202_167 : xe_P d 202 167 [.ref a, l1, l2, l3, l4] st h Q = xe_P d 202 168 [.ref a, l1, l2, l3, l4] (.ref a :: st) h Q := xe_P_lo (ins := .aload_n 0) (len := 1) (by decide +kernel) rfl rfl
theorem xs_202_168 : xe_P d 202 168 ls (.ref a :: st) h Q = (xe_ob h a 7 ∧ xe_P d 202 171 ls (.int (xe_I h a 12) :: st) h Q) := xe_P_getI (i := 85) (by decide +kernel) (by decide +kernel) (by decide) rfl
theorem xs_202_171 : xe_P d 202 171 ls [.int x] h Q = Q (some (.int x)) h := xe_P_ireturn (by decide +kernel) rfl
theorem xs_202_172 : xe_P d 202 172 [.ref a, l1, l2, l3, l4] st h Q = xe_P d 202 173 [.ref a, l1, l2, l3, l4] (.ref a :: st) h Q := xe_P_lo (ins := .aload_n 0) (len := 1) (by decide +kernel) rfl rfl
theorem xs_202_173 : xe_P d 202 173 ls (.ref a :: st) h Q = (xe_ob h a 7 ∧ xe_P d 202 176 ls (va_rf (xe_R h a 37) :: st) h Q) := xe_P_getR (i := 76) (by decide +kernel) (by decide +kernel) (by decide) rfl
theorem xs_202_176 : xe_P d 202 176 ls st h Q = xe_P d 202 177 ls (.int 0 :: st) h Q := xe_P_ar (ins := .iconst 0) (len := 1) (by decide +kernel) rfl
theorem xs_202_177 : xe_P d 202 177 ls (.int v :: .ref a :: st) h Q = ((xe_ia h a ∧ xe_ix h a v) ∧ xe_P d 202 178 ls (.int (xe_I h a v.toNatClampNeg) :: st) h Q) := xe_P_iald (by decide +kernel)
theorem xs_202_178 : xe_P d 202 178 ls st h Q = xe_P d 202 180 ls (.int (-4) :: st) h Q := xe_P_ar (ins := .bipush (-4)) (len := 2) (by decide +kernel) rfl
theorem xs_202_180 : xe_P d 202 180 ls (.int v :: .int x :: st) h Q = (if x = v then xe_P d 202 183 ls st h Q else xe_P d 202 188 ls st h Q) := xe_P_ifn (ins := .if_icmp .ne 8) (len := 3) (off := 8) (by decide +kernel) (by decide) rfl rfl rfl
theorem xs_202_183 : xe_P d 202 183 ls st h Q = xe_P d 202 185 ls (.int (-4) :: st) h Q := xe_P_ar (ins := .bipush (-4)) (len := 2) (by decide +kernel) rfl
theorem xs_202_185 : xe_P d 202 185 ls st h Q = xe_P d 202 194 ls st h Q := xe_P_go (len := 3) (off := 9) (by decide +kernel) (by decide)
theorem xs_202_188 : xe_P d 202 188 [.ref a, l1, l2, l3, l4] st h Q = xe_P d 202 189 [.ref a, l1, l2, l3, l4] (.ref a :: st) h Q := xe_P_lo (ins := .aload_n 0) (len := 1) (by decide +kernel) rfl rfl
theorem xs_202_189 : xe_P d 202 189 ls (.ref a :: st) h Q = (xe_ob h a 7 ∧ xe_P d 202 192 ls (va_rf (xe_R h a 38) :: st) h Q) := xe_P_getR (i := 79) (by decide +kernel) (by decide +kernel) (by decide) rfl
theorem xs_202_192 : xe_P d 202 192 ls st h Q = xe_P d 202 193 ls (.int 0 :: st) h Q := xe_P_ar (ins := .iconst 0) (len := 1) (by decide +kernel) rfl
theorem xs_202_193 : xe_P d 202 193 ls (.int v :: .ref a :: st) h Q = ((xe_ia h a ∧ xe_ix h a v) ∧ xe_P d 202 194 ls (.int (xe_I h a v.toNatClampNeg) :: st) h Q) := xe_P_iald (by decide +kernel)
theorem xs_202_194 : xe_P d 202 194 ls [.int x] h Q = Q (some (.int x)) h := xe_P_ireturn (by decide +kernel) rfl
theorem xs_202_195 : xe_P d 202 195 ls st h Q = xe_P d 202 196 ls (.int (-1) :: st) h Q := xe_P_ar (ins := .iconst (-1)) (len := 1) (by decide +kernel) rfl
theorem xs_202_196 : xe_P d 202 196 ls [.int x] h Q = Q (some (.int x)) h := xe_P_ireturn (by decide +kernel) rfl
theorem xs_202 : xe_C (d + 1) 202 [.ref a, .int x0] h Q = xe_P d 202 0 [.ref a, .int x0, .retAddr 0, .retAddr 0, .retAddr 0] [] h Q := xe_C_at (Nat.le_of_ble_eq_true rfl) rfl
end XSX7f
