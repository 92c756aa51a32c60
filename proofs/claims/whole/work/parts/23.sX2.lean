section XSX2
variable {d : Nat} {l0 l1 l2 l3 l4 l5 l6 l7 l8 l9 l10 l11 v0 v1 v2 v3 v4 v5 : Value} {x v n x0 x1 x2 x3 x4 x5 : Int32} {w u w0 w1 w2 w3 : Int64} {a b a0 a1 a2 : Nat} {ls st : List Value} {h : xe_H} {Q : Option Value → xe_H → Prop}
theorem xs_20_0 : xe_P d 20 0 [.ref a] st h Q = xe_P d 20 1 [.ref a] (.ref a :: st) h Q := xe_P_lo (ins := .aload_n 0) (len := 1) (by decide +kernel) rfl rfl
theorem xs_20_1 : xe_P d 20 1 ls (.ref a :: st) h Q = ((a < xe_n h ∧ xe_n h ≤ xe_S ∧ xe_w st ≤ 8) ∧ xe_P d 20 4 ls st h Q) := xe_P_obj (i := 3) (by decide +kernel) (by decide +kernel) rfl
theorem xs_20_4 : xe_P d 20 4 [.ref a] st h Q = xe_P d 20 5 [.ref a] (.ref a :: st) h Q := xe_P_lo (ins := .aload_n 0) (len := 1) (by decide +kernel) rfl rfl
theorem xs_20_5 : xe_P d 20 5 ls st h Q = xe_P d 20 8 ls (.int 320 :: st) h Q := xe_P_ar (ins := .sipush 320) (len := 3) (by decide +kernel) rfl
theorem xs_20_8 : xe_P d 20 8 ls (.int v :: st) h Q = ((¬ v < 0 ∧ v.toNatClampNeg ≤ 200000 ∧ xe_n h < xe_S) ∧ xe_P d 20 10 ls (.ref (xe_n h) :: st) (xe_new h 10 v.toNatClampNeg) Q) := xe_P_newa (t := .byte) (by decide +kernel) (by decide)
theorem xs_20_10 : xe_P d 20 10 ls (.ref b :: .ref a :: st) h Q = ((xe_ob h a 2 ∧ b < xe_S) ∧ xe_P d 20 13 ls st (xe_sR h a 0 (some b)) Q) := xe_P_putR (i := 11) (by decide +kernel) (by decide +kernel) (by decide) (by decide +kernel) rfl
theorem xs_20_13 : xe_P d 20 13 ls [] h Q = Q none h := xe_P_vreturn (by decide +kernel) rfl
theorem xs_20 : xe_C (d + 1) 20 [.ref a] h Q = xe_P d 20 0 [.ref a] [] h Q := xe_C_at (Nat.le_of_ble_eq_true rfl) rfl
theorem xs_21_0 : xe_P d 21 0 [.ref a, l1, l2, l3] st h Q = xe_P d 21 1 [.ref a, l1, l2, l3] (.ref a :: st) h Q := xe_P_lo (ins := .aload_n 0) (len := 1) (by decide +kernel) rfl rfl
theorem xs_21_1 : xe_P d 21 1 ls (.ref a :: st) h Q = (xe_ob h a 2 ∧ xe_P d 21 4 ls (.int (xe_I h a 1) :: st) h Q) := xe_P_getI (i := 15) (by decide +kernel) (by decide +kernel) (by decide) rfl
theorem xs_21_4 : xe_P d 21 4 ls st h Q = xe_P d 21 6 ls (.int 8 :: st) h Q := xe_P_ar (ins := .bipush 8) (len := 2) (by decide +kernel) rfl
theorem xs_21_6 : xe_P d 21 6 ls (.int v :: .int x :: st) h Q = xe_P d 21 7 ls (.int (x + v) :: st) h Q := xe_P_ar (ins := .iadd) (len := 1) (by decide +kernel) rfl
theorem xs_21_7 : xe_P d 21 7 ls st h Q = xe_P d 21 10 ls (.int 320 :: st) h Q := xe_P_ar (ins := .sipush 320) (len := 3) (by decide +kernel) rfl
theorem xs_21_10 : xe_P d 21 10 ls (.int v :: .int x :: st) h Q = (if x ≤ v then xe_P d 21 16 ls st h Q else xe_P d 21 13 ls st h Q) := xe_P_if (ins := .if_icmp .le 6) (len := 3) (off := 6) (by decide +kernel) (by decide) rfl rfl rfl
theorem xs_21_13 : xe_P d 21 13 ls st h Q = xe_P d 21 15 ls (.int (-3) :: st) h Q := xe_P_ar (ins := .bipush (-3)) (len := 2) (by decide +kernel) rfl
theorem xs_21_15 : xe_P d 21 15 ls [.int x] h Q = Q (some (.int x)) h := xe_P_ireturn (by decide +kernel) rfl
theorem xs_21_16 : xe_P d 21 16 ls st h Q = xe_P d 21 17 ls (.int 0 :: st) h Q := xe_P_ar (ins := .iconst 0) (len := 1) (by decide +kernel) rfl
theorem xs_21_17 : xe_P d 21 17 [l0, l1, l2, l3] (.int x :: st) h Q = xe_P d 21 18 [l0, l1, xe_cut l2, .int x] st h Q := xe_P_lo (ins := .istore_n 3) (len := 1) (by decide +kernel) rfl rfl
theorem xs_21_18 : xe_P d 21 18 [l0, l1, l2, .int x] st h Q = xe_P d 21 19 [l0, l1, l2, .int x] (.int x :: st) h Q := xe_P_lo (ins := .iload_n 3) (len := 1) (by decide +kernel) rfl rfl
theorem xs_21_19 : xe_P d 21 19 ls st h Q = xe_P d 21 21 ls (.int 8 :: st) h Q := xe_P_ar (ins := .bipush 8) (len := 2) (by decide +kernel) rfl
theorem xs_21_21 : xe_P d 21 21 ls (.int v :: .int x :: st) h Q = (if v ≤ x then xe_P d 21 52 ls st h Q else xe_P d 21 24 ls st h Q) := xe_P_if (ins := .if_icmp .ge 31) (len := 3) (off := 31) (by decide +kernel) (by decide) rfl rfl rfl
theorem xs_21_24 : xe_P d 21 24 [.ref a, l1, l2, l3] st h Q = xe_P d 21 25 [.ref a, l1, l2, l3] (.ref a :: st) h Q := xe_P_lo (ins := .aload_n 0) (len := 1) (by decide +kernel) rfl rfl
theorem xs_21_25 : xe_P d 21 25 ls (.ref a :: st) h Q = (xe_ob h a 2 ∧ xe_P d 21 28 ls (va_rf (xe_R h a 0) :: st) h Q) := xe_P_getR (i := 11) (by decide +kernel) (by decide +kernel) (by decide) rfl
theorem xs_21_28 : xe_P d 21 28 [.ref a, l1, l2, l3] st h Q = xe_P d 21 29 [.ref a, l1, l2, l3] (.ref a :: st) h Q := xe_P_lo (ins := .aload_n 0) (len := 1) (by decide +kernel) rfl rfl
theorem xs_21_29 : xe_P d 21 29 ls (.ref a :: st) h Q = (xe_ob h a 2 ∧ xe_P d 21 32 ls (.int (xe_I h a 1) :: st) h Q) := xe_P_getI (i := 15) (by decide +kernel) (by decide +kernel) (by decide) rfl
theorem xs_21_32 : xe_P d 21 32 [l0, l1, l2, .int x] st h Q = xe_P d 21 33 [l0, l1, l2, .int x] (.int x :: st) h Q := xe_P_lo (ins := .iload_n 3) (len := 1) (by decide +kernel) rfl rfl
theorem xs_21_33 : xe_P d 21 33 ls (.int v :: .int x :: st) h Q = xe_P d 21 34 ls (.int (x + v) :: st) h Q := xe_P_ar (ins := .iadd) (len := 1) (by decide +kernel) rfl
theorem xs_21_34 : xe_P d 21 34 [l0, .long w, l2, l3] st h Q = xe_P d 21 35 [l0, .long w, l2, l3] (.long w :: st) h Q := xe_P_lo (ins := .lload_n 1) (len := 1) (by decide +kernel) rfl rfl
theorem xs_21_35 : xe_P d 21 35 ls st h Q = xe_P d 21 37 ls (.int 56 :: st) h Q := xe_P_ar (ins := .bipush 56) (len := 2) (by decide +kernel) rfl
theorem xs_21_37 : xe_P d 21 37 ls st h Q = xe_P d 21 39 ls (.int 8 :: st) h Q := xe_P_ar (ins := .bipush 8) (len := 2) (by decide +kernel) rfl
theorem xs_21_39 : xe_P d 21 39 [l0, l1, l2, .int x] st h Q = xe_P d 21 40 [l0, l1, l2, .int x] (.int x :: st) h Q := xe_P_lo (ins := .iload_n 3) (len := 1) (by decide +kernel) rfl rfl
theorem xs_21_40 : xe_P d 21 40 ls (.int v :: .int x :: st) h Q = xe_P d 21 41 ls (.int (x * v) :: st) h Q := xe_P_ar (ins := .imul) (len := 1) (by decide +kernel) rfl
theorem xs_21_41 : xe_P d 21 41 ls (.int v :: .int x :: st) h Q = xe_P d 21 42 ls (.int (x - v) :: st) h Q := xe_P_ar (ins := .isub) (len := 1) (by decide +kernel) rfl
theorem xs_21_42 : xe_P d 21 42 ls (.int v :: .long w :: st) h Q = xe_P d 21 43 ls (.long (w >>> (v.toInt64 &&& 63)) :: st) h Q := xe_P_ar (ins := .lshr) (len := 1) (by decide +kernel) rfl
theorem xs_21_43 : xe_P d 21 43 ls (.long w :: st) h Q = xe_P d 21 44 ls (.int w.toInt32 :: st) h Q := xe_P_ar (ins := .l2i) (len := 1) (by decide +kernel) rfl
theorem xs_21_44 : xe_P d 21 44 ls (.int x :: st) h Q = xe_P d 21 45 ls (.int x.toInt8.toInt32 :: st) h Q := xe_P_ar (ins := .i2b) (len := 1) (by decide +kernel) rfl
theorem xs_21_45 (hT : xe_T h a = 10) : xe_P d 21 45 ls (.int x :: .int v :: .ref a :: st) h Q = ((xe_ob h a 10 ∧ xe_ix h a v) ∧ xe_P d 21 46 ls st (xe_sI h a v.toNatClampNeg x.toInt8.toInt32) Q) := xe_P_bastB (by decide +kernel) hT
theorem xs_21_45z (hT : xe_T h a = 11) : xe_P d 21 45 ls (.int x :: .int v :: .ref a :: st) h Q = ((xe_ob h a 11 ∧ xe_ix h a v ∧ (x = 0 ∨ x = 1)) ∧ xe_P d 21 46 ls st (xe_sI h a v.toNatClampNeg x) Q) := xe_P_bastZ (by decide +kernel) hT
theorem xs_21_46 : xe_P d 21 46 [l0, l1, l2, .int x] st h Q = xe_P d 21 49 [l0, l1, xe_cut l2, .int (x + 1)] st h Q := xe_P_lo (ins := .iinc 3 1) (len := 3) (by decide +kernel) rfl rfl
theorem xs_21_49 : xe_P d 21 49 ls st h Q = xe_P d 21 18 ls st h Q := xe_P_go (len := 3) (off := (-31)) (by decide +kernel) (by decide)
theorem xs_21_52 : xe_P d 21 52 [.ref a, l1, l2, l3] st h Q = xe_P d 21 53 [.ref a, l1, l2, l3] (.ref a :: st) h Q := xe_P_lo (ins := .aload_n 0) (len := 1) (by decide +kernel) rfl rfl
theorem xs_21_53 : xe_P d 21 53 ls (.ref a :: st) h Q = xe_P d 21 54 ls (.ref a :: .ref a :: st) h Q := xe_P_ar (ins := .dup) (len := 1) (by decide +kernel) rfl
theorem xs_21_53i : xe_P d 21 53 ls (.int x :: st) h Q = xe_P d 21 54 ls (.int x :: .int x :: st) h Q := xe_P_ar (ins := .dup) (len := 1) (by decide +kernel) rfl
theorem xs_21_54 : xe_P d 21 54 ls (.ref a :: st) h Q = (xe_ob h a 2 ∧ xe_P d 21 57 ls (.int (xe_I h a 1) :: st) h Q) := xe_P_getI (i := 15) (by decide +kernel) (by decide +kernel) (by decide) rfl
theorem xs_21_57 : xe_P d 21 57 ls st h Q = xe_P d 21 59 ls (.int 8 :: st) h Q := xe_P_ar (ins := .bipush 8) (len := 2) (by decide +kernel) rfl
theorem xs_21_59 : xe_P d 21 59 ls (.int v :: .int x :: st) h Q = xe_P d 21 60 ls (.int (x + v) :: st) h Q := xe_P_ar (ins := .iadd) (len := 1) (by decide +kernel) rfl
theorem xs_21_60 : xe_P d 21 60 ls (.int v :: .ref a :: st) h Q = (xe_ob h a 2 ∧ xe_P d 21 63 ls st (xe_sI h a 1 v) Q) := xe_P_putI (i := 15) (by decide +kernel) (by decide +kernel) (by decide) (by decide +kernel) rfl
theorem xs_21_63 : xe_P d 21 63 [.ref a, l1, l2, l3] st h Q = xe_P d 21 64 [.ref a, l1, l2, l3] (.ref a :: st) h Q := xe_P_lo (ins := .aload_n 0) (len := 1) (by decide +kernel) rfl rfl
theorem xs_21_64 : xe_P d 21 64 ls (.ref a :: st) h Q = (xe_ob h a 2 ∧ xe_P d 21 67 ls (.int (xe_I h a 1) :: st) h Q) := xe_P_getI (i := 15) (by decide +kernel) (by decide +kernel) (by decide) rfl
theorem xs_21_67 : xe_P d 21 67 ls [.int x] h Q = Q (some (.int x)) h := xe_P_ireturn (by decide +kernel) rfl
theorem xs_21 : xe_C (d + 1) 21 [.ref a, .long w0] h Q = xe_P d 21 0 [.ref a, .long w0, .retAddr 0, .retAddr 0] [] h Q := xe_C_at (Nat.le_of_ble_eq_true rfl) rfl
theorem xs_22_0 : xe_P d 22 0 [l0, .int x, l2] st h Q = xe_P d 22 1 [l0, .int x, l2] (.int x :: st) h Q := xe_P_lo (ins := .iload_n 1) (len := 1) (by decide +kernel) rfl rfl
theorem xs_22_1 : xe_P d 22 1 ls (.int x :: st) h Q = (if x < 0 then xe_P d 22 12 ls st h Q else xe_P d 22 4 ls st h Q) := xe_P_if (ins := .ifCond .lt 11) (len := 3) (off := 11) (by decide +kernel) (by decide) rfl rfl rfl
theorem xs_22_4 : xe_P d 22 4 [l0, .int x, l2] st h Q = xe_P d 22 5 [l0, .int x, l2] (.int x :: st) h Q := xe_P_lo (ins := .iload_n 1) (len := 1) (by decide +kernel) rfl rfl
theorem xs_22_5 : xe_P d 22 5 [.ref a, l1, l2] st h Q = xe_P d 22 6 [.ref a, l1, l2] (.ref a :: st) h Q := xe_P_lo (ins := .aload_n 0) (len := 1) (by decide +kernel) rfl rfl
theorem xs_22_6 : xe_P d 22 6 ls (.ref a :: st) h Q = (xe_ob h a 2 ∧ xe_P d 22 9 ls (.int (xe_I h a 1) :: st) h Q) := xe_P_getI (i := 15) (by decide +kernel) (by decide +kernel) (by decide) rfl
theorem xs_22_9 : xe_P d 22 9 ls (.int v :: .int x :: st) h Q = (if x ≤ v then xe_P d 22 14 ls st h Q else xe_P d 22 12 ls st h Q) := xe_P_if (ins := .if_icmp .le 5) (len := 3) (off := 5) (by decide +kernel) (by decide) rfl rfl rfl
theorem xs_22_12 : xe_P d 22 12 ls st h Q = xe_P d 22 13 ls (.int (-1) :: st) h Q := xe_P_ar (ins := .iconst (-1)) (len := 1) (by decide +kernel) rfl
theorem xs_22_13 : xe_P d 22 13 ls [.int x] h Q = Q (some (.int x)) h := xe_P_ireturn (by decide +kernel) rfl
theorem xs_22_14 : xe_P d 22 14 [.ref a, l1, l2] st h Q = xe_P d 22 15 [.ref a, l1, l2] (.ref a :: st) h Q := xe_P_lo (ins := .aload_n 0) (len := 1) (by decide +kernel) rfl rfl
theorem xs_22_15 : xe_P d 22 15 ls (.ref a :: st) h Q = (xe_ob h a 2 ∧ xe_P d 22 18 ls (.int (xe_I h a 1) :: st) h Q) := xe_P_getI (i := 15) (by decide +kernel) (by decide +kernel) (by decide) rfl
theorem xs_22_18 : xe_P d 22 18 [l0, l1, l2] (.int x :: st) h Q = xe_P d 22 19 [l0, xe_cut l1, .int x] st h Q := xe_P_lo (ins := .istore_n 2) (len := 1) (by decide +kernel) rfl rfl
theorem xs_22_19 : xe_P d 22 19 [.ref a, l1, l2] st h Q = xe_P d 22 20 [.ref a, l1, l2] (.ref a :: st) h Q := xe_P_lo (ins := .aload_n 0) (len := 1) (by decide +kernel) rfl rfl
theorem xs_22_20 : xe_P d 22 20 [l0, .int x, l2] st h Q = xe_P d 22 21 [l0, .int x, l2] (.int x :: st) h Q := xe_P_lo (ins := .iload_n 1) (len := 1) (by decide +kernel) rfl rfl
theorem xs_22_21 : xe_P d 22 21 ls (.int v :: .ref a :: st) h Q = (xe_ob h a 2 ∧ xe_P d 22 24 ls st (xe_sI h a 1 v) Q) := xe_P_putI (i := 15) (by decide +kernel) (by decide +kernel) (by decide) (by decide +kernel) rfl
theorem xs_22_24 : xe_P d 22 24 [l0, l1, .int x] st h Q = xe_P d 22 25 [l0, l1, .int x] (.int x :: st) h Q := xe_P_lo (ins := .iload_n 2) (len := 1) (by decide +kernel) rfl rfl
theorem xs_22_25 : xe_P d 22 25 ls [.int x] h Q = Q (some (.int x)) h := xe_P_ireturn (by decide +kernel) rfl
theorem xs_22 : xe_C (d + 1) 22 [.ref a, .int x0] h Q = xe_P d 22 0 [.ref a, .int x0, .retAddr 0] [] h Q := xe_C_at (Nat.le_of_ble_eq_true rfl) rfl
theorem xs_23_0 : xe_P d 23 0 [.ref a, l1, l2, l3] st h Q = xe_P d 23 1 [.ref a, l1, l2, l3] (.ref a :: st) h Q := xe_P_lo (ins := .aload_n 0) (len := 1) (by decide +kernel) rfl rfl
theorem xs_23_1 : xe_P d 23 1 [l0, .ref a, l2, l3] st h Q = xe_P d 23 2 [l0, .ref a, l2, l3] (.ref a :: st) h Q := xe_P_lo (ins := .aload_n 1) (len := 1) (by decide +kernel) rfl rfl
theorem xs_23_2 : xe_P d 23 2 ls (.ref b :: .ref a :: st) h Q = ((xe_ob h a 2 ∧ b < xe_S) ∧ xe_P d 23 5 ls st (xe_sR h a 4 (some b)) Q) := xe_P_putR (i := 19) (by decide +kernel) (by decide +kernel) (by decide) (by decide +kernel) rfl
theorem xs_23_5 : xe_P d 23 5 [.ref a, l1, l2, l3] st h Q = xe_P d 23 6 [.ref a, l1, l2, l3] (.ref a :: st) h Q := xe_P_lo (ins := .aload_n 0) (len := 1) (by decide +kernel) rfl rfl
theorem xs_23_6 : xe_P d 23 6 ls (.ref a :: st) h Q = (xe_ob h a 2 ∧ xe_P d 23 9 ls (va_rf (xe_R h a 4) :: st) h Q) := xe_P_getR (i := 19) (by decide +kernel) (by decide +kernel) (by decide) rfl
theorem xs_23_9 : xe_P d 23 9 ls (.ref a :: st) h Q = ((xe_w st ≤ 8 ∧ xe_ob h a 3) ∧ xe_C d 38 [.ref a] h (fun r h' => xe_P d 23 12 ls (r.toList ++ st) h' Q)) := xe_P_ivv (y := 23) (pc := 9) (z := 38) (i := 23) (vs := []) (by decide +kernel) (by decide +kernel) rfl (by decide +kernel)
theorem xs_23_12 : xe_P d 23 12 [.ref a, l1, l2, l3] st h Q = xe_P d 23 13 [.ref a, l1, l2, l3] (.ref a :: st) h Q := xe_P_lo (ins := .aload_n 0) (len := 1) (by decide +kernel) rfl rfl
theorem xs_23_13 : xe_P d 23 13 ls st h Q = xe_P d 23 14 ls (.int 0 :: st) h Q := xe_P_ar (ins := .iconst 0) (len := 1) (by decide +kernel) rfl
theorem xs_23_14 : xe_P d 23 14 ls (.int v :: .ref a :: st) h Q = (xe_ob h a 2 ∧ xe_P d 23 17 ls st (xe_sI h a 5 v) Q) := xe_P_putI (i := 28) (by decide +kernel) (by decide +kernel) (by decide) (by decide +kernel) rfl
theorem xs_23_17 : xe_P d 23 17 [.ref a, l1, l2, l3] st h Q = xe_P d 23 18 [.ref a, l1, l2, l3] (.ref a :: st) h Q := xe_P_lo (ins := .aload_n 0) (len := 1) (by decide +kernel) rfl rfl
theorem xs_23_18 : xe_P d 23 18 ls st h Q = xe_P d 23 19 ls (.int 0 :: st) h Q := xe_P_ar (ins := .iconst 0) (len := 1) (by decide +kernel) rfl
theorem xs_23_19 : xe_P d 23 19 ls (.int v :: .ref a :: st) h Q = (xe_ob h a 2 ∧ xe_P d 23 22 ls st (xe_sI h a 2 v) Q) := xe_P_putI (i := 31) (by decide +kernel) (by decide +kernel) (by decide) (by decide +kernel) rfl
theorem xs_23_22 : xe_P d 23 22 [.ref a, l1, l2, l3] st h Q = xe_P d 23 23 [.ref a, l1, l2, l3] (.ref a :: st) h Q := xe_P_lo (ins := .aload_n 0) (len := 1) (by decide +kernel) rfl rfl
theorem xs_23_23 : xe_P d 23 23 ls st h Q = xe_P d 23 24 ls (.int 0 :: st) h Q := xe_P_ar (ins := .iconst 0) (len := 1) (by decide +kernel) rfl
theorem xs_23_24 : xe_P d 23 24 ls (.int v :: .ref a :: st) h Q = (xe_ob h a 2 ∧ xe_P d 23 27 ls st (xe_sI h a 9 v) Q) := xe_P_putI (i := 34) (by decide +kernel) (by decide +kernel) (by decide) (by decide +kernel) rfl
theorem xs_23_27 : xe_P d 23 27 [.ref a, l1, l2, l3] st h Q = xe_P d 23 28 [.ref a, l1, l2, l3] (.ref a :: st) h Q := xe_P_lo (ins := .aload_n 0) (len := 1) (by decide +kernel) rfl rfl
theorem xs_23_28 : xe_P d 23 28 ls st h Q = xe_P d 23 29 ls (.int (-1) :: st) h Q := xe_P_ar (ins := .iconst (-1)) (len := 1) (by decide +kernel) rfl
theorem xs_23_29 : xe_P d 23 29 ls (.int v :: .ref a :: st) h Q = (xe_ob h a 2 ∧ xe_P d 23 32 ls st (xe_sI h a 10 v) Q) := xe_P_putI (i := 37) (by decide +kernel) (by decide +kernel) (by decide) (by decide +kernel) rfl
theorem xs_23_32 : xe_P d 23 32 [.ref a, l1, l2, l3] st h Q = xe_P d 23 33 [.ref a, l1, l2, l3] (.ref a :: st) h Q := xe_P_lo (ins := .aload_n 0) (len := 1) (by decide +kernel) rfl rfl
theorem xs_23_33 : xe_P d 23 33 ls st h Q = xe_P d 23 34 ls (.int (-1) :: st) h Q := xe_P_ar (ins := .iconst (-1)) (len := 1) (by decide +kernel) rfl
theorem xs_23_34 : xe_P d 23 34 ls (.int v :: .ref a :: st) h Q = (xe_ob h a 2 ∧ xe_P d 23 37 ls st (xe_sI h a 11 v) Q) := xe_P_putI (i := 40) (by decide +kernel) (by decide +kernel) (by decide) (by decide +kernel) rfl
theorem xs_23_37 : xe_P d 23 37 ls st h Q = xe_P d 23 38 ls (.int 0 :: st) h Q := xe_P_ar (ins := .iconst 0) (len := 1) (by decide +kernel) rfl
theorem xs_23_38 : xe_P d 23 38 [l0, l1, l2, l3] (.int x :: st) h Q = xe_P d 23 39 [l0, xe_cut l1, .int x, l3] st h Q := xe_P_lo (ins := .istore_n 2) (len := 1) (by decide +kernel) rfl rfl
theorem xs_23_39 : xe_P d 23 39 ls st h Q = xe_P d 23 40 ls (.int 0 :: st) h Q := xe_P_ar (ins := .iconst 0) (len := 1) (by decide +kernel) rfl
theorem xs_23_40 : xe_P d 23 40 [l0, l1, l2, l3] (.int x :: st) h Q = xe_P d 23 41 [l0, l1, xe_cut l2, .int x] st h Q := xe_P_lo (ins := .istore_n 3) (len := 1) (by decide +kernel) rfl rfl
theorem xs_23_41 : xe_P d 23 41 [l0, l1, l2, .int x] st h Q = xe_P d 23 42 [l0, l1, l2, .int x] (.int x :: st) h Q := xe_P_lo (ins := .iload_n 3) (len := 1) (by decide +kernel) rfl rfl
theorem xs_23_42 : xe_P d 23 42 ls st h Q = xe_P d 23 45 ls (.int 320 :: st) h Q := xe_P_ar (ins := .sipush 320) (len := 3) (by decide +kernel) rfl
theorem xs_23_45 : xe_P d 23 45 ls (.int v :: .int x :: st) h Q = (if v < x then xe_P d 23 78 ls st h Q else xe_P d 23 48 ls st h Q) := xe_P_if (ins := .if_icmp .gt 33) (len := 3) (off := 33) (by decide +kernel) (by decide) rfl rfl rfl
theorem xs_23_48 : xe_P d 23 48 [.ref a, l1, l2, l3] st h Q = xe_P d 23 49 [.ref a, l1, l2, l3] (.ref a :: st) h Q := xe_P_lo (ins := .aload_n 0) (len := 1) (by decide +kernel) rfl rfl
theorem xs_23_49 : xe_P d 23 49 ls (.ref a :: st) h Q = ((xe_w st ≤ 8 ∧ xe_ob h a 2) ∧ xe_C d 30 [.ref a] h (fun r h' => xe_P d 23 52 ls (r.toList ++ st) h' Q)) := xe_P_ivv (y := 23) (pc := 49) (z := 30) (i := 43) (vs := []) (by decide +kernel) (by decide +kernel) rfl (by decide +kernel)
theorem xs_23_52 : xe_P d 23 52 [.ref a, l1, l2, l3] st h Q = xe_P d 23 53 [.ref a, l1, l2, l3] (.ref a :: st) h Q := xe_P_lo (ins := .aload_n 0) (len := 1) (by decide +kernel) rfl rfl
theorem xs_23_53 : xe_P d 23 53 ls (.ref a :: st) h Q = (xe_ob h a 2 ∧ xe_P d 23 56 ls (.int (xe_I h a 6) :: st) h Q) := xe_P_getI (i := 46) (by decide +kernel) (by decide +kernel) (by decide) rfl
theorem xs_23_56 : xe_P d 23 56 ls (.int x :: st) h Q = (if x = 0 then xe_P d 23 78 ls st h Q else xe_P d 23 59 ls st h Q) := xe_P_if (ins := .ifCond .eq 22) (len := 3) (off := 22) (by decide +kernel) (by decide) rfl rfl rfl
theorem xs_23_59 : xe_P d 23 59 [.ref a, l1, l2, l3] st h Q = xe_P d 23 60 [.ref a, l1, l2, l3] (.ref a :: st) h Q := xe_P_lo (ins := .aload_n 0) (len := 1) (by decide +kernel) rfl rfl
theorem xs_23_60 : xe_P d 23 60 ls (.ref a :: st) h Q = ((xe_w st ≤ 8 ∧ xe_ob h a 2) ∧ xe_C d 24 [.ref a] h (fun r h' => xe_P d 23 63 ls (r.toList ++ st) h' Q)) := xe_P_ivv (y := 23) (pc := 60) (z := 24) (i := 49) (vs := []) (by decide +kernel) (by decide +kernel) rfl (by decide +kernel)
theorem xs_23_63 : xe_P d 23 63 ls (.int x :: st) h Q = (if x = 0 then xe_P d 23 66 ls st h Q else xe_P d 23 69 ls st h Q) := xe_P_ifn (ins := .ifCond .ne 6) (len := 3) (off := 6) (by decide +kernel) (by decide) rfl rfl rfl
theorem xs_23_66 : xe_P d 23 66 ls st h Q = xe_P d 23 78 ls st h Q := xe_P_go (len := 3) (off := 12) (by decide +kernel) (by decide)
theorem xs_23_69 : xe_P d 23 69 [l0, l1, .int x, l3] st h Q = xe_P d 23 72 [l0, xe_cut l1, .int (x + 1), l3] st h Q := xe_P_lo (ins := .iinc 2 1) (len := 3) (by decide +kernel) rfl rfl
theorem xs_23_72 : xe_P d 23 72 [l0, l1, l2, .int x] st h Q = xe_P d 23 75 [l0, l1, xe_cut l2, .int (x + 1)] st h Q := xe_P_lo (ins := .iinc 3 1) (len := 3) (by decide +kernel) rfl rfl
theorem xs_23_75 : xe_P d 23 75 ls st h Q = xe_P d 23 41 ls st h Q := xe_P_go (len := 3) (off := (-34)) (by decide +kernel) (by decide)
theorem xs_23_78 : xe_P d 23 78 [.ref a, l1, l2, l3] st h Q = xe_P d 23 79 [.ref a, l1, l2, l3] (.ref a :: st) h Q := xe_P_lo (ins := .aload_n 0) (len := 1) (by decide +kernel) rfl rfl
theorem xs_23_79 : xe_P d 23 79 ls (.ref a :: st) h Q = (xe_ob h a 2 ∧ xe_P d 23 82 ls (.int (xe_I h a 2) :: st) h Q) := xe_P_getI (i := 31) (by decide +kernel) (by decide +kernel) (by decide) rfl
theorem xs_23_82 : xe_P d 23 82 ls (.int x :: st) h Q = (if x = 0 then xe_P d 23 85 ls st h Q else xe_P d 23 124 ls st h Q) := xe_P_ifn (ins := .ifCond .ne 42) (len := 3) (off := 42) (by decide +kernel) (by decide) rfl rfl rfl
theorem xs_23_85 : xe_P d 23 85 [.ref a, l1, l2, l3] st h Q = xe_P d 23 86 [.ref a, l1, l2, l3] (.ref a :: st) h Q := xe_P_lo (ins := .aload_n 0) (len := 1) (by decide +kernel) rfl rfl
theorem xs_23_86 : xe_P d 23 86 ls (.ref a :: st) h Q = (xe_ob h a 2 ∧ xe_P d 23 89 ls (.int (xe_I h a 10) :: st) h Q) := xe_P_getI (i := 37) (by decide +kernel) (by decide +kernel) (by decide) rfl
theorem xs_23_89 : xe_P d 23 89 [.ref a, l1, l2, l3] st h Q = xe_P d 23 90 [.ref a, l1, l2, l3] (.ref a :: st) h Q := xe_P_lo (ins := .aload_n 0) (len := 1) (by decide +kernel) rfl rfl
theorem xs_23_90 : xe_P d 23 90 ls (.ref a :: st) h Q = (xe_ob h a 2 ∧ xe_P d 23 93 ls (va_rf (xe_R h a 4) :: st) h Q) := xe_P_getR (i := 19) (by decide +kernel) (by decide +kernel) (by decide) rfl
theorem xs_23_93 : xe_P d 23 93 ls (.ref a :: st) h Q = (xe_ob h a 3 ∧ xe_P d 23 96 ls (.int (xe_I h a 0) :: st) h Q) := xe_P_getI (i := 53) (by decide +kernel) (by decide +kernel) (by decide) rfl
theorem xs_23_96 : xe_P d 23 96 ls (.int v :: .int x :: st) h Q = (if v ≤ x then xe_P d 23 113 ls st h Q else xe_P d 23 99 ls st h Q) := xe_P_if (ins := .if_icmp .ge 17) (len := 3) (off := 17) (by decide +kernel) (by decide) rfl rfl rfl
theorem xs_23_99 : xe_P d 23 99 [.ref a, l1, l2, l3] st h Q = xe_P d 23 100 [.ref a, l1, l2, l3] (.ref a :: st) h Q := xe_P_lo (ins := .aload_n 0) (len := 1) (by decide +kernel) rfl rfl
theorem xs_23_100 : xe_P d 23 100 ls (.ref a :: st) h Q = (xe_ob h a 2 ∧ xe_P d 23 103 ls (.int (xe_I h a 11) :: st) h Q) := xe_P_getI (i := 40) (by decide +kernel) (by decide +kernel) (by decide) rfl
theorem xs_23_103 : xe_P d 23 103 [.ref a, l1, l2, l3] st h Q = xe_P d 23 104 [.ref a, l1, l2, l3] (.ref a :: st) h Q := xe_P_lo (ins := .aload_n 0) (len := 1) (by decide +kernel) rfl rfl
theorem xs_23_104 : xe_P d 23 104 ls (.ref a :: st) h Q = (xe_ob h a 2 ∧ xe_P d 23 107 ls (va_rf (xe_R h a 4) :: st) h Q) := xe_P_getR (i := 19) (by decide +kernel) (by decide +kernel) (by decide) rfl
theorem xs_23_107 : xe_P d 23 107 ls (.ref a :: st) h Q = (xe_ob h a 3 ∧ xe_P d 23 110 ls (.int (xe_I h a 1) :: st) h Q) := xe_P_getI (i := 56) (by decide +kernel) (by decide +kernel) (by decide) rfl
theorem xs_23_110 : xe_P d 23 110 ls (.int v :: .int x :: st) h Q = (if x < v then xe_P d 23 124 ls st h Q else xe_P d 23 113 ls st h Q) := xe_P_if (ins := .if_icmp .lt 14) (len := 3) (off := 14) (by decide +kernel) (by decide) rfl rfl rfl
theorem xs_23_113 : xe_P d 23 113 [.ref a, l1, l2, l3] st h Q = xe_P d 23 114 [.ref a, l1, l2, l3] (.ref a :: st) h Q := xe_P_lo (ins := .aload_n 0) (len := 1) (by decide +kernel) rfl rfl
theorem xs_23_114 : xe_P d 23 114 ls st h Q = xe_P d 23 116 ls (.int 6 :: st) h Q := xe_P_ar (ins := .bipush 6) (len := 2) (by decide +kernel) rfl
theorem xs_23_116 : xe_P d 23 116 [.ref a, l1, l2, l3] st h Q = xe_P d 23 117 [.ref a, l1, l2, l3] (.ref a :: st) h Q := xe_P_lo (ins := .aload_n 0) (len := 1) (by decide +kernel) rfl rfl
theorem xs_23_117 : xe_P d 23 117 ls (.ref a :: st) h Q = (xe_ob h a 2 ∧ xe_P d 23 120 ls (.int (xe_I h a 1) :: st) h Q) := xe_P_getI (i := 15) (by decide +kernel) (by decide +kernel) (by decide) rfl
theorem xs_23_120 : xe_P d 23 120 ls (v1 :: v0 :: .ref a :: st) h Q = ((xe_w st ≤ 8 ∧ xe_ob h a 2) ∧ xe_C d 29 [.ref a, v0, v1] h (fun r h' => xe_P d 23 123 ls (r.toList ++ st) h' Q)) := xe_P_ivv (y := 23) (pc := 120) (z := 29) (i := 59) (vs := [v1, v0]) (by decide +kernel) (by decide +kernel) rfl (by decide +kernel)
theorem xs_23_123 : xe_P d 23 123 ls (.int x :: st) h Q = xe_P d 23 124 ls st h Q := xe_P_ar (ins := .pop) (len := 1) (by decide +kernel) rfl
theorem xs_23_124 : xe_P d 23 124 [.ref a, l1, l2, l3] st h Q = xe_P d 23 125 [.ref a, l1, l2, l3] (.ref a :: st) h Q := xe_P_lo (ins := .aload_n 0) (len := 1) (by decide +kernel) rfl rfl
theorem xs_23_125 : xe_P d 23 125 ls st h Q = xe_P d 23 126 ls (.int 0 :: st) h Q := xe_P_ar (ins := .iconst 0) (len := 1) (by decide +kernel) rfl
theorem xs_23_126 : xe_P d 23 126 ls (.int v :: .ref a :: st) h Q = (xe_ob h a 2 ∧ xe_P d 23 129 ls st (xe_sI h a 1 v) Q) := xe_P_putI (i := 15) (by decide +kernel) (by decide +kernel) (by decide) (by decide +kernel) rfl
theorem xs_23_129 : xe_P d 23 129 [.ref a, l1, l2, l3] st h Q = xe_P d 23 130 [.ref a, l1, l2, l3] (.ref a :: st) h Q := xe_P_lo (ins := .aload_n 0) (len := 1) (by decide +kernel) rfl rfl
theorem xs_23_130 : xe_P d 23 130 ls (.ref a :: st) h Q = (xe_ob h a 2 ∧ xe_P d 23 133 ls (.int (xe_I h a 2) :: st) h Q) := xe_P_getI (i := 31) (by decide +kernel) (by decide +kernel) (by decide) rfl
theorem xs_23_133 : xe_P d 23 133 ls (.int x :: st) h Q = (if x = 0 then xe_P d 23 136 ls st h Q else xe_P d 23 140 ls st h Q) := xe_P_ifn (ins := .ifCond .ne 7) (len := 3) (off := 7) (by decide +kernel) (by decide) rfl rfl rfl
theorem xs_23_136 : xe_P d 23 136 [l0, l1, .int x, l3] st h Q = xe_P d 23 137 [l0, l1, .int x, l3] (.int x :: st) h Q := xe_P_lo (ins := .iload_n 2) (len := 1) (by decide +kernel) rfl rfl
theorem xs_23_137 : xe_P d 23 137 ls st h Q = xe_P d 23 147 ls st h Q := xe_P_go (len := 3) (off := 10) (by decide +kernel) (by decide)
theorem xs_23_140 : xe_P d 23 140 ls st h Q = xe_P d 23 142 ls (.int (-10) :: st) h Q := xe_P_ar (ins := .bipush (-10)) (len := 2) (by decide +kernel) rfl
theorem xs_23_142 : xe_P d 23 142 [.ref a, l1, l2, l3] st h Q = xe_P d 23 143 [.ref a, l1, l2, l3] (.ref a :: st) h Q := xe_P_lo (ins := .aload_n 0) (len := 1) (by decide +kernel) rfl rfl
theorem xs_23_143 : xe_P d 23 143 ls (.ref a :: st) h Q = (xe_ob h a 2 ∧ xe_P d 23 146 ls (.int (xe_I h a 3) :: st) h Q) := xe_P_getI (i := 63) (by decide +kernel) (by decide +kernel) (by decide) rfl
theorem xs_23_146 : xe_P d 23 146 ls (.int v :: .int x :: st) h Q = xe_P d 23 147 ls (.int (x - v) :: st) h Q := xe_P_ar (ins := .isub) (len := 1) (by decide +kernel) rfl
theorem xs_23_147 : xe_P d 23 147 ls [.int x] h Q = Q (some (.int x)) h := xe_P_ireturn (by decide +kernel) rfl
theorem xs_23 : xe_C (d + 1) 23 [.ref a, .ref a0] h Q = xe_P d 23 0 [.ref a, .ref a0, .retAddr 0, .retAddr 0] [] h Q := xe_C_at (Nat.le_of_ble_eq_true rfl) rfl
theorem xs_24_0 : xe_P d 24 0 [.ref a, l1, l2, l3] st h Q = xe_P d 24 1 [.ref a, l1, l2, l3] (.ref a :: st) h Q := xe_P_lo (ins := .aload_n 0) (len := 1) (by decide +kernel) rfl rfl
theorem xs_24_1 : xe_P d 24 1 ls st h Q = xe_P d 24 2 ls (.int 1 :: st) h Q := xe_P_ar (ins := .iconst 1) (len := 1) (by decide +kernel) rfl
theorem xs_24_2 : xe_P d 24 2 ls (v0 :: .ref a :: st) h Q = ((xe_w st ≤ 8 ∧ xe_ob h a 2) ∧ xe_C d 26 [.ref a, v0] h (fun r h' => xe_P d 24 5 ls (r.toList ++ st) h' Q)) := xe_P_ivv (y := 24) (pc := 2) (z := 26) (i := 66) (vs := [v0]) (by decide +kernel) (by decide +kernel) rfl (by decide +kernel)
theorem xs_24_5 : xe_P d 24 5 ls (.int x :: st) h Q = (if x = 0 then xe_P d 24 8 ls st h Q else xe_P d 24 10 ls st h Q) := xe_P_ifn (ins := .ifCond .ne 5) (len := 3) (off := 5) (by decide +kernel) (by decide) rfl rfl rfl
theorem xs_24_8 : xe_P d 24 8 ls st h Q = xe_P d 24 9 ls (.int 0 :: st) h Q := xe_P_ar (ins := .iconst 0) (len := 1) (by decide +kernel) rfl
theorem xs_24_9 : xe_P d 24 9 ls [.int x] h Q = ((x = 0 ∨ x = 1) ∧ Q (some (.int x)) h) := xe_P_zreturn (by decide +kernel) rfl
theorem xs_24_10 : xe_P d 24 10 [.ref a, l1, l2, l3] st h Q = xe_P d 24 11 [.ref a, l1, l2, l3] (.ref a :: st) h Q := xe_P_lo (ins := .aload_n 0) (len := 1) (by decide +kernel) rfl rfl
theorem xs_24_11 : xe_P d 24 11 ls (.ref a :: st) h Q = ((xe_w st ≤ 8 ∧ xe_ob h a 2) ∧ xe_C d 34 [.ref a] h (fun r h' => xe_P d 24 14 ls (r.toList ++ st) h' Q)) := xe_P_ivv (y := 24) (pc := 11) (z := 34) (i := 70) (vs := []) (by decide +kernel) (by decide +kernel) rfl (by decide +kernel)
theorem xs_24_14 : xe_P d 24 14 [l0, l1, l2, l3] (.int x :: st) h Q = xe_P d 24 15 [xe_cut l0, .int x, l2, l3] st h Q := xe_P_lo (ins := .istore_n 1) (len := 1) (by decide +kernel) rfl rfl
theorem xs_24_15 : xe_P d 24 15 [l0, .int x, l2, l3] st h Q = xe_P d 24 16 [l0, .int x, l2, l3] (.int x :: st) h Q := xe_P_lo (ins := .iload_n 1) (len := 1) (by decide +kernel) rfl rfl
theorem xs_24_16 : xe_P d 24 16 ls (.int x :: st) h Q = (if 0 ≤ x then xe_P d 24 29 ls st h Q else xe_P d 24 19 ls st h Q) := xe_P_if (ins := .ifCond .ge 13) (len := 3) (off := 13) (by decide +kernel) (by decide) rfl rfl rfl
theorem xs_24_19 : xe_P d 24 19 [.ref a, l1, l2, l3] st h Q = xe_P d 24 20 [.ref a, l1, l2, l3] (.ref a :: st) h Q := xe_P_lo (ins := .aload_n 0) (len := 1) (by decide +kernel) rfl rfl
theorem xs_24_20 : xe_P d 24 20 ls st h Q = xe_P d 24 21 ls (.int 2 :: st) h Q := xe_P_ar (ins := .iconst 2) (len := 1) (by decide +kernel) rfl
theorem xs_24_21 : xe_P d 24 21 [.ref a, l1, l2, l3] st h Q = xe_P d 24 22 [.ref a, l1, l2, l3] (.ref a :: st) h Q := xe_P_lo (ins := .aload_n 0) (len := 1) (by decide +kernel) rfl rfl
theorem xs_24_22 : xe_P d 24 22 ls (.ref a :: st) h Q = (xe_ob h a 2 ∧ xe_P d 24 25 ls (.int (xe_I h a 7) :: st) h Q) := xe_P_getI (i := 74) (by decide +kernel) (by decide +kernel) (by decide) rfl
theorem xs_24_25 : xe_P d 24 25 ls (v1 :: v0 :: .ref a :: st) h Q = ((xe_w st ≤ 8 ∧ xe_ob h a 2) ∧ xe_C d 29 [.ref a, v0, v1] h (fun r h' => xe_P d 24 28 ls (r.toList ++ st) h' Q)) := xe_P_ivv (y := 24) (pc := 25) (z := 29) (i := 59) (vs := [v1, v0]) (by decide +kernel) (by decide +kernel) rfl (by decide +kernel)
theorem xs_24_28 : xe_P d 24 28 ls [.int x] h Q = ((x = 0 ∨ x = 1) ∧ Q (some (.int x)) h) := xe_P_zreturn (by decide +kernel) rfl
theorem xs_24_29 : xe_P d 24 29 [l0, .int x, l2, l3] st h Q = xe_P d 24 30 [l0, .int x, l2, l3] (.int x :: st) h Q := xe_P_lo (ins := .iload_n 1) (len := 1) (by decide +kernel) rfl rfl
theorem xs_24_30 : xe_P d 24 30 ls st h Q = xe_P d 24 31 ls (.int 2 :: st) h Q := xe_P_ar (ins := .iconst 2) (len := 1) (by decide +kernel) rfl
theorem xs_24_31 : xe_P d 24 31 ls (.int v :: .int x :: st) h Q = (if v < x then xe_P d 24 55 ls st h Q else xe_P d 24 34 ls st h Q) := xe_P_if (ins := .if_icmp .gt 24) (len := 3) (off := 24) (by decide +kernel) (by decide) rfl rfl rfl
theorem xs_24_34 : xe_P d 24 34 [.ref a, l1, l2, l3] st h Q = xe_P d 24 35 [.ref a, l1, l2, l3] (.ref a :: st) h Q := xe_P_lo (ins := .aload_n 0) (len := 1) (by decide +kernel) rfl rfl
theorem xs_24_35 : xe_P d 24 35 ls (.ref a :: st) h Q = (xe_ob h a 2 ∧ xe_P d 24 38 ls (.int (xe_I h a 9) :: st) h Q) := xe_P_getI (i := 34) (by decide +kernel) (by decide +kernel) (by decide) rfl
theorem xs_24_38 : xe_P d 24 38 ls st h Q = xe_P d 24 39 ls (.int 1 :: st) h Q := xe_P_ar (ins := .iconst 1) (len := 1) (by decide +kernel) rfl
theorem xs_24_39 : xe_P d 24 39 [l0, .int x, l2, l3] st h Q = xe_P d 24 40 [l0, .int x, l2, l3] (.int x :: st) h Q := xe_P_lo (ins := .iload_n 1) (len := 1) (by decide +kernel) rfl rfl
theorem xs_24_40 : xe_P d 24 40 ls (.int v :: .int x :: st) h Q = xe_P d 24 41 ls (.int (x <<< (v &&& 31)) :: st) h Q := xe_P_ar (ins := .ishl) (len := 1) (by decide +kernel) rfl
theorem xs_24_41 : xe_P d 24 41 ls (.int v :: .int x :: st) h Q = xe_P d 24 42 ls (.int (x &&& v) :: st) h Q := xe_P_ar (ins := .iand) (len := 1) (by decide +kernel) rfl
theorem xs_24_42 : xe_P d 24 42 ls (.int x :: st) h Q = (if x = 0 then xe_P d 24 55 ls st h Q else xe_P d 24 45 ls st h Q) := xe_P_if (ins := .ifCond .eq 13) (len := 3) (off := 13) (by decide +kernel) (by decide) rfl rfl rfl
theorem xs_24_45 : xe_P d 24 45 [.ref a, l1, l2, l3] st h Q = xe_P d 24 46 [.ref a, l1, l2, l3] (.ref a :: st) h Q := xe_P_lo (ins := .aload_n 0) (len := 1) (by decide +kernel) rfl rfl
theorem xs_24_46 : xe_P d 24 46 ls st h Q = xe_P d 24 47 ls (.int 4 :: st) h Q := xe_P_ar (ins := .iconst 4) (len := 1) (by decide +kernel) rfl
theorem xs_24_47 : xe_P d 24 47 [.ref a, l1, l2, l3] st h Q = xe_P d 24 48 [.ref a, l1, l2, l3] (.ref a :: st) h Q := xe_P_lo (ins := .aload_n 0) (len := 1) (by decide +kernel) rfl rfl
theorem xs_24_48 : xe_P d 24 48 ls (.ref a :: st) h Q = (xe_ob h a 2 ∧ xe_P d 24 51 ls (.int (xe_I h a 7) :: st) h Q) := xe_P_getI (i := 74) (by decide +kernel) (by decide +kernel) (by decide) rfl
theorem xs_24_51 : xe_P d 24 51 ls (v1 :: v0 :: .ref a :: st) h Q = ((xe_w st ≤ 8 ∧ xe_ob h a 2) ∧ xe_C d 29 [.ref a, v0, v1] h (fun r h' => xe_P d 24 54 ls (r.toList ++ st) h' Q)) := xe_P_ivv (y := 24) (pc := 51) (z := 29) (i := 59) (vs := [v1, v0]) (by decide +kernel) (by decide +kernel) rfl (by decide +kernel)
theorem xs_24_54 : xe_P d 24 54 ls [.int x] h Q = ((x = 0 ∨ x = 1) ∧ Q (some (.int x)) h) := xe_P_zreturn (by decide +kernel) rfl
theorem xs_24_55 : xe_P d 24 55 [l0, .int x, l2, l3] st h Q = xe_P d 24 56 [l0, .int x, l2, l3] (.int x :: st) h Q := xe_P_lo (ins := .iload_n 1) (len := 1) (by decide +kernel) rfl rfl
theorem xs_24_56 : xe_P d 24 56 ls st h Q = xe_P d 24 57 ls (.int 3 :: st) h Q := xe_P_ar (ins := .iconst 3) (len := 1) (by decide +kernel) rfl
theorem xs_24_57 : xe_P d 24 57 ls (.int v :: .int x :: st) h Q = (if x = v then xe_P d 24 60 ls st h Q else xe_P d 24 72 ls st h Q) := xe_P_ifn (ins := .if_icmp .ne 15) (len := 3) (off := 15) (by decide +kernel) (by decide) rfl rfl rfl
theorem xs_24_60 : xe_P d 24 60 [.ref a, l1, l2, l3] st h Q = xe_P d 24 61 [.ref a, l1, l2, l3] (.ref a :: st) h Q := xe_P_lo (ins := .aload_n 0) (len := 1) (by decide +kernel) rfl rfl
theorem xs_24_61 : xe_P d 24 61 ls (.ref a :: st) h Q = (xe_ob h a 2 ∧ xe_P d 24 64 ls (va_rf (xe_R h a 4) :: st) h Q) := xe_P_getR (i := 19) (by decide +kernel) (by decide +kernel) (by decide) rfl
theorem xs_24_64 : xe_P d 24 64 ls (.ref a :: st) h Q = (xe_ob h a 3 ∧ xe_P d 24 67 ls (.int (xe_I h a 1) :: st) h Q) := xe_P_getI (i := 56) (by decide +kernel) (by decide +kernel) (by decide) rfl
theorem xs_24_67 : xe_P d 24 67 ls st h Q = xe_P d 24 69 ls (.int 6 :: st) h Q := xe_P_ar (ins := .bipush 6) (len := 2) (by decide +kernel) rfl
theorem xs_24_69 : xe_P d 24 69 ls (.int v :: .int x :: st) h Q = (if x = v then xe_P d 24 89 ls st h Q else xe_P d 24 72 ls st h Q) := xe_P_if (ins := .if_icmp .eq 20) (len := 3) (off := 20) (by decide +kernel) (by decide) rfl rfl rfl
theorem xs_24_72 : xe_P d 24 72 [l0, .int x, l2, l3] st h Q = xe_P d 24 73 [l0, .int x, l2, l3] (.int x :: st) h Q := xe_P_lo (ins := .iload_n 1) (len := 1) (by decide +kernel) rfl rfl
theorem xs_24_73 : xe_P d 24 73 ls st h Q = xe_P d 24 75 ls (.int 6 :: st) h Q := xe_P_ar (ins := .bipush 6) (len := 2) (by decide +kernel) rfl
theorem xs_24_75 : xe_P d 24 75 ls (.int v :: .int x :: st) h Q = (if x = v then xe_P d 24 78 ls st h Q else xe_P d 24 99 ls st h Q) := xe_P_ifn (ins := .if_icmp .ne 24) (len := 3) (off := 24) (by decide +kernel) (by decide) rfl rfl rfl
theorem xs_24_78 : xe_P d 24 78 [.ref a, l1, l2, l3] st h Q = xe_P d 24 79 [.ref a, l1, l2, l3] (.ref a :: st) h Q := xe_P_lo (ins := .aload_n 0) (len := 1) (by decide +kernel) rfl rfl
theorem xs_24_79 : xe_P d 24 79 ls (.ref a :: st) h Q = (xe_ob h a 2 ∧ xe_P d 24 82 ls (va_rf (xe_R h a 4) :: st) h Q) := xe_P_getR (i := 19) (by decide +kernel) (by decide +kernel) (by decide) rfl
theorem xs_24_82 : xe_P d 24 82 ls (.ref a :: st) h Q = (xe_ob h a 3 ∧ xe_P d 24 85 ls (.int (xe_I h a 2) :: st) h Q) := xe_P_getI (i := 77) (by decide +kernel) (by decide +kernel) (by decide) rfl
theorem xs_24_85 : xe_P d 24 85 ls st h Q = xe_P d 24 86 ls (.int 3 :: st) h Q := xe_P_ar (ins := .iconst 3) (len := 1) (by decide +kernel) rfl
theorem xs_24_86 : xe_P d 24 86 ls (.int v :: .int x :: st) h Q = (if x = v then xe_P d 24 89 ls st h Q else xe_P d 24 99 ls st h Q) := xe_P_ifn (ins := .if_icmp .ne 13) (len := 3) (off := 13) (by decide +kernel) (by decide) rfl rfl rfl
theorem xs_24_89 : xe_P d 24 89 [.ref a, l1, l2, l3] st h Q = xe_P d 24 90 [.ref a, l1, l2, l3] (.ref a :: st) h Q := xe_P_lo (ins := .aload_n 0) (len := 1) (by decide +kernel) rfl rfl
theorem xs_24_90 : xe_P d 24 90 ls st h Q = xe_P d 24 91 ls (.int 5 :: st) h Q := xe_P_ar (ins := .iconst 5) (len := 1) (by decide +kernel) rfl
theorem xs_24_91 : xe_P d 24 91 [.ref a, l1, l2, l3] st h Q = xe_P d 24 92 [.ref a, l1, l2, l3] (.ref a :: st) h Q := xe_P_lo (ins := .aload_n 0) (len := 1) (by decide +kernel) rfl rfl
theorem xs_24_92 : xe_P d 24 92 ls (.ref a :: st) h Q = (xe_ob h a 2 ∧ xe_P d 24 95 ls (.int (xe_I h a 7) :: st) h Q) := xe_P_getI (i := 74) (by decide +kernel) (by decide +kernel) (by decide) rfl
theorem xs_24_95 : xe_P d 24 95 ls (v1 :: v0 :: .ref a :: st) h Q = ((xe_w st ≤ 8 ∧ xe_ob h a 2) ∧ xe_C d 29 [.ref a, v0, v1] h (fun r h' => xe_P d 24 98 ls (r.toList ++ st) h' Q)) := xe_P_ivv (y := 24) (pc := 95) (z := 29) (i := 59) (vs := [v1, v0]) (by decide +kernel) (by decide +kernel) rfl (by decide +kernel)
theorem xs_24_98 : xe_P d 24 98 ls [.int x] h Q = ((x = 0 ∨ x = 1) ∧ Q (some (.int x)) h) := xe_P_zreturn (by decide +kernel) rfl
theorem xs_24_99 : xe_P d 24 99 [.ref a, l1, l2, l3] st h Q = xe_P d 24 100 [.ref a, l1, l2, l3] (.ref a :: st) h Q := xe_P_lo (ins := .aload_n 0) (len := 1) (by decide +kernel) rfl rfl
theorem xs_24_100 : xe_P d 24 100 ls st h Q = xe_P d 24 103 ls (.ref (xe_S + 1) :: st) h Q := xe_P_gets (j := 80) (by decide +kernel) (by decide +kernel) (by decide)
theorem xs_24_103 : xe_P d 24 103 [l0, .int x, l2, l3] st h Q = xe_P d 24 104 [l0, .int x, l2, l3] (.int x :: st) h Q := xe_P_lo (ins := .iload_n 1) (len := 1) (by decide +kernel) rfl rfl
theorem xs_24_104 : xe_P d 24 104 ls (.int v :: .ref a :: st) h Q = ((xe_ia h a ∧ xe_ix h a v) ∧ xe_P d 24 105 ls (.int (xe_I h a v.toNatClampNeg) :: st) h Q) := xe_P_iald (by decide +kernel)
theorem xs_24_105 : xe_P d 24 105 ls st h Q = xe_P d 24 108 ls (.ref (xe_S + 2) :: st) h Q := xe_P_gets (j := 84) (by decide +kernel) (by decide +kernel) (by decide)
theorem xs_24_108 : xe_P d 24 108 [l0, .int x, l2, l3] st h Q = xe_P d 24 109 [l0, .int x, l2, l3] (.int x :: st) h Q := xe_P_lo (ins := .iload_n 1) (len := 1) (by decide +kernel) rfl rfl
theorem xs_24_109 : xe_P d 24 109 ls (.int v :: .ref a :: st) h Q = ((xe_ia h a ∧ xe_ix h a v) ∧ xe_P d 24 110 ls (.int (xe_I h a v.toNatClampNeg) :: st) h Q) := xe_P_iald (by decide +kernel)
theorem xs_24_110 : xe_P d 24 110 ls (v1 :: v0 :: .ref a :: st) h Q = ((xe_w st ≤ 8 ∧ xe_ob h a 2) ∧ xe_C d 25 [.ref a, v0, v1] h (fun r h' => xe_P d 24 113 ls (r.toList ++ st) h' Q)) := xe_P_ivv (y := 24) (pc := 110) (z := 25) (i := 87) (vs := [v1, v0]) (by decide +kernel) (by decide +kernel) rfl (by decide +kernel)
theorem xs_24_113 : xe_P d 24 113 ls (.int x :: st) h Q = (if x = 0 then xe_P d 24 116 ls st h Q else xe_P d 24 118 ls st h Q) := xe_P_ifn (ins := .ifCond .ne 5) (len := 3) (off := 5) (by decide +kernel) (by decide) rfl rfl rfl
theorem xs_24_116 : xe_P d 24 116 ls st h Q = xe_P d 24 117 ls (.int 0 :: st) h Q := xe_P_ar (ins := .iconst 0) (len := 1) (by decide +kernel) rfl
theorem xs_24_117 : xe_P d 24 117 ls [.int x] h Q = ((x = 0 ∨ x = 1) ∧ Q (some (.int x)) h) := xe_P_zreturn (by decide +kernel) rfl
theorem xs_24_118 : xe_P d 24 118 [.ref a, l1, l2, l3] st h Q = xe_P d 24 119 [.ref a, l1, l2, l3] (.ref a :: st) h Q := xe_P_lo (ins := .aload_n 0) (len := 1) (by decide +kernel) rfl rfl
theorem xs_24_119 : xe_P d 24 119 ls (.ref a :: st) h Q = (xe_ob h a 2 ∧ xe_P d 24 122 ls (.int (xe_I h a 8) :: st) h Q) := xe_P_getI (i := 90) (by decide +kernel) (by decide +kernel) (by decide) rfl
theorem xs_24_122 : xe_P d 24 122 [l0, l1, l2, l3] (.int x :: st) h Q = xe_P d 24 123 [l0, xe_cut l1, .int x, l3] st h Q := xe_P_lo (ins := .istore_n 2) (len := 1) (by decide +kernel) rfl rfl
theorem xs_24_123 : xe_P d 24 123 [.ref a, l1, l2, l3] st h Q = xe_P d 24 124 [.ref a, l1, l2, l3] (.ref a :: st) h Q := xe_P_lo (ins := .aload_n 0) (len := 1) (by decide +kernel) rfl rfl
theorem xs_24_124 : xe_P d 24 124 [l0, .int x, l2, l3] st h Q = xe_P d 24 125 [l0, .int x, l2, l3] (.int x :: st) h Q := xe_P_lo (ins := .iload_n 1) (len := 1) (by decide +kernel) rfl rfl
theorem xs_24_125 : xe_P d 24 125 [l0, l1, .int x, l3] st h Q = xe_P d 24 126 [l0, l1, .int x, l3] (.int x :: st) h Q := xe_P_lo (ins := .iload_n 2) (len := 1) (by decide +kernel) rfl rfl
theorem xs_24_126 : xe_P d 24 126 ls (v1 :: v0 :: .ref a :: st) h Q = ((xe_w st ≤ 8 ∧ xe_ob h a 2) ∧ xe_C d 27 [.ref a, v0, v1] h (fun r h' => xe_P d 24 129 ls (r.toList ++ st) h' Q)) := xe_P_ivv (y := 24) (pc := 126) (z := 27) (i := 93) (vs := [v1, v0]) (by decide +kernel) (by decide +kernel) rfl (by decide +kernel)
theorem xs_24_129 : xe_P d 24 129 ls (.int x :: st) h Q = (if x = 0 then xe_P d 24 142 ls st h Q else xe_P d 24 132 ls st h Q) := xe_P_if (ins := .ifCond .eq 13) (len := 3) (off := 13) (by decide +kernel) (by decide) rfl rfl rfl
theorem xs_24_132 : xe_P d 24 132 [.ref a, l1, l2, l3] st h Q = xe_P d 24 133 [.ref a, l1, l2, l3] (.ref a :: st) h Q := xe_P_lo (ins := .aload_n 0) (len := 1) (by decide +kernel) rfl rfl
theorem xs_24_133 : xe_P d 24 133 ls st h Q = xe_P d 24 134 ls (.int 4 :: st) h Q := xe_P_ar (ins := .iconst 4) (len := 1) (by decide +kernel) rfl
theorem xs_24_134 : xe_P d 24 134 [.ref a, l1, l2, l3] st h Q = xe_P d 24 135 [.ref a, l1, l2, l3] (.ref a :: st) h Q := xe_P_lo (ins := .aload_n 0) (len := 1) (by decide +kernel) rfl rfl
theorem xs_24_135 : xe_P d 24 135 ls (.ref a :: st) h Q = (xe_ob h a 2 ∧ xe_P d 24 138 ls (.int (xe_I h a 7) :: st) h Q) := xe_P_getI (i := 74) (by decide +kernel) (by decide +kernel) (by decide) rfl
theorem xs_24_138 : xe_P d 24 138 ls (v1 :: v0 :: .ref a :: st) h Q = ((xe_w st ≤ 8 ∧ xe_ob h a 2) ∧ xe_C d 29 [.ref a, v0, v1] h (fun r h' => xe_P d 24 141 ls (r.toList ++ st) h' Q)) := xe_P_ivv (y := 24) (pc := 138) (z := 29) (i := 59) (vs := [v1, v0]) (by decide +kernel) (by decide +kernel) rfl (by decide +kernel)
theorem xs_24_141 : xe_P d 24 141 ls [.int x] h Q = ((x = 0 ∨ x = 1) ∧ Q (some (.int x)) h) := xe_P_zreturn (by decide +kernel) rfl
theorem xs_24_142 : xe_P d 24 142 ls st h Q = xe_P d 24 143 ls (.int 0 :: st) h Q := xe_P_ar (ins := .iconst 0) (len := 1) (by decide +kernel) rfl
theorem xs_24_143 : xe_P d 24 143 [l0, l1, l2, l3] (.int x :: st) h Q = xe_P d 24 144 [l0, l1, xe_cut l2, .int x] st h Q := xe_P_lo (ins := .istore_n 3) (len := 1) (by decide +kernel) rfl rfl
theorem xs_24_144 : xe_P d 24 144 [l0, .int x, l2, l3] st h Q = xe_P d 24 145 [l0, .int x, l2, l3] (.int x :: st) h Q := xe_P_lo (ins := .iload_n 1) (len := 1) (by decide +kernel) rfl rfl
theorem xs_24_145 : xe_P d 24 145 ls st h Q = xe_P d 24 146 ls (.int 3 :: st) h Q := xe_P_ar (ins := .iconst 3) (len := 1) (by decide +kernel) rfl
theorem xs_24_146 : xe_P d 24 146 ls (.int v :: .int x :: st) h Q = (if x < v then xe_P d 24 198 ls st h Q else xe_P d 24 149 ls st h Q) := xe_P_if (ins := .if_icmp .lt 52) (len := 3) (off := 52) (by decide +kernel) (by decide) rfl rfl rfl
theorem xs_24_149 : xe_P d 24 149 [.ref a, l1, l2, l3] st h Q = xe_P d 24 150 [.ref a, l1, l2, l3] (.ref a :: st) h Q := xe_P_lo (ins := .aload_n 0) (len := 1) (by decide +kernel) rfl rfl
theorem xs_24_150 : xe_P d 24 150 ls st h Q = xe_P d 24 153 ls (.ref (xe_S + 3) :: st) h Q := xe_P_gets (j := 96) (by decide +kernel) (by decide +kernel) (by decide)
theorem xs_24_153 : xe_P d 24 153 [l0, .int x, l2, l3] st h Q = xe_P d 24 154 [l0, .int x, l2, l3] (.int x :: st) h Q := xe_P_lo (ins := .iload_n 1) (len := 1) (by decide +kernel) rfl rfl
theorem xs_24_154 : xe_P d 24 154 ls (.int v :: .ref a :: st) h Q = ((xe_ia h a ∧ xe_ix h a v) ∧ xe_P d 24 155 ls (.int (xe_I h a v.toNatClampNeg) :: st) h Q) := xe_P_iald (by decide +kernel)
theorem xs_24_155 : xe_P d 24 155 ls st h Q = xe_P d 24 158 ls (.ref (xe_S + 4) :: st) h Q := xe_P_gets (j := 99) (by decide +kernel) (by decide +kernel) (by decide)
theorem xs_24_158 : xe_P d 24 158 [l0, .int x, l2, l3] st h Q = xe_P d 24 159 [l0, .int x, l2, l3] (.int x :: st) h Q := xe_P_lo (ins := .iload_n 1) (len := 1) (by decide +kernel) rfl rfl
theorem xs_24_159 : xe_P d 24 159 ls (.int v :: .ref a :: st) h Q = ((xe_ia h a ∧ xe_ix h a v) ∧ xe_P d 24 160 ls (.int (xe_I h a v.toNatClampNeg) :: st) h Q) := xe_P_iald (by decide +kernel)
theorem xs_24_160 : xe_P d 24 160 ls (v1 :: v0 :: .ref a :: st) h Q = ((xe_w st ≤ 8 ∧ xe_ob h a 2) ∧ xe_C d 25 [.ref a, v0, v1] h (fun r h' => xe_P d 24 163 ls (r.toList ++ st) h' Q)) := xe_P_ivv (y := 24) (pc := 160) (z := 25) (i := 87) (vs := [v1, v0]) (by decide +kernel) (by decide +kernel) rfl (by decide +kernel)
theorem xs_24_163 : xe_P d 24 163 ls (.int x :: st) h Q = (if x = 0 then xe_P d 24 166 ls st h Q else xe_P d 24 168 ls st h Q) := xe_P_ifn (ins := .ifCond .ne 5) (len := 3) (off := 5) (by decide +kernel) (by decide) rfl rfl rfl
theorem xs_24_166 : xe_P d 24 166 ls st h Q = xe_P d 24 167 ls (.int 0 :: st) h Q := xe_P_ar (ins := .iconst 0) (len := 1) (by decide +kernel) rfl
theorem xs_24_167 : xe_P d 24 167 ls [.int x] h Q = ((x = 0 ∨ x = 1) ∧ Q (some (.int x)) h) := xe_P_zreturn (by decide +kernel) rfl
theorem xs_24_168 : xe_P d 24 168 [.ref a, l1, l2, l3] st h Q = xe_P d 24 169 [.ref a, l1, l2, l3] (.ref a :: st) h Q := xe_P_lo (ins := .aload_n 0) (len := 1) (by decide +kernel) rfl rfl
theorem xs_24_169 : xe_P d 24 169 ls (.ref a :: st) h Q = (xe_ob h a 2 ∧ xe_P d 24 172 ls (.int (xe_I h a 8) :: st) h Q) := xe_P_getI (i := 90) (by decide +kernel) (by decide +kernel) (by decide) rfl
theorem xs_24_172 : xe_P d 24 172 [l0, l1, l2, l3] (.int x :: st) h Q = xe_P d 24 173 [l0, l1, xe_cut l2, .int x] st h Q := xe_P_lo (ins := .istore_n 3) (len := 1) (by decide +kernel) rfl rfl
theorem xs_24_173 : xe_P d 24 173 [l0, .int x, l2, l3] st h Q = xe_P d 24 174 [l0, .int x, l2, l3] (.int x :: st) h Q := xe_P_lo (ins := .iload_n 1) (len := 1) (by decide +kernel) rfl rfl
theorem xs_24_174 : xe_P d 24 174 ls st h Q = xe_P d 24 175 ls (.int 3 :: st) h Q := xe_P_ar (ins := .iconst 3) (len := 1) (by decide +kernel) rfl
theorem xs_24_175 : xe_P d 24 175 ls (.int v :: .int x :: st) h Q = (if x = v then xe_P d 24 183 ls st h Q else xe_P d 24 178 ls st h Q) := xe_P_if (ins := .if_icmp .eq 8) (len := 3) (off := 8) (by decide +kernel) (by decide) rfl rfl rfl
theorem xs_24_178 : xe_P d 24 178 [l0, .int x, l2, l3] st h Q = xe_P d 24 179 [l0, .int x, l2, l3] (.int x :: st) h Q := xe_P_lo (ins := .iload_n 1) (len := 1) (by decide +kernel) rfl rfl
theorem xs_24_179 : xe_P d 24 179 ls st h Q = xe_P d 24 180 ls (.int 4 :: st) h Q := xe_P_ar (ins := .iconst 4) (len := 1) (by decide +kernel) rfl
theorem xs_24_180 : xe_P d 24 180 ls (.int v :: .int x :: st) h Q = (if x = v then xe_P d 24 183 ls st h Q else xe_P d 24 198 ls st h Q) := xe_P_ifn (ins := .if_icmp .ne 18) (len := 3) (off := 18) (by decide +kernel) (by decide) rfl rfl rfl
theorem xs_24_183 : xe_P d 24 183 [l0, l1, .int x, l3] st h Q = xe_P d 24 184 [l0, l1, .int x, l3] (.int x :: st) h Q := xe_P_lo (ins := .iload_n 2) (len := 1) (by decide +kernel) rfl rfl
theorem xs_24_184 : xe_P d 24 184 [l0, l1, l2, .int x] st h Q = xe_P d 24 185 [l0, l1, l2, .int x] (.int x :: st) h Q := xe_P_lo (ins := .iload_n 3) (len := 1) (by decide +kernel) rfl rfl
theorem xs_24_185 : xe_P d 24 185 ls (.int v :: .int x :: st) h Q = (if x = v then xe_P d 24 188 ls st h Q else xe_P d 24 198 ls st h Q) := xe_P_ifn (ins := .if_icmp .ne 13) (len := 3) (off := 13) (by decide +kernel) (by decide) rfl rfl rfl
theorem xs_24_188 : xe_P d 24 188 [.ref a, l1, l2, l3] st h Q = xe_P d 24 189 [.ref a, l1, l2, l3] (.ref a :: st) h Q := xe_P_lo (ins := .aload_n 0) (len := 1) (by decide +kernel) rfl rfl
theorem xs_24_189 : xe_P d 24 189 ls st h Q = xe_P d 24 190 ls (.int 4 :: st) h Q := xe_P_ar (ins := .iconst 4) (len := 1) (by decide +kernel) rfl
theorem xs_24_190 : xe_P d 24 190 [.ref a, l1, l2, l3] st h Q = xe_P d 24 191 [.ref a, l1, l2, l3] (.ref a :: st) h Q := xe_P_lo (ins := .aload_n 0) (len := 1) (by decide +kernel) rfl rfl
theorem xs_24_191 : xe_P d 24 191 ls (.ref a :: st) h Q = (xe_ob h a 2 ∧ xe_P d 24 194 ls (.int (xe_I h a 7) :: st) h Q) := xe_P_getI (i := 74) (by decide +kernel) (by decide +kernel) (by decide) rfl
theorem xs_24_194 : xe_P d 24 194 ls (v1 :: v0 :: .ref a :: st) h Q = ((xe_w st ≤ 8 ∧ xe_ob h a 2) ∧ xe_C d 29 [.ref a, v0, v1] h (fun r h' => xe_P d 24 197 ls (r.toList ++ st) h' Q)) := xe_P_ivv (y := 24) (pc := 194) (z := 29) (i := 59) (vs := [v1, v0]) (by decide +kernel) (by decide +kernel) rfl (by decide +kernel)
theorem xs_24_197 : xe_P d 24 197 ls [.int x] h Q = ((x = 0 ∨ x = 1) ∧ Q (some (.int x)) h) := xe_P_zreturn (by decide +kernel) rfl
theorem xs_24_198 : xe_P d 24 198 [.ref a, l1, l2, l3] st h Q = xe_P d 24 199 [.ref a, l1, l2, l3] (.ref a :: st) h Q := xe_P_lo (ins := .aload_n 0) (len := 1) (by decide +kernel) rfl rfl
theorem xs_24_199 : xe_P d 24 199 ls (.ref a :: st) h Q = ((xe_w st ≤ 8 ∧ xe_ob h a 2) ∧ xe_C d 30 [.ref a] h (fun r h' => xe_P d 24 202 ls (r.toList ++ st) h' Q)) := xe_P_ivv (y := 24) (pc := 199) (z := 30) (i := 43) (vs := []) (by decide +kernel) (by decide +kernel) rfl (by decide +kernel)
theorem xs_24_202 : xe_P d 24 202 [.ref a, l1, l2, l3] st h Q = xe_P d 24 203 [.ref a, l1, l2, l3] (.ref a :: st) h Q := xe_P_lo (ins := .aload_n 0) (len := 1) (by decide +kernel) rfl rfl
theorem xs_24_203 : xe_P d 24 203 ls st h Q = xe_P d 24 204 ls (.int 3 :: st) h Q := xe_P_ar (ins := .iconst 3) (len := 1) (by decide +kernel) rfl
theorem xs_24_204 : xe_P d 24 204 ls (v0 :: .ref a :: st) h Q = ((xe_w st ≤ 8 ∧ xe_ob h a 2) ∧ xe_C d 26 [.ref a, v0] h (fun r h' => xe_P d 24 207 ls (r.toList ++ st) h' Q)) := xe_P_ivv (y := 24) (pc := 204) (z := 26) (i := 66) (vs := [v0]) (by decide +kernel) (by decide +kernel) rfl (by decide +kernel)
theorem xs_24_207 : xe_P d 24 207 ls (.int x :: st) h Q = (if x = 0 then xe_P d 24 210 ls st h Q else xe_P d 24 212 ls st h Q) := xe_P_ifn (ins := .ifCond .ne 5) (len := 3) (off := 5) (by decide +kernel) (by decide) rfl rfl rfl
theorem xs_24_210 : xe_P d 24 210 ls st h Q = xe_P d 24 211 ls (.int 0 :: st) h Q := xe_P_ar (ins := .iconst 0) (len := 1) (by decide +kernel) rfl
theorem xs_24_211 : xe_P d 24 211 ls [.int x] h Q = ((x = 0 ∨ x = 1) ∧ Q (some (.int x)) h) := xe_P_zreturn (by decide +kernel) rfl
theorem xs_24_212 : xe_P d 24 212 [.ref a, l1, l2, l3] st h Q = xe_P d 24 213 [.ref a, l1, l2, l3] (.ref a :: st) h Q := xe_P_lo (ins := .aload_n 0) (len := 1) (by decide +kernel) rfl rfl
theorem xs_24_213 : xe_P d 24 213 [l0, .int x, l2, l3] st h Q = xe_P d 24 214 [l0, .int x, l2, l3] (.int x :: st) h Q := xe_P_lo (ins := .iload_n 1) (len := 1) (by decide +kernel) rfl rfl
theorem xs_24_214 : xe_P d 24 214 [l0, l1, .int x, l3] st h Q = xe_P d 24 215 [l0, l1, .int x, l3] (.int x :: st) h Q := xe_P_lo (ins := .iload_n 2) (len := 1) (by decide +kernel) rfl rfl
theorem xs_24_215 : xe_P d 24 215 [l0, l1, l2, .int x] st h Q = xe_P d 24 216 [l0, l1, l2, .int x] (.int x :: st) h Q := xe_P_lo (ins := .iload_n 3) (len := 1) (by decide +kernel) rfl rfl
theorem xs_24_216 : xe_P d 24 216 ls (v2 :: v1 :: v0 :: .ref a :: st) h Q = ((xe_w st ≤ 8 ∧ xe_ob h a 2) ∧ xe_C d 28 [.ref a, v0, v1, v2] h (fun r h' => xe_P d 24 219 ls (r.toList ++ st) h' Q)) := xe_P_ivv (y := 24) (pc := 216) (z := 28) (i := 102) (vs := [v2, v1, v0]) (by decide +kernel) (by decide +kernel) rfl (by decide +kernel)
theorem xs_24_219 : xe_P d 24 219 ls st h Q = xe_P d 24 220 ls (.int 1 :: st) h Q := xe_P_ar (ins := .iconst 1) (len := 1) (by decide +kernel) rfl
theorem xs_24_220 : xe_P d 24 220 ls [.int x] h Q = ((x = 0 ∨ x = 1) ∧ Q (some (.int x)) h) := xe_P_zreturn (by decide +kernel) rfl
theorem xs_24 : xe_C (d + 1) 24 [.ref a] h Q = xe_P d 24 0 [.ref a, .retAddr 0, .retAddr 0, .retAddr 0] [] h Q := xe_C_at (Nat.le_of_ble_eq_true rfl) rfl
theorem xs_25_0 : xe_P d 25 0 [.ref a, l1, l2] st h Q = xe_P d 25 1 [.ref a, l1, l2] (.ref a :: st) h Q := xe_P_lo (ins := .aload_n 0) (len := 1) (by decide +kernel) rfl rfl
theorem xs_25_1 : xe_P d 25 1 ls (.ref a :: st) h Q = ((xe_w st ≤ 8 ∧ xe_ob h a 2) ∧ xe_C d 30 [.ref a] h (fun r h' => xe_P d 25 4 ls (r.toList ++ st) h' Q)) := xe_P_ivv (y := 25) (pc := 1) (z := 30) (i := 43) (vs := []) (by decide +kernel) (by decide +kernel) rfl (by decide +kernel)
theorem xs_25_4 : xe_P d 25 4 [.ref a, l1, l2] st h Q = xe_P d 25 5 [.ref a, l1, l2] (.ref a :: st) h Q := xe_P_lo (ins := .aload_n 0) (len := 1) (by decide +kernel) rfl rfl
theorem xs_25_5 : xe_P d 25 5 ls st h Q = xe_P d 25 6 ls (.int 2 :: st) h Q := xe_P_ar (ins := .iconst 2) (len := 1) (by decide +kernel) rfl
theorem xs_25_6 : xe_P d 25 6 ls (v0 :: .ref a :: st) h Q = ((xe_w st ≤ 8 ∧ xe_ob h a 2) ∧ xe_C d 26 [.ref a, v0] h (fun r h' => xe_P d 25 9 ls (r.toList ++ st) h' Q)) := xe_P_ivv (y := 25) (pc := 6) (z := 26) (i := 66) (vs := [v0]) (by decide +kernel) (by decide +kernel) rfl (by decide +kernel)
theorem xs_25_9 : xe_P d 25 9 ls (.int x :: st) h Q = (if x = 0 then xe_P d 25 12 ls st h Q else xe_P d 25 14 ls st h Q) := xe_P_ifn (ins := .ifCond .ne 5) (len := 3) (off := 5) (by decide +kernel) (by decide) rfl rfl rfl
theorem xs_25_12 : xe_P d 25 12 ls st h Q = xe_P d 25 13 ls (.int 0 :: st) h Q := xe_P_ar (ins := .iconst 0) (len := 1) (by decide +kernel) rfl
theorem xs_25_13 : xe_P d 25 13 ls [.int x] h Q = ((x = 0 ∨ x = 1) ∧ Q (some (.int x)) h) := xe_P_zreturn (by decide +kernel) rfl
theorem xs_25_14 : xe_P d 25 14 [.ref a, l1, l2] st h Q = xe_P d 25 15 [.ref a, l1, l2] (.ref a :: st) h Q := xe_P_lo (ins := .aload_n 0) (len := 1) (by decide +kernel) rfl rfl
theorem xs_25_15 : xe_P d 25 15 ls (.ref a :: st) h Q = (xe_ob h a 2 ∧ xe_P d 25 18 ls (.int (xe_I h a 8) :: st) h Q) := xe_P_getI (i := 90) (by decide +kernel) (by decide +kernel) (by decide) rfl
theorem xs_25_18 : xe_P d 25 18 [l0, .int x, l2] st h Q = xe_P d 25 19 [l0, .int x, l2] (.int x :: st) h Q := xe_P_lo (ins := .iload_n 1) (len := 1) (by decide +kernel) rfl rfl
theorem xs_25_19 : xe_P d 25 19 ls (.int v :: .int x :: st) h Q = (if x < v then xe_P d 25 30 ls st h Q else xe_P d 25 22 ls st h Q) := xe_P_if (ins := .if_icmp .lt 11) (len := 3) (off := 11) (by decide +kernel) (by decide) rfl rfl rfl
theorem xs_25_22 : xe_P d 25 22 [.ref a, l1, l2] st h Q = xe_P d 25 23 [.ref a, l1, l2] (.ref a :: st) h Q := xe_P_lo (ins := .aload_n 0) (len := 1) (by decide +kernel) rfl rfl
theorem xs_25_23 : xe_P d 25 23 ls (.ref a :: st) h Q = (xe_ob h a 2 ∧ xe_P d 25 26 ls (.int (xe_I h a 8) :: st) h Q) := xe_P_getI (i := 90) (by decide +kernel) (by decide +kernel) (by decide) rfl
theorem xs_25_26 : xe_P d 25 26 [l0, l1, .int x] st h Q = xe_P d 25 27 [l0, l1, .int x] (.int x :: st) h Q := xe_P_lo (ins := .iload_n 2) (len := 1) (by decide +kernel) rfl rfl
theorem xs_25_27 : xe_P d 25 27 ls (.int v :: .int x :: st) h Q = (if x ≤ v then xe_P d 25 42 ls st h Q else xe_P d 25 30 ls st h Q) := xe_P_if (ins := .if_icmp .le 15) (len := 3) (off := 15) (by decide +kernel) (by decide) rfl rfl rfl
theorem xs_25_30 : xe_P d 25 30 [.ref a, l1, l2] st h Q = xe_P d 25 31 [.ref a, l1, l2] (.ref a :: st) h Q := xe_P_lo (ins := .aload_n 0) (len := 1) (by decide +kernel) rfl rfl
theorem xs_25_31 : xe_P d 25 31 ls st h Q = xe_P d 25 32 ls (.int 3 :: st) h Q := xe_P_ar (ins := .iconst 3) (len := 1) (by decide +kernel) rfl
theorem xs_25_32 : xe_P d 25 32 [.ref a, l1, l2] st h Q = xe_P d 25 33 [.ref a, l1, l2] (.ref a :: st) h Q := xe_P_lo (ins := .aload_n 0) (len := 1) (by decide +kernel) rfl rfl
theorem xs_25_33 : xe_P d 25 33 ls (.ref a :: st) h Q = (xe_ob h a 2 ∧ xe_P d 25 36 ls (.int (xe_I h a 7) :: st) h Q) := xe_P_getI (i := 74) (by decide +kernel) (by decide +kernel) (by decide) rfl
theorem xs_25_36 : xe_P d 25 36 ls (v1 :: v0 :: .ref a :: st) h Q = ((xe_w st ≤ 8 ∧ xe_ob h a 2) ∧ xe_C d 29 [.ref a, v0, v1] h (fun r h' => xe_P d 25 39 ls (r.toList ++ st) h' Q)) := xe_P_ivv (y := 25) (pc := 36) (z := 29) (i := 59) (vs := [v1, v0]) (by decide +kernel) (by decide +kernel) rfl (by decide +kernel)
theorem xs_25_39 : xe_P d 25 39 ls (.int x :: st) h Q = (if x = 0 then xe_P d 25 46 ls st h Q else xe_P d 25 42 ls st h Q) := xe_P_if (ins := .ifCond .eq 7) (len := 3) (off := 7) (by decide +kernel) (by decide) rfl rfl rfl
theorem xs_25_42 : xe_P d 25 42 ls st h Q = xe_P d 25 43 ls (.int 1 :: st) h Q := xe_P_ar (ins := .iconst 1) (len := 1) (by decide +kernel) rfl
theorem xs_25_43 : xe_P d 25 43 ls st h Q = xe_P d 25 47 ls st h Q := xe_P_go (len := 3) (off := 4) (by decide +kernel) (by decide)
theorem xs_25_46 : xe_P d 25 46 ls st h Q = xe_P d 25 47 ls (.int 0 :: st) h Q := xe_P_ar (ins := .iconst 0) (len := 1) (by decide +kernel) rfl
theorem xs_25_47 : xe_P d 25 47 ls [.int x] h Q = ((x = 0 ∨ x = 1) ∧ Q (some (.int x)) h) := xe_P_zreturn (by decide +kernel) rfl
theorem xs_25 : xe_C (d + 1) 25 [.ref a, .int x0, .int x1] h Q = xe_P d 25 0 [.ref a, .int x0, .int x1] [] h Q := xe_C_at (Nat.le_of_ble_eq_true rfl) rfl
theorem xs_26_0 : xe_P d 26 0 [.ref a, l1] st h Q = xe_P d 26 1 [.ref a, l1] (.ref a :: st) h Q := xe_P_lo (ins := .aload_n 0) (len := 1) (by decide +kernel) rfl rfl
theorem xs_26_1 : xe_P d 26 1 ls (.ref a :: st) h Q = (xe_ob h a 2 ∧ xe_P d 26 4 ls (.int (xe_I h a 6) :: st) h Q) := xe_P_getI (i := 46) (by decide +kernel) (by decide +kernel) (by decide) rfl
theorem xs_26_4 : xe_P d 26 4 ls st h Q = xe_P d 26 5 ls (.int 4 :: st) h Q := xe_P_ar (ins := .iconst 4) (len := 1) (by decide +kernel) rfl
theorem xs_26_5 : xe_P d 26 5 ls (.int v :: .int x :: st) h Q = (if x = v then xe_P d 26 8 ls st h Q else xe_P d 26 18 ls st h Q) := xe_P_ifn (ins := .if_icmp .ne 13) (len := 3) (off := 13) (by decide +kernel) (by decide) rfl rfl rfl
theorem xs_26_8 : xe_P d 26 8 [.ref a, l1] st h Q = xe_P d 26 9 [.ref a, l1] (.ref a :: st) h Q := xe_P_lo (ins := .aload_n 0) (len := 1) (by decide +kernel) rfl rfl
theorem xs_26_9 : xe_P d 26 9 ls st h Q = xe_P d 26 10 ls (.int 1 :: st) h Q := xe_P_ar (ins := .iconst 1) (len := 1) (by decide +kernel) rfl
theorem xs_26_10 : xe_P d 26 10 [.ref a, l1] st h Q = xe_P d 26 11 [.ref a, l1] (.ref a :: st) h Q := xe_P_lo (ins := .aload_n 0) (len := 1) (by decide +kernel) rfl rfl
theorem xs_26_11 : xe_P d 26 11 ls (.ref a :: st) h Q = (xe_ob h a 2 ∧ xe_P d 26 14 ls (.int (xe_I h a 7) :: st) h Q) := xe_P_getI (i := 74) (by decide +kernel) (by decide +kernel) (by decide) rfl
theorem xs_26_14 : xe_P d 26 14 ls (v1 :: v0 :: .ref a :: st) h Q = ((xe_w st ≤ 8 ∧ xe_ob h a 2) ∧ xe_C d 29 [.ref a, v0, v1] h (fun r h' => xe_P d 26 17 ls (r.toList ++ st) h' Q)) := xe_P_ivv (y := 26) (pc := 14) (z := 29) (i := 59) (vs := [v1, v0]) (by decide +kernel) (by decide +kernel) rfl (by decide +kernel)
theorem xs_26_17 : xe_P d 26 17 ls [.int x] h Q = ((x = 0 ∨ x = 1) ∧ Q (some (.int x)) h) := xe_P_zreturn (by decide +kernel) rfl
theorem xs_26_18 : xe_P d 26 18 [.ref a, l1] st h Q = xe_P d 26 19 [.ref a, l1] (.ref a :: st) h Q := xe_P_lo (ins := .aload_n 0) (len := 1) (by decide +kernel) rfl rfl
theorem xs_26_19 : xe_P d 26 19 ls (.ref a :: st) h Q = (xe_ob h a 2 ∧ xe_P d 26 22 ls (.int (xe_I h a 6) :: st) h Q) := xe_P_getI (i := 46) (by decide +kernel) (by decide +kernel) (by decide) rfl
theorem xs_26_22 : xe_P d 26 22 [l0, .int x] st h Q = xe_P d 26 23 [l0, .int x] (.int x :: st) h Q := xe_P_lo (ins := .iload_n 1) (len := 1) (by decide +kernel) rfl rfl
theorem xs_26_23 : xe_P d 26 23 ls (.int v :: .int x :: st) h Q = (if x = v then xe_P d 26 38 ls st h Q else xe_P d 26 26 ls st h Q) := xe_P_if (ins := .if_icmp .eq 15) (len := 3) (off := 15) (by decide +kernel) (by decide) rfl rfl rfl
theorem xs_26_26 : xe_P d 26 26 [.ref a, l1] st h Q = xe_P d 26 27 [.ref a, l1] (.ref a :: st) h Q := xe_P_lo (ins := .aload_n 0) (len := 1) (by decide +kernel) rfl rfl
theorem xs_26_27 : xe_P d 26 27 ls st h Q = xe_P d 26 28 ls (.int 2 :: st) h Q := xe_P_ar (ins := .iconst 2) (len := 1) (by decide +kernel) rfl
theorem xs_26_28 : xe_P d 26 28 [.ref a, l1] st h Q = xe_P d 26 29 [.ref a, l1] (.ref a :: st) h Q := xe_P_lo (ins := .aload_n 0) (len := 1) (by decide +kernel) rfl rfl
theorem xs_26_29 : xe_P d 26 29 ls (.ref a :: st) h Q = (xe_ob h a 2 ∧ xe_P d 26 32 ls (.int (xe_I h a 7) :: st) h Q) := xe_P_getI (i := 74) (by decide +kernel) (by decide +kernel) (by decide) rfl
theorem xs_26_32 : xe_P d 26 32 ls (v1 :: v0 :: .ref a :: st) h Q = ((xe_w st ≤ 8 ∧ xe_ob h a 2) ∧ xe_C d 29 [.ref a, v0, v1] h (fun r h' => xe_P d 26 35 ls (r.toList ++ st) h' Q)) := xe_P_ivv (y := 26) (pc := 32) (z := 29) (i := 59) (vs := [v1, v0]) (by decide +kernel) (by decide +kernel) rfl (by decide +kernel)
theorem xs_26_35 : xe_P d 26 35 ls (.int x :: st) h Q = (if x = 0 then xe_P d 26 42 ls st h Q else xe_P d 26 38 ls st h Q) := xe_P_if (ins := .ifCond .eq 7) (len := 3) (off := 7) (by decide +kernel) (by decide) rfl rfl rfl
theorem xs_26_38 : xe_P d 26 38 ls st h Q = xe_P d 26 39 ls (.int 1 :: st) h Q := xe_P_ar (ins := .iconst 1) (len := 1) (by decide +kernel) rfl
theorem xs_26_39 : xe_P d 26 39 ls st h Q = xe_P d 26 43 ls st h Q := xe_P_go (len := 3) (off := 4) (by decide +kernel) (by decide)
theorem xs_26_42 : xe_P d 26 42 ls st h Q = xe_P d 26 43 ls (.int 0 :: st) h Q := xe_P_ar (ins := .iconst 0) (len := 1) (by decide +kernel) rfl
theorem xs_26_43 : xe_P d 26 43 ls [.int x] h Q = ((x = 0 ∨ x = 1) ∧ Q (some (.int x)) h) := xe_P_zreturn (by decide +kernel) rfl
theorem xs_26 : xe_C (d + 1) 26 [.ref a, .int x0] h Q = xe_P d 26 0 [.ref a, .int x0] [] h Q := xe_C_at (Nat.le_of_ble_eq_true rfl) rfl
theorem xs_27_0 : xe_P d 27 0 [l0, .int x, l2] st h Q = xe_P d 27 1 [l0, .int x, l2] (.int x :: st) h Q := xe_P_lo (ins := .iload_n 1) (len := 1) (by decide +kernel) rfl rfl
theorem xs_27_1 : xe_P d 27 1 ls st h Q = xe_P d 27 2 ls (.int 4 :: st) h Q := xe_P_ar (ins := .iconst 4) (len := 1) (by decide +kernel) rfl
theorem xs_27_2 : xe_P d 27 2 ls (.int v :: .int x :: st) h Q = (if x = v then xe_P d 27 5 ls st h Q else xe_P d 27 25 ls st h Q) := xe_P_ifn (ins := .if_icmp .ne 23) (len := 3) (off := 23) (by decide +kernel) (by decide) rfl rfl rfl
theorem xs_27_5 : xe_P d 27 5 [.ref a, l1, l2] st h Q = xe_P d 27 6 [.ref a, l1, l2] (.ref a :: st) h Q := xe_P_lo (ins := .aload_n 0) (len := 1) (by decide +kernel) rfl rfl
theorem xs_27_6 : xe_P d 27 6 ls (.ref a :: st) h Q = (xe_ob h a 2 ∧ xe_P d 27 9 ls (va_rf (xe_R h a 4) :: st) h Q) := xe_P_getR (i := 19) (by decide +kernel) (by decide +kernel) (by decide) rfl
theorem xs_27_9 : xe_P d 27 9 ls (.ref a :: st) h Q = (xe_ob h a 3 ∧ xe_P d 27 12 ls (va_rf (xe_R h a 9) :: st) h Q) := xe_P_getR (i := 106) (by decide +kernel) (by decide +kernel) (by decide) rfl
theorem xs_27_12 : xe_P d 27 12 [l0, l1, .int x] st h Q = xe_P d 27 13 [l0, l1, .int x] (.int x :: st) h Q := xe_P_lo (ins := .iload_n 2) (len := 1) (by decide +kernel) rfl rfl
theorem xs_27_13 : xe_P d 27 13 ls (.int v :: .ref a :: st) h Q = ((xe_ia h a ∧ xe_ix h a v) ∧ xe_P d 27 14 ls (.int (xe_I h a v.toNatClampNeg) :: st) h Q) := xe_P_iald (by decide +kernel)
theorem xs_27_14 : xe_P d 27 14 ls st h Q = xe_P d 27 16 ls (.int 6 :: st) h Q := xe_P_ar (ins := .bipush 6) (len := 2) (by decide +kernel) rfl
theorem xs_27_16 : xe_P d 27 16 ls (.int v :: .int x :: st) h Q = (if x = v then xe_P d 27 23 ls st h Q else xe_P d 27 19 ls st h Q) := xe_P_if (ins := .if_icmp .eq 7) (len := 3) (off := 7) (by decide +kernel) (by decide) rfl rfl rfl
theorem xs_27_19 : xe_P d 27 19 ls st h Q = xe_P d 27 20 ls (.int 1 :: st) h Q := xe_P_ar (ins := .iconst 1) (len := 1) (by decide +kernel) rfl
theorem xs_27_20 : xe_P d 27 20 ls st h Q = xe_P d 27 24 ls st h Q := xe_P_go (len := 3) (off := 4) (by decide +kernel) (by decide)
theorem xs_27_23 : xe_P d 27 23 ls st h Q = xe_P d 27 24 ls (.int 0 :: st) h Q := xe_P_ar (ins := .iconst 0) (len := 1) (by decide +kernel) rfl
theorem xs_27_24 : xe_P d 27 24 ls [.int x] h Q = ((x = 0 ∨ x = 1) ∧ Q (some (.int x)) h) := xe_P_zreturn (by decide +kernel) rfl
theorem xs_27_25 : xe_P d 27 25 [l0, .int x, l2] st h Q = xe_P d 27 26 [l0, .int x, l2] (.int x :: st) h Q := xe_P_lo (ins := .iload_n 1) (len := 1) (by decide +kernel) rfl rfl
theorem xs_27_26 : xe_P d 27 26 ls st h Q = xe_P d 27 27 ls (.int 5 :: st) h Q := xe_P_ar (ins := .iconst 5) (len := 1) (by decide +kernel) rfl
theorem xs_27_27 : xe_P d 27 27 ls (.int v :: .int x :: st) h Q = (if x = v then xe_P d 27 30 ls st h Q else xe_P d 27 48 ls st h Q) := xe_P_ifn (ins := .if_icmp .ne 21) (len := 3) (off := 21) (by decide +kernel) (by decide) rfl rfl rfl
theorem xs_27_30 : xe_P d 27 30 [.ref a, l1, l2] st h Q = xe_P d 27 31 [.ref a, l1, l2] (.ref a :: st) h Q := xe_P_lo (ins := .aload_n 0) (len := 1) (by decide +kernel) rfl rfl
theorem xs_27_31 : xe_P d 27 31 ls (.ref a :: st) h Q = (xe_ob h a 2 ∧ xe_P d 27 34 ls (va_rf (xe_R h a 4) :: st) h Q) := xe_P_getR (i := 19) (by decide +kernel) (by decide +kernel) (by decide) rfl
theorem xs_27_34 : xe_P d 27 34 ls (.ref a :: st) h Q = (xe_ob h a 3 ∧ xe_P d 27 37 ls (.int (xe_I h a 6) :: st) h Q) := xe_P_getI (i := 109) (by decide +kernel) (by decide +kernel) (by decide) rfl
theorem xs_27_37 : xe_P d 27 37 [l0, l1, .int x] st h Q = xe_P d 27 38 [l0, l1, .int x] (.int x :: st) h Q := xe_P_lo (ins := .iload_n 2) (len := 1) (by decide +kernel) rfl rfl
theorem xs_27_38 : xe_P d 27 38 ls (v1 :: v0 :: st) h Q = (xe_w st ≤ 8 ∧ xe_C d 45 [v0, v1] h (fun r h' => xe_P d 27 41 ls (r.toList ++ st) h' Q)) := xe_P_ivs (y := 27) (pc := 38) (z := 45) (i := 112) (vs := [v1, v0]) (by decide +kernel) (by decide +kernel) rfl
theorem xs_27_41 : xe_P d 27 41 ls (.int x :: st) h Q = (if x = 0 then xe_P d 27 44 ls st h Q else xe_P d 27 48 ls st h Q) := xe_P_ifn (ins := .ifCond .ne 7) (len := 3) (off := 7) (by decide +kernel) (by decide) rfl rfl rfl
theorem xs_27_44 : xe_P d 27 44 ls st h Q = xe_P d 27 45 ls (.int 1 :: st) h Q := xe_P_ar (ins := .iconst 1) (len := 1) (by decide +kernel) rfl
theorem xs_27_45 : xe_P d 27 45 ls st h Q = xe_P d 27 49 ls st h Q := xe_P_go (len := 3) (off := 4) (by decide +kernel) (by decide)
theorem xs_27_48 : xe_P d 27 48 ls st h Q = xe_P d 27 49 ls (.int 0 :: st) h Q := xe_P_ar (ins := .iconst 0) (len := 1) (by decide +kernel) rfl
theorem xs_27_49 : xe_P d 27 49 ls [.int x] h Q = ((x = 0 ∨ x = 1) ∧ Q (some (.int x)) h) := xe_P_zreturn (by decide +kernel) rfl
theorem xs_27 : xe_C (d + 1) 27 [.ref a, .int x0, .int x1] h Q = xe_P d 27 0 [.ref a, .int x0, .int x1] [] h Q := xe_C_at (Nat.le_of_ble_eq_true rfl) rfl
theorem xs_28_0 : xe_P d 28 0 [.ref a, l1, l2, l3] st h Q = xe_P d 28 1 [.ref a, l1, l2, l3] (.ref a :: st) h Q := xe_P_lo (ins := .aload_n 0) (len := 1) (by decide +kernel) rfl rfl
theorem xs_28_1 : xe_P d 28 1 ls (.ref a :: st) h Q = xe_P d 28 2 ls (.ref a :: .ref a :: st) h Q := xe_P_ar (ins := .dup) (len := 1) (by decide +kernel) rfl
theorem xs_28_1i : xe_P d 28 1 ls (.int x :: st) h Q = xe_P d 28 2 ls (.int x :: .int x :: st) h Q := xe_P_ar (ins := .dup) (len := 1) (by decide +kernel) rfl
theorem xs_28_2 : xe_P d 28 2 ls (.ref a :: st) h Q = (xe_ob h a 2 ∧ xe_P d 28 5 ls (.int (xe_I h a 9) :: st) h Q) := xe_P_getI (i := 34) (by decide +kernel) (by decide +kernel) (by decide) rfl
theorem xs_28_5 : xe_P d 28 5 ls st h Q = xe_P d 28 6 ls (.int 1 :: st) h Q := xe_P_ar (ins := .iconst 1) (len := 1) (by decide +kernel) rfl
theorem xs_28_6 : xe_P d 28 6 [l0, .int x, l2, l3] st h Q = xe_P d 28 7 [l0, .int x, l2, l3] (.int x :: st) h Q := xe_P_lo (ins := .iload_n 1) (len := 1) (by decide +kernel) rfl rfl
theorem xs_28_7 : xe_P d 28 7 ls (.int v :: .int x :: st) h Q = xe_P d 28 8 ls (.int (x <<< (v &&& 31)) :: st) h Q := xe_P_ar (ins := .ishl) (len := 1) (by decide +kernel) rfl
theorem xs_28_8 : xe_P d 28 8 ls (.int v :: .int x :: st) h Q = xe_P d 28 9 ls (.int (x ||| v) :: st) h Q := xe_P_ar (ins := .ior) (len := 1) (by decide +kernel) rfl
theorem xs_28_9 : xe_P d 28 9 ls (.int v :: .ref a :: st) h Q = (xe_ob h a 2 ∧ xe_P d 28 12 ls st (xe_sI h a 9 v) Q) := xe_P_putI (i := 34) (by decide +kernel) (by decide +kernel) (by decide) (by decide +kernel) rfl
theorem xs_28_12 : xe_P d 28 12 [l0, .int x, l2, l3] st h Q = xe_P d 28 13 [l0, .int x, l2, l3] (.int x :: st) h Q := xe_P_lo (ins := .iload_n 1) (len := 1) (by decide +kernel) rfl rfl
theorem xs_28_13 : xe_P d 28 13 ls (.int x :: st) h Q = (if x = 0 then xe_P d 28 52 ls st h Q else (if x = 1 then xe_P d 28 63 ls st h Q else (if x = 2 then xe_P d 28 74 ls st h Q else (if x = 3 then xe_P d 28 85 ls st h Q else (if x = 4 then xe_P d 28 149 ls st h Q else (if x = 5 then xe_P d 28 178 ls st h Q else xe_P d 28 212 ls st h Q)))))) := (xe_P_sw (dflt := 199) (hi := 5) (offs := #[39, 50, 61, 72, 136, 165]) (len := 39) (by decide +kernel) (by decide) (by decide)).trans rfl
theorem xs_28_52 : xe_P d 28 52 [.ref a, l1, l2, l3] st h Q = xe_P d 28 53 [.ref a, l1, l2, l3] (.ref a :: st) h Q := xe_P_lo (ins := .aload_n 0) (len := 1) (by decide +kernel) rfl rfl
theorem xs_28_53 : xe_P d 28 53 ls (.ref a :: st) h Q = (xe_ob h a 2 ∧ xe_P d 28 56 ls (va_rf (xe_R h a 4) :: st) h Q) := xe_P_getR (i := 19) (by decide +kernel) (by decide +kernel) (by decide) rfl
theorem xs_28_56 : xe_P d 28 56 [l0, l1, .int x, l3] st h Q = xe_P d 28 57 [l0, l1, .int x, l3] (.int x :: st) h Q := xe_P_lo (ins := .iload_n 2) (len := 1) (by decide +kernel) rfl rfl
theorem xs_28_57 : xe_P d 28 57 ls (.int v :: .ref a :: st) h Q = (xe_ob h a 3 ∧ xe_P d 28 60 ls st (xe_sI h a 0 v) Q) := xe_P_putI (i := 53) (by decide +kernel) (by decide +kernel) (by decide) (by decide +kernel) rfl
theorem xs_28_60 : xe_P d 28 60 ls st h Q = xe_P d 28 273 ls st h Q := xe_P_go (len := 3) (off := 213) (by decide +kernel) (by decide)
theorem xs_28_63 : xe_P d 28 63 [.ref a, l1, l2, l3] st h Q = xe_P d 28 64 [.ref a, l1, l2, l3] (.ref a :: st) h Q := xe_P_lo (ins := .aload_n 0) (len := 1) (by decide +kernel) rfl rfl
theorem xs_28_64 : xe_P d 28 64 ls (.ref a :: st) h Q = (xe_ob h a 2 ∧ xe_P d 28 67 ls (va_rf (xe_R h a 4) :: st) h Q) := xe_P_getR (i := 19) (by decide +kernel) (by decide +kernel) (by decide) rfl
theorem xs_28_67 : xe_P d 28 67 [l0, l1, .int x, l3] st h Q = xe_P d 28 68 [l0, l1, .int x, l3] (.int x :: st) h Q := xe_P_lo (ins := .iload_n 2) (len := 1) (by decide +kernel) rfl rfl
theorem xs_28_68 : xe_P d 28 68 ls (.int v :: .ref a :: st) h Q = (xe_ob h a 3 ∧ xe_P d 28 71 ls st (xe_sI h a 4 v) Q) := xe_P_putI (i := 115) (by decide +kernel) (by decide +kernel) (by decide) (by decide +kernel) rfl
theorem xs_28_71 : xe_P d 28 71 ls st h Q = xe_P d 28 273 ls st h Q := xe_P_go (len := 3) (off := 202) (by decide +kernel) (by decide)
theorem xs_28_74 : xe_P d 28 74 [.ref a, l1, l2, l3] st h Q = xe_P d 28 75 [.ref a, l1, l2, l3] (.ref a :: st) h Q := xe_P_lo (ins := .aload_n 0) (len := 1) (by decide +kernel) rfl rfl
theorem xs_28_75 : xe_P d 28 75 ls (.ref a :: st) h Q = (xe_ob h a 2 ∧ xe_P d 28 78 ls (va_rf (xe_R h a 4) :: st) h Q) := xe_P_getR (i := 19) (by decide +kernel) (by decide +kernel) (by decide) rfl
theorem xs_28_78 : xe_P d 28 78 [l0, l1, .int x, l3] st h Q = xe_P d 28 79 [l0, l1, .int x, l3] (.int x :: st) h Q := xe_P_lo (ins := .iload_n 2) (len := 1) (by decide +kernel) rfl rfl
theorem xs_28_79 : xe_P d 28 79 ls (.int v :: .ref a :: st) h Q = (xe_ob h a 3 ∧ xe_P d 28 82 ls st (xe_sI h a 3 v) Q) := xe_P_putI (i := 118) (by decide +kernel) (by decide +kernel) (by decide) (by decide +kernel) rfl
theorem xs_28_82 : xe_P d 28 82 ls st h Q = xe_P d 28 273 ls st h Q := xe_P_go (len := 3) (off := 191) (by decide +kernel) (by decide)
theorem xs_28_85 : xe_P d 28 85 [.ref a, l1, l2, l3] st h Q = xe_P d 28 86 [.ref a, l1, l2, l3] (.ref a :: st) h Q := xe_P_lo (ins := .aload_n 0) (len := 1) (by decide +kernel) rfl rfl
theorem xs_28_86 : xe_P d 28 86 ls (.ref a :: st) h Q = (xe_ob h a 2 ∧ xe_P d 28 89 ls (va_rf (xe_R h a 4) :: st) h Q) := xe_P_getR (i := 19) (by decide +kernel) (by decide +kernel) (by decide) rfl
theorem xs_28_89 : xe_P d 28 89 ls (.ref a :: st) h Q = (xe_ob h a 3 ∧ xe_P d 28 92 ls (va_rf (xe_R h a 7) :: st) h Q) := xe_P_getR (i := 121) (by decide +kernel) (by decide +kernel) (by decide) rfl
theorem xs_28_92 : xe_P d 28 92 [.ref a, l1, l2, l3] st h Q = xe_P d 28 93 [.ref a, l1, l2, l3] (.ref a :: st) h Q := xe_P_lo (ins := .aload_n 0) (len := 1) (by decide +kernel) rfl rfl
theorem xs_28_93 : xe_P d 28 93 ls (.ref a :: st) h Q = (xe_ob h a 2 ∧ xe_P d 28 96 ls (va_rf (xe_R h a 4) :: st) h Q) := xe_P_getR (i := 19) (by decide +kernel) (by decide +kernel) (by decide) rfl
theorem xs_28_96 : xe_P d 28 96 ls (.ref a :: st) h Q = (xe_ob h a 3 ∧ xe_P d 28 99 ls (.int (xe_I h a 1) :: st) h Q) := xe_P_getI (i := 56) (by decide +kernel) (by decide +kernel) (by decide) rfl
theorem xs_28_99 : xe_P d 28 99 [l0, l1, .int x, l3] st h Q = xe_P d 28 100 [l0, l1, .int x, l3] (.int x :: st) h Q := xe_P_lo (ins := .iload_n 2) (len := 1) (by decide +kernel) rfl rfl
theorem xs_28_100 : xe_P d 28 100 ls (.int x :: .int v :: .ref a :: st) h Q = ((xe_ob h a 8 ∧ xe_ix h a v) ∧ xe_P d 28 101 ls st (xe_sI h a v.toNatClampNeg x) Q) := xe_P_iast (by decide +kernel)
theorem xs_28_101 : xe_P d 28 101 [.ref a, l1, l2, l3] st h Q = xe_P d 28 102 [.ref a, l1, l2, l3] (.ref a :: st) h Q := xe_P_lo (ins := .aload_n 0) (len := 1) (by decide +kernel) rfl rfl
theorem xs_28_102 : xe_P d 28 102 ls (.ref a :: st) h Q = (xe_ob h a 2 ∧ xe_P d 28 105 ls (va_rf (xe_R h a 4) :: st) h Q) := xe_P_getR (i := 19) (by decide +kernel) (by decide +kernel) (by decide) rfl
theorem xs_28_105 : xe_P d 28 105 ls (.ref a :: st) h Q = (xe_ob h a 3 ∧ xe_P d 28 108 ls (va_rf (xe_R h a 8) :: st) h Q) := xe_P_getR (i := 124) (by decide +kernel) (by decide +kernel) (by decide) rfl
theorem xs_28_108 : xe_P d 28 108 [.ref a, l1, l2, l3] st h Q = xe_P d 28 109 [.ref a, l1, l2, l3] (.ref a :: st) h Q := xe_P_lo (ins := .aload_n 0) (len := 1) (by decide +kernel) rfl rfl
theorem xs_28_109 : xe_P d 28 109 ls (.ref a :: st) h Q = (xe_ob h a 2 ∧ xe_P d 28 112 ls (va_rf (xe_R h a 4) :: st) h Q) := xe_P_getR (i := 19) (by decide +kernel) (by decide +kernel) (by decide) rfl
theorem xs_28_112 : xe_P d 28 112 ls (.ref a :: st) h Q = (xe_ob h a 3 ∧ xe_P d 28 115 ls (.int (xe_I h a 1) :: st) h Q) := xe_P_getI (i := 56) (by decide +kernel) (by decide +kernel) (by decide) rfl
theorem xs_28_115 : xe_P d 28 115 [l0, l1, l2, .int x] st h Q = xe_P d 28 116 [l0, l1, l2, .int x] (.int x :: st) h Q := xe_P_lo (ins := .iload_n 3) (len := 1) (by decide +kernel) rfl rfl
theorem xs_28_116 : xe_P d 28 116 ls (.int x :: .int v :: .ref a :: st) h Q = ((xe_ob h a 8 ∧ xe_ix h a v) ∧ xe_P d 28 117 ls st (xe_sI h a v.toNatClampNeg x) Q) := xe_P_iast (by decide +kernel)
theorem xs_28_117 : xe_P d 28 117 [.ref a, l1, l2, l3] st h Q = xe_P d 28 118 [.ref a, l1, l2, l3] (.ref a :: st) h Q := xe_P_lo (ins := .aload_n 0) (len := 1) (by decide +kernel) rfl rfl
theorem xs_28_118 : xe_P d 28 118 ls (.ref a :: st) h Q = (xe_ob h a 2 ∧ xe_P d 28 121 ls (va_rf (xe_R h a 4) :: st) h Q) := xe_P_getR (i := 19) (by decide +kernel) (by decide +kernel) (by decide) rfl
theorem xs_28_121 : xe_P d 28 121 ls (.ref a :: st) h Q = xe_P d 28 122 ls (.ref a :: .ref a :: st) h Q := xe_P_ar (ins := .dup) (len := 1) (by decide +kernel) rfl
theorem xs_28_121i : xe_P d 28 121 ls (.int x :: st) h Q = xe_P d 28 122 ls (.int x :: .int x :: st) h Q := xe_P_ar (ins := .dup) (len := 1) (by decide +kernel) rfl
theorem xs_28_122 : xe_P d 28 122 ls (.ref a :: st) h Q = (xe_ob h a 3 ∧ xe_P d 28 125 ls (.int (xe_I h a 1) :: st) h Q) := xe_P_getI (i := 56) (by decide +kernel) (by decide +kernel) (by decide) rfl
theorem xs_28_125 : xe_P d 28 125 ls st h Q = xe_P d 28 126 ls (.int 1 :: st) h Q := xe_P_ar (ins := .iconst 1) (len := 1) (by decide +kernel) rfl
theorem xs_28_126 : xe_P d 28 126 ls (.int v :: .int x :: st) h Q = xe_P d 28 127 ls (.int (x + v) :: st) h Q := xe_P_ar (ins := .iadd) (len := 1) (by decide +kernel) rfl
theorem xs_28_127 : xe_P d 28 127 ls (.int v :: .ref a :: st) h Q = (xe_ob h a 3 ∧ xe_P d 28 130 ls st (xe_sI h a 1 v) Q) := xe_P_putI (i := 56) (by decide +kernel) (by decide +kernel) (by decide) (by decide +kernel) rfl
theorem xs_28_130 : xe_P d 28 130 [.ref a, l1, l2, l3] st h Q = xe_P d 28 131 [.ref a, l1, l2, l3] (.ref a :: st) h Q := xe_P_lo (ins := .aload_n 0) (len := 1) (by decide +kernel) rfl rfl
theorem xs_28_131 : xe_P d 28 131 [.ref a, l1, l2, l3] st h Q = xe_P d 28 132 [.ref a, l1, l2, l3] (.ref a :: st) h Q := xe_P_lo (ins := .aload_n 0) (len := 1) (by decide +kernel) rfl rfl
theorem xs_28_132 : xe_P d 28 132 ls (.ref a :: st) h Q = (xe_ob h a 2 ∧ xe_P d 28 135 ls (.int (xe_I h a 10) :: st) h Q) := xe_P_getI (i := 37) (by decide +kernel) (by decide +kernel) (by decide) rfl
theorem xs_28_135 : xe_P d 28 135 [l0, l1, .int x, l3] st h Q = xe_P d 28 136 [l0, l1, .int x, l3] (.int x :: st) h Q := xe_P_lo (ins := .iload_n 2) (len := 1) (by decide +kernel) rfl rfl
theorem xs_28_136 : xe_P d 28 136 [l0, l1, l2, .int x] st h Q = xe_P d 28 137 [l0, l1, l2, .int x] (.int x :: st) h Q := xe_P_lo (ins := .iload_n 3) (len := 1) (by decide +kernel) rfl rfl
theorem xs_28_137 : xe_P d 28 137 ls (.int v :: .int x :: st) h Q = (xe_w st ≤ 8 ∧ xe_P d 28 140 ls (.int (if x < v then v else x) :: st) h Q) := xe_P_max (i := 127) (by decide +kernel) (by decide +kernel)
theorem xs_28_140 : xe_P d 28 140 ls (.int v :: .int x :: st) h Q = (xe_w st ≤ 8 ∧ xe_P d 28 143 ls (.int (if x < v then v else x) :: st) h Q) := xe_P_max (i := 127) (by decide +kernel) (by decide +kernel)
theorem xs_28_143 : xe_P d 28 143 ls (.int v :: .ref a :: st) h Q = (xe_ob h a 2 ∧ xe_P d 28 146 ls st (xe_sI h a 10 v) Q) := xe_P_putI (i := 37) (by decide +kernel) (by decide +kernel) (by decide) (by decide +kernel) rfl
theorem xs_28_146 : xe_P d 28 146 ls st h Q = xe_P d 28 273 ls st h Q := xe_P_go (len := 3) (off := 127) (by decide +kernel) (by decide)
theorem xs_28_149 : xe_P d 28 149 [.ref a, l1, l2, l3] st h Q = xe_P d 28 150 [.ref a, l1, l2, l3] (.ref a :: st) h Q := xe_P_lo (ins := .aload_n 0) (len := 1) (by decide +kernel) rfl rfl
theorem xs_28_150 : xe_P d 28 150 ls (.ref a :: st) h Q = (xe_ob h a 2 ∧ xe_P d 28 153 ls (va_rf (xe_R h a 4) :: st) h Q) := xe_P_getR (i := 19) (by decide +kernel) (by decide +kernel) (by decide) rfl
theorem xs_28_153 : xe_P d 28 153 ls (.ref a :: st) h Q = (xe_ob h a 3 ∧ xe_P d 28 156 ls (va_rf (xe_R h a 9) :: st) h Q) := xe_P_getR (i := 106) (by decide +kernel) (by decide +kernel) (by decide) rfl
theorem xs_28_156 : xe_P d 28 156 [l0, l1, .int x, l3] st h Q = xe_P d 28 157 [l0, l1, .int x, l3] (.int x :: st) h Q := xe_P_lo (ins := .iload_n 2) (len := 1) (by decide +kernel) rfl rfl
theorem xs_28_157 : xe_P d 28 157 [l0, l1, l2, .int x] st h Q = xe_P d 28 158 [l0, l1, l2, .int x] (.int x :: st) h Q := xe_P_lo (ins := .iload_n 3) (len := 1) (by decide +kernel) rfl rfl
theorem xs_28_158 : xe_P d 28 158 ls (.int x :: .int v :: .ref a :: st) h Q = ((xe_ob h a 8 ∧ xe_ix h a v) ∧ xe_P d 28 159 ls st (xe_sI h a v.toNatClampNeg x) Q) := xe_P_iast (by decide +kernel)
theorem xs_28_159 : xe_P d 28 159 [.ref a, l1, l2, l3] st h Q = xe_P d 28 160 [.ref a, l1, l2, l3] (.ref a :: st) h Q := xe_P_lo (ins := .aload_n 0) (len := 1) (by decide +kernel) rfl rfl
theorem xs_28_160 : xe_P d 28 160 [.ref a, l1, l2, l3] st h Q = xe_P d 28 161 [.ref a, l1, l2, l3] (.ref a :: st) h Q := xe_P_lo (ins := .aload_n 0) (len := 1) (by decide +kernel) rfl rfl
theorem xs_28_161 : xe_P d 28 161 ls (.ref a :: st) h Q = (xe_ob h a 2 ∧ xe_P d 28 164 ls (.int (xe_I h a 11) :: st) h Q) := xe_P_getI (i := 40) (by decide +kernel) (by decide +kernel) (by decide) rfl
theorem xs_28_164 : xe_P d 28 164 [l0, l1, .int x, l3] st h Q = xe_P d 28 165 [l0, l1, .int x, l3] (.int x :: st) h Q := xe_P_lo (ins := .iload_n 2) (len := 1) (by decide +kernel) rfl rfl
theorem xs_28_165 : xe_P d 28 165 [l0, l1, l2, .int x] st h Q = xe_P d 28 166 [l0, l1, l2, .int x] (.int x :: st) h Q := xe_P_lo (ins := .iload_n 3) (len := 1) (by decide +kernel) rfl rfl
theorem xs_28_166 : xe_P d 28 166 ls (.int v :: .int x :: st) h Q = (xe_w st ≤ 8 ∧ xe_P d 28 169 ls (.int (if x < v then v else x) :: st) h Q) := xe_P_max (i := 127) (by decide +kernel) (by decide +kernel)
theorem xs_28_169 : xe_P d 28 169 ls (.int v :: .int x :: st) h Q = (xe_w st ≤ 8 ∧ xe_P d 28 172 ls (.int (if x < v then v else x) :: st) h Q) := xe_P_max (i := 127) (by decide +kernel) (by decide +kernel)
theorem xs_28_172 : xe_P d 28 172 ls (.int v :: .ref a :: st) h Q = (xe_ob h a 2 ∧ xe_P d 28 175 ls st (xe_sI h a 11 v) Q) := xe_P_putI (i := 40) (by decide +kernel) (by decide +kernel) (by decide) (by decide +kernel) rfl
theorem xs_28_175 : xe_P d 28 175 ls st h Q = xe_P d 28 273 ls st h Q := xe_P_go (len := 3) (off := 98) (by decide +kernel) (by decide)
theorem xs_28_178 : xe_P d 28 178 [.ref a, l1, l2, l3] st h Q = xe_P d 28 179 [.ref a, l1, l2, l3] (.ref a :: st) h Q := xe_P_lo (ins := .aload_n 0) (len := 1) (by decide +kernel) rfl rfl
theorem xs_28_179 : xe_P d 28 179 ls (.ref a :: st) h Q = (xe_ob h a 2 ∧ xe_P d 28 182 ls (va_rf (xe_R h a 4) :: st) h Q) := xe_P_getR (i := 19) (by decide +kernel) (by decide +kernel) (by decide) rfl
theorem xs_28_182 : xe_P d 28 182 [.ref a, l1, l2, l3] st h Q = xe_P d 28 183 [.ref a, l1, l2, l3] (.ref a :: st) h Q := xe_P_lo (ins := .aload_n 0) (len := 1) (by decide +kernel) rfl rfl
theorem xs_28_183 : xe_P d 28 183 ls (.ref a :: st) h Q = (xe_ob h a 2 ∧ xe_P d 28 186 ls (va_rf (xe_R h a 4) :: st) h Q) := xe_P_getR (i := 19) (by decide +kernel) (by decide +kernel) (by decide) rfl
theorem xs_28_186 : xe_P d 28 186 ls (.ref a :: st) h Q = (xe_ob h a 3 ∧ xe_P d 28 189 ls (.int (xe_I h a 6) :: st) h Q) := xe_P_getI (i := 109) (by decide +kernel) (by decide +kernel) (by decide) rfl
theorem xs_28_189 : xe_P d 28 189 [l0, l1, .int x, l3] st h Q = xe_P d 28 190 [l0, l1, .int x, l3] (.int x :: st) h Q := xe_P_lo (ins := .iload_n 2) (len := 1) (by decide +kernel) rfl rfl
theorem xs_28_190 : xe_P d 28 190 [l0, l1, l2, .int x] st h Q = xe_P d 28 191 [l0, l1, l2, .int x] (.int x :: st) h Q := xe_P_lo (ins := .iload_n 3) (len := 1) (by decide +kernel) rfl rfl
theorem xs_28_191 : xe_P d 28 191 ls (v2 :: v1 :: v0 :: st) h Q = (xe_w st ≤ 8 ∧ xe_C d 44 [v0, v1, v2] h (fun r h' => xe_P d 28 194 ls (r.toList ++ st) h' Q)) := xe_P_ivs (y := 28) (pc := 191) (z := 44) (i := 133) (vs := [v2, v1, v0]) (by decide +kernel) (by decide +kernel) rfl
theorem xs_28_194 : xe_P d 28 194 ls (.int v :: .ref a :: st) h Q = (xe_ob h a 3 ∧ xe_P d 28 197 ls st (xe_sI h a 6 v) Q) := xe_P_putI (i := 109) (by decide +kernel) (by decide +kernel) (by decide) (by decide +kernel) rfl
theorem xs_28_197 : xe_P d 28 197 [.ref a, l1, l2, l3] st h Q = xe_P d 28 198 [.ref a, l1, l2, l3] (.ref a :: st) h Q := xe_P_lo (ins := .aload_n 0) (len := 1) (by decide +kernel) rfl rfl
theorem xs_28_198 : xe_P d 28 198 [.ref a, l1, l2, l3] st h Q = xe_P d 28 199 [.ref a, l1, l2, l3] (.ref a :: st) h Q := xe_P_lo (ins := .aload_n 0) (len := 1) (by decide +kernel) rfl rfl
theorem xs_28_199 : xe_P d 28 199 ls (.ref a :: st) h Q = (xe_ob h a 2 ∧ xe_P d 28 202 ls (.int (xe_I h a 11) :: st) h Q) := xe_P_getI (i := 40) (by decide +kernel) (by decide +kernel) (by decide) rfl
theorem xs_28_202 : xe_P d 28 202 [l0, l1, .int x, l3] st h Q = xe_P d 28 203 [l0, l1, .int x, l3] (.int x :: st) h Q := xe_P_lo (ins := .iload_n 2) (len := 1) (by decide +kernel) rfl rfl
theorem xs_28_203 : xe_P d 28 203 ls (.int v :: .int x :: st) h Q = (xe_w st ≤ 8 ∧ xe_P d 28 206 ls (.int (if x < v then v else x) :: st) h Q) := xe_P_max (i := 127) (by decide +kernel) (by decide +kernel)
theorem xs_28_206 : xe_P d 28 206 ls (.int v :: .ref a :: st) h Q = (xe_ob h a 2 ∧ xe_P d 28 209 ls st (xe_sI h a 11 v) Q) := xe_P_putI (i := 40) (by decide +kernel) (by decide +kernel) (by decide) (by decide +kernel) rfl
theorem xs_28_209 : xe_P d 28 209 ls st h Q = xe_P d 28 273 ls st h Q := xe_P_go (len := 3) (off := 64) (by decide +kernel) (by decide)
theorem xs_28_212 : xe_P d 28 212 [.ref a, l1, l2, l3] st h Q = xe_P d 28 213 [.ref a, l1, l2, l3] (.ref a :: st) h Q := xe_P_lo (ins := .aload_n 0) (len := 1) (by decide +kernel) rfl rfl
theorem xs_28_213 : xe_P d 28 213 ls (.ref a :: st) h Q = (xe_ob h a 2 ∧ xe_P d 28 216 ls (va_rf (xe_R h a 4) :: st) h Q) := xe_P_getR (i := 19) (by decide +kernel) (by decide +kernel) (by decide) rfl
theorem xs_28_216 : xe_P d 28 216 ls (.ref a :: st) h Q = (xe_ob h a 3 ∧ xe_P d 28 219 ls (va_rf (xe_R h a 10) :: st) h Q) := xe_P_getR (i := 137) (by decide +kernel) (by decide +kernel) (by decide) rfl
theorem xs_28_219 : xe_P d 28 219 [.ref a, l1, l2, l3] st h Q = xe_P d 28 220 [.ref a, l1, l2, l3] (.ref a :: st) h Q := xe_P_lo (ins := .aload_n 0) (len := 1) (by decide +kernel) rfl rfl
theorem xs_28_220 : xe_P d 28 220 ls (.ref a :: st) h Q = (xe_ob h a 2 ∧ xe_P d 28 223 ls (va_rf (xe_R h a 4) :: st) h Q) := xe_P_getR (i := 19) (by decide +kernel) (by decide +kernel) (by decide) rfl
theorem xs_28_223 : xe_P d 28 223 ls (.ref a :: st) h Q = (xe_ob h a 3 ∧ xe_P d 28 226 ls (.int (xe_I h a 2) :: st) h Q) := xe_P_getI (i := 77) (by decide +kernel) (by decide +kernel) (by decide) rfl
theorem xs_28_226 : xe_P d 28 226 [l0, l1, .int x, l3] st h Q = xe_P d 28 227 [l0, l1, .int x, l3] (.int x :: st) h Q := xe_P_lo (ins := .iload_n 2) (len := 1) (by decide +kernel) rfl rfl
theorem xs_28_227 : xe_P d 28 227 ls (.int x :: .int v :: .ref a :: st) h Q = ((xe_ob h a 8 ∧ xe_ix h a v) ∧ xe_P d 28 228 ls st (xe_sI h a v.toNatClampNeg x) Q) := xe_P_iast (by decide +kernel)
theorem xs_28_228 : xe_P d 28 228 [.ref a, l1, l2, l3] st h Q = xe_P d 28 229 [.ref a, l1, l2, l3] (.ref a :: st) h Q := xe_P_lo (ins := .aload_n 0) (len := 1) (by decide +kernel) rfl rfl
theorem xs_28_229 : xe_P d 28 229 ls (.ref a :: st) h Q = (xe_ob h a 2 ∧ xe_P d 28 232 ls (va_rf (xe_R h a 4) :: st) h Q) := xe_P_getR (i := 19) (by decide +kernel) (by decide +kernel) (by decide) rfl
theorem xs_28_232 : xe_P d 28 232 ls (.ref a :: st) h Q = (xe_ob h a 3 ∧ xe_P d 28 235 ls (va_rf (xe_R h a 11) :: st) h Q) := xe_P_getR (i := 140) (by decide +kernel) (by decide +kernel) (by decide) rfl
theorem xs_28_235 : xe_P d 28 235 [.ref a, l1, l2, l3] st h Q = xe_P d 28 236 [.ref a, l1, l2, l3] (.ref a :: st) h Q := xe_P_lo (ins := .aload_n 0) (len := 1) (by decide +kernel) rfl rfl
theorem xs_28_236 : xe_P d 28 236 ls (.ref a :: st) h Q = (xe_ob h a 2 ∧ xe_P d 28 239 ls (va_rf (xe_R h a 4) :: st) h Q) := xe_P_getR (i := 19) (by decide +kernel) (by decide +kernel) (by decide) rfl
theorem xs_28_239 : xe_P d 28 239 ls (.ref a :: st) h Q = (xe_ob h a 3 ∧ xe_P d 28 242 ls (.int (xe_I h a 2) :: st) h Q) := xe_P_getI (i := 77) (by decide +kernel) (by decide +kernel) (by decide) rfl
theorem xs_28_242 : xe_P d 28 242 [l0, l1, l2, .int x] st h Q = xe_P d 28 243 [l0, l1, l2, .int x] (.int x :: st) h Q := xe_P_lo (ins := .iload_n 3) (len := 1) (by decide +kernel) rfl rfl
theorem xs_28_243 : xe_P d 28 243 ls (.int x :: .int v :: .ref a :: st) h Q = ((xe_ob h a 8 ∧ xe_ix h a v) ∧ xe_P d 28 244 ls st (xe_sI h a v.toNatClampNeg x) Q) := xe_P_iast (by decide +kernel)
theorem xs_28_244 : xe_P d 28 244 [.ref a, l1, l2, l3] st h Q = xe_P d 28 245 [.ref a, l1, l2, l3] (.ref a :: st) h Q := xe_P_lo (ins := .aload_n 0) (len := 1) (by decide +kernel) rfl rfl
theorem xs_28_245 : xe_P d 28 245 ls (.ref a :: st) h Q = (xe_ob h a 2 ∧ xe_P d 28 248 ls (va_rf (xe_R h a 4) :: st) h Q) := xe_P_getR (i := 19) (by decide +kernel) (by decide +kernel) (by decide) rfl
theorem xs_28_248 : xe_P d 28 248 ls (.ref a :: st) h Q = xe_P d 28 249 ls (.ref a :: .ref a :: st) h Q := xe_P_ar (ins := .dup) (len := 1) (by decide +kernel) rfl
theorem xs_28_248i : xe_P d 28 248 ls (.int x :: st) h Q = xe_P d 28 249 ls (.int x :: .int x :: st) h Q := xe_P_ar (ins := .dup) (len := 1) (by decide +kernel) rfl
theorem xs_28_249 : xe_P d 28 249 ls (.ref a :: st) h Q = (xe_ob h a 3 ∧ xe_P d 28 252 ls (.int (xe_I h a 2) :: st) h Q) := xe_P_getI (i := 77) (by decide +kernel) (by decide +kernel) (by decide) rfl
theorem xs_28_252 : xe_P d 28 252 ls st h Q = xe_P d 28 253 ls (.int 1 :: st) h Q := xe_P_ar (ins := .iconst 1) (len := 1) (by decide +kernel) rfl
theorem xs_28_253 : xe_P d 28 253 ls (.int v :: .int x :: st) h Q = xe_P d 28 254 ls (.int (x + v) :: st) h Q := xe_P_ar (ins := .iadd) (len := 1) (by decide +kernel) rfl
theorem xs_28_254 : xe_P d 28 254 ls (.int v :: .ref a :: st) h Q = (xe_ob h a 3 ∧ xe_P d 28 257 ls st (xe_sI h a 2 v) Q) := xe_P_putI (i := 77) (by decide +kernel) (by decide +kernel) (by decide) (by decide +kernel) rfl
theorem xs_28_257 : xe_P d 28 257 [.ref a, l1, l2, l3] st h Q = xe_P d 28 258 [.ref a, l1, l2, l3] (.ref a :: st) h Q := xe_P_lo (ins := .aload_n 0) (len := 1) (by decide +kernel) rfl rfl
theorem xs_28_258 : xe_P d 28 258 [.ref a, l1, l2, l3] st h Q = xe_P d 28 259 [.ref a, l1, l2, l3] (.ref a :: st) h Q := xe_P_lo (ins := .aload_n 0) (len := 1) (by decide +kernel) rfl rfl
theorem xs_28_259 : xe_P d 28 259 ls (.ref a :: st) h Q = (xe_ob h a 2 ∧ xe_P d 28 262 ls (.int (xe_I h a 10) :: st) h Q) := xe_P_getI (i := 37) (by decide +kernel) (by decide +kernel) (by decide) rfl
theorem xs_28_262 : xe_P d 28 262 [l0, l1, .int x, l3] st h Q = xe_P d 28 263 [l0, l1, .int x, l3] (.int x :: st) h Q := xe_P_lo (ins := .iload_n 2) (len := 1) (by decide +kernel) rfl rfl
theorem xs_28_263 : xe_P d 28 263 [l0, l1, l2, .int x] st h Q = xe_P d 28 264 [l0, l1, l2, .int x] (.int x :: st) h Q := xe_P_lo (ins := .iload_n 3) (len := 1) (by decide +kernel) rfl rfl
theorem xs_28_264 : xe_P d 28 264 ls (.int v :: .int x :: st) h Q = (xe_w st ≤ 8 ∧ xe_P d 28 267 ls (.int (if x < v then v else x) :: st) h Q) := xe_P_max (i := 127) (by decide +kernel) (by decide +kernel)
theorem xs_28_267 : xe_P d 28 267 ls (.int v :: .int x :: st) h Q = (xe_w st ≤ 8 ∧ xe_P d 28 270 ls (.int (if x < v then v else x) :: st) h Q) := xe_P_max (i := 127) (by decide +kernel) (by decide +kernel)
theorem xs_28_270 : xe_P d 28 270 ls (.int v :: .ref a :: st) h Q = (xe_ob h a 2 ∧ xe_P d 28 273 ls st (xe_sI h a 10 v) Q) := xe_P_putI (i := 37) (by decide +kernel) (by decide +kernel) (by decide) (by decide +kernel) rfl
theorem xs_28_273 : xe_P d 28 273 ls [] h Q = Q none h := xe_P_vreturn (by decide +kernel) rfl
theorem xs_28 : xe_C (d + 1) 28 [.ref a, .int x0, .int x1, .int x2] h Q = xe_P d 28 0 [.ref a, .int x0, .int x1, .int x2] [] h Q := xe_C_at (Nat.le_of_ble_eq_true rfl) rfl
theorem xs_29_0 : xe_P d 29 0 [.ref a, l1, l2] st h Q = xe_P d 29 1 [.ref a, l1, l2] (.ref a :: st) h Q := xe_P_lo (ins := .aload_n 0) (len := 1) (by decide +kernel) rfl rfl
theorem xs_29_1 : xe_P d 29 1 [l0, .int x, l2] st h Q = xe_P d 29 2 [l0, .int x, l2] (.int x :: st) h Q := xe_P_lo (ins := .iload_n 1) (len := 1) (by decide +kernel) rfl rfl
theorem xs_29_2 : xe_P d 29 2 ls (.int v :: .ref a :: st) h Q = (xe_ob h a 2 ∧ xe_P d 29 5 ls st (xe_sI h a 2 v) Q) := xe_P_putI (i := 31) (by decide +kernel) (by decide +kernel) (by decide) (by decide +kernel) rfl
theorem xs_29_5 : xe_P d 29 5 [.ref a, l1, l2] st h Q = xe_P d 29 6 [.ref a, l1, l2] (.ref a :: st) h Q := xe_P_lo (ins := .aload_n 0) (len := 1) (by decide +kernel) rfl rfl
theorem xs_29_6 : xe_P d 29 6 [l0, l1, .int x] st h Q = xe_P d 29 7 [l0, l1, .int x] (.int x :: st) h Q := xe_P_lo (ins := .iload_n 2) (len := 1) (by decide +kernel) rfl rfl
theorem xs_29_7 : xe_P d 29 7 ls (.int v :: .ref a :: st) h Q = (xe_ob h a 2 ∧ xe_P d 29 10 ls st (xe_sI h a 3 v) Q) := xe_P_putI (i := 63) (by decide +kernel) (by decide +kernel) (by decide) (by decide +kernel) rfl
theorem xs_29_10 : xe_P d 29 10 ls st h Q = xe_P d 29 11 ls (.int 0 :: st) h Q := xe_P_ar (ins := .iconst 0) (len := 1) (by decide +kernel) rfl
theorem xs_29_11 : xe_P d 29 11 ls [.int x] h Q = ((x = 0 ∨ x = 1) ∧ Q (some (.int x)) h) := xe_P_zreturn (by decide +kernel) rfl
theorem xs_29 : xe_C (d + 1) 29 [.ref a, .int x0, .int x1] h Q = xe_P d 29 0 [.ref a, .int x0, .int x1] [] h Q := xe_C_at (Nat.le_of_ble_eq_true rfl) rfl
theorem xs_30_0 : xe_P d 30 0 [.ref a] st h Q = xe_P d 30 1 [.ref a] (.ref a :: st) h Q := xe_P_lo (ins := .aload_n 0) (len := 1) (by decide +kernel) rfl rfl
theorem xs_30_1 : xe_P d 30 1 ls (.ref a :: st) h Q = (xe_ob h a 2 ∧ xe_P d 30 4 ls (.int (xe_I h a 5) :: st) h Q) := xe_P_getI (i := 28) (by decide +kernel) (by decide +kernel) (by decide) rfl
theorem xs_30_4 : xe_P d 30 4 [.ref a] st h Q = xe_P d 30 5 [.ref a] (.ref a :: st) h Q := xe_P_lo (ins := .aload_n 0) (len := 1) (by decide +kernel) rfl rfl
theorem xs_30_5 : xe_P d 30 5 ls (.ref a :: st) h Q = (xe_ob h a 2 ∧ xe_P d 30 8 ls (.int (xe_I h a 1) :: st) h Q) := xe_P_getI (i := 15) (by decide +kernel) (by decide +kernel) (by decide) rfl
theorem xs_30_8 : xe_P d 30 8 ls (.int v :: .int x :: st) h Q = (if v ≤ x then xe_P d 30 38 ls st h Q else xe_P d 30 11 ls st h Q) := xe_P_if (ins := .if_icmp .ge 30) (len := 3) (off := 30) (by decide +kernel) (by decide) rfl rfl rfl
theorem xs_30_11 : xe_P d 30 11 [.ref a] st h Q = xe_P d 30 12 [.ref a] (.ref a :: st) h Q := xe_P_lo (ins := .aload_n 0) (len := 1) (by decide +kernel) rfl rfl
theorem xs_30_12 : xe_P d 30 12 ls (.ref a :: st) h Q = (xe_ob h a 2 ∧ xe_P d 30 15 ls (va_rf (xe_R h a 0) :: st) h Q) := xe_P_getR (i := 11) (by decide +kernel) (by decide +kernel) (by decide) rfl
theorem xs_30_15 : xe_P d 30 15 [.ref a] st h Q = xe_P d 30 16 [.ref a] (.ref a :: st) h Q := xe_P_lo (ins := .aload_n 0) (len := 1) (by decide +kernel) rfl rfl
theorem xs_30_16 : xe_P d 30 16 ls (.ref a :: st) h Q = (xe_ob h a 2 ∧ xe_P d 30 19 ls (.int (xe_I h a 5) :: st) h Q) := xe_P_getI (i := 28) (by decide +kernel) (by decide +kernel) (by decide) rfl
theorem xs_30_19 : xe_P d 30 19 ls (.int v :: .ref a :: st) h Q = ((xe_ba h a ∧ xe_ix h a v) ∧ xe_P d 30 20 ls (.int (xe_I h a v.toNatClampNeg) :: st) h Q) := xe_P_bald (by decide +kernel)
theorem xs_30_20 : xe_P d 30 20 ls st h Q = xe_P d 30 22 ls (.int 32 :: st) h Q := xe_P_ar (ins := .bipush 32) (len := 2) (by decide +kernel) rfl
theorem xs_30_22 : xe_P d 30 22 ls (.int v :: .int x :: st) h Q = (if x = v then xe_P d 30 25 ls st h Q else xe_P d 30 38 ls st h Q) := xe_P_ifn (ins := .if_icmp .ne 16) (len := 3) (off := 16) (by decide +kernel) (by decide) rfl rfl rfl
theorem xs_30_25 : xe_P d 30 25 [.ref a] st h Q = xe_P d 30 26 [.ref a] (.ref a :: st) h Q := xe_P_lo (ins := .aload_n 0) (len := 1) (by decide +kernel) rfl rfl
theorem xs_30_26 : xe_P d 30 26 ls (.ref a :: st) h Q = xe_P d 30 27 ls (.ref a :: .ref a :: st) h Q := xe_P_ar (ins := .dup) (len := 1) (by decide +kernel) rfl
theorem xs_30_26i : xe_P d 30 26 ls (.int x :: st) h Q = xe_P d 30 27 ls (.int x :: .int x :: st) h Q := xe_P_ar (ins := .dup) (len := 1) (by decide +kernel) rfl
theorem xs_30_27 : xe_P d 30 27 ls (.ref a :: st) h Q = (xe_ob h a 2 ∧ xe_P d 30 30 ls (.int (xe_I h a 5) :: st) h Q) := xe_P_getI (i := 28) (by decide +kernel) (by decide +kernel) (by decide) rfl
theorem xs_30_30 : xe_P d 30 30 ls st h Q = xe_P d 30 31 ls (.int 1 :: st) h Q := xe_P_ar (ins := .iconst 1) (len := 1) (by decide +kernel) rfl
theorem xs_30_31 : xe_P d 30 31 ls (.int v :: .int x :: st) h Q = xe_P d 30 32 ls (.int (x + v) :: st) h Q := xe_P_ar (ins := .iadd) (len := 1) (by decide +kernel) rfl
theorem xs_30_32 : xe_P d 30 32 ls (.int v :: .ref a :: st) h Q = (xe_ob h a 2 ∧ xe_P d 30 35 ls st (xe_sI h a 5 v) Q) := xe_P_putI (i := 28) (by decide +kernel) (by decide +kernel) (by decide) (by decide +kernel) rfl
theorem xs_30_35 : xe_P d 30 35 ls st h Q = xe_P d 30 0 ls st h Q := xe_P_go (len := 3) (off := (-35)) (by decide +kernel) (by decide)
theorem xs_30_38 : xe_P d 30 38 [.ref a] st h Q = xe_P d 30 39 [.ref a] (.ref a :: st) h Q := xe_P_lo (ins := .aload_n 0) (len := 1) (by decide +kernel) rfl rfl
theorem xs_30_39 : xe_P d 30 39 [.ref a] st h Q = xe_P d 30 40 [.ref a] (.ref a :: st) h Q := xe_P_lo (ins := .aload_n 0) (len := 1) (by decide +kernel) rfl rfl
theorem xs_30_40 : xe_P d 30 40 ls (.ref a :: st) h Q = (xe_ob h a 2 ∧ xe_P d 30 43 ls (.int (xe_I h a 5) :: st) h Q) := xe_P_getI (i := 28) (by decide +kernel) (by decide +kernel) (by decide) rfl
theorem xs_30_43 : xe_P d 30 43 ls (.int v :: .ref a :: st) h Q = (xe_ob h a 2 ∧ xe_P d 30 46 ls st (xe_sI h a 7 v) Q) := xe_P_putI (i := 74) (by decide +kernel) (by decide +kernel) (by decide) (by decide +kernel) rfl
theorem xs_30_46 : xe_P d 30 46 [.ref a] st h Q = xe_P d 30 47 [.ref a] (.ref a :: st) h Q := xe_P_lo (ins := .aload_n 0) (len := 1) (by decide +kernel) rfl rfl
theorem xs_30_47 : xe_P d 30 47 ls (.ref a :: st) h Q = (xe_ob h a 2 ∧ xe_P d 30 50 ls (.int (xe_I h a 5) :: st) h Q) := xe_P_getI (i := 28) (by decide +kernel) (by decide +kernel) (by decide) rfl
theorem xs_30_50 : xe_P d 30 50 [.ref a] st h Q = xe_P d 30 51 [.ref a] (.ref a :: st) h Q := xe_P_lo (ins := .aload_n 0) (len := 1) (by decide +kernel) rfl rfl
theorem xs_30_51 : xe_P d 30 51 ls (.ref a :: st) h Q = (xe_ob h a 2 ∧ xe_P d 30 54 ls (.int (xe_I h a 1) :: st) h Q) := xe_P_getI (i := 15) (by decide +kernel) (by decide +kernel) (by decide) rfl
theorem xs_30_54 : xe_P d 30 54 ls (.int v :: .int x :: st) h Q = (if x < v then xe_P d 30 65 ls st h Q else xe_P d 30 57 ls st h Q) := xe_P_if (ins := .if_icmp .lt 11) (len := 3) (off := 11) (by decide +kernel) (by decide) rfl rfl rfl
theorem xs_30_57 : xe_P d 30 57 [.ref a] st h Q = xe_P d 30 58 [.ref a] (.ref a :: st) h Q := xe_P_lo (ins := .aload_n 0) (len := 1) (by decide +kernel) rfl rfl
theorem xs_30_58 : xe_P d 30 58 ls st h Q = xe_P d 30 59 ls (.int 0 :: st) h Q := xe_P_ar (ins := .iconst 0) (len := 1) (by decide +kernel) rfl
theorem xs_30_59 : xe_P d 30 59 ls (.int v :: .ref a :: st) h Q = (xe_ob h a 2 ∧ xe_P d 30 62 ls st (xe_sI h a 6 v) Q) := xe_P_putI (i := 46) (by decide +kernel) (by decide +kernel) (by decide) (by decide +kernel) rfl
theorem xs_30_62 : xe_P d 30 62 ls st h Q = xe_P d 30 183 ls st h Q := xe_P_go (len := 3) (off := 121) (by decide +kernel) (by decide)
theorem xs_30_65 : xe_P d 30 65 [.ref a] st h Q = xe_P d 30 66 [.ref a] (.ref a :: st) h Q := xe_P_lo (ins := .aload_n 0) (len := 1) (by decide +kernel) rfl rfl
theorem xs_30_66 : xe_P d 30 66 ls (.ref a :: st) h Q = (xe_ob h a 2 ∧ xe_P d 30 69 ls (va_rf (xe_R h a 0) :: st) h Q) := xe_P_getR (i := 11) (by decide +kernel) (by decide +kernel) (by decide) rfl
theorem xs_30_69 : xe_P d 30 69 [.ref a] st h Q = xe_P d 30 70 [.ref a] (.ref a :: st) h Q := xe_P_lo (ins := .aload_n 0) (len := 1) (by decide +kernel) rfl rfl
theorem xs_30_70 : xe_P d 30 70 ls (.ref a :: st) h Q = (xe_ob h a 2 ∧ xe_P d 30 73 ls (.int (xe_I h a 5) :: st) h Q) := xe_P_getI (i := 28) (by decide +kernel) (by decide +kernel) (by decide) rfl
theorem xs_30_73 : xe_P d 30 73 ls (.int v :: .ref a :: st) h Q = ((xe_ba h a ∧ xe_ix h a v) ∧ xe_P d 30 74 ls (.int (xe_I h a v.toNatClampNeg) :: st) h Q) := xe_P_bald (by decide +kernel)
theorem xs_30_74 : xe_P d 30 74 ls (v0 :: st) h Q = (xe_w st ≤ 8 ∧ xe_C d 32 [v0] h (fun r h' => xe_P d 30 77 ls (r.toList ++ st) h' Q)) := xe_P_ivs (y := 30) (pc := 74) (z := 32) (i := 143) (vs := [v0]) (by decide +kernel) (by decide +kernel) rfl
theorem xs_30_77 : xe_P d 30 77 ls (.int x :: st) h Q = (if x = 0 then xe_P d 30 124 ls st h Q else xe_P d 30 80 ls st h Q) := xe_P_if (ins := .ifCond .eq 47) (len := 3) (off := 47) (by decide +kernel) (by decide) rfl rfl rfl
theorem xs_30_80 : xe_P d 30 80 [.ref a] st h Q = xe_P d 30 81 [.ref a] (.ref a :: st) h Q := xe_P_lo (ins := .aload_n 0) (len := 1) (by decide +kernel) rfl rfl
theorem xs_30_81 : xe_P d 30 81 ls st h Q = xe_P d 30 82 ls (.int 1 :: st) h Q := xe_P_ar (ins := .iconst 1) (len := 1) (by decide +kernel) rfl
theorem xs_30_82 : xe_P d 30 82 ls (.int v :: .ref a :: st) h Q = (xe_ob h a 2 ∧ xe_P d 30 85 ls st (xe_sI h a 6 v) Q) := xe_P_putI (i := 46) (by decide +kernel) (by decide +kernel) (by decide) (by decide +kernel) rfl
theorem xs_30_85 : xe_P d 30 85 [.ref a] st h Q = xe_P d 30 86 [.ref a] (.ref a :: st) h Q := xe_P_lo (ins := .aload_n 0) (len := 1) (by decide +kernel) rfl rfl
theorem xs_30_86 : xe_P d 30 86 ls (.ref a :: st) h Q = (xe_ob h a 2 ∧ xe_P d 30 89 ls (.int (xe_I h a 5) :: st) h Q) := xe_P_getI (i := 28) (by decide +kernel) (by decide +kernel) (by decide) rfl
theorem xs_30_89 : xe_P d 30 89 [.ref a] st h Q = xe_P d 30 90 [.ref a] (.ref a :: st) h Q := xe_P_lo (ins := .aload_n 0) (len := 1) (by decide +kernel) rfl rfl
theorem xs_30_90 : xe_P d 30 90 ls (.ref a :: st) h Q = (xe_ob h a 2 ∧ xe_P d 30 93 ls (.int (xe_I h a 1) :: st) h Q) := xe_P_getI (i := 15) (by decide +kernel) (by decide +kernel) (by decide) rfl
theorem xs_30_93 : xe_P d 30 93 ls (.int v :: .int x :: st) h Q = (if v ≤ x then xe_P d 30 183 ls st h Q else xe_P d 30 96 ls st h Q) := xe_P_if (ins := .if_icmp .ge 90) (len := 3) (off := 90) (by decide +kernel) (by decide) rfl rfl rfl
theorem xs_30_96 : xe_P d 30 96 [.ref a] st h Q = xe_P d 30 97 [.ref a] (.ref a :: st) h Q := xe_P_lo (ins := .aload_n 0) (len := 1) (by decide +kernel) rfl rfl
theorem xs_30_97 : xe_P d 30 97 ls (.ref a :: st) h Q = (xe_ob h a 2 ∧ xe_P d 30 100 ls (va_rf (xe_R h a 0) :: st) h Q) := xe_P_getR (i := 11) (by decide +kernel) (by decide +kernel) (by decide) rfl
theorem xs_30_100 : xe_P d 30 100 [.ref a] st h Q = xe_P d 30 101 [.ref a] (.ref a :: st) h Q := xe_P_lo (ins := .aload_n 0) (len := 1) (by decide +kernel) rfl rfl
theorem xs_30_101 : xe_P d 30 101 ls (.ref a :: st) h Q = (xe_ob h a 2 ∧ xe_P d 30 104 ls (.int (xe_I h a 5) :: st) h Q) := xe_P_getI (i := 28) (by decide +kernel) (by decide +kernel) (by decide) rfl
theorem xs_30_104 : xe_P d 30 104 ls (.int v :: .ref a :: st) h Q = ((xe_ba h a ∧ xe_ix h a v) ∧ xe_P d 30 105 ls (.int (xe_I h a v.toNatClampNeg) :: st) h Q) := xe_P_bald (by decide +kernel)
theorem xs_30_105 : xe_P d 30 105 ls (v0 :: st) h Q = (xe_w st ≤ 8 ∧ xe_C d 32 [v0] h (fun r h' => xe_P d 30 108 ls (r.toList ++ st) h' Q)) := xe_P_ivs (y := 30) (pc := 105) (z := 32) (i := 143) (vs := [v0]) (by decide +kernel) (by decide +kernel) rfl
theorem xs_30_108 : xe_P d 30 108 ls (.int x :: st) h Q = (if x = 0 then xe_P d 30 183 ls st h Q else xe_P d 30 111 ls st h Q) := xe_P_if (ins := .ifCond .eq 75) (len := 3) (off := 75) (by decide +kernel) (by decide) rfl rfl rfl
theorem xs_30_111 : xe_P d 30 111 [.ref a] st h Q = xe_P d 30 112 [.ref a] (.ref a :: st) h Q := xe_P_lo (ins := .aload_n 0) (len := 1) (by decide +kernel) rfl rfl
theorem xs_30_112 : xe_P d 30 112 ls (.ref a :: st) h Q = xe_P d 30 113 ls (.ref a :: .ref a :: st) h Q := xe_P_ar (ins := .dup) (len := 1) (by decide +kernel) rfl
theorem xs_30_112i : xe_P d 30 112 ls (.int x :: st) h Q = xe_P d 30 113 ls (.int x :: .int x :: st) h Q := xe_P_ar (ins := .dup) (len := 1) (by decide +kernel) rfl
theorem xs_30_113 : xe_P d 30 113 ls (.ref a :: st) h Q = (xe_ob h a 2 ∧ xe_P d 30 116 ls (.int (xe_I h a 5) :: st) h Q) := xe_P_getI (i := 28) (by decide +kernel) (by decide +kernel) (by decide) rfl
theorem xs_30_116 : xe_P d 30 116 ls st h Q = xe_P d 30 117 ls (.int 1 :: st) h Q := xe_P_ar (ins := .iconst 1) (len := 1) (by decide +kernel) rfl
theorem xs_30_117 : xe_P d 30 117 ls (.int v :: .int x :: st) h Q = xe_P d 30 118 ls (.int (x + v) :: st) h Q := xe_P_ar (ins := .iadd) (len := 1) (by decide +kernel) rfl
theorem xs_30_118 : xe_P d 30 118 ls (.int v :: .ref a :: st) h Q = (xe_ob h a 2 ∧ xe_P d 30 121 ls st (xe_sI h a 5 v) Q) := xe_P_putI (i := 28) (by decide +kernel) (by decide +kernel) (by decide) (by decide +kernel) rfl
theorem xs_30_121 : xe_P d 30 121 ls st h Q = xe_P d 30 85 ls st h Q := xe_P_go (len := 3) (off := (-36)) (by decide +kernel) (by decide)
theorem xs_30_124 : xe_P d 30 124 [.ref a] st h Q = xe_P d 30 125 [.ref a] (.ref a :: st) h Q := xe_P_lo (ins := .aload_n 0) (len := 1) (by decide +kernel) rfl rfl
theorem xs_30_125 : xe_P d 30 125 ls (.ref a :: st) h Q = (xe_ob h a 2 ∧ xe_P d 30 128 ls (va_rf (xe_R h a 0) :: st) h Q) := xe_P_getR (i := 11) (by decide +kernel) (by decide +kernel) (by decide) rfl
theorem xs_30_128 : xe_P d 30 128 [.ref a] st h Q = xe_P d 30 129 [.ref a] (.ref a :: st) h Q := xe_P_lo (ins := .aload_n 0) (len := 1) (by decide +kernel) rfl rfl
theorem xs_30_129 : xe_P d 30 129 ls (.ref a :: st) h Q = (xe_ob h a 2 ∧ xe_P d 30 132 ls (.int (xe_I h a 5) :: st) h Q) := xe_P_getI (i := 28) (by decide +kernel) (by decide +kernel) (by decide) rfl
theorem xs_30_132 : xe_P d 30 132 ls (.int v :: .ref a :: st) h Q = ((xe_ba h a ∧ xe_ix h a v) ∧ xe_P d 30 133 ls (.int (xe_I h a v.toNatClampNeg) :: st) h Q) := xe_P_bald (by decide +kernel)
theorem xs_30_133 : xe_P d 30 133 ls (v0 :: st) h Q = (xe_w st ≤ 8 ∧ xe_C d 33 [v0] h (fun r h' => xe_P d 30 136 ls (r.toList ++ st) h' Q)) := xe_P_ivs (y := 30) (pc := 133) (z := 33) (i := 147) (vs := [v0]) (by decide +kernel) (by decide +kernel) rfl
theorem xs_30_136 : xe_P d 30 136 ls (.int x :: st) h Q = (if x = 0 then xe_P d 30 146 ls st h Q else xe_P d 30 139 ls st h Q) := xe_P_if (ins := .ifCond .eq 10) (len := 3) (off := 10) (by decide +kernel) (by decide) rfl rfl rfl
theorem xs_30_139 : xe_P d 30 139 [.ref a] st h Q = xe_P d 30 140 [.ref a] (.ref a :: st) h Q := xe_P_lo (ins := .aload_n 0) (len := 1) (by decide +kernel) rfl rfl
theorem xs_30_140 : xe_P d 30 140 ls (.ref a :: st) h Q = ((xe_w st ≤ 8 ∧ xe_ob h a 2) ∧ xe_C d 31 [.ref a] h (fun r h' => xe_P d 30 143 ls (r.toList ++ st) h' Q)) := xe_P_ivv (y := 30) (pc := 140) (z := 31) (i := 150) (vs := []) (by decide +kernel) (by decide +kernel) rfl (by decide +kernel)
theorem xs_30_143 : xe_P d 30 143 ls st h Q = xe_P d 30 183 ls st h Q := xe_P_go (len := 3) (off := 40) (by decide +kernel) (by decide)
theorem xs_30_146 : xe_P d 30 146 [.ref a] st h Q = xe_P d 30 147 [.ref a] (.ref a :: st) h Q := xe_P_lo (ins := .aload_n 0) (len := 1) (by decide +kernel) rfl rfl
theorem xs_30_147 : xe_P d 30 147 ls (.ref a :: st) h Q = (xe_ob h a 2 ∧ xe_P d 30 150 ls (va_rf (xe_R h a 0) :: st) h Q) := xe_P_getR (i := 11) (by decide +kernel) (by decide +kernel) (by decide) rfl
theorem xs_30_150 : xe_P d 30 150 [.ref a] st h Q = xe_P d 30 151 [.ref a] (.ref a :: st) h Q := xe_P_lo (ins := .aload_n 0) (len := 1) (by decide +kernel) rfl rfl
theorem xs_30_151 : xe_P d 30 151 ls (.ref a :: st) h Q = (xe_ob h a 2 ∧ xe_P d 30 154 ls (.int (xe_I h a 5) :: st) h Q) := xe_P_getI (i := 28) (by decide +kernel) (by decide +kernel) (by decide) rfl
theorem xs_30_154 : xe_P d 30 154 ls (.int v :: .ref a :: st) h Q = ((xe_ba h a ∧ xe_ix h a v) ∧ xe_P d 30 155 ls (.int (xe_I h a v.toNatClampNeg) :: st) h Q) := xe_P_bald (by decide +kernel)
theorem xs_30_155 : xe_P d 30 155 ls st h Q = xe_P d 30 157 ls (.int 59 :: st) h Q := xe_P_ar (ins := .bipush 59) (len := 2) (by decide +kernel) rfl
theorem xs_30_157 : xe_P d 30 157 ls (.int v :: .int x :: st) h Q = (if x = v then xe_P d 30 160 ls st h Q else xe_P d 30 178 ls st h Q) := xe_P_ifn (ins := .if_icmp .ne 21) (len := 3) (off := 21) (by decide +kernel) (by decide) rfl rfl rfl
theorem xs_30_160 : xe_P d 30 160 [.ref a] st h Q = xe_P d 30 161 [.ref a] (.ref a :: st) h Q := xe_P_lo (ins := .aload_n 0) (len := 1) (by decide +kernel) rfl rfl
theorem xs_30_161 : xe_P d 30 161 ls st h Q = xe_P d 30 162 ls (.int 3 :: st) h Q := xe_P_ar (ins := .iconst 3) (len := 1) (by decide +kernel) rfl
theorem xs_30_162 : xe_P d 30 162 ls (.int v :: .ref a :: st) h Q = (xe_ob h a 2 ∧ xe_P d 30 165 ls st (xe_sI h a 6 v) Q) := xe_P_putI (i := 46) (by decide +kernel) (by decide +kernel) (by decide) (by decide +kernel) rfl
theorem xs_30_165 : xe_P d 30 165 [.ref a] st h Q = xe_P d 30 166 [.ref a] (.ref a :: st) h Q := xe_P_lo (ins := .aload_n 0) (len := 1) (by decide +kernel) rfl rfl
theorem xs_30_166 : xe_P d 30 166 ls (.ref a :: st) h Q = xe_P d 30 167 ls (.ref a :: .ref a :: st) h Q := xe_P_ar (ins := .dup) (len := 1) (by decide +kernel) rfl
theorem xs_30_166i : xe_P d 30 166 ls (.int x :: st) h Q = xe_P d 30 167 ls (.int x :: .int x :: st) h Q := xe_P_ar (ins := .dup) (len := 1) (by decide +kernel) rfl
theorem xs_30_167 : xe_P d 30 167 ls (.ref a :: st) h Q = (xe_ob h a 2 ∧ xe_P d 30 170 ls (.int (xe_I h a 5) :: st) h Q) := xe_P_getI (i := 28) (by decide +kernel) (by decide +kernel) (by decide) rfl
theorem xs_30_170 : xe_P d 30 170 ls st h Q = xe_P d 30 171 ls (.int 1 :: st) h Q := xe_P_ar (ins := .iconst 1) (len := 1) (by decide +kernel) rfl
theorem xs_30_171 : xe_P d 30 171 ls (.int v :: .int x :: st) h Q = xe_P d 30 172 ls (.int (x + v) :: st) h Q := xe_P_ar (ins := .iadd) (len := 1) (by decide +kernel) rfl
theorem xs_30_172 : xe_P d 30 172 ls (.int v :: .ref a :: st) h Q = (xe_ob h a 2 ∧ xe_P d 30 175 ls st (xe_sI h a 5 v) Q) := xe_P_putI (i := 28) (by decide +kernel) (by decide +kernel) (by decide) (by decide +kernel) rfl
theorem xs_30_175 : xe_P d 30 175 ls st h Q = xe_P d 30 183 ls st h Q := xe_P_go (len := 3) (off := 8) (by decide +kernel) (by decide)
theorem xs_30_178 : xe_P d 30 178 [.ref a] st h Q = xe_P d 30 179 [.ref a] (.ref a :: st) h Q := xe_P_lo (ins := .aload_n 0) (len := 1) (by decide +kernel) rfl rfl
theorem xs_30_179 : xe_P d 30 179 ls st h Q = xe_P d 30 180 ls (.int 4 :: st) h Q := xe_P_ar (ins := .iconst 4) (len := 1) (by decide +kernel) rfl
theorem xs_30_180 : xe_P d 30 180 ls (.int v :: .ref a :: st) h Q = (xe_ob h a 2 ∧ xe_P d 30 183 ls st (xe_sI h a 6 v) Q) := xe_P_putI (i := 46) (by decide +kernel) (by decide +kernel) (by decide) (by decide +kernel) rfl
theorem xs_30_183 : xe_P d 30 183 ls [] h Q = Q none h := xe_P_vreturn (by decide +kernel) rfl
theorem xs_30 : xe_C (d + 1) 30 [.ref a] h Q = xe_P d 30 0 [.ref a] [] h Q := xe_C_at (Nat.le_of_ble_eq_true rfl) rfl
theorem xs_31_0 : xe_P d 31 0 [.ref a] st h Q = xe_P d 31 1 [.ref a] (.ref a :: st) h Q := xe_P_lo (ins := .aload_n 0) (len := 1) (by decide +kernel) rfl rfl
theorem xs_31_1 : xe_P d 31 1 ls st h Q = xe_P d 31 2 ls (.int 0 :: st) h Q := xe_P_ar (ins := .iconst 0) (len := 1) (by decide +kernel) rfl
theorem xs_31_2 : xe_P d 31 2 ls (.int v :: .ref a :: st) h Q = (xe_ob h a 2 ∧ xe_P d 31 5 ls st (xe_sI h a 8 v) Q) := xe_P_putI (i := 90) (by decide +kernel) (by decide +kernel) (by decide) (by decide +kernel) rfl
theorem xs_31_5 : xe_P d 31 5 [.ref a] st h Q = xe_P d 31 6 [.ref a] (.ref a :: st) h Q := xe_P_lo (ins := .aload_n 0) (len := 1) (by decide +kernel) rfl rfl
theorem xs_31_6 : xe_P d 31 6 ls (.ref a :: st) h Q = (xe_ob h a 2 ∧ xe_P d 31 9 ls (.int (xe_I h a 5) :: st) h Q) := xe_P_getI (i := 28) (by decide +kernel) (by decide +kernel) (by decide) rfl
theorem xs_31_9 : xe_P d 31 9 [.ref a] st h Q = xe_P d 31 10 [.ref a] (.ref a :: st) h Q := xe_P_lo (ins := .aload_n 0) (len := 1) (by decide +kernel) rfl rfl
theorem xs_31_10 : xe_P d 31 10 ls (.ref a :: st) h Q = (xe_ob h a 2 ∧ xe_P d 31 13 ls (.int (xe_I h a 1) :: st) h Q) := xe_P_getI (i := 15) (by decide +kernel) (by decide +kernel) (by decide) rfl
theorem xs_31_13 : xe_P d 31 13 ls (.int v :: .int x :: st) h Q = (if v ≤ x then xe_P d 31 74 ls st h Q else xe_P d 31 16 ls st h Q) := xe_P_if (ins := .if_icmp .ge 61) (len := 3) (off := 61) (by decide +kernel) (by decide) rfl rfl rfl
theorem xs_31_16 : xe_P d 31 16 [.ref a] st h Q = xe_P d 31 17 [.ref a] (.ref a :: st) h Q := xe_P_lo (ins := .aload_n 0) (len := 1) (by decide +kernel) rfl rfl
theorem xs_31_17 : xe_P d 31 17 ls (.ref a :: st) h Q = (xe_ob h a 2 ∧ xe_P d 31 20 ls (va_rf (xe_R h a 0) :: st) h Q) := xe_P_getR (i := 11) (by decide +kernel) (by decide +kernel) (by decide) rfl
theorem xs_31_20 : xe_P d 31 20 [.ref a] st h Q = xe_P d 31 21 [.ref a] (.ref a :: st) h Q := xe_P_lo (ins := .aload_n 0) (len := 1) (by decide +kernel) rfl rfl
theorem xs_31_21 : xe_P d 31 21 ls (.ref a :: st) h Q = (xe_ob h a 2 ∧ xe_P d 31 24 ls (.int (xe_I h a 5) :: st) h Q) := xe_P_getI (i := 28) (by decide +kernel) (by decide +kernel) (by decide) rfl
theorem xs_31_24 : xe_P d 31 24 ls (.int v :: .ref a :: st) h Q = ((xe_ba h a ∧ xe_ix h a v) ∧ xe_P d 31 25 ls (.int (xe_I h a v.toNatClampNeg) :: st) h Q) := xe_P_bald (by decide +kernel)
theorem xs_31_25 : xe_P d 31 25 ls (v0 :: st) h Q = (xe_w st ≤ 8 ∧ xe_C d 33 [v0] h (fun r h' => xe_P d 31 28 ls (r.toList ++ st) h' Q)) := xe_P_ivs (y := 31) (pc := 25) (z := 33) (i := 147) (vs := [v0]) (by decide +kernel) (by decide +kernel) rfl
theorem xs_31_28 : xe_P d 31 28 ls (.int x :: st) h Q = (if x = 0 then xe_P d 31 74 ls st h Q else xe_P d 31 31 ls st h Q) := xe_P_if (ins := .ifCond .eq 46) (len := 3) (off := 46) (by decide +kernel) (by decide) rfl rfl rfl
theorem xs_31_31 : xe_P d 31 31 [.ref a] st h Q = xe_P d 31 32 [.ref a] (.ref a :: st) h Q := xe_P_lo (ins := .aload_n 0) (len := 1) (by decide +kernel) rfl rfl
theorem xs_31_32 : xe_P d 31 32 ls st h Q = xe_P d 31 35 ls (.int 1000 :: st) h Q := xe_P_ar (ins := .sipush 1000) (len := 3) (by decide +kernel) rfl
theorem xs_31_35 : xe_P d 31 35 ls st h Q = xe_P d 31 37 ls (.int 10 :: st) h Q := xe_P_ar (ins := .bipush 10) (len := 2) (by decide +kernel) rfl
theorem xs_31_37 : xe_P d 31 37 [.ref a] st h Q = xe_P d 31 38 [.ref a] (.ref a :: st) h Q := xe_P_lo (ins := .aload_n 0) (len := 1) (by decide +kernel) rfl rfl
theorem xs_31_38 : xe_P d 31 38 ls (.ref a :: st) h Q = (xe_ob h a 2 ∧ xe_P d 31 41 ls (.int (xe_I h a 8) :: st) h Q) := xe_P_getI (i := 90) (by decide +kernel) (by decide +kernel) (by decide) rfl
theorem xs_31_41 : xe_P d 31 41 ls (.int v :: .int x :: st) h Q = xe_P d 31 42 ls (.int (x * v) :: st) h Q := xe_P_ar (ins := .imul) (len := 1) (by decide +kernel) rfl
theorem xs_31_42 : xe_P d 31 42 [.ref a] st h Q = xe_P d 31 43 [.ref a] (.ref a :: st) h Q := xe_P_lo (ins := .aload_n 0) (len := 1) (by decide +kernel) rfl rfl
theorem xs_31_43 : xe_P d 31 43 ls (.ref a :: st) h Q = (xe_ob h a 2 ∧ xe_P d 31 46 ls (va_rf (xe_R h a 0) :: st) h Q) := xe_P_getR (i := 11) (by decide +kernel) (by decide +kernel) (by decide) rfl
theorem xs_31_46 : xe_P d 31 46 [.ref a] st h Q = xe_P d 31 47 [.ref a] (.ref a :: st) h Q := xe_P_lo (ins := .aload_n 0) (len := 1) (by decide +kernel) rfl rfl
theorem xs_31_47 : xe_P d 31 47 ls (.ref a :: st) h Q = (xe_ob h a 2 ∧ xe_P d 31 50 ls (.int (xe_I h a 5) :: st) h Q) := xe_P_getI (i := 28) (by decide +kernel) (by decide +kernel) (by decide) rfl
theorem xs_31_50 : xe_P d 31 50 ls (.int v :: .ref a :: st) h Q = ((xe_ba h a ∧ xe_ix h a v) ∧ xe_P d 31 51 ls (.int (xe_I h a v.toNatClampNeg) :: st) h Q) := xe_P_bald (by decide +kernel)
theorem xs_31_51 : xe_P d 31 51 ls (.int v :: .int x :: st) h Q = xe_P d 31 52 ls (.int (x + v) :: st) h Q := xe_P_ar (ins := .iadd) (len := 1) (by decide +kernel) rfl
theorem xs_31_52 : xe_P d 31 52 ls st h Q = xe_P d 31 54 ls (.int 48 :: st) h Q := xe_P_ar (ins := .bipush 48) (len := 2) (by decide +kernel) rfl
theorem xs_31_54 : xe_P d 31 54 ls (.int v :: .int x :: st) h Q = xe_P d 31 55 ls (.int (x - v) :: st) h Q := xe_P_ar (ins := .isub) (len := 1) (by decide +kernel) rfl
theorem xs_31_55 : xe_P d 31 55 ls (.int v :: .int x :: st) h Q = (xe_w st ≤ 8 ∧ xe_P d 31 58 ls (.int (if v < x then v else x) :: st) h Q) := xe_P_min (i := 153) (by decide +kernel) (by decide +kernel)
theorem xs_31_58 : xe_P d 31 58 ls (.int v :: .ref a :: st) h Q = (xe_ob h a 2 ∧ xe_P d 31 61 ls st (xe_sI h a 8 v) Q) := xe_P_putI (i := 90) (by decide +kernel) (by decide +kernel) (by decide) (by decide +kernel) rfl
theorem xs_31_61 : xe_P d 31 61 [.ref a] st h Q = xe_P d 31 62 [.ref a] (.ref a :: st) h Q := xe_P_lo (ins := .aload_n 0) (len := 1) (by decide +kernel) rfl rfl
theorem xs_31_62 : xe_P d 31 62 ls (.ref a :: st) h Q = xe_P d 31 63 ls (.ref a :: .ref a :: st) h Q := xe_P_ar (ins := .dup) (len := 1) (by decide +kernel) rfl
theorem xs_31_62i : xe_P d 31 62 ls (.int x :: st) h Q = xe_P d 31 63 ls (.int x :: .int x :: st) h Q := xe_P_ar (ins := .dup) (len := 1) (by decide +kernel) rfl
theorem xs_31_63 : xe_P d 31 63 ls (.ref a :: st) h Q = (xe_ob h a 2 ∧ xe_P d 31 66 ls (.int (xe_I h a 5) :: st) h Q) := xe_P_getI (i := 28) (by decide +kernel) (by decide +kernel) (by decide) rfl
theorem xs_31_66 : xe_P d 31 66 ls st h Q = xe_P d 31 67 ls (.int 1 :: st) h Q := xe_P_ar (ins := .iconst 1) (len := 1) (by decide +kernel) rfl
theorem xs_31_67 : xe_P d 31 67 ls (.int v :: .int x :: st) h Q = xe_P d 31 68 ls (.int (x + v) :: st) h Q := xe_P_ar (ins := .iadd) (len := 1) (by decide +kernel) rfl
theorem xs_31_68 : xe_P d 31 68 ls (.int v :: .ref a :: st) h Q = (xe_ob h a 2 ∧ xe_P d 31 71 ls st (xe_sI h a 5 v) Q) := xe_P_putI (i := 28) (by decide +kernel) (by decide +kernel) (by decide) (by decide +kernel) rfl
theorem xs_31_71 : xe_P d 31 71 ls st h Q = xe_P d 31 5 ls st h Q := xe_P_go (len := 3) (off := (-66)) (by decide +kernel) (by decide)
theorem xs_31_74 : xe_P d 31 74 [.ref a] st h Q = xe_P d 31 75 [.ref a] (.ref a :: st) h Q := xe_P_lo (ins := .aload_n 0) (len := 1) (by decide +kernel) rfl rfl
theorem xs_31_75 : xe_P d 31 75 [.ref a] st h Q = xe_P d 31 76 [.ref a] (.ref a :: st) h Q := xe_P_lo (ins := .aload_n 0) (len := 1) (by decide +kernel) rfl rfl
theorem xs_31_76 : xe_P d 31 76 ls (.ref a :: st) h Q = (xe_ob h a 2 ∧ xe_P d 31 79 ls (.int (xe_I h a 5) :: st) h Q) := xe_P_getI (i := 28) (by decide +kernel) (by decide +kernel) (by decide) rfl
theorem xs_31_79 : xe_P d 31 79 [.ref a] st h Q = xe_P d 31 80 [.ref a] (.ref a :: st) h Q := xe_P_lo (ins := .aload_n 0) (len := 1) (by decide +kernel) rfl rfl
theorem xs_31_80 : xe_P d 31 80 ls (.ref a :: st) h Q = (xe_ob h a 2 ∧ xe_P d 31 83 ls (.int (xe_I h a 7) :: st) h Q) := xe_P_getI (i := 74) (by decide +kernel) (by decide +kernel) (by decide) rfl
theorem xs_31_83 : xe_P d 31 83 ls (.int v :: .int x :: st) h Q = xe_P d 31 84 ls (.int (x - v) :: st) h Q := xe_P_ar (ins := .isub) (len := 1) (by decide +kernel) rfl
theorem xs_31_84 : xe_P d 31 84 ls st h Q = xe_P d 31 85 ls (.int 2 :: st) h Q := xe_P_ar (ins := .iconst 2) (len := 1) (by decide +kernel) rfl
theorem xs_31_85 : xe_P d 31 85 ls (.int v :: .int x :: st) h Q = (if v < x then xe_P d 31 92 ls st h Q else xe_P d 31 88 ls st h Q) := xe_P_if (ins := .if_icmp .gt 7) (len := 3) (off := 7) (by decide +kernel) (by decide) rfl rfl rfl
theorem xs_31_88 : xe_P d 31 88 ls st h Q = xe_P d 31 89 ls (.int 2 :: st) h Q := xe_P_ar (ins := .iconst 2) (len := 1) (by decide +kernel) rfl
theorem xs_31_89 : xe_P d 31 89 ls st h Q = xe_P d 31 93 ls st h Q := xe_P_go (len := 3) (off := 4) (by decide +kernel) (by decide)
theorem xs_31_92 : xe_P d 31 92 ls st h Q = xe_P d 31 93 ls (.int 4 :: st) h Q := xe_P_ar (ins := .iconst 4) (len := 1) (by decide +kernel) rfl
theorem xs_31_93 : xe_P d 31 93 ls (.int v :: .ref a :: st) h Q = (xe_ob h a 2 ∧ xe_P d 31 96 ls st (xe_sI h a 6 v) Q) := xe_P_putI (i := 46) (by decide +kernel) (by decide +kernel) (by decide) (by decide +kernel) rfl
theorem xs_31_96 : xe_P d 31 96 ls [] h Q = Q none h := xe_P_vreturn (by decide +kernel) rfl
theorem xs_31 : xe_C (d + 1) 31 [.ref a] h Q = xe_P d 31 0 [.ref a] [] h Q := xe_C_at (Nat.le_of_ble_eq_true rfl) rfl
theorem xs_32_0 : xe_P d 32 0 [.int x] st h Q = xe_P d 32 1 [.int x] (.int x :: st) h Q := xe_P_lo (ins := .iload_n 0) (len := 1) (by decide +kernel) rfl rfl
theorem xs_32_1 : xe_P d 32 1 ls st h Q = xe_P d 32 3 ls (.int 97 :: st) h Q := xe_P_ar (ins := .bipush 97) (len := 2) (by decide +kernel) rfl
theorem xs_32_3 : xe_P d 32 3 ls (.int v :: .int x :: st) h Q = (if x < v then xe_P d 32 16 ls st h Q else xe_P d 32 6 ls st h Q) := xe_P_if (ins := .if_icmp .lt 13) (len := 3) (off := 13) (by decide +kernel) (by decide) rfl rfl rfl
theorem xs_32_6 : xe_P d 32 6 [.int x] st h Q = xe_P d 32 7 [.int x] (.int x :: st) h Q := xe_P_lo (ins := .iload_n 0) (len := 1) (by decide +kernel) rfl rfl
theorem xs_32_7 : xe_P d 32 7 ls st h Q = xe_P d 32 9 ls (.int 122 :: st) h Q := xe_P_ar (ins := .bipush 122) (len := 2) (by decide +kernel) rfl
theorem xs_32_9 : xe_P d 32 9 ls (.int v :: .int x :: st) h Q = (if v < x then xe_P d 32 16 ls st h Q else xe_P d 32 12 ls st h Q) := xe_P_if (ins := .if_icmp .gt 7) (len := 3) (off := 7) (by decide +kernel) (by decide) rfl rfl rfl
theorem xs_32_12 : xe_P d 32 12 ls st h Q = xe_P d 32 13 ls (.int 1 :: st) h Q := xe_P_ar (ins := .iconst 1) (len := 1) (by decide +kernel) rfl
theorem xs_32_13 : xe_P d 32 13 ls st h Q = xe_P d 32 17 ls st h Q := xe_P_go (len := 3) (off := 4) (by decide +kernel) (by decide)
theorem xs_32_16 : xe_P d 32 16 ls st h Q = xe_P d 32 17 ls (.int 0 :: st) h Q := xe_P_ar (ins := .iconst 0) (len := 1) (by decide +kernel) rfl
theorem xs_32_17 : xe_P d 32 17 ls [.int x] h Q = ((x = 0 ∨ x = 1) ∧ Q (some (.int x)) h) := xe_P_zreturn (by decide +kernel) rfl
theorem xs_32 : xe_C (d + 1) 32 [.int x0] h Q = xe_P d 32 0 [.int x0] [] h Q := xe_C_at (Nat.le_of_ble_eq_true rfl) rfl
theorem xs_33_0 : xe_P d 33 0 [.int x] st h Q = xe_P d 33 1 [.int x] (.int x :: st) h Q := xe_P_lo (ins := .iload_n 0) (len := 1) (by decide +kernel) rfl rfl
theorem xs_33_1 : xe_P d 33 1 ls st h Q = xe_P d 33 3 ls (.int 48 :: st) h Q := xe_P_ar (ins := .bipush 48) (len := 2) (by decide +kernel) rfl
theorem xs_33_3 : xe_P d 33 3 ls (.int v :: .int x :: st) h Q = (if x < v then xe_P d 33 16 ls st h Q else xe_P d 33 6 ls st h Q) := xe_P_if (ins := .if_icmp .lt 13) (len := 3) (off := 13) (by decide +kernel) (by decide) rfl rfl rfl
theorem xs_33_6 : xe_P d 33 6 [.int x] st h Q = xe_P d 33 7 [.int x] (.int x :: st) h Q := xe_P_lo (ins := .iload_n 0) (len := 1) (by decide +kernel) rfl rfl
theorem xs_33_7 : xe_P d 33 7 ls st h Q = xe_P d 33 9 ls (.int 57 :: st) h Q := xe_P_ar (ins := .bipush 57) (len := 2) (by decide +kernel) rfl
theorem xs_33_9 : xe_P d 33 9 ls (.int v :: .int x :: st) h Q = (if v < x then xe_P d 33 16 ls st h Q else xe_P d 33 12 ls st h Q) := xe_P_if (ins := .if_icmp .gt 7) (len := 3) (off := 7) (by decide +kernel) (by decide) rfl rfl rfl
theorem xs_33_12 : xe_P d 33 12 ls st h Q = xe_P d 33 13 ls (.int 1 :: st) h Q := xe_P_ar (ins := .iconst 1) (len := 1) (by decide +kernel) rfl
theorem xs_33_13 : xe_P d 33 13 ls st h Q = xe_P d 33 17 ls st h Q := xe_P_go (len := 3) (off := 4) (by decide +kernel) (by decide)
theorem xs_33_16 : xe_P d 33 16 ls st h Q = xe_P d 33 17 ls (.int 0 :: st) h Q := xe_P_ar (ins := .iconst 0) (len := 1) (by decide +kernel) rfl
theorem xs_33_17 : xe_P d 33 17 ls [.int x] h Q = ((x = 0 ∨ x = 1) ∧ Q (some (.int x)) h) := xe_P_zreturn (by decide +kernel) rfl
theorem xs_33 : xe_C (d + 1) 33 [.int x0] h Q = xe_P d 33 0 [.int x0] [] h Q := xe_C_at (Nat.le_of_ble_eq_true rfl) rfl
theorem xs_34_0 : xe_P d 34 0 ls st h Q = xe_P d 34 1 ls (.int 0 :: st) h Q := xe_P_ar (ins := .iconst 0) (len := 1) (by decide +kernel) rfl
theorem xs_34_1 : xe_P d 34 1 [l0, l1] (.int x :: st) h Q = xe_P d 34 2 [xe_cut l0, .int x] st h Q := xe_P_lo (ins := .istore_n 1) (len := 1) (by decide +kernel) rfl rfl
theorem xs_34_2 : xe_P d 34 2 [l0, .int x] st h Q = xe_P d 34 3 [l0, .int x] (.int x :: st) h Q := xe_P_lo (ins := .iload_n 1) (len := 1) (by decide +kernel) rfl rfl
theorem xs_34_3 : xe_P d 34 3 ls st h Q = xe_P d 34 5 ls (.int 7 :: st) h Q := xe_P_ar (ins := .bipush 7) (len := 2) (by decide +kernel) rfl
theorem xs_34_5 : xe_P d 34 5 ls (.int v :: .int x :: st) h Q = (if v ≤ x then xe_P d 34 27 ls st h Q else xe_P d 34 8 ls st h Q) := xe_P_if (ins := .if_icmp .ge 22) (len := 3) (off := 22) (by decide +kernel) (by decide) rfl rfl rfl
theorem xs_34_8 : xe_P d 34 8 [.ref a, l1] st h Q = xe_P d 34 9 [.ref a, l1] (.ref a :: st) h Q := xe_P_lo (ins := .aload_n 0) (len := 1) (by decide +kernel) rfl rfl
theorem xs_34_9 : xe_P d 34 9 [l0, .int x] st h Q = xe_P d 34 10 [l0, .int x] (.int x :: st) h Q := xe_P_lo (ins := .iload_n 1) (len := 1) (by decide +kernel) rfl rfl
theorem xs_34_10 : xe_P d 34 10 ls (v0 :: st) h Q = (xe_w st ≤ 8 ∧ xe_C d 36 [v0] h (fun r h' => xe_P d 34 13 ls (r.toList ++ st) h' Q)) := xe_P_ivs (y := 34) (pc := 10) (z := 36) (i := 156) (vs := [v0]) (by decide +kernel) (by decide +kernel) rfl
theorem xs_34_13 : xe_P d 34 13 ls (v0 :: .ref a :: st) h Q = ((xe_w st ≤ 8 ∧ xe_ob h a 2) ∧ xe_C d 35 [.ref a, v0] h (fun r h' => xe_P d 34 16 ls (r.toList ++ st) h' Q)) := xe_P_ivv (y := 34) (pc := 13) (z := 35) (i := 160) (vs := [v0]) (by decide +kernel) (by decide +kernel) rfl (by decide +kernel)
theorem xs_34_16 : xe_P d 34 16 ls (.int x :: st) h Q = (if x = 0 then xe_P d 34 21 ls st h Q else xe_P d 34 19 ls st h Q) := xe_P_if (ins := .ifCond .eq 5) (len := 3) (off := 5) (by decide +kernel) (by decide) rfl rfl rfl
theorem xs_34_19 : xe_P d 34 19 [l0, .int x] st h Q = xe_P d 34 20 [l0, .int x] (.int x :: st) h Q := xe_P_lo (ins := .iload_n 1) (len := 1) (by decide +kernel) rfl rfl
theorem xs_34_20 : xe_P d 34 20 ls [.int x] h Q = Q (some (.int x)) h := xe_P_ireturn (by decide +kernel) rfl
theorem xs_34_21 : xe_P d 34 21 [l0, .int x] st h Q = xe_P d 34 24 [xe_cut l0, .int (x + 1)] st h Q := xe_P_lo (ins := .iinc 1 1) (len := 3) (by decide +kernel) rfl rfl
theorem xs_34_24 : xe_P d 34 24 ls st h Q = xe_P d 34 2 ls st h Q := xe_P_go (len := 3) (off := (-22)) (by decide +kernel) (by decide)
theorem xs_34_27 : xe_P d 34 27 ls st h Q = xe_P d 34 28 ls (.int (-1) :: st) h Q := xe_P_ar (ins := .iconst (-1)) (len := 1) (by decide +kernel) rfl
theorem xs_34_28 : xe_P d 34 28 ls [.int x] h Q = Q (some (.int x)) h := xe_P_ireturn (by decide +kernel) rfl
theorem xs_34 : xe_C (d + 1) 34 [.ref a] h Q = xe_P d 34 0 [.ref a, .retAddr 0] [] h Q := xe_C_at (Nat.le_of_ble_eq_true rfl) rfl
theorem xs_35_0 : xe_P d 35 0 [l0, .ref a, l2] st h Q = xe_P d 35 1 [l0, .ref a, l2] (.ref a :: st) h Q := xe_P_lo (ins := .aload_n 1) (len := 1) (by decide +kernel) rfl rfl
theorem xs_35_1 : xe_P d 35 1 ls (.ref a :: st) h Q = ((xe_w st ≤ 8 ∧ xe_S + 5 ≤ a ∧ a < xe_S + 12) ∧ xe_C d 203 [.ref a] h (fun r h' => xe_P d 35 4 ls (r.toList ++ st) h' Q)) := xe_P_ivstr (y := 35) (pc := 1) (z := 203) (i := 164) (vs := []) (by decide +kernel) (by decide +kernel) rfl (by decide +kernel)
theorem xs_35_4 : xe_P d 35 4 [.ref a, l1, l2] st h Q = xe_P d 35 5 [.ref a, l1, l2] (.ref a :: st) h Q := xe_P_lo (ins := .aload_n 0) (len := 1) (by decide +kernel) rfl rfl
theorem xs_35_5 : xe_P d 35 5 ls (.ref a :: st) h Q = (xe_ob h a 2 ∧ xe_P d 35 8 ls (.int (xe_I h a 5) :: st) h Q) := xe_P_getI (i := 28) (by decide +kernel) (by decide +kernel) (by decide) rfl
theorem xs_35_8 : xe_P d 35 8 [.ref a, l1, l2] st h Q = xe_P d 35 9 [.ref a, l1, l2] (.ref a :: st) h Q := xe_P_lo (ins := .aload_n 0) (len := 1) (by decide +kernel) rfl rfl
theorem xs_35_9 : xe_P d 35 9 ls (.ref a :: st) h Q = (xe_ob h a 2 ∧ xe_P d 35 12 ls (.int (xe_I h a 7) :: st) h Q) := xe_P_getI (i := 74) (by decide +kernel) (by decide +kernel) (by decide) rfl
theorem xs_35_12 : xe_P d 35 12 ls (.int v :: .int x :: st) h Q = xe_P d 35 13 ls (.int (x - v) :: st) h Q := xe_P_ar (ins := .isub) (len := 1) (by decide +kernel) rfl
theorem xs_35_13 : xe_P d 35 13 ls (.int v :: .int x :: st) h Q = (if x = v then xe_P d 35 18 ls st h Q else xe_P d 35 16 ls st h Q) := xe_P_if (ins := .if_icmp .eq 5) (len := 3) (off := 5) (by decide +kernel) (by decide) rfl rfl rfl
theorem xs_35_16 : xe_P d 35 16 ls st h Q = xe_P d 35 17 ls (.int 0 :: st) h Q := xe_P_ar (ins := .iconst 0) (len := 1) (by decide +kernel) rfl
theorem xs_35_17 : xe_P d 35 17 ls [.int x] h Q = ((x = 0 ∨ x = 1) ∧ Q (some (.int x)) h) := xe_P_zreturn (by decide +kernel) rfl
theorem xs_35_18 : xe_P d 35 18 ls st h Q = xe_P d 35 19 ls (.int 0 :: st) h Q := xe_P_ar (ins := .iconst 0) (len := 1) (by decide +kernel) rfl
theorem xs_35_19 : xe_P d 35 19 [l0, l1, l2] (.int x :: st) h Q = xe_P d 35 20 [l0, xe_cut l1, .int x] st h Q := xe_P_lo (ins := .istore_n 2) (len := 1) (by decide +kernel) rfl rfl
theorem xs_35_20 : xe_P d 35 20 [l0, l1, .int x] st h Q = xe_P d 35 21 [l0, l1, .int x] (.int x :: st) h Q := xe_P_lo (ins := .iload_n 2) (len := 1) (by decide +kernel) rfl rfl
theorem xs_35_21 : xe_P d 35 21 [l0, .ref a, l2] st h Q = xe_P d 35 22 [l0, .ref a, l2] (.ref a :: st) h Q := xe_P_lo (ins := .aload_n 1) (len := 1) (by decide +kernel) rfl rfl
theorem xs_35_22 : xe_P d 35 22 ls (.ref a :: st) h Q = ((xe_w st ≤ 8 ∧ xe_S + 5 ≤ a ∧ a < xe_S + 12) ∧ xe_C d 203 [.ref a] h (fun r h' => xe_P d 35 25 ls (r.toList ++ st) h' Q)) := xe_P_ivstr (y := 35) (pc := 22) (z := 203) (i := 164) (vs := []) (by decide +kernel) (by decide +kernel) rfl (by decide +kernel)
theorem xs_35_25 : xe_P d 35 25 ls (.int v :: .int x :: st) h Q = (if v ≤ x then xe_P d 35 55 ls st h Q else xe_P d 35 28 ls st h Q) := xe_P_if (ins := .if_icmp .ge 30) (len := 3) (off := 30) (by decide +kernel) (by decide) rfl rfl rfl
theorem xs_35_28 : xe_P d 35 28 [l0, .ref a, l2] st h Q = xe_P d 35 29 [l0, .ref a, l2] (.ref a :: st) h Q := xe_P_lo (ins := .aload_n 1) (len := 1) (by decide +kernel) rfl rfl
theorem xs_35_29 : xe_P d 35 29 [l0, l1, .int x] st h Q = xe_P d 35 30 [l0, l1, .int x] (.int x :: st) h Q := xe_P_lo (ins := .iload_n 2) (len := 1) (by decide +kernel) rfl rfl
theorem xs_35_30 : xe_P d 35 30 ls (v0 :: .ref a :: st) h Q = ((xe_w st ≤ 8 ∧ xe_S + 5 ≤ a ∧ a < xe_S + 12) ∧ xe_C d 204 [.ref a, v0] h (fun r h' => xe_P d 35 33 ls (r.toList ++ st) h' Q)) := xe_P_ivstr (y := 35) (pc := 30) (z := 204) (i := 168) (vs := [v0]) (by decide +kernel) (by decide +kernel) rfl (by decide +kernel)
theorem xs_35_33 : xe_P d 35 33 [.ref a, l1, l2] st h Q = xe_P d 35 34 [.ref a, l1, l2] (.ref a :: st) h Q := xe_P_lo (ins := .aload_n 0) (len := 1) (by decide +kernel) rfl rfl
theorem xs_35_34 : xe_P d 35 34 ls (.ref a :: st) h Q = (xe_ob h a 2 ∧ xe_P d 35 37 ls (va_rf (xe_R h a 0) :: st) h Q) := xe_P_getR (i := 11) (by decide +kernel) (by decide +kernel) (by decide) rfl
theorem xs_35_37 : xe_P d 35 37 [.ref a, l1, l2] st h Q = xe_P d 35 38 [.ref a, l1, l2] (.ref a :: st) h Q := xe_P_lo (ins := .aload_n 0) (len := 1) (by decide +kernel) rfl rfl
theorem xs_35_38 : xe_P d 35 38 ls (.ref a :: st) h Q = (xe_ob h a 2 ∧ xe_P d 35 41 ls (.int (xe_I h a 7) :: st) h Q) := xe_P_getI (i := 74) (by decide +kernel) (by decide +kernel) (by decide) rfl
theorem xs_35_41 : xe_P d 35 41 [l0, l1, .int x] st h Q = xe_P d 35 42 [l0, l1, .int x] (.int x :: st) h Q := xe_P_lo (ins := .iload_n 2) (len := 1) (by decide +kernel) rfl rfl
theorem xs_35_42 : xe_P d 35 42 ls (.int v :: .int x :: st) h Q = xe_P d 35 43 ls (.int (x + v) :: st) h Q := xe_P_ar (ins := .iadd) (len := 1) (by decide +kernel) rfl
theorem xs_35_43 : xe_P d 35 43 ls (.int v :: .ref a :: st) h Q = ((xe_ba h a ∧ xe_ix h a v) ∧ xe_P d 35 44 ls (.int (xe_I h a v.toNatClampNeg) :: st) h Q) := xe_P_bald (by decide +kernel)
theorem xs_35_44 : xe_P d 35 44 ls (.int v :: .int x :: st) h Q = (if x = v then xe_P d 35 49 ls st h Q else xe_P d 35 47 ls st h Q) := xe_P_if (ins := .if_icmp .eq 5) (len := 3) (off := 5) (by decide +kernel) (by decide) rfl rfl rfl
theorem xs_35_47 : xe_P d 35 47 ls st h Q = xe_P d 35 48 ls (.int 0 :: st) h Q := xe_P_ar (ins := .iconst 0) (len := 1) (by decide +kernel) rfl
theorem xs_35_48 : xe_P d 35 48 ls [.int x] h Q = ((x = 0 ∨ x = 1) ∧ Q (some (.int x)) h) := xe_P_zreturn (by decide +kernel) rfl
theorem xs_35_49 : xe_P d 35 49 [l0, l1, .int x] st h Q = xe_P d 35 52 [l0, xe_cut l1, .int (x + 1)] st h Q := xe_P_lo (ins := .iinc 2 1) (len := 3) (by decide +kernel) rfl rfl
theorem xs_35_52 : xe_P d 35 52 ls st h Q = xe_P d 35 20 ls st h Q := xe_P_go (len := 3) (off := (-32)) (by decide +kernel) (by decide)
theorem xs_35_55 : xe_P d 35 55 ls st h Q = xe_P d 35 56 ls (.int 1 :: st) h Q := xe_P_ar (ins := .iconst 1) (len := 1) (by decide +kernel) rfl
theorem xs_35_56 : xe_P d 35 56 ls [.int x] h Q = ((x = 0 ∨ x = 1) ∧ Q (some (.int x)) h) := xe_P_zreturn (by decide +kernel) rfl
theorem xs_35 : xe_C (d + 1) 35 [.ref a, .ref a0] h Q = xe_P d 35 0 [.ref a, .ref a0, .retAddr 0] [] h Q := xe_C_at (Nat.le_of_ble_eq_true rfl) rfl
theorem xs_36_0 : xe_P d 36 0 [.int x] st h Q = xe_P d 36 1 [.int x] (.int x :: st) h Q := xe_P_lo (ins := .iload_n 0) (len := 1) (by decide +kernel) rfl rfl
theorem xs_36_1 : xe_P d 36 1 ls (.int x :: st) h Q = (if x = 0 then xe_P d 36 40 ls st h Q else (if x = 1 then xe_P d 36 43 ls st h Q else (if x = 2 then xe_P d 36 46 ls st h Q else (if x = 3 then xe_P d 36 49 ls st h Q else (if x = 4 then xe_P d 36 52 ls st h Q else (if x = 5 then xe_P d 36 55 ls st h Q else xe_P d 36 58 ls st h Q)))))) := (xe_P_sw (dflt := 57) (hi := 5) (offs := #[39, 42, 45, 48, 51, 54]) (len := 39) (by decide +kernel) (by decide) (by decide)).trans rfl
theorem xs_36_40 : xe_P d 36 40 ls st h Q = xe_P d 36 42 ls (.ref (xe_S + (5 + 0)) :: st) h Q := xe_P_ldcS (j := 172) (by decide +kernel) (by decide +kernel) (by decide +kernel)
theorem xs_36_42 : xe_P d 36 42 ls [.ref a] h Q = ((xe_S + 5 ≤ a ∧ a < xe_S + 12) ∧ Q (some (.ref a)) h) := xe_P_oreturn (by decide +kernel) rfl
theorem xs_36_43 : xe_P d 36 43 ls st h Q = xe_P d 36 45 ls (.ref (xe_S + (5 + 1)) :: st) h Q := xe_P_ldcS (j := 173) (by decide +kernel) (by decide +kernel) (by decide +kernel)
theorem xs_36_45 : xe_P d 36 45 ls [.ref a] h Q = ((xe_S + 5 ≤ a ∧ a < xe_S + 12) ∧ Q (some (.ref a)) h) := xe_P_oreturn (by decide +kernel) rfl
theorem xs_36_46 : xe_P d 36 46 ls st h Q = xe_P d 36 48 ls (.ref (xe_S + (5 + 2)) :: st) h Q := xe_P_ldcS (j := 174) (by decide +kernel) (by decide +kernel) (by decide +kernel)
theorem xs_36_48 : xe_P d 36 48 ls [.ref a] h Q = ((xe_S + 5 ≤ a ∧ a < xe_S + 12) ∧ Q (some (.ref a)) h) := xe_P_oreturn (by decide +kernel) rfl
theorem xs_36_49 : xe_P d 36 49 ls st h Q = xe_P d 36 51 ls (.ref (xe_S + (5 + 3)) :: st) h Q := xe_P_ldcS (j := 175) (by decide +kernel) (by decide +kernel) (by decide +kernel)
theorem xs_36_51 : xe_P d 36 51 ls [.ref a] h Q = ((xe_S + 5 ≤ a ∧ a < xe_S + 12) ∧ Q (some (.ref a)) h) := xe_P_oreturn (by decide +kernel) rfl
theorem xs_36_52 : xe_P d 36 52 ls st h Q = xe_P d 36 54 ls (.ref (xe_S + (5 + 4)) :: st) h Q := xe_P_ldcS (j := 177) (by decide +kernel) (by decide +kernel) (by decide +kernel)
theorem xs_36_54 : xe_P d 36 54 ls [.ref a] h Q = ((xe_S + 5 ≤ a ∧ a < xe_S + 12) ∧ Q (some (.ref a)) h) := xe_P_oreturn (by decide +kernel) rfl
theorem xs_36_55 : xe_P d 36 55 ls st h Q = xe_P d 36 57 ls (.ref (xe_S + (5 + 5)) :: st) h Q := xe_P_ldcS (j := 179) (by decide +kernel) (by decide +kernel) (by decide +kernel)
theorem xs_36_57 : xe_P d 36 57 ls [.ref a] h Q = ((xe_S + 5 ≤ a ∧ a < xe_S + 12) ∧ Q (some (.ref a)) h) := xe_P_oreturn (by decide +kernel) rfl
theorem xs_36_58 : xe_P d 36 58 ls st h Q = xe_P d 36 60 ls (.ref (xe_S + (5 + 6)) :: st) h Q := xe_P_ldcS (j := 181) (by decide +kernel) (by decide +kernel) (by decide +kernel)
theorem xs_36_60 : xe_P d 36 60 ls [.ref a] h Q = ((xe_S + 5 ≤ a ∧ a < xe_S + 12) ∧ Q (some (.ref a)) h) := xe_P_oreturn (by decide +kernel) rfl
theorem xs_36 : xe_C (d + 1) 36 [.int x0] h Q = xe_P d 36 0 [.int x0] [] h Q := xe_C_at (Nat.le_of_ble_eq_true rfl) rfl
end XSX2
