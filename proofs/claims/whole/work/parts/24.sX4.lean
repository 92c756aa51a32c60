section XSX4
variable {d : Nat} {l0 l1 l2 l3 l4 l5 l6 l7 l8 l9 l10 l11 v0 v1 v2 v3 v4 v5 : Value} {x v n x0 x1 x2 x3 x4 x5 : Int32} {w u w0 w1 w2 w3 : Int64} {a b a0 a1 a2 : Nat} {ls st : List Value} {h : xe_H} {Q : Option Value → xe_H → Prop}
theorem xs_58_0 : xe_P d 58 0 [.ref a] st h Q = xe_P d 58 1 [.ref a] (.ref a :: st) h Q := xe_P_lo (ins := .aload_n 0) (len := 1) (by decide +kernel) rfl rfl
theorem xs_58_1 : xe_P d 58 1 ls (.ref a :: st) h Q = ((a < xe_n h ∧ xe_n h ≤ xe_S ∧ xe_w st ≤ 8) ∧ xe_P d 58 4 ls st h Q) := xe_P_obj (i := 3) (by decide +kernel) (by decide +kernel) rfl
theorem xs_58_4 : xe_P d 58 4 [.ref a] st h Q = xe_P d 58 5 [.ref a] (.ref a :: st) h Q := xe_P_lo (ins := .aload_n 0) (len := 1) (by decide +kernel) rfl rfl
theorem xs_58_5 : xe_P d 58 5 ls st h Q = xe_P d 58 7 ls (.int 6 :: st) h Q := xe_P_ar (ins := .bipush 6) (len := 2) (by decide +kernel) rfl
theorem xs_58_7 : xe_P d 58 7 ls (.int v :: st) h Q = ((¬ v < 0 ∧ v.toNatClampNeg ≤ 200000 ∧ xe_n h < xe_S) ∧ xe_P d 58 9 ls (.ref (xe_n h) :: st) (xe_new h 8 v.toNatClampNeg) Q) := xe_P_newa (t := .int) (by decide +kernel) (by decide)
theorem xs_58_9 : xe_P d 58 9 ls (.ref b :: .ref a :: st) h Q = ((xe_ob h a 4 ∧ b < xe_S) ∧ xe_P d 58 12 ls st (xe_sR h a 2 (some b)) Q) := xe_P_putR (i := 9) (by decide +kernel) (by decide +kernel) (by decide) (by decide +kernel) rfl
theorem xs_58_12 : xe_P d 58 12 [.ref a] st h Q = xe_P d 58 13 [.ref a] (.ref a :: st) h Q := xe_P_lo (ins := .aload_n 0) (len := 1) (by decide +kernel) rfl rfl
theorem xs_58_13 : xe_P d 58 13 ls st h Q = xe_P d 58 15 ls (.int 6 :: st) h Q := xe_P_ar (ins := .bipush 6) (len := 2) (by decide +kernel) rfl
theorem xs_58_15 : xe_P d 58 15 ls (.int v :: st) h Q = ((¬ v < 0 ∧ v.toNatClampNeg ≤ 200000 ∧ xe_n h < xe_S) ∧ xe_P d 58 17 ls (.ref (xe_n h) :: st) (xe_new h 8 v.toNatClampNeg) Q) := xe_P_newa (t := .int) (by decide +kernel) (by decide)
theorem xs_58_17 : xe_P d 58 17 ls (.ref b :: .ref a :: st) h Q = ((xe_ob h a 4 ∧ b < xe_S) ∧ xe_P d 58 20 ls st (xe_sR h a 3 (some b)) Q) := xe_P_putR (i := 15) (by decide +kernel) (by decide +kernel) (by decide) (by decide +kernel) rfl
theorem xs_58_20 : xe_P d 58 20 [.ref a] st h Q = xe_P d 58 21 [.ref a] (.ref a :: st) h Q := xe_P_lo (ins := .aload_n 0) (len := 1) (by decide +kernel) rfl rfl
theorem xs_58_21 : xe_P d 58 21 ls st h Q = xe_P d 58 23 ls (.int 6 :: st) h Q := xe_P_ar (ins := .bipush 6) (len := 2) (by decide +kernel) rfl
theorem xs_58_23 : xe_P d 58 23 ls (.int v :: st) h Q = ((¬ v < 0 ∧ v.toNatClampNeg ≤ 200000 ∧ xe_n h < xe_S) ∧ xe_P d 58 25 ls (.ref (xe_n h) :: st) (xe_new h 8 v.toNatClampNeg) Q) := xe_P_newa (t := .int) (by decide +kernel) (by decide)
theorem xs_58_25 : xe_P d 58 25 ls (.ref b :: .ref a :: st) h Q = ((xe_ob h a 4 ∧ b < xe_S) ∧ xe_P d 58 28 ls st (xe_sR h a 4 (some b)) Q) := xe_P_putR (i := 18) (by decide +kernel) (by decide +kernel) (by decide) (by decide +kernel) rfl
theorem xs_58_28 : xe_P d 58 28 [.ref a] st h Q = xe_P d 58 29 [.ref a] (.ref a :: st) h Q := xe_P_lo (ins := .aload_n 0) (len := 1) (by decide +kernel) rfl rfl
theorem xs_58_29 : xe_P d 58 29 ls st h Q = xe_P d 58 31 ls (.int 6 :: st) h Q := xe_P_ar (ins := .bipush 6) (len := 2) (by decide +kernel) rfl
theorem xs_58_31 : xe_P d 58 31 ls (.int v :: st) h Q = ((¬ v < 0 ∧ v.toNatClampNeg ≤ 200000 ∧ xe_n h < xe_S) ∧ xe_P d 58 33 ls (.ref (xe_n h) :: st) (xe_new h 11 v.toNatClampNeg) Q) := xe_P_newa (t := .boolean) (by decide +kernel) (by decide)
theorem xs_58_33 : xe_P d 58 33 ls (.ref b :: .ref a :: st) h Q = ((xe_ob h a 4 ∧ b < xe_S) ∧ xe_P d 58 36 ls st (xe_sR h a 5 (some b)) Q) := xe_P_putR (i := 21) (by decide +kernel) (by decide +kernel) (by decide) (by decide +kernel) rfl
theorem xs_58_36 : xe_P d 58 36 [.ref a] st h Q = xe_P d 58 37 [.ref a] (.ref a :: st) h Q := xe_P_lo (ins := .aload_n 0) (len := 1) (by decide +kernel) rfl rfl
theorem xs_58_37 : xe_P d 58 37 ls st h Q = xe_P d 58 39 ls (.int 6 :: st) h Q := xe_P_ar (ins := .bipush 6) (len := 2) (by decide +kernel) rfl
theorem xs_58_39 : xe_P d 58 39 ls (.int v :: st) h Q = ((¬ v < 0 ∧ v.toNatClampNeg ≤ 200000 ∧ xe_n h < xe_S) ∧ xe_P d 58 41 ls (.ref (xe_n h) :: st) (xe_new h 8 v.toNatClampNeg) Q) := xe_P_newa (t := .int) (by decide +kernel) (by decide)
theorem xs_58_41 : xe_P d 58 41 ls (.ref b :: .ref a :: st) h Q = ((xe_ob h a 4 ∧ b < xe_S) ∧ xe_P d 58 44 ls st (xe_sR h a 6 (some b)) Q) := xe_P_putR (i := 25) (by decide +kernel) (by decide +kernel) (by decide) (by decide +kernel) rfl
theorem xs_58_44 : xe_P d 58 44 [.ref a] st h Q = xe_P d 58 45 [.ref a] (.ref a :: st) h Q := xe_P_lo (ins := .aload_n 0) (len := 1) (by decide +kernel) rfl rfl
theorem xs_58_45 : xe_P d 58 45 ls st h Q = xe_P d 58 47 ls (.int 42 :: st) h Q := xe_P_ar (ins := .bipush 42) (len := 2) (by decide +kernel) rfl
theorem xs_58_47 : xe_P d 58 47 ls (.int v :: st) h Q = ((¬ v < 0 ∧ v.toNatClampNeg ≤ 200000 ∧ xe_n h < xe_S) ∧ xe_P d 58 49 ls (.ref (xe_n h) :: st) (xe_new h 8 v.toNatClampNeg) Q) := xe_P_newa (t := .int) (by decide +kernel) (by decide)
theorem xs_58_49 : xe_P d 58 49 ls (.ref b :: .ref a :: st) h Q = ((xe_ob h a 4 ∧ b < xe_S) ∧ xe_P d 58 52 ls st (xe_sR h a 7 (some b)) Q) := xe_P_putR (i := 28) (by decide +kernel) (by decide +kernel) (by decide) (by decide +kernel) rfl
theorem xs_58_52 : xe_P d 58 52 [.ref a] st h Q = xe_P d 58 53 [.ref a] (.ref a :: st) h Q := xe_P_lo (ins := .aload_n 0) (len := 1) (by decide +kernel) rfl rfl
theorem xs_58_53 : xe_P d 58 53 ls st h Q = xe_P d 58 55 ls (.int 42 :: st) h Q := xe_P_ar (ins := .bipush 42) (len := 2) (by decide +kernel) rfl
theorem xs_58_55 : xe_P d 58 55 ls (.int v :: st) h Q = ((¬ v < 0 ∧ v.toNatClampNeg ≤ 200000 ∧ xe_n h < xe_S) ∧ xe_P d 58 57 ls (.ref (xe_n h) :: st) (xe_new h 8 v.toNatClampNeg) Q) := xe_P_newa (t := .int) (by decide +kernel) (by decide)
theorem xs_58_57 : xe_P d 58 57 ls (.ref b :: .ref a :: st) h Q = ((xe_ob h a 4 ∧ b < xe_S) ∧ xe_P d 58 60 ls st (xe_sR h a 8 (some b)) Q) := xe_P_putR (i := 31) (by decide +kernel) (by decide +kernel) (by decide) (by decide +kernel) rfl
theorem xs_58_60 : xe_P d 58 60 ls [] h Q = Q none h := xe_P_vreturn (by decide +kernel) rfl
theorem xs_58 : xe_C (d + 1) 58 [.ref a] h Q = xe_P d 58 0 [.ref a] [] h Q := xe_C_at (Nat.le_of_ble_eq_true rfl) rfl
theorem xs_59_0 : xe_P d 59 0 [.ref a, l1, l2, l3] st h Q = xe_P d 59 1 [.ref a, l1, l2, l3] (.ref a :: st) h Q := xe_P_lo (ins := .aload_n 0) (len := 1) (by decide +kernel) rfl rfl
theorem xs_59_1 : xe_P d 59 1 ls (.ref a :: st) h Q = (xe_ob h a 4 ∧ xe_P d 59 4 ls (.int (xe_I h a 0) :: st) h Q) := xe_P_getI (i := 34) (by decide +kernel) (by decide +kernel) (by decide) rfl
theorem xs_59_4 : xe_P d 59 4 ls st h Q = xe_P d 59 6 ls (.int 6 :: st) h Q := xe_P_ar (ins := .bipush 6) (len := 2) (by decide +kernel) rfl
theorem xs_59_6 : xe_P d 59 6 ls (.int v :: .int x :: st) h Q = (if x < v then xe_P d 59 12 ls st h Q else xe_P d 59 9 ls st h Q) := xe_P_if (ins := .if_icmp .lt 6) (len := 3) (off := 6) (by decide +kernel) (by decide) rfl rfl rfl
theorem xs_59_9 : xe_P d 59 9 ls st h Q = xe_P d 59 11 ls (.int (-3) :: st) h Q := xe_P_ar (ins := .bipush (-3)) (len := 2) (by decide +kernel) rfl
theorem xs_59_11 : xe_P d 59 11 ls [.int x] h Q = Q (some (.int x)) h := xe_P_ireturn (by decide +kernel) rfl
theorem xs_59_12 : xe_P d 59 12 [.ref a, l1, l2, l3] st h Q = xe_P d 59 13 [.ref a, l1, l2, l3] (.ref a :: st) h Q := xe_P_lo (ins := .aload_n 0) (len := 1) (by decide +kernel) rfl rfl
theorem xs_59_13 : xe_P d 59 13 ls (.ref a :: st) h Q = (xe_ob h a 4 ∧ xe_P d 59 16 ls (va_rf (xe_R h a 3) :: st) h Q) := xe_P_getR (i := 15) (by decide +kernel) (by decide +kernel) (by decide) rfl
theorem xs_59_16 : xe_P d 59 16 [.ref a, l1, l2, l3] st h Q = xe_P d 59 17 [.ref a, l1, l2, l3] (.ref a :: st) h Q := xe_P_lo (ins := .aload_n 0) (len := 1) (by decide +kernel) rfl rfl
theorem xs_59_17 : xe_P d 59 17 ls (.ref a :: st) h Q = (xe_ob h a 4 ∧ xe_P d 59 20 ls (.int (xe_I h a 0) :: st) h Q) := xe_P_getI (i := 34) (by decide +kernel) (by decide +kernel) (by decide) rfl
theorem xs_59_20 : xe_P d 59 20 [l0, .int x, l2, l3] st h Q = xe_P d 59 21 [l0, .int x, l2, l3] (.int x :: st) h Q := xe_P_lo (ins := .iload_n 1) (len := 1) (by decide +kernel) rfl rfl
theorem xs_59_21 : xe_P d 59 21 ls (.int x :: .int v :: .ref a :: st) h Q = ((xe_ob h a 8 ∧ xe_ix h a v) ∧ xe_P d 59 22 ls st (xe_sI h a v.toNatClampNeg x) Q) := xe_P_iast (by decide +kernel)
theorem xs_59_22 : xe_P d 59 22 [.ref a, l1, l2, l3] st h Q = xe_P d 59 23 [.ref a, l1, l2, l3] (.ref a :: st) h Q := xe_P_lo (ins := .aload_n 0) (len := 1) (by decide +kernel) rfl rfl
theorem xs_59_23 : xe_P d 59 23 ls (.ref a :: st) h Q = (xe_ob h a 4 ∧ xe_P d 59 26 ls (va_rf (xe_R h a 4) :: st) h Q) := xe_P_getR (i := 18) (by decide +kernel) (by decide +kernel) (by decide) rfl
theorem xs_59_26 : xe_P d 59 26 [.ref a, l1, l2, l3] st h Q = xe_P d 59 27 [.ref a, l1, l2, l3] (.ref a :: st) h Q := xe_P_lo (ins := .aload_n 0) (len := 1) (by decide +kernel) rfl rfl
theorem xs_59_27 : xe_P d 59 27 ls (.ref a :: st) h Q = (xe_ob h a 4 ∧ xe_P d 59 30 ls (.int (xe_I h a 0) :: st) h Q) := xe_P_getI (i := 34) (by decide +kernel) (by decide +kernel) (by decide) rfl
theorem xs_59_30 : xe_P d 59 30 [l0, l1, .int x, l3] st h Q = xe_P d 59 31 [l0, l1, .int x, l3] (.int x :: st) h Q := xe_P_lo (ins := .iload_n 2) (len := 1) (by decide +kernel) rfl rfl
theorem xs_59_31 : xe_P d 59 31 ls (.int x :: .int v :: .ref a :: st) h Q = ((xe_ob h a 8 ∧ xe_ix h a v) ∧ xe_P d 59 32 ls st (xe_sI h a v.toNatClampNeg x) Q) := xe_P_iast (by decide +kernel)
theorem xs_59_32 : xe_P d 59 32 [.ref a, l1, l2, l3] st h Q = xe_P d 59 33 [.ref a, l1, l2, l3] (.ref a :: st) h Q := xe_P_lo (ins := .aload_n 0) (len := 1) (by decide +kernel) rfl rfl
theorem xs_59_33 : xe_P d 59 33 ls (.ref a :: st) h Q = (xe_ob h a 4 ∧ xe_P d 59 36 ls (va_rf (xe_R h a 5) :: st) h Q) := xe_P_getR (i := 21) (by decide +kernel) (by decide +kernel) (by decide) rfl
theorem xs_59_36 : xe_P d 59 36 [.ref a, l1, l2, l3] st h Q = xe_P d 59 37 [.ref a, l1, l2, l3] (.ref a :: st) h Q := xe_P_lo (ins := .aload_n 0) (len := 1) (by decide +kernel) rfl rfl
theorem xs_59_37 : xe_P d 59 37 ls (.ref a :: st) h Q = (xe_ob h a 4 ∧ xe_P d 59 40 ls (.int (xe_I h a 0) :: st) h Q) := xe_P_getI (i := 34) (by decide +kernel) (by decide +kernel) (by decide) rfl
theorem xs_59_40 : xe_P d 59 40 [l0, l1, l2, .int x] st h Q = xe_P d 59 41 [l0, l1, l2, .int x] (.int x :: st) h Q := xe_P_lo (ins := .iload_n 3) (len := 1) (by decide +kernel) rfl rfl
theorem xs_59_41 (hT : xe_T h a = 10) : xe_P d 59 41 ls (.int x :: .int v :: .ref a :: st) h Q = ((xe_ob h a 10 ∧ xe_ix h a v) ∧ xe_P d 59 42 ls st (xe_sI h a v.toNatClampNeg x.toInt8.toInt32) Q) := xe_P_bastB (by decide +kernel) hT
theorem xs_59_41z (hT : xe_T h a = 11) : xe_P d 59 41 ls (.int x :: .int v :: .ref a :: st) h Q = ((xe_ob h a 11 ∧ xe_ix h a v ∧ (x = 0 ∨ x = 1)) ∧ xe_P d 59 42 ls st (xe_sI h a v.toNatClampNeg x) Q) := xe_P_bastZ (by decide +kernel) hT
theorem xs_59_42 : xe_P d 59 42 [.ref a, l1, l2, l3] st h Q = xe_P d 59 43 [.ref a, l1, l2, l3] (.ref a :: st) h Q := xe_P_lo (ins := .aload_n 0) (len := 1) (by decide +kernel) rfl rfl
theorem xs_59_43 : xe_P d 59 43 ls (.ref a :: st) h Q = xe_P d 59 44 ls (.ref a :: .ref a :: st) h Q := xe_P_ar (ins := .dup) (len := 1) (by decide +kernel) rfl
theorem xs_59_43i : xe_P d 59 43 ls (.int x :: st) h Q = xe_P d 59 44 ls (.int x :: .int x :: st) h Q := xe_P_ar (ins := .dup) (len := 1) (by decide +kernel) rfl
theorem xs_59_44 : xe_P d 59 44 ls (.ref a :: st) h Q = (xe_ob h a 4 ∧ xe_P d 59 47 ls (.int (xe_I h a 0) :: st) h Q) := xe_P_getI (i := 34) (by decide +kernel) (by decide +kernel) (by decide) rfl
theorem xs_59_47 : xe_P d 59 47 ls st h Q = xe_P d 59 48 ls (.int 1 :: st) h Q := xe_P_ar (ins := .iconst 1) (len := 1) (by decide +kernel) rfl
theorem xs_59_48 : xe_P d 59 48 ls (.int v :: .int x :: st) h Q = xe_P d 59 49 ls (.int (x + v) :: st) h Q := xe_P_ar (ins := .iadd) (len := 1) (by decide +kernel) rfl
theorem xs_59_49 : xe_P d 59 49 ls (.int v :: .ref a :: st) h Q = (xe_ob h a 4 ∧ xe_P d 59 52 ls st (xe_sI h a 0 v) Q) := xe_P_putI (i := 34) (by decide +kernel) (by decide +kernel) (by decide) (by decide +kernel) rfl
theorem xs_59_52 : xe_P d 59 52 [.ref a, l1, l2, l3] st h Q = xe_P d 59 53 [.ref a, l1, l2, l3] (.ref a :: st) h Q := xe_P_lo (ins := .aload_n 0) (len := 1) (by decide +kernel) rfl rfl
theorem xs_59_53 : xe_P d 59 53 ls (.ref a :: st) h Q = (xe_ob h a 4 ∧ xe_P d 59 56 ls (.int (xe_I h a 0) :: st) h Q) := xe_P_getI (i := 34) (by decide +kernel) (by decide +kernel) (by decide) rfl
theorem xs_59_56 : xe_P d 59 56 ls [.int x] h Q = Q (some (.int x)) h := xe_P_ireturn (by decide +kernel) rfl
theorem xs_59 : xe_C (d + 1) 59 [.ref a, .int x0, .int x1, .int x2] h Q = xe_P d 59 0 [.ref a, .int x0, .int x1, .int x2] [] h Q := xe_C_at (Nat.le_of_ble_eq_true rfl) rfl
theorem xs_60_0 : xe_P d 60 0 [.ref a, l1, l2] st h Q = xe_P d 60 1 [.ref a, l1, l2] (.ref a :: st) h Q := xe_P_lo (ins := .aload_n 0) (len := 1) (by decide +kernel) rfl rfl
theorem xs_60_1 : xe_P d 60 1 [l0, .ref a, l2] st h Q = xe_P d 60 2 [l0, .ref a, l2] (.ref a :: st) h Q := xe_P_lo (ins := .aload_n 1) (len := 1) (by decide +kernel) rfl rfl
theorem xs_60_2 : xe_P d 60 2 ls (.ref a :: st) h Q = (xe_ob h a 3 ∧ xe_P d 60 5 ls (.int (xe_I h a 1) :: st) h Q) := xe_P_getI (i := 38) (by decide +kernel) (by decide +kernel) (by decide) rfl
theorem xs_60_5 : xe_P d 60 5 ls (.int v :: .ref a :: st) h Q = (xe_ob h a 4 ∧ xe_P d 60 8 ls st (xe_sI h a 9 v) Q) := xe_P_putI (i := 43) (by decide +kernel) (by decide +kernel) (by decide) (by decide +kernel) rfl
theorem xs_60_8 : xe_P d 60 8 [.ref a, l1, l2] st h Q = xe_P d 60 9 [.ref a, l1, l2] (.ref a :: st) h Q := xe_P_lo (ins := .aload_n 0) (len := 1) (by decide +kernel) rfl rfl
theorem xs_60_9 : xe_P d 60 9 [l0, .ref a, l2] st h Q = xe_P d 60 10 [l0, .ref a, l2] (.ref a :: st) h Q := xe_P_lo (ins := .aload_n 1) (len := 1) (by decide +kernel) rfl rfl
theorem xs_60_10 : xe_P d 60 10 ls (.ref a :: st) h Q = (xe_ob h a 3 ∧ xe_P d 60 13 ls (.int (xe_I h a 4) :: st) h Q) := xe_P_getI (i := 44) (by decide +kernel) (by decide +kernel) (by decide) rfl
theorem xs_60_13 : xe_P d 60 13 ls (.int v :: .ref a :: st) h Q = (xe_ob h a 4 ∧ xe_P d 60 16 ls st (xe_sI h a 10 v) Q) := xe_P_putI (i := 47) (by decide +kernel) (by decide +kernel) (by decide) (by decide +kernel) rfl
theorem xs_60_16 : xe_P d 60 16 [.ref a, l1, l2] st h Q = xe_P d 60 17 [.ref a, l1, l2] (.ref a :: st) h Q := xe_P_lo (ins := .aload_n 0) (len := 1) (by decide +kernel) rfl rfl
theorem xs_60_17 : xe_P d 60 17 [l0, l1, .int x] st h Q = xe_P d 60 18 [l0, l1, .int x] (.int x :: st) h Q := xe_P_lo (ins := .iload_n 2) (len := 1) (by decide +kernel) rfl rfl
theorem xs_60_18 : xe_P d 60 18 ls (.int v :: .ref a :: st) h Q = ((xe_ob h a 4 ∧ (v = 0 ∨ v = 1)) ∧ xe_P d 60 21 ls st (xe_sI h a 11 v) Q) := xe_P_putZ (i := 48) (by decide +kernel) (by decide +kernel) (by decide) (by decide +kernel) rfl
theorem xs_60_21 : xe_P d 60 21 [.ref a, l1, l2] st h Q = xe_P d 60 22 [.ref a, l1, l2] (.ref a :: st) h Q := xe_P_lo (ins := .aload_n 0) (len := 1) (by decide +kernel) rfl rfl
theorem xs_60_22 : xe_P d 60 22 ls st h Q = xe_P d 60 23 ls (.int 0 :: st) h Q := xe_P_ar (ins := .iconst 0) (len := 1) (by decide +kernel) rfl
theorem xs_60_23 : xe_P d 60 23 ls (.int v :: .ref a :: st) h Q = (xe_ob h a 4 ∧ xe_P d 60 26 ls st (xe_sI h a 1 v) Q) := xe_P_putI (i := 52) (by decide +kernel) (by decide +kernel) (by decide) (by decide +kernel) rfl
theorem xs_60_26 : xe_P d 60 26 [.ref a, l1, l2] st h Q = xe_P d 60 27 [.ref a, l1, l2] (.ref a :: st) h Q := xe_P_lo (ins := .aload_n 0) (len := 1) (by decide +kernel) rfl rfl
theorem xs_60_27 : xe_P d 60 27 ls st h Q = xe_P d 60 29 ls (.int 117649 :: st) h Q := xe_P_ldc (j := 55) (by decide +kernel) (by decide +kernel)
theorem xs_60_29 : xe_P d 60 29 ls (.int v :: .ref a :: st) h Q = (xe_ob h a 4 ∧ xe_P d 60 32 ls st (xe_sI h a 12 v) Q) := xe_P_putI (i := 56) (by decide +kernel) (by decide +kernel) (by decide) (by decide +kernel) rfl
theorem xs_60_32 : xe_P d 60 32 [.ref a, l1, l2] st h Q = xe_P d 60 33 [.ref a, l1, l2] (.ref a :: st) h Q := xe_P_lo (ins := .aload_n 0) (len := 1) (by decide +kernel) rfl rfl
theorem xs_60_33 : xe_P d 60 33 ls (.ref a :: st) h Q = (xe_ob h a 4 ∧ xe_P d 60 36 ls (va_rf (xe_R h a 2) :: st) h Q) := xe_P_getR (i := 9) (by decide +kernel) (by decide +kernel) (by decide) rfl
theorem xs_60_36 : xe_P d 60 36 ls st h Q = xe_P d 60 37 ls (.int 0 :: st) h Q := xe_P_ar (ins := .iconst 0) (len := 1) (by decide +kernel) rfl
theorem xs_60_37 : xe_P d 60 37 ls (v1 :: v0 :: st) h Q = (xe_w st ≤ 8 ∧ xe_C d 215 [v0, v1] h (fun r h' => xe_P d 60 40 ls (r.toList ++ st) h' Q)) := xe_P_ivs (y := 60) (pc := 37) (z := 215) (i := 59) (vs := [v1, v0]) (by decide +kernel) (by decide +kernel) rfl
theorem xs_60_40 : xe_P d 60 40 [.ref a, l1, l2] st h Q = xe_P d 60 41 [.ref a, l1, l2] (.ref a :: st) h Q := xe_P_lo (ins := .aload_n 0) (len := 1) (by decide +kernel) rfl rfl
theorem xs_60_41 : xe_P d 60 41 ls (.ref a :: st) h Q = (xe_ob h a 4 ∧ xe_P d 60 44 ls (va_rf (xe_R h a 6) :: st) h Q) := xe_P_getR (i := 25) (by decide +kernel) (by decide +kernel) (by decide) rfl
theorem xs_60_44 : xe_P d 60 44 ls st h Q = xe_P d 60 46 ls (.int 7 :: st) h Q := xe_P_ar (ins := .bipush 7) (len := 2) (by decide +kernel) rfl
theorem xs_60_46 : xe_P d 60 46 ls (v1 :: v0 :: st) h Q = (xe_w st ≤ 8 ∧ xe_C d 215 [v0, v1] h (fun r h' => xe_P d 60 49 ls (r.toList ++ st) h' Q)) := xe_P_ivs (y := 60) (pc := 46) (z := 215) (i := 59) (vs := [v1, v0]) (by decide +kernel) (by decide +kernel) rfl
theorem xs_60_49 : xe_P d 60 49 [.ref a, l1, l2] st h Q = xe_P d 60 50 [.ref a, l1, l2] (.ref a :: st) h Q := xe_P_lo (ins := .aload_n 0) (len := 1) (by decide +kernel) rfl rfl
theorem xs_60_50 : xe_P d 60 50 ls (.ref a :: st) h Q = (xe_ob h a 4 ∧ xe_P d 60 53 ls (va_rf (xe_R h a 7) :: st) h Q) := xe_P_getR (i := 28) (by decide +kernel) (by decide +kernel) (by decide) rfl
theorem xs_60_53 : xe_P d 60 53 ls st h Q = xe_P d 60 54 ls (.int 0 :: st) h Q := xe_P_ar (ins := .iconst 0) (len := 1) (by decide +kernel) rfl
theorem xs_60_54 : xe_P d 60 54 ls (v1 :: v0 :: st) h Q = (xe_w st ≤ 8 ∧ xe_C d 215 [v0, v1] h (fun r h' => xe_P d 60 57 ls (r.toList ++ st) h' Q)) := xe_P_ivs (y := 60) (pc := 54) (z := 215) (i := 59) (vs := [v1, v0]) (by decide +kernel) (by decide +kernel) rfl
theorem xs_60_57 : xe_P d 60 57 [.ref a, l1, l2] st h Q = xe_P d 60 58 [.ref a, l1, l2] (.ref a :: st) h Q := xe_P_lo (ins := .aload_n 0) (len := 1) (by decide +kernel) rfl rfl
theorem xs_60_58 : xe_P d 60 58 ls (.ref a :: st) h Q = (xe_ob h a 4 ∧ xe_P d 60 61 ls (va_rf (xe_R h a 8) :: st) h Q) := xe_P_getR (i := 31) (by decide +kernel) (by decide +kernel) (by decide) rfl
theorem xs_60_61 : xe_P d 60 61 ls st h Q = xe_P d 60 62 ls (.int 0 :: st) h Q := xe_P_ar (ins := .iconst 0) (len := 1) (by decide +kernel) rfl
theorem xs_60_62 : xe_P d 60 62 ls (v1 :: v0 :: st) h Q = (xe_w st ≤ 8 ∧ xe_C d 215 [v0, v1] h (fun r h' => xe_P d 60 65 ls (r.toList ++ st) h' Q)) := xe_P_ivs (y := 60) (pc := 62) (z := 215) (i := 59) (vs := [v1, v0]) (by decide +kernel) (by decide +kernel) rfl
theorem xs_60_65 : xe_P d 60 65 [.ref a, l1, l2] st h Q = xe_P d 60 66 [.ref a, l1, l2] (.ref a :: st) h Q := xe_P_lo (ins := .aload_n 0) (len := 1) (by decide +kernel) rfl rfl
theorem xs_60_66 : xe_P d 60 66 ls st h Q = xe_P d 60 67 ls (.int 0 :: st) h Q := xe_P_ar (ins := .iconst 0) (len := 1) (by decide +kernel) rfl
theorem xs_60_67 : xe_P d 60 67 ls st h Q = xe_P d 60 68 ls (.int 0 :: st) h Q := xe_P_ar (ins := .iconst 0) (len := 1) (by decide +kernel) rfl
theorem xs_60_68 : xe_P d 60 68 ls (v1 :: v0 :: .ref a :: st) h Q = ((xe_w st ≤ 8 ∧ xe_ob h a 4) ∧ xe_C d 61 [.ref a, v0, v1] h (fun r h' => xe_P d 60 71 ls (r.toList ++ st) h' Q)) := xe_P_ivv (y := 60) (pc := 68) (z := 61) (i := 65) (vs := [v1, v0]) (by decide +kernel) (by decide +kernel) rfl (by decide +kernel)
theorem xs_60_71 : xe_P d 60 71 ls [] h Q = Q none h := xe_P_vreturn (by decide +kernel) rfl
theorem xs_60 : xe_C (d + 1) 60 [.ref a, .ref a0, .int x1] h Q = xe_P d 60 0 [.ref a, .ref a0, .int x1] [] h Q := xe_C_at (Nat.le_of_ble_eq_true rfl) rfl
theorem xs_61_0 : xe_P d 61 0 [l0, .int x, l2, l3, l4] st h Q = xe_P d 61 1 [l0, .int x, l2, l3, l4] (.int x :: st) h Q := xe_P_lo (ins := .iload_n 1) (len := 1) (by decide +kernel) rfl rfl
theorem xs_61_1 : xe_P d 61 1 [.ref a, l1, l2, l3, l4] st h Q = xe_P d 61 2 [.ref a, l1, l2, l3, l4] (.ref a :: st) h Q := xe_P_lo (ins := .aload_n 0) (len := 1) (by decide +kernel) rfl rfl
theorem xs_61_2 : xe_P d 61 2 ls (.ref a :: st) h Q = (xe_ob h a 4 ∧ xe_P d 61 5 ls (.int (xe_I h a 0) :: st) h Q) := xe_P_getI (i := 34) (by decide +kernel) (by decide +kernel) (by decide) rfl
theorem xs_61_5 : xe_P d 61 5 ls (.int v :: .int x :: st) h Q = (if v ≤ x then xe_P d 61 14 ls st h Q else xe_P d 61 8 ls st h Q) := xe_P_if (ins := .if_icmp .ge 9) (len := 3) (off := 9) (by decide +kernel) (by decide) rfl rfl rfl
theorem xs_61_8 : xe_P d 61 8 [l0, .int x, l2, l3, l4] st h Q = xe_P d 61 9 [l0, .int x, l2, l3, l4] (.int x :: st) h Q := xe_P_lo (ins := .iload_n 1) (len := 1) (by decide +kernel) rfl rfl
theorem xs_61_9 : xe_P d 61 9 ls st h Q = xe_P d 61 11 ls (.int 6 :: st) h Q := xe_P_ar (ins := .bipush 6) (len := 2) (by decide +kernel) rfl
theorem xs_61_11 : xe_P d 61 11 ls (.int v :: .int x :: st) h Q = (if x < v then xe_P d 61 20 ls st h Q else xe_P d 61 14 ls st h Q) := xe_P_if (ins := .if_icmp .lt 9) (len := 3) (off := 9) (by decide +kernel) (by decide) rfl rfl rfl
theorem xs_61_14 : xe_P d 61 14 [.ref a, l1, l2, l3, l4] st h Q = xe_P d 61 15 [.ref a, l1, l2, l3, l4] (.ref a :: st) h Q := xe_P_lo (ins := .aload_n 0) (len := 1) (by decide +kernel) rfl rfl
theorem xs_61_15 : xe_P d 61 15 [l0, l1, .int x, l3, l4] st h Q = xe_P d 61 16 [l0, l1, .int x, l3, l4] (.int x :: st) h Q := xe_P_lo (ins := .iload_n 2) (len := 1) (by decide +kernel) rfl rfl
theorem xs_61_16 : xe_P d 61 16 ls (v0 :: .ref a :: st) h Q = ((xe_w st ≤ 8 ∧ xe_ob h a 4) ∧ xe_C d 64 [.ref a, v0] h (fun r h' => xe_P d 61 19 ls (r.toList ++ st) h' Q)) := xe_P_ivv (y := 61) (pc := 16) (z := 64) (i := 69) (vs := [v0]) (by decide +kernel) (by decide +kernel) rfl (by decide +kernel)
theorem xs_61_19 : xe_P d 61 19 ls [] h Q = Q none h := xe_P_vreturn (by decide +kernel) rfl
theorem xs_61_20 : xe_P d 61 20 [.ref a, l1, l2, l3, l4] st h Q = xe_P d 61 21 [.ref a, l1, l2, l3, l4] (.ref a :: st) h Q := xe_P_lo (ins := .aload_n 0) (len := 1) (by decide +kernel) rfl rfl
theorem xs_61_21 : xe_P d 61 21 ls (.ref a :: st) h Q = (xe_ob h a 4 ∧ xe_P d 61 24 ls (va_rf (xe_R h a 3) :: st) h Q) := xe_P_getR (i := 15) (by decide +kernel) (by decide +kernel) (by decide) rfl
theorem xs_61_24 : xe_P d 61 24 [l0, .int x, l2, l3, l4] st h Q = xe_P d 61 25 [l0, .int x, l2, l3, l4] (.int x :: st) h Q := xe_P_lo (ins := .iload_n 1) (len := 1) (by decide +kernel) rfl rfl
theorem xs_61_25 : xe_P d 61 25 ls (.int v :: .ref a :: st) h Q = ((xe_ia h a ∧ xe_ix h a v) ∧ xe_P d 61 26 ls (.int (xe_I h a v.toNatClampNeg) :: st) h Q) := xe_P_iald (by decide +kernel)
theorem xs_61_26 : xe_P d 61 26 [l0, l1, l2, l3, l4] (.int x :: st) h Q = xe_P d 61 27 [l0, l1, xe_cut l2, .int x, l4] st h Q := xe_P_lo (ins := .istore_n 3) (len := 1) (by decide +kernel) rfl rfl
theorem xs_61_27 : xe_P d 61 27 [l0, l1, l2, .int x, l4] st h Q = xe_P d 61 28 [l0, l1, l2, .int x, l4] (.int x :: st) h Q := xe_P_lo (ins := .iload_n 3) (len := 1) (by decide +kernel) rfl rfl
theorem xs_61_28 : xe_P d 61 28 ls st h Q = xe_P d 61 30 ls (.int 6 :: st) h Q := xe_P_ar (ins := .bipush 6) (len := 2) (by decide +kernel) rfl
theorem xs_61_30 : xe_P d 61 30 ls (.int v :: .int x :: st) h Q = (if x = v then xe_P d 61 33 ls st h Q else xe_P d 61 42 ls st h Q) := xe_P_ifn (ins := .if_icmp .ne 12) (len := 3) (off := 12) (by decide +kernel) (by decide) rfl rfl rfl
theorem xs_61_33 : xe_P d 61 33 [.ref a, l1, l2, l3, l4] st h Q = xe_P d 61 34 [.ref a, l1, l2, l3, l4] (.ref a :: st) h Q := xe_P_lo (ins := .aload_n 0) (len := 1) (by decide +kernel) rfl rfl
theorem xs_61_34 : xe_P d 61 34 [l0, .int x, l2, l3, l4] st h Q = xe_P d 61 35 [l0, .int x, l2, l3, l4] (.int x :: st) h Q := xe_P_lo (ins := .iload_n 1) (len := 1) (by decide +kernel) rfl rfl
theorem xs_61_35 : xe_P d 61 35 [l0, l1, .int x, l3, l4] st h Q = xe_P d 61 36 [l0, l1, .int x, l3, l4] (.int x :: st) h Q := xe_P_lo (ins := .iload_n 2) (len := 1) (by decide +kernel) rfl rfl
theorem xs_61_36 : xe_P d 61 36 ls (v1 :: v0 :: .ref a :: st) h Q = ((xe_w st ≤ 8 ∧ xe_ob h a 4) ∧ xe_C d 62 [.ref a, v0, v1] h (fun r h' => xe_P d 61 39 ls (r.toList ++ st) h' Q)) := xe_P_ivv (y := 61) (pc := 36) (z := 62) (i := 73) (vs := [v1, v0]) (by decide +kernel) (by decide +kernel) rfl (by decide +kernel)
theorem xs_61_39 : xe_P d 61 39 ls st h Q = xe_P d 61 140 ls st h Q := xe_P_go (len := 3) (off := 101) (by decide +kernel) (by decide)
theorem xs_61_42 : xe_P d 61 42 [l0, l1, .int x, l3, l4] st h Q = xe_P d 61 43 [l0, l1, .int x, l3, l4] (.int x :: st) h Q := xe_P_lo (ins := .iload_n 2) (len := 1) (by decide +kernel) rfl rfl
theorem xs_61_43 : xe_P d 61 43 [l0, l1, l2, .int x, l4] st h Q = xe_P d 61 44 [l0, l1, l2, .int x, l4] (.int x :: st) h Q := xe_P_lo (ins := .iload_n 3) (len := 1) (by decide +kernel) rfl rfl
theorem xs_61_44 : xe_P d 61 44 ls (v1 :: v0 :: st) h Q = (xe_w st ≤ 8 ∧ xe_C d 45 [v0, v1] h (fun r h' => xe_P d 61 47 ls (r.toList ++ st) h' Q)) := xe_P_ivs (y := 61) (pc := 44) (z := 45) (i := 76) (vs := [v1, v0]) (by decide +kernel) (by decide +kernel) rfl
theorem xs_61_47 : xe_P d 61 47 ls (.int x :: st) h Q = (if x = 0 then xe_P d 61 140 ls st h Q else xe_P d 61 50 ls st h Q) := xe_P_if (ins := .ifCond .eq 93) (len := 3) (off := 93) (by decide +kernel) (by decide) rfl rfl rfl
theorem xs_61_50 : xe_P d 61 50 [.ref a, l1, l2, l3, l4] st h Q = xe_P d 61 51 [.ref a, l1, l2, l3, l4] (.ref a :: st) h Q := xe_P_lo (ins := .aload_n 0) (len := 1) (by decide +kernel) rfl rfl
theorem xs_61_51 : xe_P d 61 51 ls (.ref a :: st) h Q = (xe_ob h a 4 ∧ xe_P d 61 54 ls (va_rf (xe_R h a 6) :: st) h Q) := xe_P_getR (i := 25) (by decide +kernel) (by decide +kernel) (by decide) rfl
theorem xs_61_54 : xe_P d 61 54 [l0, l1, l2, .int x, l4] st h Q = xe_P d 61 55 [l0, l1, l2, .int x, l4] (.int x :: st) h Q := xe_P_lo (ins := .iload_n 3) (len := 1) (by decide +kernel) rfl rfl
theorem xs_61_55 : xe_P d 61 55 ls (.int v :: .ref a :: st) h Q = ((xe_ia h a ∧ xe_ix h a v) ∧ xe_P d 61 56 ls (.int (xe_I h a v.toNatClampNeg) :: st) h Q) := xe_P_iald (by decide +kernel)
theorem xs_61_56 : xe_P d 61 56 ls st h Q = xe_P d 61 58 ls (.int 7 :: st) h Q := xe_P_ar (ins := .bipush 7) (len := 2) (by decide +kernel) rfl
theorem xs_61_58 : xe_P d 61 58 ls (.int v :: .int x :: st) h Q = (if x = v then xe_P d 61 83 ls st h Q else xe_P d 61 61 ls st h Q) := xe_P_if (ins := .if_icmp .eq 25) (len := 3) (off := 25) (by decide +kernel) (by decide) rfl rfl rfl
theorem xs_61_61 : xe_P d 61 61 [.ref a, l1, l2, l3, l4] st h Q = xe_P d 61 62 [.ref a, l1, l2, l3, l4] (.ref a :: st) h Q := xe_P_lo (ins := .aload_n 0) (len := 1) (by decide +kernel) rfl rfl
theorem xs_61_62 : xe_P d 61 62 [l0, .int x, l2, l3, l4] st h Q = xe_P d 61 63 [l0, .int x, l2, l3, l4] (.int x :: st) h Q := xe_P_lo (ins := .iload_n 1) (len := 1) (by decide +kernel) rfl rfl
theorem xs_61_63 : xe_P d 61 63 [l0, l1, .int x, l3, l4] st h Q = xe_P d 61 64 [l0, l1, .int x, l3, l4] (.int x :: st) h Q := xe_P_lo (ins := .iload_n 2) (len := 1) (by decide +kernel) rfl rfl
theorem xs_61_64 : xe_P d 61 64 [.ref a, l1, l2, l3, l4] st h Q = xe_P d 61 65 [.ref a, l1, l2, l3, l4] (.ref a :: st) h Q := xe_P_lo (ins := .aload_n 0) (len := 1) (by decide +kernel) rfl rfl
theorem xs_61_65 : xe_P d 61 65 ls (.ref a :: st) h Q = (xe_ob h a 4 ∧ xe_P d 61 68 ls (va_rf (xe_R h a 6) :: st) h Q) := xe_P_getR (i := 25) (by decide +kernel) (by decide +kernel) (by decide) rfl
theorem xs_61_68 : xe_P d 61 68 [l0, l1, l2, .int x, l4] st h Q = xe_P d 61 69 [l0, l1, l2, .int x, l4] (.int x :: st) h Q := xe_P_lo (ins := .iload_n 3) (len := 1) (by decide +kernel) rfl rfl
theorem xs_61_69 : xe_P d 61 69 ls (.int v :: .ref a :: st) h Q = ((xe_ia h a ∧ xe_ix h a v) ∧ xe_P d 61 70 ls (.int (xe_I h a v.toNatClampNeg) :: st) h Q) := xe_P_iald (by decide +kernel)
theorem xs_61_70 : xe_P d 61 70 [.ref a, l1, l2, l3, l4] st h Q = xe_P d 61 71 [.ref a, l1, l2, l3, l4] (.ref a :: st) h Q := xe_P_lo (ins := .aload_n 0) (len := 1) (by decide +kernel) rfl rfl
theorem xs_61_71 : xe_P d 61 71 ls (.ref a :: st) h Q = (xe_ob h a 4 ∧ xe_P d 61 74 ls (.int (xe_I h a 10) :: st) h Q) := xe_P_getI (i := 47) (by decide +kernel) (by decide +kernel) (by decide) rfl
theorem xs_61_74 : xe_P d 61 74 ls (v2 :: v1 :: v0 :: st) h Q = (xe_w st ≤ 8 ∧ xe_C d 47 [v0, v1, v2] h (fun r h' => xe_P d 61 77 ls (r.toList ++ st) h' Q)) := xe_P_ivs (y := 61) (pc := 74) (z := 47) (i := 80) (vs := [v2, v1, v0]) (by decide +kernel) (by decide +kernel) rfl
theorem xs_61_77 : xe_P d 61 77 ls (v1 :: v0 :: .ref a :: st) h Q = ((xe_w st ≤ 8 ∧ xe_ob h a 4) ∧ xe_C d 62 [.ref a, v0, v1] h (fun r h' => xe_P d 61 80 ls (r.toList ++ st) h' Q)) := xe_P_ivv (y := 61) (pc := 77) (z := 62) (i := 73) (vs := [v1, v0]) (by decide +kernel) (by decide +kernel) rfl (by decide +kernel)
theorem xs_61_80 : xe_P d 61 80 ls st h Q = xe_P d 61 140 ls st h Q := xe_P_go (len := 3) (off := 60) (by decide +kernel) (by decide)
theorem xs_61_83 : xe_P d 61 83 ls st h Q = xe_P d 61 84 ls (.int 0 :: st) h Q := xe_P_ar (ins := .iconst 0) (len := 1) (by decide +kernel) rfl
theorem xs_61_84 : xe_P d 61 84 [l0, l1, l2, l3, l4] (.int x :: st) h Q = xe_P d 61 86 [l0, l1, l2, xe_cut l3, .int x] st h Q := xe_P_lo (ins := .istore 4) (len := 2) (by decide +kernel) rfl rfl
theorem xs_61_86 : xe_P d 61 86 [l0, l1, l2, l3, .int x] st h Q = xe_P d 61 88 [l0, l1, l2, l3, .int x] (.int x :: st) h Q := xe_P_lo (ins := .iload 4) (len := 2) (by decide +kernel) rfl rfl
theorem xs_61_88 : xe_P d 61 88 ls st h Q = xe_P d 61 90 ls (.int 6 :: st) h Q := xe_P_ar (ins := .bipush 6) (len := 2) (by decide +kernel) rfl
theorem xs_61_90 : xe_P d 61 90 ls (.int v :: .int x :: st) h Q = (if v < x then xe_P d 61 132 ls st h Q else xe_P d 61 93 ls st h Q) := xe_P_if (ins := .if_icmp .gt 42) (len := 3) (off := 42) (by decide +kernel) (by decide) rfl rfl rfl
theorem xs_61_93 : xe_P d 61 93 [.ref a, l1, l2, l3, l4] st h Q = xe_P d 61 94 [.ref a, l1, l2, l3, l4] (.ref a :: st) h Q := xe_P_lo (ins := .aload_n 0) (len := 1) (by decide +kernel) rfl rfl
theorem xs_61_94 : xe_P d 61 94 [l0, l1, l2, .int x, l4] st h Q = xe_P d 61 95 [l0, l1, l2, .int x, l4] (.int x :: st) h Q := xe_P_lo (ins := .iload_n 3) (len := 1) (by decide +kernel) rfl rfl
theorem xs_61_95 : xe_P d 61 95 [l0, l1, l2, l3, .int x] st h Q = xe_P d 61 97 [l0, l1, l2, l3, .int x] (.int x :: st) h Q := xe_P_lo (ins := .iload 4) (len := 2) (by decide +kernel) rfl rfl
theorem xs_61_97 : xe_P d 61 97 ls (v1 :: v0 :: .ref a :: st) h Q = ((xe_w st ≤ 8 ∧ xe_ob h a 4) ∧ xe_C d 63 [.ref a, v0, v1] h (fun r h' => xe_P d 61 100 ls (r.toList ++ st) h' Q)) := xe_P_ivv (y := 61) (pc := 97) (z := 63) (i := 84) (vs := [v1, v0]) (by decide +kernel) (by decide +kernel) rfl (by decide +kernel)
theorem xs_61_100 : xe_P d 61 100 ls (.int x :: st) h Q = (if x = 0 then xe_P d 61 126 ls st h Q else xe_P d 61 103 ls st h Q) := xe_P_if (ins := .ifCond .eq 26) (len := 3) (off := 26) (by decide +kernel) (by decide) rfl rfl rfl
theorem xs_61_103 : xe_P d 61 103 [.ref a, l1, l2, l3, l4] st h Q = xe_P d 61 104 [.ref a, l1, l2, l3, l4] (.ref a :: st) h Q := xe_P_lo (ins := .aload_n 0) (len := 1) (by decide +kernel) rfl rfl
theorem xs_61_104 : xe_P d 61 104 ls (.ref a :: st) h Q = (xe_ob h a 4 ∧ xe_P d 61 107 ls (va_rf (xe_R h a 6) :: st) h Q) := xe_P_getR (i := 25) (by decide +kernel) (by decide +kernel) (by decide) rfl
theorem xs_61_107 : xe_P d 61 107 [l0, l1, l2, .int x, l4] st h Q = xe_P d 61 108 [l0, l1, l2, .int x, l4] (.int x :: st) h Q := xe_P_lo (ins := .iload_n 3) (len := 1) (by decide +kernel) rfl rfl
theorem xs_61_108 : xe_P d 61 108 [l0, l1, l2, l3, .int x] st h Q = xe_P d 61 110 [l0, l1, l2, l3, .int x] (.int x :: st) h Q := xe_P_lo (ins := .iload 4) (len := 2) (by decide +kernel) rfl rfl
theorem xs_61_110 : xe_P d 61 110 ls (.int x :: .int v :: .ref a :: st) h Q = ((xe_ob h a 8 ∧ xe_ix h a v) ∧ xe_P d 61 111 ls st (xe_sI h a v.toNatClampNeg x) Q) := xe_P_iast (by decide +kernel)
theorem xs_61_111 : xe_P d 61 111 [.ref a, l1, l2, l3, l4] st h Q = xe_P d 61 112 [.ref a, l1, l2, l3, l4] (.ref a :: st) h Q := xe_P_lo (ins := .aload_n 0) (len := 1) (by decide +kernel) rfl rfl
theorem xs_61_112 : xe_P d 61 112 [l0, .int x, l2, l3, l4] st h Q = xe_P d 61 113 [l0, .int x, l2, l3, l4] (.int x :: st) h Q := xe_P_lo (ins := .iload_n 1) (len := 1) (by decide +kernel) rfl rfl
theorem xs_61_113 : xe_P d 61 113 [l0, l1, .int x, l3, l4] st h Q = xe_P d 61 114 [l0, l1, .int x, l3, l4] (.int x :: st) h Q := xe_P_lo (ins := .iload_n 2) (len := 1) (by decide +kernel) rfl rfl
theorem xs_61_114 : xe_P d 61 114 [l0, l1, l2, l3, .int x] st h Q = xe_P d 61 116 [l0, l1, l2, l3, .int x] (.int x :: st) h Q := xe_P_lo (ins := .iload 4) (len := 2) (by decide +kernel) rfl rfl
theorem xs_61_116 : xe_P d 61 116 [.ref a, l1, l2, l3, l4] st h Q = xe_P d 61 117 [.ref a, l1, l2, l3, l4] (.ref a :: st) h Q := xe_P_lo (ins := .aload_n 0) (len := 1) (by decide +kernel) rfl rfl
theorem xs_61_117 : xe_P d 61 117 ls (.ref a :: st) h Q = (xe_ob h a 4 ∧ xe_P d 61 120 ls (.int (xe_I h a 10) :: st) h Q) := xe_P_getI (i := 47) (by decide +kernel) (by decide +kernel) (by decide) rfl
theorem xs_61_120 : xe_P d 61 120 ls (v2 :: v1 :: v0 :: st) h Q = (xe_w st ≤ 8 ∧ xe_C d 47 [v0, v1, v2] h (fun r h' => xe_P d 61 123 ls (r.toList ++ st) h' Q)) := xe_P_ivs (y := 61) (pc := 120) (z := 47) (i := 80) (vs := [v2, v1, v0]) (by decide +kernel) (by decide +kernel) rfl
theorem xs_61_123 : xe_P d 61 123 ls (v1 :: v0 :: .ref a :: st) h Q = ((xe_w st ≤ 8 ∧ xe_ob h a 4) ∧ xe_C d 62 [.ref a, v0, v1] h (fun r h' => xe_P d 61 126 ls (r.toList ++ st) h' Q)) := xe_P_ivv (y := 61) (pc := 123) (z := 62) (i := 73) (vs := [v1, v0]) (by decide +kernel) (by decide +kernel) rfl (by decide +kernel)
theorem xs_61_126 : xe_P d 61 126 [l0, l1, l2, l3, .int x] st h Q = xe_P d 61 129 [l0, l1, l2, xe_cut l3, .int (x + 1)] st h Q := xe_P_lo (ins := .iinc 4 1) (len := 3) (by decide +kernel) rfl rfl
theorem xs_61_129 : xe_P d 61 129 ls st h Q = xe_P d 61 86 ls st h Q := xe_P_go (len := 3) (off := (-43)) (by decide +kernel) (by decide)
theorem xs_61_132 : xe_P d 61 132 [.ref a, l1, l2, l3, l4] st h Q = xe_P d 61 133 [.ref a, l1, l2, l3, l4] (.ref a :: st) h Q := xe_P_lo (ins := .aload_n 0) (len := 1) (by decide +kernel) rfl rfl
theorem xs_61_133 : xe_P d 61 133 ls (.ref a :: st) h Q = (xe_ob h a 4 ∧ xe_P d 61 136 ls (va_rf (xe_R h a 6) :: st) h Q) := xe_P_getR (i := 25) (by decide +kernel) (by decide +kernel) (by decide) rfl
theorem xs_61_136 : xe_P d 61 136 [l0, l1, l2, .int x, l4] st h Q = xe_P d 61 137 [l0, l1, l2, .int x, l4] (.int x :: st) h Q := xe_P_lo (ins := .iload_n 3) (len := 1) (by decide +kernel) rfl rfl
theorem xs_61_137 : xe_P d 61 137 ls st h Q = xe_P d 61 139 ls (.int 7 :: st) h Q := xe_P_ar (ins := .bipush 7) (len := 2) (by decide +kernel) rfl
theorem xs_61_139 : xe_P d 61 139 ls (.int x :: .int v :: .ref a :: st) h Q = ((xe_ob h a 8 ∧ xe_ix h a v) ∧ xe_P d 61 140 ls st (xe_sI h a v.toNatClampNeg x) Q) := xe_P_iast (by decide +kernel)
theorem xs_61_140 : xe_P d 61 140 ls [] h Q = Q none h := xe_P_vreturn (by decide +kernel) rfl
theorem xs_61 : xe_C (d + 1) 61 [.ref a, .int x0, .int x1] h Q = xe_P d 61 0 [.ref a, .int x0, .int x1, .retAddr 0, .retAddr 0] [] h Q := xe_C_at (Nat.le_of_ble_eq_true rfl) rfl
theorem xs_62_0 : xe_P d 62 0 [l0, l1, .int x, l3] st h Q = xe_P d 62 1 [l0, l1, .int x, l3] (.int x :: st) h Q := xe_P_lo (ins := .iload_n 2) (len := 1) (by decide +kernel) rfl rfl
theorem xs_62_1 : xe_P d 62 1 ls (v0 :: st) h Q = (xe_w st ≤ 8 ∧ xe_C d 46 [v0] h (fun r h' => xe_P d 62 4 ls (r.toList ++ st) h' Q)) := xe_P_ivs (y := 62) (pc := 1) (z := 46) (i := 87) (vs := [v0]) (by decide +kernel) (by decide +kernel) rfl
theorem xs_62_4 : xe_P d 62 4 [l0, l1, l2, l3] (.int x :: st) h Q = xe_P d 62 5 [l0, l1, xe_cut l2, .int x] st h Q := xe_P_lo (ins := .istore_n 3) (len := 1) (by decide +kernel) rfl rfl
theorem xs_62_5 : xe_P d 62 5 [l0, l1, l2, .int x] st h Q = xe_P d 62 6 [l0, l1, l2, .int x] (.int x :: st) h Q := xe_P_lo (ins := .iload_n 3) (len := 1) (by decide +kernel) rfl rfl
theorem xs_62_6 : xe_P d 62 6 [.ref a, l1, l2, l3] st h Q = xe_P d 62 7 [.ref a, l1, l2, l3] (.ref a :: st) h Q := xe_P_lo (ins := .aload_n 0) (len := 1) (by decide +kernel) rfl rfl
theorem xs_62_7 : xe_P d 62 7 ls (.ref a :: st) h Q = (xe_ob h a 4 ∧ xe_P d 62 10 ls (va_rf (xe_R h a 4) :: st) h Q) := xe_P_getR (i := 18) (by decide +kernel) (by decide +kernel) (by decide) rfl
theorem xs_62_10 : xe_P d 62 10 [l0, .int x, l2, l3] st h Q = xe_P d 62 11 [l0, .int x, l2, l3] (.int x :: st) h Q := xe_P_lo (ins := .iload_n 1) (len := 1) (by decide +kernel) rfl rfl
theorem xs_62_11 : xe_P d 62 11 ls (.int v :: .ref a :: st) h Q = ((xe_ia h a ∧ xe_ix h a v) ∧ xe_P d 62 12 ls (.int (xe_I h a v.toNatClampNeg) :: st) h Q) := xe_P_iald (by decide +kernel)
theorem xs_62_12 : xe_P d 62 12 ls (v1 :: v0 :: st) h Q = (xe_w st ≤ 8 ∧ xe_C d 45 [v0, v1] h (fun r h' => xe_P d 62 15 ls (r.toList ++ st) h' Q)) := xe_P_ivs (y := 62) (pc := 12) (z := 45) (i := 76) (vs := [v1, v0]) (by decide +kernel) (by decide +kernel) rfl
theorem xs_62_15 : xe_P d 62 15 [.ref a, l1, l2, l3] st h Q = xe_P d 62 16 [.ref a, l1, l2, l3] (.ref a :: st) h Q := xe_P_lo (ins := .aload_n 0) (len := 1) (by decide +kernel) rfl rfl
theorem xs_62_16 : xe_P d 62 16 ls (.ref a :: st) h Q = (xe_ob h a 4 ∧ xe_P d 62 19 ls (va_rf (xe_R h a 5) :: st) h Q) := xe_P_getR (i := 21) (by decide +kernel) (by decide +kernel) (by decide) rfl
theorem xs_62_19 : xe_P d 62 19 [l0, .int x, l2, l3] st h Q = xe_P d 62 20 [l0, .int x, l2, l3] (.int x :: st) h Q := xe_P_lo (ins := .iload_n 1) (len := 1) (by decide +kernel) rfl rfl
theorem xs_62_20 : xe_P d 62 20 ls (.int v :: .ref a :: st) h Q = ((xe_ba h a ∧ xe_ix h a v) ∧ xe_P d 62 21 ls (.int (xe_I h a v.toNatClampNeg) :: st) h Q) := xe_P_bald (by decide +kernel)
theorem xs_62_21 : xe_P d 62 21 ls (.int v :: .int x :: st) h Q = (if x = v then xe_P d 62 24 ls st h Q else xe_P d 62 32 ls st h Q) := xe_P_ifn (ins := .if_icmp .ne 11) (len := 3) (off := 11) (by decide +kernel) (by decide) rfl rfl rfl
theorem xs_62_24 : xe_P d 62 24 [.ref a, l1, l2, l3] st h Q = xe_P d 62 25 [.ref a, l1, l2, l3] (.ref a :: st) h Q := xe_P_lo (ins := .aload_n 0) (len := 1) (by decide +kernel) rfl rfl
theorem xs_62_25 : xe_P d 62 25 [l0, .int x, l2, l3] st h Q = xe_P d 62 26 [l0, .int x, l2, l3] (.int x :: st) h Q := xe_P_lo (ins := .iload_n 1) (len := 1) (by decide +kernel) rfl rfl
theorem xs_62_26 : xe_P d 62 26 ls st h Q = xe_P d 62 27 ls (.int 1 :: st) h Q := xe_P_ar (ins := .iconst 1) (len := 1) (by decide +kernel) rfl
theorem xs_62_27 : xe_P d 62 27 ls (.int v :: .int x :: st) h Q = xe_P d 62 28 ls (.int (x + v) :: st) h Q := xe_P_ar (ins := .iadd) (len := 1) (by decide +kernel) rfl
theorem xs_62_28 : xe_P d 62 28 [l0, l1, l2, .int x] st h Q = xe_P d 62 29 [l0, l1, l2, .int x] (.int x :: st) h Q := xe_P_lo (ins := .iload_n 3) (len := 1) (by decide +kernel) rfl rfl
theorem xs_62_29 : xe_P d 62 29 ls (v1 :: v0 :: .ref a :: st) h Q = ((xe_w st ≤ 8 ∧ xe_ob h a 4) ∧ xe_C d 61 [.ref a, v0, v1] h (fun r h' => xe_P d 62 32 ls (r.toList ++ st) h' Q)) := xe_P_ivv (y := 62) (pc := 29) (z := 61) (i := 65) (vs := [v1, v0]) (by decide +kernel) (by decide +kernel) rfl (by decide +kernel)
theorem xs_62_32 : xe_P d 62 32 ls [] h Q = Q none h := xe_P_vreturn (by decide +kernel) rfl
theorem xs_62 : xe_C (d + 1) 62 [.ref a, .int x0, .int x1] h Q = xe_P d 62 0 [.ref a, .int x0, .int x1, .retAddr 0] [] h Q := xe_C_at (Nat.le_of_ble_eq_true rfl) rfl
theorem xs_63_0 : xe_P d 63 0 [l0, l1, .int x] st h Q = xe_P d 63 1 [l0, l1, .int x] (.int x :: st) h Q := xe_P_lo (ins := .iload_n 2) (len := 1) (by decide +kernel) rfl rfl
theorem xs_63_1 : xe_P d 63 1 ls st h Q = xe_P d 63 3 ls (.int 6 :: st) h Q := xe_P_ar (ins := .bipush 6) (len := 2) (by decide +kernel) rfl
theorem xs_63_3 : xe_P d 63 3 ls (.int v :: .int x :: st) h Q = (if x = v then xe_P d 63 19 ls st h Q else xe_P d 63 6 ls st h Q) := xe_P_if (ins := .if_icmp .eq 16) (len := 3) (off := 16) (by decide +kernel) (by decide) rfl rfl rfl
theorem xs_63_6 : xe_P d 63 6 [l0, l1, .int x] st h Q = xe_P d 63 7 [l0, l1, .int x] (.int x :: st) h Q := xe_P_lo (ins := .iload_n 2) (len := 1) (by decide +kernel) rfl rfl
theorem xs_63_7 : xe_P d 63 7 [l0, .int x, l2] st h Q = xe_P d 63 8 [l0, .int x, l2] (.int x :: st) h Q := xe_P_lo (ins := .iload_n 1) (len := 1) (by decide +kernel) rfl rfl
theorem xs_63_8 : xe_P d 63 8 ls (.int v :: .int x :: st) h Q = (if x = v then xe_P d 63 23 ls st h Q else xe_P d 63 11 ls st h Q) := xe_P_if (ins := .if_icmp .eq 15) (len := 3) (off := 15) (by decide +kernel) (by decide) rfl rfl rfl
theorem xs_63_11 : xe_P d 63 11 [l0, l1, .int x] st h Q = xe_P d 63 12 [l0, l1, .int x] (.int x :: st) h Q := xe_P_lo (ins := .iload_n 2) (len := 1) (by decide +kernel) rfl rfl
theorem xs_63_12 : xe_P d 63 12 [.ref a, l1, l2] st h Q = xe_P d 63 13 [.ref a, l1, l2] (.ref a :: st) h Q := xe_P_lo (ins := .aload_n 0) (len := 1) (by decide +kernel) rfl rfl
theorem xs_63_13 : xe_P d 63 13 ls (.ref a :: st) h Q = (xe_ob h a 4 ∧ xe_P d 63 16 ls (.int (xe_I h a 9) :: st) h Q) := xe_P_getI (i := 43) (by decide +kernel) (by decide +kernel) (by decide) rfl
theorem xs_63_16 : xe_P d 63 16 ls (.int v :: .int x :: st) h Q = (if v ≤ x then xe_P d 63 23 ls st h Q else xe_P d 63 19 ls st h Q) := xe_P_if (ins := .if_icmp .ge 7) (len := 3) (off := 7) (by decide +kernel) (by decide) rfl rfl rfl
theorem xs_63_19 : xe_P d 63 19 ls st h Q = xe_P d 63 20 ls (.int 1 :: st) h Q := xe_P_ar (ins := .iconst 1) (len := 1) (by decide +kernel) rfl
theorem xs_63_20 : xe_P d 63 20 ls st h Q = xe_P d 63 24 ls st h Q := xe_P_go (len := 3) (off := 4) (by decide +kernel) (by decide)
theorem xs_63_23 : xe_P d 63 23 ls st h Q = xe_P d 63 24 ls (.int 0 :: st) h Q := xe_P_ar (ins := .iconst 0) (len := 1) (by decide +kernel) rfl
theorem xs_63_24 : xe_P d 63 24 ls [.int x] h Q = ((x = 0 ∨ x = 1) ∧ Q (some (.int x)) h) := xe_P_zreturn (by decide +kernel) rfl
theorem xs_63 : xe_C (d + 1) 63 [.ref a, .int x0, .int x1] h Q = xe_P d 63 0 [.ref a, .int x0, .int x1] [] h Q := xe_C_at (Nat.le_of_ble_eq_true rfl) rfl
theorem xs_64_0 : xe_P d 64 0 ls st h Q = xe_P d 64 1 ls (.int 1 :: st) h Q := xe_P_ar (ins := .iconst 1) (len := 1) (by decide +kernel) rfl
theorem xs_64_1 : xe_P d 64 1 [l0, l1, l2, l3, l4] (.int x :: st) h Q = xe_P d 64 2 [l0, xe_cut l1, .int x, l3, l4] st h Q := xe_P_lo (ins := .istore_n 2) (len := 1) (by decide +kernel) rfl rfl
theorem xs_64_2 : xe_P d 64 2 ls st h Q = xe_P d 64 3 ls (.int 0 :: st) h Q := xe_P_ar (ins := .iconst 0) (len := 1) (by decide +kernel) rfl
theorem xs_64_3 : xe_P d 64 3 [l0, l1, l2, l3, l4] (.int x :: st) h Q = xe_P d 64 4 [l0, l1, xe_cut l2, .int x, l4] st h Q := xe_P_lo (ins := .istore_n 3) (len := 1) (by decide +kernel) rfl rfl
theorem xs_64_4 : xe_P d 64 4 ls st h Q = xe_P d 64 5 ls (.int 0 :: st) h Q := xe_P_ar (ins := .iconst 0) (len := 1) (by decide +kernel) rfl
theorem xs_64_5 : xe_P d 64 5 [l0, l1, l2, l3, l4] (.int x :: st) h Q = xe_P d 64 7 [l0, l1, l2, xe_cut l3, .int x] st h Q := xe_P_lo (ins := .istore 4) (len := 2) (by decide +kernel) rfl rfl
theorem xs_64_7 : xe_P d 64 7 [l0, l1, l2, l3, .int x] st h Q = xe_P d 64 9 [l0, l1, l2, l3, .int x] (.int x :: st) h Q := xe_P_lo (ins := .iload 4) (len := 2) (by decide +kernel) rfl rfl
theorem xs_64_9 : xe_P d 64 9 [.ref a, l1, l2, l3, l4] st h Q = xe_P d 64 10 [.ref a, l1, l2, l3, l4] (.ref a :: st) h Q := xe_P_lo (ins := .aload_n 0) (len := 1) (by decide +kernel) rfl rfl
theorem xs_64_10 : xe_P d 64 10 ls (.ref a :: st) h Q = (xe_ob h a 4 ∧ xe_P d 64 13 ls (.int (xe_I h a 9) :: st) h Q) := xe_P_getI (i := 43) (by decide +kernel) (by decide +kernel) (by decide) rfl
theorem xs_64_13 : xe_P d 64 13 ls (.int v :: .int x :: st) h Q = (if v ≤ x then xe_P d 64 125 ls st h Q else xe_P d 64 16 ls st h Q) := xe_P_if (ins := .if_icmp .ge 112) (len := 3) (off := 112) (by decide +kernel) (by decide) rfl rfl rfl
theorem xs_64_16 : xe_P d 64 16 ls st h Q = xe_P d 64 18 ls (.int 7 :: st) h Q := xe_P_ar (ins := .bipush 7) (len := 2) (by decide +kernel) rfl
theorem xs_64_18 : xe_P d 64 18 [l0, l1, l2, .int x, l4] st h Q = xe_P d 64 19 [l0, l1, l2, .int x, l4] (.int x :: st) h Q := xe_P_lo (ins := .iload_n 3) (len := 1) (by decide +kernel) rfl rfl
theorem xs_64_19 : xe_P d 64 19 ls (.int v :: .int x :: st) h Q = xe_P d 64 20 ls (.int (x * v) :: st) h Q := xe_P_ar (ins := .imul) (len := 1) (by decide +kernel) rfl
theorem xs_64_20 : xe_P d 64 20 [.ref a, l1, l2, l3, l4] st h Q = xe_P d 64 21 [.ref a, l1, l2, l3, l4] (.ref a :: st) h Q := xe_P_lo (ins := .aload_n 0) (len := 1) (by decide +kernel) rfl rfl
theorem xs_64_21 : xe_P d 64 21 ls (.ref a :: st) h Q = (xe_ob h a 4 ∧ xe_P d 64 24 ls (va_rf (xe_R h a 6) :: st) h Q) := xe_P_getR (i := 25) (by decide +kernel) (by decide +kernel) (by decide) rfl
theorem xs_64_24 : xe_P d 64 24 [l0, l1, l2, l3, .int x] st h Q = xe_P d 64 26 [l0, l1, l2, l3, .int x] (.int x :: st) h Q := xe_P_lo (ins := .iload 4) (len := 2) (by decide +kernel) rfl rfl
theorem xs_64_26 : xe_P d 64 26 ls (.int v :: .ref a :: st) h Q = ((xe_ia h a ∧ xe_ix h a v) ∧ xe_P d 64 27 ls (.int (xe_I h a v.toNatClampNeg) :: st) h Q) := xe_P_iald (by decide +kernel)
theorem xs_64_27 : xe_P d 64 27 ls st h Q = xe_P d 64 29 ls (.int 7 :: st) h Q := xe_P_ar (ins := .bipush 7) (len := 2) (by decide +kernel) rfl
theorem xs_64_29 : xe_P d 64 29 ls (.int v :: .int x :: st) h Q = (if x = v then xe_P d 64 32 ls st h Q else xe_P d 64 41 ls st h Q) := xe_P_ifn (ins := .if_icmp .ne 12) (len := 3) (off := 12) (by decide +kernel) (by decide) rfl rfl rfl
theorem xs_64_32 : xe_P d 64 32 [.ref a, l1, l2, l3, l4] st h Q = xe_P d 64 33 [.ref a, l1, l2, l3, l4] (.ref a :: st) h Q := xe_P_lo (ins := .aload_n 0) (len := 1) (by decide +kernel) rfl rfl
theorem xs_64_33 : xe_P d 64 33 [l0, l1, l2, l3, .int x] st h Q = xe_P d 64 35 [l0, l1, l2, l3, .int x] (.int x :: st) h Q := xe_P_lo (ins := .iload 4) (len := 2) (by decide +kernel) rfl rfl
theorem xs_64_35 : xe_P d 64 35 ls (v0 :: .ref a :: st) h Q = ((xe_w st ≤ 8 ∧ xe_ob h a 4) ∧ xe_C d 65 [.ref a, v0] h (fun r h' => xe_P d 64 38 ls (r.toList ++ st) h' Q)) := xe_P_ivv (y := 64) (pc := 35) (z := 65) (i := 91) (vs := [v0]) (by decide +kernel) (by decide +kernel) rfl (by decide +kernel)
theorem xs_64_38 : xe_P d 64 38 ls st h Q = xe_P d 64 48 ls st h Q := xe_P_go (len := 3) (off := 10) (by decide +kernel) (by decide)
theorem xs_64_41 : xe_P d 64 41 [.ref a, l1, l2, l3, l4] st h Q = xe_P d 64 42 [.ref a, l1, l2, l3, l4] (.ref a :: st) h Q := xe_P_lo (ins := .aload_n 0) (len := 1) (by decide +kernel) rfl rfl
theorem xs_64_42 : xe_P d 64 42 ls (.ref a :: st) h Q = (xe_ob h a 4 ∧ xe_P d 64 45 ls (va_rf (xe_R h a 6) :: st) h Q) := xe_P_getR (i := 25) (by decide +kernel) (by decide +kernel) (by decide) rfl
theorem xs_64_45 : xe_P d 64 45 [l0, l1, l2, l3, .int x] st h Q = xe_P d 64 47 [l0, l1, l2, l3, .int x] (.int x :: st) h Q := xe_P_lo (ins := .iload 4) (len := 2) (by decide +kernel) rfl rfl
theorem xs_64_47 : xe_P d 64 47 ls (.int v :: .ref a :: st) h Q = ((xe_ia h a ∧ xe_ix h a v) ∧ xe_P d 64 48 ls (.int (xe_I h a v.toNatClampNeg) :: st) h Q) := xe_P_iald (by decide +kernel)
theorem xs_64_48 : xe_P d 64 48 ls (.int v :: .int x :: st) h Q = xe_P d 64 49 ls (.int (x + v) :: st) h Q := xe_P_ar (ins := .iadd) (len := 1) (by decide +kernel) rfl
theorem xs_64_49 : xe_P d 64 49 [l0, l1, l2, l3, l4] (.int x :: st) h Q = xe_P d 64 50 [l0, l1, xe_cut l2, .int x, l4] st h Q := xe_P_lo (ins := .istore_n 3) (len := 1) (by decide +kernel) rfl rfl
theorem xs_64_50 : xe_P d 64 50 [.ref a, l1, l2, l3, l4] st h Q = xe_P d 64 51 [.ref a, l1, l2, l3, l4] (.ref a :: st) h Q := xe_P_lo (ins := .aload_n 0) (len := 1) (by decide +kernel) rfl rfl
theorem xs_64_51 : xe_P d 64 51 ls (.ref a :: st) h Q = (xe_ob h a 4 ∧ xe_P d 64 54 ls (va_rf (xe_R h a 6) :: st) h Q) := xe_P_getR (i := 25) (by decide +kernel) (by decide +kernel) (by decide) rfl
theorem xs_64_54 : xe_P d 64 54 [l0, l1, l2, l3, .int x] st h Q = xe_P d 64 56 [l0, l1, l2, l3, .int x] (.int x :: st) h Q := xe_P_lo (ins := .iload 4) (len := 2) (by decide +kernel) rfl rfl
theorem xs_64_56 : xe_P d 64 56 ls (.int v :: .ref a :: st) h Q = ((xe_ia h a ∧ xe_ix h a v) ∧ xe_P d 64 57 ls (.int (xe_I h a v.toNatClampNeg) :: st) h Q) := xe_P_iald (by decide +kernel)
theorem xs_64_57 : xe_P d 64 57 ls st h Q = xe_P d 64 59 ls (.int 7 :: st) h Q := xe_P_ar (ins := .bipush 7) (len := 2) (by decide +kernel) rfl
theorem xs_64_59 : xe_P d 64 59 ls (.int v :: .int x :: st) h Q = (if x = v then xe_P d 64 62 ls st h Q else xe_P d 64 100 ls st h Q) := xe_P_ifn (ins := .if_icmp .ne 41) (len := 3) (off := 41) (by decide +kernel) (by decide) rfl rfl rfl
theorem xs_64_62 : xe_P d 64 62 [l0, l1, .int x, l3, l4] st h Q = xe_P d 64 63 [l0, l1, .int x, l3, l4] (.int x :: st) h Q := xe_P_lo (ins := .iload_n 2) (len := 1) (by decide +kernel) rfl rfl
theorem xs_64_63 : xe_P d 64 63 [.ref a, l1, l2, l3, l4] st h Q = xe_P d 64 64 [.ref a, l1, l2, l3, l4] (.ref a :: st) h Q := xe_P_lo (ins := .aload_n 0) (len := 1) (by decide +kernel) rfl rfl
theorem xs_64_64 : xe_P d 64 64 ls (.ref a :: st) h Q = (xe_ob h a 4 ∧ xe_P d 64 67 ls (.int (xe_I h a 9) :: st) h Q) := xe_P_getI (i := 43) (by decide +kernel) (by decide +kernel) (by decide) rfl
theorem xs_64_67 : xe_P d 64 67 ls (.int v :: .int x :: st) h Q = xe_P d 64 68 ls (.int (x * v) :: st) h Q := xe_P_ar (ins := .imul) (len := 1) (by decide +kernel) rfl
theorem xs_64_68 : xe_P d 64 68 [l0, l1, l2, l3, l4] (.int x :: st) h Q = xe_P d 64 69 [l0, xe_cut l1, .int x, l3, l4] st h Q := xe_P_lo (ins := .istore_n 2) (len := 1) (by decide +kernel) rfl rfl
theorem xs_64_69 : xe_P d 64 69 [.ref a, l1, l2, l3, l4] st h Q = xe_P d 64 70 [.ref a, l1, l2, l3, l4] (.ref a :: st) h Q := xe_P_lo (ins := .aload_n 0) (len := 1) (by decide +kernel) rfl rfl
theorem xs_64_70 : xe_P d 64 70 ls (.ref a :: st) h Q = (xe_ob h a 4 ∧ xe_P d 64 73 ls (va_rf (xe_R h a 2) :: st) h Q) := xe_P_getR (i := 9) (by decide +kernel) (by decide +kernel) (by decide) rfl
theorem xs_64_73 : xe_P d 64 73 [l0, l1, l2, l3, .int x] st h Q = xe_P d 64 75 [l0, l1, l2, l3, .int x] (.int x :: st) h Q := xe_P_lo (ins := .iload 4) (len := 2) (by decide +kernel) rfl rfl
theorem xs_64_75 : xe_P d 64 75 ls (.int v :: .ref a :: st) h Q = xe_P d 64 76 ls (.int v :: .ref a :: .int v :: .ref a :: st) h Q := xe_P_ar (ins := .dup2) (len := 1) (by decide +kernel) rfl
theorem xs_64_76 : xe_P d 64 76 ls (.int v :: .ref a :: st) h Q = ((xe_ia h a ∧ xe_ix h a v) ∧ xe_P d 64 77 ls (.int (xe_I h a v.toNatClampNeg) :: st) h Q) := xe_P_iald (by decide +kernel)
theorem xs_64_77 : xe_P d 64 77 ls st h Q = xe_P d 64 78 ls (.int 1 :: st) h Q := xe_P_ar (ins := .iconst 1) (len := 1) (by decide +kernel) rfl
theorem xs_64_78 : xe_P d 64 78 [.ref a, l1, l2, l3, l4] st h Q = xe_P d 64 79 [.ref a, l1, l2, l3, l4] (.ref a :: st) h Q := xe_P_lo (ins := .aload_n 0) (len := 1) (by decide +kernel) rfl rfl
theorem xs_64_79 : xe_P d 64 79 ls (.ref a :: st) h Q = (xe_ob h a 4 ∧ xe_P d 64 82 ls (.int (xe_I h a 9) :: st) h Q) := xe_P_getI (i := 43) (by decide +kernel) (by decide +kernel) (by decide) rfl
theorem xs_64_82 : xe_P d 64 82 ls (.int v :: .int x :: st) h Q = xe_P d 64 83 ls (.int (x <<< (v &&& 31)) :: st) h Q := xe_P_ar (ins := .ishl) (len := 1) (by decide +kernel) rfl
theorem xs_64_83 : xe_P d 64 83 ls st h Q = xe_P d 64 84 ls (.int 1 :: st) h Q := xe_P_ar (ins := .iconst 1) (len := 1) (by decide +kernel) rfl
theorem xs_64_84 : xe_P d 64 84 ls (.int v :: .int x :: st) h Q = xe_P d 64 85 ls (.int (x - v) :: st) h Q := xe_P_ar (ins := .isub) (len := 1) (by decide +kernel) rfl
theorem xs_64_85 : xe_P d 64 85 ls st h Q = xe_P d 64 86 ls (.int 1 :: st) h Q := xe_P_ar (ins := .iconst 1) (len := 1) (by decide +kernel) rfl
theorem xs_64_86 : xe_P d 64 86 [l0, l1, l2, l3, .int x] st h Q = xe_P d 64 88 [l0, l1, l2, l3, .int x] (.int x :: st) h Q := xe_P_lo (ins := .iload 4) (len := 2) (by decide +kernel) rfl rfl
theorem xs_64_88 : xe_P d 64 88 ls (.int v :: .int x :: st) h Q = xe_P d 64 89 ls (.int (x <<< (v &&& 31)) :: st) h Q := xe_P_ar (ins := .ishl) (len := 1) (by decide +kernel) rfl
theorem xs_64_89 : xe_P d 64 89 ls st h Q = xe_P d 64 90 ls (.int (-1) :: st) h Q := xe_P_ar (ins := .iconst (-1)) (len := 1) (by decide +kernel) rfl
theorem xs_64_90 : xe_P d 64 90 ls (.int v :: .int x :: st) h Q = xe_P d 64 91 ls (.int (x ^^^ v) :: st) h Q := xe_P_ar (ins := .ixor) (len := 1) (by decide +kernel) rfl
theorem xs_64_91 : xe_P d 64 91 ls (.int v :: .int x :: st) h Q = xe_P d 64 92 ls (.int (x &&& v) :: st) h Q := xe_P_ar (ins := .iand) (len := 1) (by decide +kernel) rfl
theorem xs_64_92 : xe_P d 64 92 ls st h Q = xe_P d 64 94 ls (.int 64 :: st) h Q := xe_P_ar (ins := .bipush 64) (len := 2) (by decide +kernel) rfl
theorem xs_64_94 : xe_P d 64 94 ls (.int v :: .int x :: st) h Q = xe_P d 64 95 ls (.int (x ||| v) :: st) h Q := xe_P_ar (ins := .ior) (len := 1) (by decide +kernel) rfl
theorem xs_64_95 : xe_P d 64 95 ls (.int v :: .int x :: st) h Q = xe_P d 64 96 ls (.int (x ||| v) :: st) h Q := xe_P_ar (ins := .ior) (len := 1) (by decide +kernel) rfl
theorem xs_64_96 : xe_P d 64 96 ls (.int x :: .int v :: .ref a :: st) h Q = ((xe_ob h a 8 ∧ xe_ix h a v) ∧ xe_P d 64 97 ls st (xe_sI h a v.toNatClampNeg x) Q) := xe_P_iast (by decide +kernel)
theorem xs_64_97 : xe_P d 64 97 ls st h Q = xe_P d 64 119 ls st h Q := xe_P_go (len := 3) (off := 22) (by decide +kernel) (by decide)
theorem xs_64_100 : xe_P d 64 100 [.ref a, l1, l2, l3, l4] st h Q = xe_P d 64 101 [.ref a, l1, l2, l3, l4] (.ref a :: st) h Q := xe_P_lo (ins := .aload_n 0) (len := 1) (by decide +kernel) rfl rfl
theorem xs_64_101 : xe_P d 64 101 ls (.ref a :: st) h Q = (xe_ob h a 4 ∧ xe_P d 64 104 ls (va_rf (xe_R h a 2) :: st) h Q) := xe_P_getR (i := 9) (by decide +kernel) (by decide +kernel) (by decide) rfl
theorem xs_64_104 : xe_P d 64 104 [l0, l1, l2, l3, .int x] st h Q = xe_P d 64 106 [l0, l1, l2, l3, .int x] (.int x :: st) h Q := xe_P_lo (ins := .iload 4) (len := 2) (by decide +kernel) rfl rfl
theorem xs_64_106 : xe_P d 64 106 ls (.int v :: .ref a :: st) h Q = xe_P d 64 107 ls (.int v :: .ref a :: .int v :: .ref a :: st) h Q := xe_P_ar (ins := .dup2) (len := 1) (by decide +kernel) rfl
theorem xs_64_107 : xe_P d 64 107 ls (.int v :: .ref a :: st) h Q = ((xe_ia h a ∧ xe_ix h a v) ∧ xe_P d 64 108 ls (.int (xe_I h a v.toNatClampNeg) :: st) h Q) := xe_P_iald (by decide +kernel)
theorem xs_64_108 : xe_P d 64 108 ls st h Q = xe_P d 64 109 ls (.int 1 :: st) h Q := xe_P_ar (ins := .iconst 1) (len := 1) (by decide +kernel) rfl
theorem xs_64_109 : xe_P d 64 109 [.ref a, l1, l2, l3, l4] st h Q = xe_P d 64 110 [.ref a, l1, l2, l3, l4] (.ref a :: st) h Q := xe_P_lo (ins := .aload_n 0) (len := 1) (by decide +kernel) rfl rfl
theorem xs_64_110 : xe_P d 64 110 ls (.ref a :: st) h Q = (xe_ob h a 4 ∧ xe_P d 64 113 ls (va_rf (xe_R h a 6) :: st) h Q) := xe_P_getR (i := 25) (by decide +kernel) (by decide +kernel) (by decide) rfl
theorem xs_64_113 : xe_P d 64 113 [l0, l1, l2, l3, .int x] st h Q = xe_P d 64 115 [l0, l1, l2, l3, .int x] (.int x :: st) h Q := xe_P_lo (ins := .iload 4) (len := 2) (by decide +kernel) rfl rfl
theorem xs_64_115 : xe_P d 64 115 ls (.int v :: .ref a :: st) h Q = ((xe_ia h a ∧ xe_ix h a v) ∧ xe_P d 64 116 ls (.int (xe_I h a v.toNatClampNeg) :: st) h Q) := xe_P_iald (by decide +kernel)
theorem xs_64_116 : xe_P d 64 116 ls (.int v :: .int x :: st) h Q = xe_P d 64 117 ls (.int (x <<< (v &&& 31)) :: st) h Q := xe_P_ar (ins := .ishl) (len := 1) (by decide +kernel) rfl
theorem xs_64_117 : xe_P d 64 117 ls (.int v :: .int x :: st) h Q = xe_P d 64 118 ls (.int (x ||| v) :: st) h Q := xe_P_ar (ins := .ior) (len := 1) (by decide +kernel) rfl
theorem xs_64_118 : xe_P d 64 118 ls (.int x :: .int v :: .ref a :: st) h Q = ((xe_ob h a 8 ∧ xe_ix h a v) ∧ xe_P d 64 119 ls st (xe_sI h a v.toNatClampNeg x) Q) := xe_P_iast (by decide +kernel)
theorem xs_64_119 : xe_P d 64 119 [l0, l1, l2, l3, .int x] st h Q = xe_P d 64 122 [l0, l1, l2, xe_cut l3, .int (x + 1)] st h Q := xe_P_lo (ins := .iinc 4 1) (len := 3) (by decide +kernel) rfl rfl
theorem xs_64_122 : xe_P d 64 122 ls st h Q = xe_P d 64 7 ls st h Q := xe_P_go (len := 3) (off := (-115)) (by decide +kernel) (by decide)
theorem xs_64_125 : xe_P d 64 125 [.ref a, l1, l2, l3, l4] st h Q = xe_P d 64 126 [.ref a, l1, l2, l3, l4] (.ref a :: st) h Q := xe_P_lo (ins := .aload_n 0) (len := 1) (by decide +kernel) rfl rfl
theorem xs_64_126 : xe_P d 64 126 ls (.ref a :: st) h Q = xe_P d 64 127 ls (.ref a :: .ref a :: st) h Q := xe_P_ar (ins := .dup) (len := 1) (by decide +kernel) rfl
theorem xs_64_126i : xe_P d 64 126 ls (.int x :: st) h Q = xe_P d 64 127 ls (.int x :: .int x :: st) h Q := xe_P_ar (ins := .dup) (len := 1) (by decide +kernel) rfl
theorem xs_64_127 : xe_P d 64 127 ls (.ref a :: st) h Q = (xe_ob h a 4 ∧ xe_P d 64 130 ls (.int (xe_I h a 1) :: st) h Q) := xe_P_getI (i := 52) (by decide +kernel) (by decide +kernel) (by decide) rfl
theorem xs_64_130 : xe_P d 64 130 [l0, l1, .int x, l3, l4] st h Q = xe_P d 64 131 [l0, l1, .int x, l3, l4] (.int x :: st) h Q := xe_P_lo (ins := .iload_n 2) (len := 1) (by decide +kernel) rfl rfl
theorem xs_64_131 : xe_P d 64 131 ls (.int v :: .int x :: st) h Q = xe_P d 64 132 ls (.int (x + v) :: st) h Q := xe_P_ar (ins := .iadd) (len := 1) (by decide +kernel) rfl
theorem xs_64_132 : xe_P d 64 132 ls (.int v :: .ref a :: st) h Q = (xe_ob h a 4 ∧ xe_P d 64 135 ls st (xe_sI h a 1 v) Q) := xe_P_putI (i := 52) (by decide +kernel) (by decide +kernel) (by decide) (by decide +kernel) rfl
theorem xs_64_135 : xe_P d 64 135 [.ref a, l1, l2, l3, l4] st h Q = xe_P d 64 136 [.ref a, l1, l2, l3, l4] (.ref a :: st) h Q := xe_P_lo (ins := .aload_n 0) (len := 1) (by decide +kernel) rfl rfl
theorem xs_64_136 : xe_P d 64 136 [.ref a, l1, l2, l3, l4] st h Q = xe_P d 64 137 [.ref a, l1, l2, l3, l4] (.ref a :: st) h Q := xe_P_lo (ins := .aload_n 0) (len := 1) (by decide +kernel) rfl rfl
theorem xs_64_137 : xe_P d 64 137 ls (.ref a :: st) h Q = (xe_ob h a 4 ∧ xe_P d 64 140 ls (.int (xe_I h a 12) :: st) h Q) := xe_P_getI (i := 56) (by decide +kernel) (by decide +kernel) (by decide) rfl
theorem xs_64_140 : xe_P d 64 140 [l0, l1, l2, .int x, l4] st h Q = xe_P d 64 141 [l0, l1, l2, .int x, l4] (.int x :: st) h Q := xe_P_lo (ins := .iload_n 3) (len := 1) (by decide +kernel) rfl rfl
theorem xs_64_141 : xe_P d 64 141 ls (.int v :: .int x :: st) h Q = (xe_w st ≤ 8 ∧ xe_P d 64 144 ls (.int (if v < x then v else x) :: st) h Q) := xe_P_min (i := 94) (by decide +kernel) (by decide +kernel)
theorem xs_64_144 : xe_P d 64 144 ls (.int v :: .ref a :: st) h Q = (xe_ob h a 4 ∧ xe_P d 64 147 ls st (xe_sI h a 12 v) Q) := xe_P_putI (i := 56) (by decide +kernel) (by decide +kernel) (by decide) (by decide +kernel) rfl
theorem xs_64_147 : xe_P d 64 147 [.ref a, l1, l2, l3, l4] st h Q = xe_P d 64 148 [.ref a, l1, l2, l3, l4] (.ref a :: st) h Q := xe_P_lo (ins := .aload_n 0) (len := 1) (by decide +kernel) rfl rfl
theorem xs_64_148 : xe_P d 64 148 ls (.ref a :: st) h Q = (xe_ob h a 4 ∧ xe_P d 64 151 ls (.int (xe_I h a 11) :: st) h Q) := xe_P_getI (i := 48) (by decide +kernel) (by decide +kernel) (by decide) rfl
theorem xs_64_151 : xe_P d 64 151 ls (.int x :: st) h Q = (if x = 0 then xe_P d 64 160 ls st h Q else xe_P d 64 154 ls st h Q) := xe_P_if (ins := .ifCond .eq 9) (len := 3) (off := 9) (by decide +kernel) (by decide) rfl rfl rfl
theorem xs_64_154 : xe_P d 64 154 [.ref a, l1, l2, l3, l4] st h Q = xe_P d 64 155 [.ref a, l1, l2, l3, l4] (.ref a :: st) h Q := xe_P_lo (ins := .aload_n 0) (len := 1) (by decide +kernel) rfl rfl
theorem xs_64_155 : xe_P d 64 155 [l0, .int x, l2, l3, l4] st h Q = xe_P d 64 156 [l0, .int x, l2, l3, l4] (.int x :: st) h Q := xe_P_lo (ins := .iload_n 1) (len := 1) (by decide +kernel) rfl rfl
theorem xs_64_156 : xe_P d 64 156 [l0, l1, .int x, l3, l4] st h Q = xe_P d 64 157 [l0, l1, .int x, l3, l4] (.int x :: st) h Q := xe_P_lo (ins := .iload_n 2) (len := 1) (by decide +kernel) rfl rfl
theorem xs_64_157 : xe_P d 64 157 ls (v1 :: v0 :: .ref a :: st) h Q = ((xe_w st ≤ 8 ∧ xe_ob h a 4) ∧ xe_C d 67 [.ref a, v0, v1] h (fun r h' => xe_P d 64 160 ls (r.toList ++ st) h' Q)) := xe_P_ivv (y := 64) (pc := 157) (z := 67) (i := 100) (vs := [v1, v0]) (by decide +kernel) (by decide +kernel) rfl (by decide +kernel)
theorem xs_64_160 : xe_P d 64 160 ls [] h Q = Q none h := xe_P_vreturn (by decide +kernel) rfl
theorem xs_64 : xe_C (d + 1) 64 [.ref a, .int x0] h Q = xe_P d 64 0 [.ref a, .int x0, .retAddr 0, .retAddr 0, .retAddr 0] [] h Q := xe_C_at (Nat.le_of_ble_eq_true rfl) rfl
theorem xs_65_0 : xe_P d 65 0 [l0, .int x] st h Q = xe_P d 65 1 [l0, .int x] (.int x :: st) h Q := xe_P_lo (ins := .iload_n 1) (len := 1) (by decide +kernel) rfl rfl
theorem xs_65_1 : xe_P d 65 1 ls (.int x :: st) h Q = (if x ≤ 0 then xe_P d 65 6 ls st h Q else xe_P d 65 4 ls st h Q) := xe_P_if (ins := .ifCond .le 5) (len := 3) (off := 5) (by decide +kernel) (by decide) rfl rfl rfl
theorem xs_65_4 : xe_P d 65 4 ls st h Q = xe_P d 65 5 ls (.int 0 :: st) h Q := xe_P_ar (ins := .iconst 0) (len := 1) (by decide +kernel) rfl
theorem xs_65_5 : xe_P d 65 5 ls [.int x] h Q = Q (some (.int x)) h := xe_P_ireturn (by decide +kernel) rfl
theorem xs_65_6 : xe_P d 65 6 [.ref a, l1] st h Q = xe_P d 65 7 [.ref a, l1] (.ref a :: st) h Q := xe_P_lo (ins := .aload_n 0) (len := 1) (by decide +kernel) rfl rfl
theorem xs_65_7 : xe_P d 65 7 ls (.ref a :: st) h Q = (xe_ob h a 4 ∧ xe_P d 65 10 ls (.int (xe_I h a 9) :: st) h Q) := xe_P_getI (i := 43) (by decide +kernel) (by decide +kernel) (by decide) rfl
theorem xs_65_10 : xe_P d 65 10 ls st h Q = xe_P d 65 11 ls (.int 1 :: st) h Q := xe_P_ar (ins := .iconst 1) (len := 1) (by decide +kernel) rfl
theorem xs_65_11 : xe_P d 65 11 ls (.int v :: .int x :: st) h Q = (if x ≤ v then xe_P d 65 18 ls st h Q else xe_P d 65 14 ls st h Q) := xe_P_if (ins := .if_icmp .le 7) (len := 3) (off := 7) (by decide +kernel) (by decide) rfl rfl rfl
theorem xs_65_14 : xe_P d 65 14 ls st h Q = xe_P d 65 15 ls (.int 1 :: st) h Q := xe_P_ar (ins := .iconst 1) (len := 1) (by decide +kernel) rfl
theorem xs_65_15 : xe_P d 65 15 ls st h Q = xe_P d 65 20 ls st h Q := xe_P_go (len := 3) (off := 5) (by decide +kernel) (by decide)
theorem xs_65_18 : xe_P d 65 18 ls st h Q = xe_P d 65 20 ls (.int 6 :: st) h Q := xe_P_ar (ins := .bipush 6) (len := 2) (by decide +kernel) rfl
theorem xs_65_20 : xe_P d 65 20 ls [.int x] h Q = Q (some (.int x)) h := xe_P_ireturn (by decide +kernel) rfl
theorem xs_65 : xe_C (d + 1) 65 [.ref a, .int x0] h Q = xe_P d 65 0 [.ref a, .int x0] [] h Q := xe_C_at (Nat.le_of_ble_eq_true rfl) rfl
theorem xs_66_0 : xe_P d 66 0 [.ref a, l1, l2, l3] st h Q = xe_P d 66 1 [.ref a, l1, l2, l3] (.ref a :: st) h Q := xe_P_lo (ins := .aload_n 0) (len := 1) (by decide +kernel) rfl rfl
theorem xs_66_1 : xe_P d 66 1 ls (.ref a :: st) h Q = (xe_ob h a 4 ∧ xe_P d 66 4 ls (.int (xe_I h a 12) :: st) h Q) := xe_P_getI (i := 56) (by decide +kernel) (by decide +kernel) (by decide) rfl
theorem xs_66_4 : xe_P d 66 4 [l0, l1, l2, l3] (.int x :: st) h Q = xe_P d 66 5 [l0, xe_cut l1, .int x, l3] st h Q := xe_P_lo (ins := .istore_n 2) (len := 1) (by decide +kernel) rfl rfl
theorem xs_66_5 : xe_P d 66 5 [.ref a, l1, l2, l3] st h Q = xe_P d 66 6 [.ref a, l1, l2, l3] (.ref a :: st) h Q := xe_P_lo (ins := .aload_n 0) (len := 1) (by decide +kernel) rfl rfl
theorem xs_66_6 : xe_P d 66 6 ls (.ref a :: st) h Q = (xe_ob h a 4 ∧ xe_P d 66 9 ls (.int (xe_I h a 9) :: st) h Q) := xe_P_getI (i := 43) (by decide +kernel) (by decide +kernel) (by decide) rfl
theorem xs_66_9 : xe_P d 66 9 ls st h Q = xe_P d 66 10 ls (.int 1 :: st) h Q := xe_P_ar (ins := .iconst 1) (len := 1) (by decide +kernel) rfl
theorem xs_66_10 : xe_P d 66 10 ls (.int v :: .int x :: st) h Q = xe_P d 66 11 ls (.int (x - v) :: st) h Q := xe_P_ar (ins := .isub) (len := 1) (by decide +kernel) rfl
theorem xs_66_11 : xe_P d 66 11 [l0, l1, l2, l3] (.int x :: st) h Q = xe_P d 66 12 [l0, l1, xe_cut l2, .int x] st h Q := xe_P_lo (ins := .istore_n 3) (len := 1) (by decide +kernel) rfl rfl
theorem xs_66_12 : xe_P d 66 12 [l0, l1, l2, .int x] st h Q = xe_P d 66 13 [l0, l1, l2, .int x] (.int x :: st) h Q := xe_P_lo (ins := .iload_n 3) (len := 1) (by decide +kernel) rfl rfl
theorem xs_66_13 : xe_P d 66 13 [l0, .int x, l2, l3] st h Q = xe_P d 66 14 [l0, .int x, l2, l3] (.int x :: st) h Q := xe_P_lo (ins := .iload_n 1) (len := 1) (by decide +kernel) rfl rfl
theorem xs_66_14 : xe_P d 66 14 ls (.int v :: .int x :: st) h Q = (if x ≤ v then xe_P d 66 28 ls st h Q else xe_P d 66 17 ls st h Q) := xe_P_if (ins := .if_icmp .le 14) (len := 3) (off := 14) (by decide +kernel) (by decide) rfl rfl rfl
theorem xs_66_17 : xe_P d 66 17 [l0, l1, .int x, l3] st h Q = xe_P d 66 18 [l0, l1, .int x, l3] (.int x :: st) h Q := xe_P_lo (ins := .iload_n 2) (len := 1) (by decide +kernel) rfl rfl
theorem xs_66_18 : xe_P d 66 18 ls st h Q = xe_P d 66 20 ls (.int 7 :: st) h Q := xe_P_ar (ins := .bipush 7) (len := 2) (by decide +kernel) rfl
theorem xs_66_20 : xe_P d 66 20 ls (.int v :: .int x :: st) h Q = (¬ v = 0 ∧ xe_P d 66 21 ls (.int (x / v) :: st) h Q) := xe_P_div (by decide +kernel)
theorem xs_66_21 : xe_P d 66 21 [l0, l1, l2, l3] (.int x :: st) h Q = xe_P d 66 22 [l0, xe_cut l1, .int x, l3] st h Q := xe_P_lo (ins := .istore_n 2) (len := 1) (by decide +kernel) rfl rfl
theorem xs_66_22 : xe_P d 66 22 [l0, l1, l2, .int x] st h Q = xe_P d 66 25 [l0, l1, xe_cut l2, .int (x + (-1))] st h Q := (xe_P_lo (ls' := [l0, l1, xe_cut l2, .int (x + Int32.ofInt (-1))]) (st' := st) (ins := .iinc 3 (-1)) (len := 3) (by decide +kernel) rfl rfl).trans (by rw [show Int32.ofInt (-1) = ((-1) : Int32) by decide])
theorem xs_66_25 : xe_P d 66 25 ls st h Q = xe_P d 66 12 ls st h Q := xe_P_go (len := 3) (off := (-13)) (by decide +kernel) (by decide)
theorem xs_66_28 : xe_P d 66 28 [l0, l1, .int x, l3] st h Q = xe_P d 66 29 [l0, l1, .int x, l3] (.int x :: st) h Q := xe_P_lo (ins := .iload_n 2) (len := 1) (by decide +kernel) rfl rfl
theorem xs_66_29 : xe_P d 66 29 ls st h Q = xe_P d 66 31 ls (.int 7 :: st) h Q := xe_P_ar (ins := .bipush 7) (len := 2) (by decide +kernel) rfl
theorem xs_66_31 : xe_P d 66 31 ls (.int v :: .int x :: st) h Q = (¬ v = 0 ∧ xe_P d 66 32 ls (.int (x - x / v * v) :: st) h Q) := xe_P_rem (by decide +kernel)
theorem xs_66_32 : xe_P d 66 32 ls [.int x] h Q = Q (some (.int x)) h := xe_P_ireturn (by decide +kernel) rfl
theorem xs_66 : xe_C (d + 1) 66 [.ref a, .int x0] h Q = xe_P d 66 0 [.ref a, .int x0, .retAddr 0, .retAddr 0] [] h Q := xe_C_at (Nat.le_of_ble_eq_true rfl) rfl
theorem xs_67_0 : xe_P d 67 0 [.ref a, l1, l2, l3, l4] st h Q = xe_P d 67 1 [.ref a, l1, l2, l3, l4] (.ref a :: st) h Q := xe_P_lo (ins := .aload_n 0) (len := 1) (by decide +kernel) rfl rfl
theorem xs_67_1 : xe_P d 67 1 ls st h Q = xe_P d 67 3 ls (.int 6 :: st) h Q := xe_P_ar (ins := .bipush 6) (len := 2) (by decide +kernel) rfl
theorem xs_67_3 : xe_P d 67 3 [l0, .int x, l2, l3, l4] st h Q = xe_P d 67 4 [l0, .int x, l2, l3, l4] (.int x :: st) h Q := xe_P_lo (ins := .iload_n 1) (len := 1) (by decide +kernel) rfl rfl
theorem xs_67_4 : xe_P d 67 4 [l0, l1, .int x, l3, l4] st h Q = xe_P d 67 5 [l0, l1, .int x, l3, l4] (.int x :: st) h Q := xe_P_lo (ins := .iload_n 2) (len := 1) (by decide +kernel) rfl rfl
theorem xs_67_5 : xe_P d 67 5 ls (v2 :: v1 :: v0 :: .ref a :: st) h Q = ((xe_w st ≤ 8 ∧ xe_ob h a 4) ∧ xe_C d 68 [.ref a, v0, v1, v2] h (fun r h' => xe_P d 67 8 ls (r.toList ++ st) h' Q)) := xe_P_ivv (y := 67) (pc := 5) (z := 68) (i := 103) (vs := [v2, v1, v0]) (by decide +kernel) (by decide +kernel) rfl (by decide +kernel)
theorem xs_67_8 : xe_P d 67 8 ls st h Q = xe_P d 67 9 ls (.int 0 :: st) h Q := xe_P_ar (ins := .iconst 0) (len := 1) (by decide +kernel) rfl
theorem xs_67_9 : xe_P d 67 9 [l0, l1, l2, l3, l4] (.int x :: st) h Q = xe_P d 67 10 [l0, l1, xe_cut l2, .int x, l4] st h Q := xe_P_lo (ins := .istore_n 3) (len := 1) (by decide +kernel) rfl rfl
theorem xs_67_10 : xe_P d 67 10 [l0, l1, l2, .int x, l4] st h Q = xe_P d 67 11 [l0, l1, l2, .int x, l4] (.int x :: st) h Q := xe_P_lo (ins := .iload_n 3) (len := 1) (by decide +kernel) rfl rfl
theorem xs_67_11 : xe_P d 67 11 [.ref a, l1, l2, l3, l4] st h Q = xe_P d 67 12 [.ref a, l1, l2, l3, l4] (.ref a :: st) h Q := xe_P_lo (ins := .aload_n 0) (len := 1) (by decide +kernel) rfl rfl
theorem xs_67_12 : xe_P d 67 12 ls (.ref a :: st) h Q = (xe_ob h a 4 ∧ xe_P d 67 15 ls (.int (xe_I h a 9) :: st) h Q) := xe_P_getI (i := 43) (by decide +kernel) (by decide +kernel) (by decide) rfl
theorem xs_67_15 : xe_P d 67 15 ls (.int v :: .int x :: st) h Q = (if v ≤ x then xe_P d 67 116 ls st h Q else xe_P d 67 18 ls st h Q) := xe_P_if (ins := .if_icmp .ge 101) (len := 3) (off := 101) (by decide +kernel) (by decide) rfl rfl rfl
theorem xs_67_18 : xe_P d 67 18 [l0, .int x, l2, l3, l4] st h Q = xe_P d 67 19 [l0, .int x, l2, l3, l4] (.int x :: st) h Q := xe_P_lo (ins := .iload_n 1) (len := 1) (by decide +kernel) rfl rfl
theorem xs_67_19 : xe_P d 67 19 [l0, l1, l2, .int x, l4] st h Q = xe_P d 67 20 [l0, l1, l2, .int x, l4] (.int x :: st) h Q := xe_P_lo (ins := .iload_n 3) (len := 1) (by decide +kernel) rfl rfl
theorem xs_67_20 : xe_P d 67 20 ls (v1 :: v0 :: st) h Q = (xe_w st ≤ 8 ∧ xe_C d 45 [v0, v1] h (fun r h' => xe_P d 67 23 ls (r.toList ++ st) h' Q)) := xe_P_ivs (y := 67) (pc := 20) (z := 45) (i := 76) (vs := [v1, v0]) (by decide +kernel) (by decide +kernel) rfl
theorem xs_67_23 : xe_P d 67 23 ls (.int x :: st) h Q = (if x = 0 then xe_P d 67 26 ls st h Q else xe_P d 67 29 ls st h Q) := xe_P_ifn (ins := .ifCond .ne 6) (len := 3) (off := 6) (by decide +kernel) (by decide) rfl rfl rfl
theorem xs_67_26 : xe_P d 67 26 ls st h Q = xe_P d 67 110 ls st h Q := xe_P_go (len := 3) (off := 84) (by decide +kernel) (by decide)
theorem xs_67_29 : xe_P d 67 29 [.ref a, l1, l2, l3, l4] st h Q = xe_P d 67 30 [.ref a, l1, l2, l3, l4] (.ref a :: st) h Q := xe_P_lo (ins := .aload_n 0) (len := 1) (by decide +kernel) rfl rfl
theorem xs_67_30 : xe_P d 67 30 ls (.ref a :: st) h Q = (xe_ob h a 4 ∧ xe_P d 67 33 ls (va_rf (xe_R h a 6) :: st) h Q) := xe_P_getR (i := 25) (by decide +kernel) (by decide +kernel) (by decide) rfl
theorem xs_67_33 : xe_P d 67 33 [l0, l1, l2, .int x, l4] st h Q = xe_P d 67 34 [l0, l1, l2, .int x, l4] (.int x :: st) h Q := xe_P_lo (ins := .iload_n 3) (len := 1) (by decide +kernel) rfl rfl
theorem xs_67_34 : xe_P d 67 34 ls (.int v :: .ref a :: st) h Q = ((xe_ia h a ∧ xe_ix h a v) ∧ xe_P d 67 35 ls (.int (xe_I h a v.toNatClampNeg) :: st) h Q) := xe_P_iald (by decide +kernel)
theorem xs_67_35 : xe_P d 67 35 ls st h Q = xe_P d 67 37 ls (.int 7 :: st) h Q := xe_P_ar (ins := .bipush 7) (len := 2) (by decide +kernel) rfl
theorem xs_67_37 : xe_P d 67 37 ls (.int v :: .int x :: st) h Q = (if x = v then xe_P d 67 63 ls st h Q else xe_P d 67 40 ls st h Q) := xe_P_if (ins := .if_icmp .eq 26) (len := 3) (off := 26) (by decide +kernel) (by decide) rfl rfl rfl
theorem xs_67_40 : xe_P d 67 40 [.ref a, l1, l2, l3, l4] st h Q = xe_P d 67 41 [.ref a, l1, l2, l3, l4] (.ref a :: st) h Q := xe_P_lo (ins := .aload_n 0) (len := 1) (by decide +kernel) rfl rfl
theorem xs_67_41 : xe_P d 67 41 [l0, l1, l2, .int x, l4] st h Q = xe_P d 67 42 [l0, l1, l2, .int x, l4] (.int x :: st) h Q := xe_P_lo (ins := .iload_n 3) (len := 1) (by decide +kernel) rfl rfl
theorem xs_67_42 : xe_P d 67 42 [l0, .int x, l2, l3, l4] st h Q = xe_P d 67 43 [l0, .int x, l2, l3, l4] (.int x :: st) h Q := xe_P_lo (ins := .iload_n 1) (len := 1) (by decide +kernel) rfl rfl
theorem xs_67_43 : xe_P d 67 43 [.ref a, l1, l2, l3, l4] st h Q = xe_P d 67 44 [.ref a, l1, l2, l3, l4] (.ref a :: st) h Q := xe_P_lo (ins := .aload_n 0) (len := 1) (by decide +kernel) rfl rfl
theorem xs_67_44 : xe_P d 67 44 ls (.ref a :: st) h Q = (xe_ob h a 4 ∧ xe_P d 67 47 ls (va_rf (xe_R h a 6) :: st) h Q) := xe_P_getR (i := 25) (by decide +kernel) (by decide +kernel) (by decide) rfl
theorem xs_67_47 : xe_P d 67 47 [l0, l1, l2, .int x, l4] st h Q = xe_P d 67 48 [l0, l1, l2, .int x, l4] (.int x :: st) h Q := xe_P_lo (ins := .iload_n 3) (len := 1) (by decide +kernel) rfl rfl
theorem xs_67_48 : xe_P d 67 48 ls (.int v :: .ref a :: st) h Q = ((xe_ia h a ∧ xe_ix h a v) ∧ xe_P d 67 49 ls (.int (xe_I h a v.toNatClampNeg) :: st) h Q) := xe_P_iald (by decide +kernel)
theorem xs_67_49 : xe_P d 67 49 [.ref a, l1, l2, l3, l4] st h Q = xe_P d 67 50 [.ref a, l1, l2, l3, l4] (.ref a :: st) h Q := xe_P_lo (ins := .aload_n 0) (len := 1) (by decide +kernel) rfl rfl
theorem xs_67_50 : xe_P d 67 50 ls (.ref a :: st) h Q = (xe_ob h a 4 ∧ xe_P d 67 53 ls (.int (xe_I h a 10) :: st) h Q) := xe_P_getI (i := 47) (by decide +kernel) (by decide +kernel) (by decide) rfl
theorem xs_67_53 : xe_P d 67 53 ls (v2 :: v1 :: v0 :: st) h Q = (xe_w st ≤ 8 ∧ xe_C d 47 [v0, v1, v2] h (fun r h' => xe_P d 67 56 ls (r.toList ++ st) h' Q)) := xe_P_ivs (y := 67) (pc := 53) (z := 47) (i := 80) (vs := [v2, v1, v0]) (by decide +kernel) (by decide +kernel) rfl
theorem xs_67_56 : xe_P d 67 56 [l0, l1, .int x, l3, l4] st h Q = xe_P d 67 57 [l0, l1, .int x, l3, l4] (.int x :: st) h Q := xe_P_lo (ins := .iload_n 2) (len := 1) (by decide +kernel) rfl rfl
theorem xs_67_57 : xe_P d 67 57 ls (v2 :: v1 :: v0 :: .ref a :: st) h Q = ((xe_w st ≤ 8 ∧ xe_ob h a 4) ∧ xe_C d 68 [.ref a, v0, v1, v2] h (fun r h' => xe_P d 67 60 ls (r.toList ++ st) h' Q)) := xe_P_ivv (y := 67) (pc := 57) (z := 68) (i := 103) (vs := [v2, v1, v0]) (by decide +kernel) (by decide +kernel) rfl (by decide +kernel)
theorem xs_67_60 : xe_P d 67 60 ls st h Q = xe_P d 67 110 ls st h Q := xe_P_go (len := 3) (off := 50) (by decide +kernel) (by decide)
theorem xs_67_63 : xe_P d 67 63 ls st h Q = xe_P d 67 64 ls (.int 0 :: st) h Q := xe_P_ar (ins := .iconst 0) (len := 1) (by decide +kernel) rfl
theorem xs_67_64 : xe_P d 67 64 [l0, l1, l2, l3, l4] (.int x :: st) h Q = xe_P d 67 66 [l0, l1, l2, xe_cut l3, .int x] st h Q := xe_P_lo (ins := .istore 4) (len := 2) (by decide +kernel) rfl rfl
theorem xs_67_66 : xe_P d 67 66 [l0, l1, l2, l3, .int x] st h Q = xe_P d 67 68 [l0, l1, l2, l3, .int x] (.int x :: st) h Q := xe_P_lo (ins := .iload 4) (len := 2) (by decide +kernel) rfl rfl
theorem xs_67_68 : xe_P d 67 68 ls st h Q = xe_P d 67 70 ls (.int 6 :: st) h Q := xe_P_ar (ins := .bipush 6) (len := 2) (by decide +kernel) rfl
theorem xs_67_70 : xe_P d 67 70 ls (.int v :: .int x :: st) h Q = (if v < x then xe_P d 67 110 ls st h Q else xe_P d 67 73 ls st h Q) := xe_P_if (ins := .if_icmp .gt 40) (len := 3) (off := 40) (by decide +kernel) (by decide) rfl rfl rfl
theorem xs_67_73 : xe_P d 67 73 [.ref a, l1, l2, l3, l4] st h Q = xe_P d 67 74 [.ref a, l1, l2, l3, l4] (.ref a :: st) h Q := xe_P_lo (ins := .aload_n 0) (len := 1) (by decide +kernel) rfl rfl
theorem xs_67_74 : xe_P d 67 74 [l0, l1, l2, .int x, l4] st h Q = xe_P d 67 75 [l0, l1, l2, .int x, l4] (.int x :: st) h Q := xe_P_lo (ins := .iload_n 3) (len := 1) (by decide +kernel) rfl rfl
theorem xs_67_75 : xe_P d 67 75 [l0, l1, l2, l3, .int x] st h Q = xe_P d 67 77 [l0, l1, l2, l3, .int x] (.int x :: st) h Q := xe_P_lo (ins := .iload 4) (len := 2) (by decide +kernel) rfl rfl
theorem xs_67_77 : xe_P d 67 77 ls (v1 :: v0 :: .ref a :: st) h Q = ((xe_w st ≤ 8 ∧ xe_ob h a 4) ∧ xe_C d 63 [.ref a, v0, v1] h (fun r h' => xe_P d 67 80 ls (r.toList ++ st) h' Q)) := xe_P_ivv (y := 67) (pc := 77) (z := 63) (i := 84) (vs := [v1, v0]) (by decide +kernel) (by decide +kernel) rfl (by decide +kernel)
theorem xs_67_80 : xe_P d 67 80 ls (.int x :: st) h Q = (if x = 0 then xe_P d 67 104 ls st h Q else xe_P d 67 83 ls st h Q) := xe_P_if (ins := .ifCond .eq 24) (len := 3) (off := 24) (by decide +kernel) (by decide) rfl rfl rfl
theorem xs_67_83 : xe_P d 67 83 [.ref a, l1, l2, l3, l4] st h Q = xe_P d 67 84 [.ref a, l1, l2, l3, l4] (.ref a :: st) h Q := xe_P_lo (ins := .aload_n 0) (len := 1) (by decide +kernel) rfl rfl
theorem xs_67_84 : xe_P d 67 84 [l0, l1, l2, .int x, l4] st h Q = xe_P d 67 85 [l0, l1, l2, .int x, l4] (.int x :: st) h Q := xe_P_lo (ins := .iload_n 3) (len := 1) (by decide +kernel) rfl rfl
theorem xs_67_85 : xe_P d 67 85 [l0, .int x, l2, l3, l4] st h Q = xe_P d 67 86 [l0, .int x, l2, l3, l4] (.int x :: st) h Q := xe_P_lo (ins := .iload_n 1) (len := 1) (by decide +kernel) rfl rfl
theorem xs_67_86 : xe_P d 67 86 [l0, l1, l2, l3, .int x] st h Q = xe_P d 67 88 [l0, l1, l2, l3, .int x] (.int x :: st) h Q := xe_P_lo (ins := .iload 4) (len := 2) (by decide +kernel) rfl rfl
theorem xs_67_88 : xe_P d 67 88 [.ref a, l1, l2, l3, l4] st h Q = xe_P d 67 89 [.ref a, l1, l2, l3, l4] (.ref a :: st) h Q := xe_P_lo (ins := .aload_n 0) (len := 1) (by decide +kernel) rfl rfl
theorem xs_67_89 : xe_P d 67 89 ls (.ref a :: st) h Q = (xe_ob h a 4 ∧ xe_P d 67 92 ls (.int (xe_I h a 10) :: st) h Q) := xe_P_getI (i := 47) (by decide +kernel) (by decide +kernel) (by decide) rfl
theorem xs_67_92 : xe_P d 67 92 ls (v2 :: v1 :: v0 :: st) h Q = (xe_w st ≤ 8 ∧ xe_C d 47 [v0, v1, v2] h (fun r h' => xe_P d 67 95 ls (r.toList ++ st) h' Q)) := xe_P_ivs (y := 67) (pc := 92) (z := 47) (i := 80) (vs := [v2, v1, v0]) (by decide +kernel) (by decide +kernel) rfl
theorem xs_67_95 : xe_P d 67 95 [l0, l1, .int x, l3, l4] st h Q = xe_P d 67 96 [l0, l1, .int x, l3, l4] (.int x :: st) h Q := xe_P_lo (ins := .iload_n 2) (len := 1) (by decide +kernel) rfl rfl
theorem xs_67_96 : xe_P d 67 96 [.ref a, l1, l2, l3, l4] st h Q = xe_P d 67 97 [.ref a, l1, l2, l3, l4] (.ref a :: st) h Q := xe_P_lo (ins := .aload_n 0) (len := 1) (by decide +kernel) rfl rfl
theorem xs_67_97 : xe_P d 67 97 ls (.ref a :: st) h Q = (xe_ob h a 4 ∧ xe_P d 67 100 ls (.int (xe_I h a 9) :: st) h Q) := xe_P_getI (i := 43) (by decide +kernel) (by decide +kernel) (by decide) rfl
theorem xs_67_100 : xe_P d 67 100 ls (.int v :: .int x :: st) h Q = (¬ v = 0 ∧ xe_P d 67 101 ls (.int (x / v) :: st) h Q) := xe_P_div (by decide +kernel)
theorem xs_67_101 : xe_P d 67 101 ls (v2 :: v1 :: v0 :: .ref a :: st) h Q = ((xe_w st ≤ 8 ∧ xe_ob h a 4) ∧ xe_C d 68 [.ref a, v0, v1, v2] h (fun r h' => xe_P d 67 104 ls (r.toList ++ st) h' Q)) := xe_P_ivv (y := 67) (pc := 101) (z := 68) (i := 103) (vs := [v2, v1, v0]) (by decide +kernel) (by decide +kernel) rfl (by decide +kernel)
theorem xs_67_104 : xe_P d 67 104 [l0, l1, l2, l3, .int x] st h Q = xe_P d 67 107 [l0, l1, l2, xe_cut l3, .int (x + 1)] st h Q := xe_P_lo (ins := .iinc 4 1) (len := 3) (by decide +kernel) rfl rfl
theorem xs_67_107 : xe_P d 67 107 ls st h Q = xe_P d 67 66 ls st h Q := xe_P_go (len := 3) (off := (-41)) (by decide +kernel) (by decide)
theorem xs_67_110 : xe_P d 67 110 [l0, l1, l2, .int x, l4] st h Q = xe_P d 67 113 [l0, l1, xe_cut l2, .int (x + 1), l4] st h Q := xe_P_lo (ins := .iinc 3 1) (len := 3) (by decide +kernel) rfl rfl
theorem xs_67_113 : xe_P d 67 113 ls st h Q = xe_P d 67 10 ls st h Q := xe_P_go (len := 3) (off := (-103)) (by decide +kernel) (by decide)
theorem xs_67_116 : xe_P d 67 116 ls [] h Q = Q none h := xe_P_vreturn (by decide +kernel) rfl
theorem xs_67 : xe_C (d + 1) 67 [.ref a, .int x0, .int x1] h Q = xe_P d 67 0 [.ref a, .int x0, .int x1, .retAddr 0, .retAddr 0] [] h Q := xe_C_at (Nat.le_of_ble_eq_true rfl) rfl
theorem xs_68_0 : xe_P d 68 0 [l0, l1, .int x, l3, l4, l5, l6] st h Q = xe_P d 68 1 [l0, l1, .int x, l3, l4, l5, l6] (.int x :: st) h Q := xe_P_lo (ins := .iload_n 2) (len := 1) (by decide +kernel) rfl rfl
theorem xs_68_1 : xe_P d 68 1 ls (v0 :: st) h Q = (xe_w st ≤ 8 ∧ xe_C d 46 [v0] h (fun r h' => xe_P d 68 4 ls (r.toList ++ st) h' Q)) := xe_P_ivs (y := 68) (pc := 1) (z := 46) (i := 87) (vs := [v0]) (by decide +kernel) (by decide +kernel) rfl
theorem xs_68_4 : xe_P d 68 4 [l0, l1, l2, l3, l4, l5, l6] (.int x :: st) h Q = xe_P d 68 6 [l0, l1, l2, xe_cut l3, .int x, l5, l6] st h Q := xe_P_lo (ins := .istore 4) (len := 2) (by decide +kernel) rfl rfl
theorem xs_68_6 : xe_P d 68 6 ls st h Q = xe_P d 68 7 ls (.int 0 :: st) h Q := xe_P_ar (ins := .iconst 0) (len := 1) (by decide +kernel) rfl
theorem xs_68_7 : xe_P d 68 7 [l0, l1, l2, l3, l4, l5, l6] (.int x :: st) h Q = xe_P d 68 9 [l0, l1, l2, l3, xe_cut l4, .int x, l6] st h Q := xe_P_lo (ins := .istore 5) (len := 2) (by decide +kernel) rfl rfl
theorem xs_68_9 : xe_P d 68 9 [l0, l1, l2, l3, l4, .int x, l6] st h Q = xe_P d 68 11 [l0, l1, l2, l3, l4, .int x, l6] (.int x :: st) h Q := xe_P_lo (ins := .iload 5) (len := 2) (by decide +kernel) rfl rfl
theorem xs_68_11 : xe_P d 68 11 [.ref a, l1, l2, l3, l4, l5, l6] st h Q = xe_P d 68 12 [.ref a, l1, l2, l3, l4, l5, l6] (.ref a :: st) h Q := xe_P_lo (ins := .aload_n 0) (len := 1) (by decide +kernel) rfl rfl
theorem xs_68_12 : xe_P d 68 12 ls (.ref a :: st) h Q = (xe_ob h a 4 ∧ xe_P d 68 15 ls (.int (xe_I h a 9) :: st) h Q) := xe_P_getI (i := 43) (by decide +kernel) (by decide +kernel) (by decide) rfl
theorem xs_68_15 : xe_P d 68 15 ls (.int v :: .int x :: st) h Q = (if v ≤ x then xe_P d 68 68 ls st h Q else xe_P d 68 18 ls st h Q) := xe_P_if (ins := .if_icmp .ge 53) (len := 3) (off := 53) (by decide +kernel) (by decide) rfl rfl rfl
theorem xs_68_18 : xe_P d 68 18 ls st h Q = xe_P d 68 20 ls (.int 6 :: st) h Q := xe_P_ar (ins := .bipush 6) (len := 2) (by decide +kernel) rfl
theorem xs_68_20 : xe_P d 68 20 [l0, .int x, l2, l3, l4, l5, l6] st h Q = xe_P d 68 21 [l0, .int x, l2, l3, l4, l5, l6] (.int x :: st) h Q := xe_P_lo (ins := .iload_n 1) (len := 1) (by decide +kernel) rfl rfl
theorem xs_68_21 : xe_P d 68 21 ls (.int v :: .int x :: st) h Q = xe_P d 68 22 ls (.int (x * v) :: st) h Q := xe_P_ar (ins := .imul) (len := 1) (by decide +kernel) rfl
theorem xs_68_22 : xe_P d 68 22 [l0, l1, l2, l3, l4, .int x, l6] st h Q = xe_P d 68 24 [l0, l1, l2, l3, l4, .int x, l6] (.int x :: st) h Q := xe_P_lo (ins := .iload 5) (len := 2) (by decide +kernel) rfl rfl
theorem xs_68_24 : xe_P d 68 24 ls (.int v :: .int x :: st) h Q = xe_P d 68 25 ls (.int (x + v) :: st) h Q := xe_P_ar (ins := .iadd) (len := 1) (by decide +kernel) rfl
theorem xs_68_25 : xe_P d 68 25 [l0, l1, l2, l3, l4, l5, l6] (.int x :: st) h Q = xe_P d 68 27 [l0, l1, l2, l3, l4, xe_cut l5, .int x] st h Q := xe_P_lo (ins := .istore 6) (len := 2) (by decide +kernel) rfl rfl
theorem xs_68_27 : xe_P d 68 27 [l0, l1, l2, l3, .int x, l5, l6] st h Q = xe_P d 68 29 [l0, l1, l2, l3, .int x, l5, l6] (.int x :: st) h Q := xe_P_lo (ins := .iload 4) (len := 2) (by decide +kernel) rfl rfl
theorem xs_68_29 : xe_P d 68 29 [l0, l1, l2, l3, l4, .int x, l6] st h Q = xe_P d 68 31 [l0, l1, l2, l3, l4, .int x, l6] (.int x :: st) h Q := xe_P_lo (ins := .iload 5) (len := 2) (by decide +kernel) rfl rfl
theorem xs_68_31 : xe_P d 68 31 ls (v1 :: v0 :: st) h Q = (xe_w st ≤ 8 ∧ xe_C d 45 [v0, v1] h (fun r h' => xe_P d 68 34 ls (r.toList ++ st) h' Q)) := xe_P_ivs (y := 68) (pc := 31) (z := 45) (i := 76) (vs := [v1, v0]) (by decide +kernel) (by decide +kernel) rfl
theorem xs_68_34 : xe_P d 68 34 ls (.int x :: st) h Q = (if x = 0 then xe_P d 68 51 ls st h Q else xe_P d 68 37 ls st h Q) := xe_P_if (ins := .ifCond .eq 17) (len := 3) (off := 17) (by decide +kernel) (by decide) rfl rfl rfl
theorem xs_68_37 : xe_P d 68 37 [.ref a, l1, l2, l3, l4, l5, l6] st h Q = xe_P d 68 38 [.ref a, l1, l2, l3, l4, l5, l6] (.ref a :: st) h Q := xe_P_lo (ins := .aload_n 0) (len := 1) (by decide +kernel) rfl rfl
theorem xs_68_38 : xe_P d 68 38 ls (.ref a :: st) h Q = (xe_ob h a 4 ∧ xe_P d 68 41 ls (va_rf (xe_R h a 7) :: st) h Q) := xe_P_getR (i := 28) (by decide +kernel) (by decide +kernel) (by decide) rfl
theorem xs_68_41 : xe_P d 68 41 [l0, l1, l2, l3, l4, l5, .int x] st h Q = xe_P d 68 43 [l0, l1, l2, l3, l4, l5, .int x] (.int x :: st) h Q := xe_P_lo (ins := .iload 6) (len := 2) (by decide +kernel) rfl rfl
theorem xs_68_43 : xe_P d 68 43 ls (.int v :: .ref a :: st) h Q = xe_P d 68 44 ls (.int v :: .ref a :: .int v :: .ref a :: st) h Q := xe_P_ar (ins := .dup2) (len := 1) (by decide +kernel) rfl
theorem xs_68_44 : xe_P d 68 44 ls (.int v :: .ref a :: st) h Q = ((xe_ia h a ∧ xe_ix h a v) ∧ xe_P d 68 45 ls (.int (xe_I h a v.toNatClampNeg) :: st) h Q) := xe_P_iald (by decide +kernel)
theorem xs_68_45 : xe_P d 68 45 [l0, l1, l2, .int x, l4, l5, l6] st h Q = xe_P d 68 46 [l0, l1, l2, .int x, l4, l5, l6] (.int x :: st) h Q := xe_P_lo (ins := .iload_n 3) (len := 1) (by decide +kernel) rfl rfl
theorem xs_68_46 : xe_P d 68 46 ls (.int v :: .int x :: st) h Q = xe_P d 68 47 ls (.int (x + v) :: st) h Q := xe_P_ar (ins := .iadd) (len := 1) (by decide +kernel) rfl
theorem xs_68_47 : xe_P d 68 47 ls (.int x :: .int v :: .ref a :: st) h Q = ((xe_ob h a 8 ∧ xe_ix h a v) ∧ xe_P d 68 48 ls st (xe_sI h a v.toNatClampNeg x) Q) := xe_P_iast (by decide +kernel)
theorem xs_68_48 : xe_P d 68 48 ls st h Q = xe_P d 68 62 ls st h Q := xe_P_go (len := 3) (off := 14) (by decide +kernel) (by decide)
theorem xs_68_51 : xe_P d 68 51 [.ref a, l1, l2, l3, l4, l5, l6] st h Q = xe_P d 68 52 [.ref a, l1, l2, l3, l4, l5, l6] (.ref a :: st) h Q := xe_P_lo (ins := .aload_n 0) (len := 1) (by decide +kernel) rfl rfl
theorem xs_68_52 : xe_P d 68 52 ls (.ref a :: st) h Q = (xe_ob h a 4 ∧ xe_P d 68 55 ls (va_rf (xe_R h a 8) :: st) h Q) := xe_P_getR (i := 31) (by decide +kernel) (by decide +kernel) (by decide) rfl
theorem xs_68_55 : xe_P d 68 55 [l0, l1, l2, l3, l4, l5, .int x] st h Q = xe_P d 68 57 [l0, l1, l2, l3, l4, l5, .int x] (.int x :: st) h Q := xe_P_lo (ins := .iload 6) (len := 2) (by decide +kernel) rfl rfl
theorem xs_68_57 : xe_P d 68 57 ls (.int v :: .ref a :: st) h Q = xe_P d 68 58 ls (.int v :: .ref a :: .int v :: .ref a :: st) h Q := xe_P_ar (ins := .dup2) (len := 1) (by decide +kernel) rfl
theorem xs_68_58 : xe_P d 68 58 ls (.int v :: .ref a :: st) h Q = ((xe_ia h a ∧ xe_ix h a v) ∧ xe_P d 68 59 ls (.int (xe_I h a v.toNatClampNeg) :: st) h Q) := xe_P_iald (by decide +kernel)
theorem xs_68_59 : xe_P d 68 59 [l0, l1, l2, .int x, l4, l5, l6] st h Q = xe_P d 68 60 [l0, l1, l2, .int x, l4, l5, l6] (.int x :: st) h Q := xe_P_lo (ins := .iload_n 3) (len := 1) (by decide +kernel) rfl rfl
theorem xs_68_60 : xe_P d 68 60 ls (.int v :: .int x :: st) h Q = xe_P d 68 61 ls (.int (x + v) :: st) h Q := xe_P_ar (ins := .iadd) (len := 1) (by decide +kernel) rfl
theorem xs_68_61 : xe_P d 68 61 ls (.int x :: .int v :: .ref a :: st) h Q = ((xe_ob h a 8 ∧ xe_ix h a v) ∧ xe_P d 68 62 ls st (xe_sI h a v.toNatClampNeg x) Q) := xe_P_iast (by decide +kernel)
theorem xs_68_62 : xe_P d 68 62 [l0, l1, l2, l3, l4, .int x, l6] st h Q = xe_P d 68 65 [l0, l1, l2, l3, xe_cut l4, .int (x + 1), l6] st h Q := xe_P_lo (ins := .iinc 5 1) (len := 3) (by decide +kernel) rfl rfl
theorem xs_68_65 : xe_P d 68 65 ls st h Q = xe_P d 68 9 ls st h Q := xe_P_go (len := 3) (off := (-56)) (by decide +kernel) (by decide)
theorem xs_68_68 : xe_P d 68 68 ls [] h Q = Q none h := xe_P_vreturn (by decide +kernel) rfl
theorem xs_68 : xe_C (d + 1) 68 [.ref a, .int x0, .int x1, .int x2] h Q = xe_P d 68 0 [.ref a, .int x0, .int x1, .int x2, .retAddr 0, .retAddr 0, .retAddr 0] [] h Q := xe_C_at (Nat.le_of_ble_eq_true rfl) rfl
theorem xs_69_0 : xe_P d 69 0 [.ref a, l1, l2, l3, l4, l5, l6, l7] st h Q = xe_P d 69 1 [.ref a, l1, l2, l3, l4, l5, l6, l7] (.ref a :: st) h Q := xe_P_lo (ins := .aload_n 0) (len := 1) (by decide +kernel) rfl rfl
theorem xs_69_1 : xe_P d 69 1 ls (.ref a :: st) h Q = (xe_ob h a 4 ∧ xe_P d 69 4 ls (.int (xe_I h a 1) :: st) h Q) := xe_P_getI (i := 52) (by decide +kernel) (by decide +kernel) (by decide) rfl
theorem xs_69_4 : xe_P d 69 4 [l0, l1, l2, l3, l4, l5, l6, l7] (.int x :: st) h Q = xe_P d 69 5 [l0, xe_cut l1, .int x, l3, l4, l5, l6, l7] st h Q := xe_P_lo (ins := .istore_n 2) (len := 1) (by decide +kernel) rfl rfl
theorem xs_69_5 : xe_P d 69 5 ls st h Q = xe_P d 69 7 ls (.int (-4) :: st) h Q := xe_P_ar (ins := .bipush (-4)) (len := 2) (by decide +kernel) rfl
theorem xs_69_7 : xe_P d 69 7 [l0, l1, l2, l3, l4, l5, l6, l7] (.int x :: st) h Q = xe_P d 69 8 [l0, l1, xe_cut l2, .int x, l4, l5, l6, l7] st h Q := xe_P_lo (ins := .istore_n 3) (len := 1) (by decide +kernel) rfl rfl
theorem xs_69_8 : xe_P d 69 8 ls st h Q = xe_P d 69 9 ls (.int 0 :: st) h Q := xe_P_ar (ins := .iconst 0) (len := 1) (by decide +kernel) rfl
theorem xs_69_9 : xe_P d 69 9 [l0, l1, l2, l3, l4, l5, l6, l7] (.int x :: st) h Q = xe_P d 69 11 [l0, l1, l2, xe_cut l3, .int x, l5, l6, l7] st h Q := xe_P_lo (ins := .istore 4) (len := 2) (by decide +kernel) rfl rfl
theorem xs_69_11 : xe_P d 69 11 [l0, l1, l2, l3, .int x, l5, l6, l7] st h Q = xe_P d 69 13 [l0, l1, l2, l3, .int x, l5, l6, l7] (.int x :: st) h Q := xe_P_lo (ins := .iload 4) (len := 2) (by decide +kernel) rfl rfl
theorem xs_69_13 : xe_P d 69 13 ls st h Q = xe_P d 69 15 ls (.int 6 :: st) h Q := xe_P_ar (ins := .bipush 6) (len := 2) (by decide +kernel) rfl
theorem xs_69_15 : xe_P d 69 15 ls (.int v :: .int x :: st) h Q = (if v < x then xe_P d 69 108 ls st h Q else xe_P d 69 18 ls st h Q) := xe_P_if (ins := .if_icmp .gt 93) (len := 3) (off := 93) (by decide +kernel) (by decide) rfl rfl rfl
theorem xs_69_18 : xe_P d 69 18 [l0, l1, l2, l3, .int x, l5, l6, l7] st h Q = xe_P d 69 20 [l0, l1, l2, l3, .int x, l5, l6, l7] (.int x :: st) h Q := xe_P_lo (ins := .iload 4) (len := 2) (by decide +kernel) rfl rfl
theorem xs_69_20 : xe_P d 69 20 [.ref a, l1, l2, l3, l4, l5, l6, l7] st h Q = xe_P d 69 21 [.ref a, l1, l2, l3, l4, l5, l6, l7] (.ref a :: st) h Q := xe_P_lo (ins := .aload_n 0) (len := 1) (by decide +kernel) rfl rfl
theorem xs_69_21 : xe_P d 69 21 ls (.ref a :: st) h Q = (xe_ob h a 4 ∧ xe_P d 69 24 ls (.int (xe_I h a 9) :: st) h Q) := xe_P_getI (i := 43) (by decide +kernel) (by decide +kernel) (by decide) rfl
theorem xs_69_24 : xe_P d 69 24 ls (.int v :: .int x :: st) h Q = (if x < v then xe_P d 69 37 ls st h Q else xe_P d 69 27 ls st h Q) := xe_P_if (ins := .if_icmp .lt 13) (len := 3) (off := 13) (by decide +kernel) (by decide) rfl rfl rfl
theorem xs_69_27 : xe_P d 69 27 [l0, l1, l2, l3, .int x, l5, l6, l7] st h Q = xe_P d 69 29 [l0, l1, l2, l3, .int x, l5, l6, l7] (.int x :: st) h Q := xe_P_lo (ins := .iload 4) (len := 2) (by decide +kernel) rfl rfl
theorem xs_69_29 : xe_P d 69 29 ls st h Q = xe_P d 69 31 ls (.int 6 :: st) h Q := xe_P_ar (ins := .bipush 6) (len := 2) (by decide +kernel) rfl
theorem xs_69_31 : xe_P d 69 31 ls (.int v :: .int x :: st) h Q = (if x = v then xe_P d 69 37 ls st h Q else xe_P d 69 34 ls st h Q) := xe_P_if (ins := .if_icmp .eq 6) (len := 3) (off := 6) (by decide +kernel) (by decide) rfl rfl rfl
theorem xs_69_34 : xe_P d 69 34 ls st h Q = xe_P d 69 102 ls st h Q := xe_P_go (len := 3) (off := 68) (by decide +kernel) (by decide)
theorem xs_69_37 : xe_P d 69 37 ls st h Q = xe_P d 69 38 ls (.int 0 :: st) h Q := xe_P_ar (ins := .iconst 0) (len := 1) (by decide +kernel) rfl
theorem xs_69_38 : xe_P d 69 38 [l0, l1, l2, l3, l4, l5, l6, l7] (.int x :: st) h Q = xe_P d 69 40 [l0, l1, l2, l3, xe_cut l4, .int x, l6, l7] st h Q := xe_P_lo (ins := .istore 5) (len := 2) (by decide +kernel) rfl rfl
theorem xs_69_40 : xe_P d 69 40 [l0, l1, l2, l3, l4, .int x, l6, l7] st h Q = xe_P d 69 42 [l0, l1, l2, l3, l4, .int x, l6, l7] (.int x :: st) h Q := xe_P_lo (ins := .iload 5) (len := 2) (by decide +kernel) rfl rfl
theorem xs_69_42 : xe_P d 69 42 [.ref a, l1, l2, l3, l4, l5, l6, l7] st h Q = xe_P d 69 43 [.ref a, l1, l2, l3, l4, l5, l6, l7] (.ref a :: st) h Q := xe_P_lo (ins := .aload_n 0) (len := 1) (by decide +kernel) rfl rfl
theorem xs_69_43 : xe_P d 69 43 ls (.ref a :: st) h Q = (xe_ob h a 4 ∧ xe_P d 69 46 ls (.int (xe_I h a 9) :: st) h Q) := xe_P_getI (i := 43) (by decide +kernel) (by decide +kernel) (by decide) rfl
theorem xs_69_46 : xe_P d 69 46 ls (.int v :: .int x :: st) h Q = (if v ≤ x then xe_P d 69 102 ls st h Q else xe_P d 69 49 ls st h Q) := xe_P_if (ins := .if_icmp .ge 56) (len := 3) (off := 56) (by decide +kernel) (by decide) rfl rfl rfl
theorem xs_69_49 : xe_P d 69 49 ls st h Q = xe_P d 69 51 ls (.int 6 :: st) h Q := xe_P_ar (ins := .bipush 6) (len := 2) (by decide +kernel) rfl
theorem xs_69_51 : xe_P d 69 51 [l0, l1, l2, l3, .int x, l5, l6, l7] st h Q = xe_P d 69 53 [l0, l1, l2, l3, .int x, l5, l6, l7] (.int x :: st) h Q := xe_P_lo (ins := .iload 4) (len := 2) (by decide +kernel) rfl rfl
theorem xs_69_53 : xe_P d 69 53 ls (.int v :: .int x :: st) h Q = xe_P d 69 54 ls (.int (x * v) :: st) h Q := xe_P_ar (ins := .imul) (len := 1) (by decide +kernel) rfl
theorem xs_69_54 : xe_P d 69 54 [l0, l1, l2, l3, l4, .int x, l6, l7] st h Q = xe_P d 69 56 [l0, l1, l2, l3, l4, .int x, l6, l7] (.int x :: st) h Q := xe_P_lo (ins := .iload 5) (len := 2) (by decide +kernel) rfl rfl
theorem xs_69_56 : xe_P d 69 56 ls (.int v :: .int x :: st) h Q = xe_P d 69 57 ls (.int (x + v) :: st) h Q := xe_P_ar (ins := .iadd) (len := 1) (by decide +kernel) rfl
theorem xs_69_57 : xe_P d 69 57 [l0, l1, l2, l3, l4, l5, l6, l7] (.int x :: st) h Q = xe_P d 69 59 [l0, l1, l2, l3, l4, xe_cut l5, .int x, l7] st h Q := xe_P_lo (ins := .istore 6) (len := 2) (by decide +kernel) rfl rfl
theorem xs_69_59 : xe_P d 69 59 [.ref a, l1, l2, l3, l4, l5, l6, l7] st h Q = xe_P d 69 60 [.ref a, l1, l2, l3, l4, l5, l6, l7] (.ref a :: st) h Q := xe_P_lo (ins := .aload_n 0) (len := 1) (by decide +kernel) rfl rfl
theorem xs_69_60 : xe_P d 69 60 ls (.ref a :: st) h Q = (xe_ob h a 4 ∧ xe_P d 69 63 ls (va_rf (xe_R h a 7) :: st) h Q) := xe_P_getR (i := 28) (by decide +kernel) (by decide +kernel) (by decide) rfl
theorem xs_69_63 : xe_P d 69 63 [l0, l1, l2, l3, l4, l5, .int x, l7] st h Q = xe_P d 69 65 [l0, l1, l2, l3, l4, l5, .int x, l7] (.int x :: st) h Q := xe_P_lo (ins := .iload 6) (len := 2) (by decide +kernel) rfl rfl
theorem xs_69_65 : xe_P d 69 65 ls (.int v :: .ref a :: st) h Q = ((xe_ia h a ∧ xe_ix h a v) ∧ xe_P d 69 66 ls (.int (xe_I h a v.toNatClampNeg) :: st) h Q) := xe_P_iald (by decide +kernel)
theorem xs_69_66 : xe_P d 69 66 [.ref a, l1, l2, l3, l4, l5, l6, l7] st h Q = xe_P d 69 67 [.ref a, l1, l2, l3, l4, l5, l6, l7] (.ref a :: st) h Q := xe_P_lo (ins := .aload_n 0) (len := 1) (by decide +kernel) rfl rfl
theorem xs_69_67 : xe_P d 69 67 ls (.ref a :: st) h Q = (xe_ob h a 4 ∧ xe_P d 69 70 ls (va_rf (xe_R h a 8) :: st) h Q) := xe_P_getR (i := 31) (by decide +kernel) (by decide +kernel) (by decide) rfl
theorem xs_69_70 : xe_P d 69 70 [l0, l1, l2, l3, l4, l5, .int x, l7] st h Q = xe_P d 69 72 [l0, l1, l2, l3, l4, l5, .int x, l7] (.int x :: st) h Q := xe_P_lo (ins := .iload 6) (len := 2) (by decide +kernel) rfl rfl
theorem xs_69_72 : xe_P d 69 72 ls (.int v :: .ref a :: st) h Q = ((xe_ia h a ∧ xe_ix h a v) ∧ xe_P d 69 73 ls (.int (xe_I h a v.toNatClampNeg) :: st) h Q) := xe_P_iald (by decide +kernel)
theorem xs_69_73 : xe_P d 69 73 ls (.int v :: .int x :: st) h Q = (xe_w st ≤ 8 ∧ xe_P d 69 76 ls (.int (if x < v then v else x) :: st) h Q) := xe_P_max (i := 107) (by decide +kernel) (by decide +kernel)
theorem xs_69_76 : xe_P d 69 76 [l0, l1, l2, l3, l4, l5, l6, l7] (.int x :: st) h Q = xe_P d 69 78 [l0, l1, l2, l3, l4, l5, xe_cut l6, .int x] st h Q := xe_P_lo (ins := .istore 7) (len := 2) (by decide +kernel) rfl rfl
theorem xs_69_78 : xe_P d 69 78 [l0, l1, l2, l3, l4, l5, l6, .int x] st h Q = xe_P d 69 80 [l0, l1, l2, l3, l4, l5, l6, .int x] (.int x :: st) h Q := xe_P_lo (ins := .iload 7) (len := 2) (by decide +kernel) rfl rfl
theorem xs_69_80 : xe_P d 69 80 [l0, l1, .int x, l3, l4, l5, l6, l7] st h Q = xe_P d 69 81 [l0, l1, .int x, l3, l4, l5, l6, l7] (.int x :: st) h Q := xe_P_lo (ins := .iload_n 2) (len := 1) (by decide +kernel) rfl rfl
theorem xs_69_81 : xe_P d 69 81 ls (.int v :: .int x :: st) h Q = (if v ≤ x then xe_P d 69 96 ls st h Q else xe_P d 69 84 ls st h Q) := xe_P_if (ins := .if_icmp .ge 15) (len := 3) (off := 15) (by decide +kernel) (by decide) rfl rfl rfl
theorem xs_69_84 : xe_P d 69 84 [l0, l1, l2, l3, l4, l5, l6, .int x] st h Q = xe_P d 69 86 [l0, l1, l2, l3, l4, l5, l6, .int x] (.int x :: st) h Q := xe_P_lo (ins := .iload 7) (len := 2) (by decide +kernel) rfl rfl
theorem xs_69_86 : xe_P d 69 86 [l0, l1, l2, l3, l4, l5, l6, l7] (.int x :: st) h Q = xe_P d 69 87 [l0, xe_cut l1, .int x, l3, l4, l5, l6, l7] st h Q := xe_P_lo (ins := .istore_n 2) (len := 1) (by decide +kernel) rfl rfl
theorem xs_69_87 : xe_P d 69 87 ls st h Q = xe_P d 69 89 ls (.int 10 :: st) h Q := xe_P_ar (ins := .bipush 10) (len := 2) (by decide +kernel) rfl
theorem xs_69_89 : xe_P d 69 89 [l0, l1, l2, l3, .int x, l5, l6, l7] st h Q = xe_P d 69 91 [l0, l1, l2, l3, .int x, l5, l6, l7] (.int x :: st) h Q := xe_P_lo (ins := .iload 4) (len := 2) (by decide +kernel) rfl rfl
theorem xs_69_91 : xe_P d 69 91 ls (.int v :: .int x :: st) h Q = xe_P d 69 92 ls (.int (x * v) :: st) h Q := xe_P_ar (ins := .imul) (len := 1) (by decide +kernel) rfl
theorem xs_69_92 : xe_P d 69 92 [l0, l1, l2, l3, l4, .int x, l6, l7] st h Q = xe_P d 69 94 [l0, l1, l2, l3, l4, .int x, l6, l7] (.int x :: st) h Q := xe_P_lo (ins := .iload 5) (len := 2) (by decide +kernel) rfl rfl
theorem xs_69_94 : xe_P d 69 94 ls (.int v :: .int x :: st) h Q = xe_P d 69 95 ls (.int (x + v) :: st) h Q := xe_P_ar (ins := .iadd) (len := 1) (by decide +kernel) rfl
theorem xs_69_95 : xe_P d 69 95 [l0, l1, l2, l3, l4, l5, l6, l7] (.int x :: st) h Q = xe_P d 69 96 [l0, l1, xe_cut l2, .int x, l4, l5, l6, l7] st h Q := xe_P_lo (ins := .istore_n 3) (len := 1) (by decide +kernel) rfl rfl
theorem xs_69_96 : xe_P d 69 96 [l0, l1, l2, l3, l4, .int x, l6, l7] st h Q = xe_P d 69 99 [l0, l1, l2, l3, xe_cut l4, .int (x + 1), l6, l7] st h Q := xe_P_lo (ins := .iinc 5 1) (len := 3) (by decide +kernel) rfl rfl
theorem xs_69_99 : xe_P d 69 99 ls st h Q = xe_P d 69 40 ls st h Q := xe_P_go (len := 3) (off := (-59)) (by decide +kernel) (by decide)
theorem xs_69_102 : xe_P d 69 102 [l0, l1, l2, l3, .int x, l5, l6, l7] st h Q = xe_P d 69 105 [l0, l1, l2, xe_cut l3, .int (x + 1), l5, l6, l7] st h Q := xe_P_lo (ins := .iinc 4 1) (len := 3) (by decide +kernel) rfl rfl
theorem xs_69_105 : xe_P d 69 105 ls st h Q = xe_P d 69 11 ls st h Q := xe_P_go (len := 3) (off := (-94)) (by decide +kernel) (by decide)
theorem xs_69_108 : xe_P d 69 108 [l0, l1, l2, .int x, l4, l5, l6, l7] st h Q = xe_P d 69 109 [l0, l1, l2, .int x, l4, l5, l6, l7] (.int x :: st) h Q := xe_P_lo (ins := .iload_n 3) (len := 1) (by decide +kernel) rfl rfl
theorem xs_69_109 : xe_P d 69 109 ls st h Q = xe_P d 69 111 ls (.int (-4) :: st) h Q := xe_P_ar (ins := .bipush (-4)) (len := 2) (by decide +kernel) rfl
theorem xs_69_111 : xe_P d 69 111 ls (.int v :: .int x :: st) h Q = (if x = v then xe_P d 69 118 ls st h Q else xe_P d 69 114 ls st h Q) := xe_P_if (ins := .if_icmp .eq 7) (len := 3) (off := 7) (by decide +kernel) (by decide) rfl rfl rfl
theorem xs_69_114 : xe_P d 69 114 [l0, .int x, l2, l3, l4, l5, l6, l7] st h Q = xe_P d 69 115 [l0, .int x, l2, l3, l4, l5, l6, l7] (.int x :: st) h Q := xe_P_lo (ins := .iload_n 1) (len := 1) (by decide +kernel) rfl rfl
theorem xs_69_115 : xe_P d 69 115 ls (.int x :: st) h Q = (if x = 0 then xe_P d 69 118 ls st h Q else xe_P d 69 122 ls st h Q) := xe_P_ifn (ins := .ifCond .ne 7) (len := 3) (off := 7) (by decide +kernel) (by decide) rfl rfl rfl
theorem xs_69_118 : xe_P d 69 118 [l0, l1, l2, .int x, l4, l5, l6, l7] st h Q = xe_P d 69 119 [l0, l1, l2, .int x, l4, l5, l6, l7] (.int x :: st) h Q := xe_P_lo (ins := .iload_n 3) (len := 1) (by decide +kernel) rfl rfl
theorem xs_69_119 : xe_P d 69 119 ls st h Q = xe_P d 69 123 ls st h Q := xe_P_go (len := 3) (off := 4) (by decide +kernel) (by decide)
theorem xs_69_122 : xe_P d 69 122 [l0, l1, .int x, l3, l4, l5, l6, l7] st h Q = xe_P d 69 123 [l0, l1, .int x, l3, l4, l5, l6, l7] (.int x :: st) h Q := xe_P_lo (ins := .iload_n 2) (len := 1) (by decide +kernel) rfl rfl
theorem xs_69_123 : xe_P d 69 123 ls [.int x] h Q = Q (some (.int x)) h := xe_P_ireturn (by decide +kernel) rfl
theorem xs_69 : xe_C (d + 1) 69 [.ref a, .int x0] h Q = xe_P d 69 0 [.ref a, .int x0, .retAddr 0, .retAddr 0, .retAddr 0, .retAddr 0, .retAddr 0, .retAddr 0] [] h Q := xe_C_at (Nat.le_of_ble_eq_true rfl) rfl
end XSX4
