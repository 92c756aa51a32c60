section XSX5
variable {d : Nat} {l0 l1 l2 l3 l4 l5 l6 l7 l8 l9 l10 l11 v0 v1 v2 v3 v4 v5 : Value} {x v n x0 x1 x2 x3 x4 x5 : Int32} {w u w0 w1 w2 w3 : Int64} {a b a0 a1 a2 : Nat} {ls st : List Value} {h : xe_H} {Q : Option Value → xe_H → Prop}
theorem xs_70_0 : xe_P d 70 0 [.ref a] st h Q = xe_P d 70 1 [.ref a] (.ref a :: st) h Q := xe_P_lo (ins := .aload_n 0) (len := 1) (by decide +kernel) rfl rfl
theorem xs_70_1 : xe_P d 70 1 ls (.ref a :: st) h Q = ((a < xe_n h ∧ xe_n h ≤ xe_S ∧ xe_w st ≤ 8) ∧ xe_P d 70 4 ls st h Q) := xe_P_obj (i := 5) (by decide +kernel) (by decide +kernel) rfl
theorem xs_70_4 : xe_P d 70 4 [.ref a] st h Q = xe_P d 70 5 [.ref a] (.ref a :: st) h Q := xe_P_lo (ins := .aload_n 0) (len := 1) (by decide +kernel) rfl rfl
theorem xs_70_5 : xe_P d 70 5 ls st h Q = xe_P d 70 8 ls (.int 1600 :: st) h Q := xe_P_ar (ins := .sipush 1600) (len := 3) (by decide +kernel) rfl
theorem xs_70_8 : xe_P d 70 8 ls (.int v :: st) h Q = ((¬ v < 0 ∧ v.toNatClampNeg ≤ 200000 ∧ xe_n h < xe_S) ∧ xe_P d 70 10 ls (.ref (xe_n h) :: st) (xe_new h 9 v.toNatClampNeg) Q) := xe_P_newa (t := .long) (by decide +kernel) (by decide)
theorem xs_70_10 : xe_P d 70 10 ls (.ref b :: .ref a :: st) h Q = ((xe_ob h a 5 ∧ b < xe_S) ∧ xe_P d 70 13 ls st (xe_sR h a 0 (some b)) Q) := xe_P_putR (i := 11) (by decide +kernel) (by decide +kernel) (by decide) (by decide +kernel) rfl
theorem xs_70_13 : xe_P d 70 13 [.ref a] st h Q = xe_P d 70 14 [.ref a] (.ref a :: st) h Q := xe_P_lo (ins := .aload_n 0) (len := 1) (by decide +kernel) rfl rfl
theorem xs_70_14 : xe_P d 70 14 ls st h Q = xe_P d 70 17 ls (.int 256 :: st) h Q := xe_P_ar (ins := .sipush 256) (len := 3) (by decide +kernel) rfl
theorem xs_70_17 : xe_P d 70 17 ls (.int v :: st) h Q = ((¬ v < 0 ∧ v.toNatClampNeg ≤ 200000 ∧ xe_n h < xe_S) ∧ xe_P d 70 19 ls (.ref (xe_n h) :: st) (xe_new h 9 v.toNatClampNeg) Q) := xe_P_newa (t := .long) (by decide +kernel) (by decide)
theorem xs_70_19 : xe_P d 70 19 ls (.ref b :: .ref a :: st) h Q = ((xe_ob h a 5 ∧ b < xe_S) ∧ xe_P d 70 22 ls st (xe_sR h a 1 (some b)) Q) := xe_P_putR (i := 15) (by decide +kernel) (by decide +kernel) (by decide) (by decide +kernel) rfl
theorem xs_70_22 : xe_P d 70 22 [.ref a] st h Q = xe_P d 70 23 [.ref a] (.ref a :: st) h Q := xe_P_lo (ins := .aload_n 0) (len := 1) (by decide +kernel) rfl rfl
theorem xs_70_23 : xe_P d 70 23 ls st h Q = xe_P d 70 25 ls (.int 7 :: st) h Q := xe_P_ar (ins := .bipush 7) (len := 2) (by decide +kernel) rfl
theorem xs_70_25 : xe_P d 70 25 ls (.int v :: st) h Q = ((¬ v < 0 ∧ v.toNatClampNeg ≤ 200000 ∧ xe_n h < xe_S) ∧ xe_P d 70 27 ls (.ref (xe_n h) :: st) (xe_new h 8 v.toNatClampNeg) Q) := xe_P_newa (t := .int) (by decide +kernel) (by decide)
theorem xs_70_27 : xe_P d 70 27 ls (.ref b :: .ref a :: st) h Q = ((xe_ob h a 5 ∧ b < xe_S) ∧ xe_P d 70 30 ls st (xe_sR h a 3 (some b)) Q) := xe_P_putR (i := 18) (by decide +kernel) (by decide +kernel) (by decide) (by decide +kernel) rfl
theorem xs_70_30 : xe_P d 70 30 ls [] h Q = Q none h := xe_P_vreturn (by decide +kernel) rfl
theorem xs_70 : xe_C (d + 1) 70 [.ref a] h Q = xe_P d 70 0 [.ref a] [] h Q := xe_C_at (Nat.le_of_ble_eq_true rfl) rfl
theorem xs_71_0 : xe_P d 71 0 [.ref a, l1, l2, l3, l4] st h Q = xe_P d 71 1 [.ref a, l1, l2, l3, l4] (.ref a :: st) h Q := xe_P_lo (ins := .aload_n 0) (len := 1) (by decide +kernel) rfl rfl
theorem xs_71_1 : xe_P d 71 1 [l0, .ref a, l2, l3, l4] st h Q = xe_P d 71 2 [l0, .ref a, l2, l3, l4] (.ref a :: st) h Q := xe_P_lo (ins := .aload_n 1) (len := 1) (by decide +kernel) rfl rfl
theorem xs_71_2 : xe_P d 71 2 ls (.ref b :: .ref a :: st) h Q = ((xe_ob h a 5 ∧ b < xe_S) ∧ xe_P d 71 5 ls st (xe_sR h a 4 (some b)) Q) := xe_P_putR (i := 22) (by decide +kernel) (by decide +kernel) (by decide) (by decide +kernel) rfl
theorem xs_71_5 : xe_P d 71 5 [.ref a, l1, l2, l3, l4] st h Q = xe_P d 71 6 [.ref a, l1, l2, l3, l4] (.ref a :: st) h Q := xe_P_lo (ins := .aload_n 0) (len := 1) (by decide +kernel) rfl rfl
theorem xs_71_6 : xe_P d 71 6 [l0, l1, l2, .int x, l4] st h Q = xe_P d 71 7 [l0, l1, l2, .int x, l4] (.int x :: st) h Q := xe_P_lo (ins := .iload_n 3) (len := 1) (by decide +kernel) rfl rfl
theorem xs_71_7 : xe_P d 71 7 ls st h Q = xe_P d 71 8 ls (.int (-1) :: st) h Q := xe_P_ar (ins := .iconst (-1)) (len := 1) (by decide +kernel) rfl
theorem xs_71_8 : xe_P d 71 8 ls (.int v :: .int x :: st) h Q = (if x = v then xe_P d 71 15 ls st h Q else xe_P d 71 11 ls st h Q) := xe_P_if (ins := .if_icmp .eq 7) (len := 3) (off := 7) (by decide +kernel) (by decide) rfl rfl rfl
theorem xs_71_11 : xe_P d 71 11 ls st h Q = xe_P d 71 12 ls (.int 1 :: st) h Q := xe_P_ar (ins := .iconst 1) (len := 1) (by decide +kernel) rfl
theorem xs_71_12 : xe_P d 71 12 ls st h Q = xe_P d 71 16 ls st h Q := xe_P_go (len := 3) (off := 4) (by decide +kernel) (by decide)
theorem xs_71_15 : xe_P d 71 15 ls st h Q = xe_P d 71 16 ls (.int 0 :: st) h Q := xe_P_ar (ins := .iconst 0) (len := 1) (by decide +kernel) rfl
theorem xs_71_16 : xe_P d 71 16 ls (.int v :: .ref a :: st) h Q = ((xe_ob h a 5 ∧ (v = 0 ∨ v = 1)) ∧ xe_P d 71 19 ls st (xe_sI h a 5 v) Q) := xe_P_putZ (i := 26) (by decide +kernel) (by decide +kernel) (by decide) (by decide +kernel) rfl
theorem xs_71_19 : xe_P d 71 19 [.ref a, l1, l2, l3, l4] st h Q = xe_P d 71 20 [.ref a, l1, l2, l3, l4] (.ref a :: st) h Q := xe_P_lo (ins := .aload_n 0) (len := 1) (by decide +kernel) rfl rfl
theorem xs_71_20 : xe_P d 71 20 [.ref a, l1, l2, l3, l4] st h Q = xe_P d 71 21 [.ref a, l1, l2, l3, l4] (.ref a :: st) h Q := xe_P_lo (ins := .aload_n 0) (len := 1) (by decide +kernel) rfl rfl
theorem xs_71_21 : xe_P d 71 21 ls (.ref a :: st) h Q = (xe_ob h a 5 ∧ xe_P d 71 24 ls (va_rf (xe_R h a 4) :: st) h Q) := xe_P_getR (i := 22) (by decide +kernel) (by decide +kernel) (by decide) rfl
theorem xs_71_24 : xe_P d 71 24 ls (.ref a :: st) h Q = (xe_ob h a 3 ∧ xe_P d 71 27 ls (va_rf (xe_R h a 11) :: st) h Q) := xe_P_getR (i := 30) (by decide +kernel) (by decide +kernel) (by decide) rfl
theorem xs_71_27 : xe_P d 71 27 [l0, l1, .int x, l3, l4] st h Q = xe_P d 71 28 [l0, l1, .int x, l3, l4] (.int x :: st) h Q := xe_P_lo (ins := .iload_n 2) (len := 1) (by decide +kernel) rfl rfl
theorem xs_71_28 : xe_P d 71 28 ls (.int v :: .ref a :: st) h Q = ((xe_ia h a ∧ xe_ix h a v) ∧ xe_P d 71 29 ls (.int (xe_I h a v.toNatClampNeg) :: st) h Q) := xe_P_iald (by decide +kernel)
theorem xs_71_29 : xe_P d 71 29 ls (.int v :: .ref a :: st) h Q = (xe_ob h a 5 ∧ xe_P d 71 32 ls st (xe_sI h a 6 v) Q) := xe_P_putI (i := 35) (by decide +kernel) (by decide +kernel) (by decide) (by decide +kernel) rfl
theorem xs_71_32 : xe_P d 71 32 [.ref a, l1, l2, l3, l4] st h Q = xe_P d 71 33 [.ref a, l1, l2, l3, l4] (.ref a :: st) h Q := xe_P_lo (ins := .aload_n 0) (len := 1) (by decide +kernel) rfl rfl
theorem xs_71_33 : xe_P d 71 33 [.ref a, l1, l2, l3, l4] st h Q = xe_P d 71 34 [.ref a, l1, l2, l3, l4] (.ref a :: st) h Q := xe_P_lo (ins := .aload_n 0) (len := 1) (by decide +kernel) rfl rfl
theorem xs_71_34 : xe_P d 71 34 ls (.ref a :: st) h Q = (xe_ob h a 5 ∧ xe_P d 71 37 ls (.int (xe_I h a 5) :: st) h Q) := xe_P_getI (i := 26) (by decide +kernel) (by decide +kernel) (by decide) rfl
theorem xs_71_37 : xe_P d 71 37 ls (.int x :: st) h Q = (if x = 0 then xe_P d 71 52 ls st h Q else xe_P d 71 40 ls st h Q) := xe_P_if (ins := .ifCond .eq 15) (len := 3) (off := 15) (by decide +kernel) (by decide) rfl rfl rfl
theorem xs_71_40 : xe_P d 71 40 [.ref a, l1, l2, l3, l4] st h Q = xe_P d 71 41 [.ref a, l1, l2, l3, l4] (.ref a :: st) h Q := xe_P_lo (ins := .aload_n 0) (len := 1) (by decide +kernel) rfl rfl
theorem xs_71_41 : xe_P d 71 41 ls (.ref a :: st) h Q = (xe_ob h a 5 ∧ xe_P d 71 44 ls (va_rf (xe_R h a 4) :: st) h Q) := xe_P_getR (i := 22) (by decide +kernel) (by decide +kernel) (by decide) rfl
theorem xs_71_44 : xe_P d 71 44 ls (.ref a :: st) h Q = (xe_ob h a 3 ∧ xe_P d 71 47 ls (va_rf (xe_R h a 11) :: st) h Q) := xe_P_getR (i := 30) (by decide +kernel) (by decide +kernel) (by decide) rfl
theorem xs_71_47 : xe_P d 71 47 [l0, l1, l2, .int x, l4] st h Q = xe_P d 71 48 [l0, l1, l2, .int x, l4] (.int x :: st) h Q := xe_P_lo (ins := .iload_n 3) (len := 1) (by decide +kernel) rfl rfl
theorem xs_71_48 : xe_P d 71 48 ls (.int v :: .ref a :: st) h Q = ((xe_ia h a ∧ xe_ix h a v) ∧ xe_P d 71 49 ls (.int (xe_I h a v.toNatClampNeg) :: st) h Q) := xe_P_iald (by decide +kernel)
theorem xs_71_49 : xe_P d 71 49 ls st h Q = xe_P d 71 53 ls st h Q := xe_P_go (len := 3) (off := 4) (by decide +kernel) (by decide)
theorem xs_71_52 : xe_P d 71 52 ls st h Q = xe_P d 71 53 ls (.int 0 :: st) h Q := xe_P_ar (ins := .iconst 0) (len := 1) (by decide +kernel) rfl
theorem xs_71_53 : xe_P d 71 53 ls (.int v :: .ref a :: st) h Q = (xe_ob h a 5 ∧ xe_P d 71 56 ls st (xe_sI h a 7 v) Q) := xe_P_putI (i := 39) (by decide +kernel) (by decide +kernel) (by decide) (by decide +kernel) rfl
theorem xs_71_56 : xe_P d 71 56 [.ref a, l1, l2, l3, l4] st h Q = xe_P d 71 57 [.ref a, l1, l2, l3, l4] (.ref a :: st) h Q := xe_P_lo (ins := .aload_n 0) (len := 1) (by decide +kernel) rfl rfl
theorem xs_71_57 : xe_P d 71 57 [.ref a, l1, l2, l3, l4] st h Q = xe_P d 71 58 [.ref a, l1, l2, l3, l4] (.ref a :: st) h Q := xe_P_lo (ins := .aload_n 0) (len := 1) (by decide +kernel) rfl rfl
theorem xs_71_58 : xe_P d 71 58 ls (.ref a :: st) h Q = (xe_ob h a 5 ∧ xe_P d 71 61 ls (va_rf (xe_R h a 4) :: st) h Q) := xe_P_getR (i := 22) (by decide +kernel) (by decide +kernel) (by decide) rfl
theorem xs_71_61 : xe_P d 71 61 ls (.ref a :: st) h Q = (xe_ob h a 3 ∧ xe_P d 71 64 ls (va_rf (xe_R h a 10) :: st) h Q) := xe_P_getR (i := 42) (by decide +kernel) (by decide +kernel) (by decide) rfl
theorem xs_71_64 : xe_P d 71 64 [l0, l1, .int x, l3, l4] st h Q = xe_P d 71 65 [l0, l1, .int x, l3, l4] (.int x :: st) h Q := xe_P_lo (ins := .iload_n 2) (len := 1) (by decide +kernel) rfl rfl
theorem xs_71_65 : xe_P d 71 65 ls (.int v :: .ref a :: st) h Q = ((xe_ia h a ∧ xe_ix h a v) ∧ xe_P d 71 66 ls (.int (xe_I h a v.toNatClampNeg) :: st) h Q) := xe_P_iald (by decide +kernel)
theorem xs_71_66 : xe_P d 71 66 [.ref a, l1, l2, l3, l4] st h Q = xe_P d 71 67 [.ref a, l1, l2, l3, l4] (.ref a :: st) h Q := xe_P_lo (ins := .aload_n 0) (len := 1) (by decide +kernel) rfl rfl
theorem xs_71_67 : xe_P d 71 67 ls (.ref a :: st) h Q = (xe_ob h a 5 ∧ xe_P d 71 70 ls (.int (xe_I h a 5) :: st) h Q) := xe_P_getI (i := 26) (by decide +kernel) (by decide +kernel) (by decide) rfl
theorem xs_71_70 : xe_P d 71 70 ls (.int x :: st) h Q = (if x = 0 then xe_P d 71 85 ls st h Q else xe_P d 71 73 ls st h Q) := xe_P_if (ins := .ifCond .eq 15) (len := 3) (off := 15) (by decide +kernel) (by decide) rfl rfl rfl
theorem xs_71_73 : xe_P d 71 73 [.ref a, l1, l2, l3, l4] st h Q = xe_P d 71 74 [.ref a, l1, l2, l3, l4] (.ref a :: st) h Q := xe_P_lo (ins := .aload_n 0) (len := 1) (by decide +kernel) rfl rfl
theorem xs_71_74 : xe_P d 71 74 ls (.ref a :: st) h Q = (xe_ob h a 5 ∧ xe_P d 71 77 ls (va_rf (xe_R h a 4) :: st) h Q) := xe_P_getR (i := 22) (by decide +kernel) (by decide +kernel) (by decide) rfl
theorem xs_71_77 : xe_P d 71 77 ls (.ref a :: st) h Q = (xe_ob h a 3 ∧ xe_P d 71 80 ls (va_rf (xe_R h a 10) :: st) h Q) := xe_P_getR (i := 42) (by decide +kernel) (by decide +kernel) (by decide) rfl
theorem xs_71_80 : xe_P d 71 80 [l0, l1, l2, .int x, l4] st h Q = xe_P d 71 81 [l0, l1, l2, .int x, l4] (.int x :: st) h Q := xe_P_lo (ins := .iload_n 3) (len := 1) (by decide +kernel) rfl rfl
theorem xs_71_81 : xe_P d 71 81 ls (.int v :: .ref a :: st) h Q = ((xe_ia h a ∧ xe_ix h a v) ∧ xe_P d 71 82 ls (.int (xe_I h a v.toNatClampNeg) :: st) h Q) := xe_P_iald (by decide +kernel)
theorem xs_71_82 : xe_P d 71 82 ls st h Q = xe_P d 71 86 ls st h Q := xe_P_go (len := 3) (off := 4) (by decide +kernel) (by decide)
theorem xs_71_85 : xe_P d 71 85 ls st h Q = xe_P d 71 86 ls (.int 0 :: st) h Q := xe_P_ar (ins := .iconst 0) (len := 1) (by decide +kernel) rfl
theorem xs_71_86 : xe_P d 71 86 [l0, l1, l2, l3, .int x] st h Q = xe_P d 71 88 [l0, l1, l2, l3, .int x] (.int x :: st) h Q := xe_P_lo (ins := .iload 4) (len := 2) (by decide +kernel) rfl rfl
theorem xs_71_88 : xe_P d 71 88 ls (v2 :: v1 :: v0 :: .ref a :: st) h Q = ((xe_w st ≤ 8 ∧ xe_ob h a 5) ∧ xe_C d 75 [.ref a, v0, v1, v2] h (fun r h' => xe_P d 71 91 ls (r.toList ++ st) h' Q)) := xe_P_ivv (y := 71) (pc := 88) (z := 75) (i := 45) (vs := [v2, v1, v0]) (by decide +kernel) (by decide +kernel) rfl (by decide +kernel)
theorem xs_71_91 : xe_P d 71 91 ls [] h Q = Q none h := xe_P_vreturn (by decide +kernel) rfl
theorem xs_71 : xe_C (d + 1) 71 [.ref a, .ref a0, .int x1, .int x2, .int x3] h Q = xe_P d 71 0 [.ref a, .ref a0, .int x1, .int x2, .int x3] [] h Q := xe_C_at (Nat.le_of_ble_eq_true rfl) rfl
theorem xs_72_0 : xe_P d 72 0 [.ref a, l1, l2] st h Q = xe_P d 72 1 [.ref a, l1, l2] (.ref a :: st) h Q := xe_P_lo (ins := .aload_n 0) (len := 1) (by decide +kernel) rfl rfl
theorem xs_72_1 : xe_P d 72 1 ls (.ref a :: st) h Q = (xe_ob h a 5 ∧ xe_P d 72 4 ls (.int (xe_I h a 8) :: st) h Q) := xe_P_getI (i := 49) (by decide +kernel) (by decide +kernel) (by decide) rfl
theorem xs_72_4 : xe_P d 72 4 ls (.int x :: st) h Q = (if 0 ≤ x then xe_P d 72 10 ls st h Q else xe_P d 72 7 ls st h Q) := xe_P_if (ins := .ifCond .ge 6) (len := 3) (off := 6) (by decide +kernel) (by decide) rfl rfl rfl
theorem xs_72_7 : xe_P d 72 7 ls st h Q = xe_P d 72 9 ls (.int (-4) :: st) h Q := xe_P_ar (ins := .bipush (-4)) (len := 2) (by decide +kernel) rfl
theorem xs_72_9 : xe_P d 72 9 ls [.int x] h Q = Q (some (.int x)) h := xe_P_ireturn (by decide +kernel) rfl
theorem xs_72_10 : xe_P d 72 10 [l0, .int x, l2] st h Q = xe_P d 72 11 [l0, .int x, l2] (.int x :: st) h Q := xe_P_lo (ins := .iload_n 1) (len := 1) (by decide +kernel) rfl rfl
theorem xs_72_11 : xe_P d 72 11 ls (.int x :: st) h Q = (if x = 0 then xe_P d 72 14 ls st h Q else xe_P d 72 19 ls st h Q) := xe_P_ifn (ins := .ifCond .ne 8) (len := 3) (off := 8) (by decide +kernel) (by decide) rfl rfl rfl
theorem xs_72_14 : xe_P d 72 14 [.ref a, l1, l2] st h Q = xe_P d 72 15 [.ref a, l1, l2] (.ref a :: st) h Q := xe_P_lo (ins := .aload_n 0) (len := 1) (by decide +kernel) rfl rfl
theorem xs_72_15 : xe_P d 72 15 ls (.ref a :: st) h Q = (xe_ob h a 5 ∧ xe_P d 72 18 ls (.int (xe_I h a 9) :: st) h Q) := xe_P_getI (i := 52) (by decide +kernel) (by decide +kernel) (by decide) rfl
theorem xs_72_18 : xe_P d 72 18 ls [.int x] h Q = Q (some (.int x)) h := xe_P_ireturn (by decide +kernel) rfl
theorem xs_72_19 : xe_P d 72 19 [l0, .int x, l2] st h Q = xe_P d 72 20 [l0, .int x, l2] (.int x :: st) h Q := xe_P_lo (ins := .iload_n 1) (len := 1) (by decide +kernel) rfl rfl
theorem xs_72_20 : xe_P d 72 20 ls st h Q = xe_P d 72 22 ls (.int 10 :: st) h Q := xe_P_ar (ins := .bipush 10) (len := 2) (by decide +kernel) rfl
theorem xs_72_22 : xe_P d 72 22 ls (.int v :: .int x :: st) h Q = xe_P d 72 23 ls (.int (x - v) :: st) h Q := xe_P_ar (ins := .isub) (len := 1) (by decide +kernel) rfl
theorem xs_72_23 : xe_P d 72 23 [l0, l1, l2] (.int x :: st) h Q = xe_P d 72 24 [l0, xe_cut l1, .int x] st h Q := xe_P_lo (ins := .istore_n 2) (len := 1) (by decide +kernel) rfl rfl
theorem xs_72_24 : xe_P d 72 24 [l0, l1, .int x] st h Q = xe_P d 72 25 [l0, l1, .int x] (.int x :: st) h Q := xe_P_lo (ins := .iload_n 2) (len := 1) (by decide +kernel) rfl rfl
theorem xs_72_25 : xe_P d 72 25 ls (.int x :: st) h Q = (if x < 0 then xe_P d 72 44 ls st h Q else xe_P d 72 28 ls st h Q) := xe_P_if (ins := .ifCond .lt 19) (len := 3) (off := 19) (by decide +kernel) (by decide) rfl rfl rfl
theorem xs_72_28 : xe_P d 72 28 [l0, l1, .int x] st h Q = xe_P d 72 29 [l0, l1, .int x] (.int x :: st) h Q := xe_P_lo (ins := .iload_n 2) (len := 1) (by decide +kernel) rfl rfl
theorem xs_72_29 : xe_P d 72 29 [.ref a, l1, l2] st h Q = xe_P d 72 30 [.ref a, l1, l2] (.ref a :: st) h Q := xe_P_lo (ins := .aload_n 0) (len := 1) (by decide +kernel) rfl rfl
theorem xs_72_30 : xe_P d 72 30 ls (.ref a :: st) h Q = (xe_ob h a 5 ∧ xe_P d 72 33 ls (.int (xe_I h a 9) :: st) h Q) := xe_P_getI (i := 52) (by decide +kernel) (by decide +kernel) (by decide) rfl
theorem xs_72_33 : xe_P d 72 33 ls (.int v :: .int x :: st) h Q = (if v ≤ x then xe_P d 72 44 ls st h Q else xe_P d 72 36 ls st h Q) := xe_P_if (ins := .if_icmp .ge 11) (len := 3) (off := 11) (by decide +kernel) (by decide) rfl rfl rfl
theorem xs_72_36 : xe_P d 72 36 [.ref a, l1, l2] st h Q = xe_P d 72 37 [.ref a, l1, l2] (.ref a :: st) h Q := xe_P_lo (ins := .aload_n 0) (len := 1) (by decide +kernel) rfl rfl
theorem xs_72_37 : xe_P d 72 37 [l0, l1, .int x] st h Q = xe_P d 72 38 [l0, l1, .int x] (.int x :: st) h Q := xe_P_lo (ins := .iload_n 2) (len := 1) (by decide +kernel) rfl rfl
theorem xs_72_38 : xe_P d 72 38 ls (v0 :: .ref a :: st) h Q = ((xe_w st ≤ 8 ∧ xe_ob h a 5) ∧ xe_C d 81 [.ref a, v0] h (fun r h' => xe_P d 72 41 ls (r.toList ++ st) h' Q)) := xe_P_ivv (y := 72) (pc := 38) (z := 81) (i := 55) (vs := [v0]) (by decide +kernel) (by decide +kernel) rfl (by decide +kernel)
theorem xs_72_41 : xe_P d 72 41 ls st h Q = xe_P d 72 46 ls st h Q := xe_P_go (len := 3) (off := 5) (by decide +kernel) (by decide)
theorem xs_72_44 : xe_P d 72 44 ls st h Q = xe_P d 72 46 ls (.int (-4) :: st) h Q := xe_P_ar (ins := .bipush (-4)) (len := 2) (by decide +kernel) rfl
theorem xs_72_46 : xe_P d 72 46 ls [.int x] h Q = Q (some (.int x)) h := xe_P_ireturn (by decide +kernel) rfl
theorem xs_72 : xe_C (d + 1) 72 [.ref a, .int x0] h Q = xe_P d 72 0 [.ref a, .int x0, .retAddr 0] [] h Q := xe_C_at (Nat.le_of_ble_eq_true rfl) rfl
theorem xs_73_0 : xe_P d 73 0 [.ref a, l1, l2, l3, l4] st h Q = xe_P d 73 1 [.ref a, l1, l2, l3, l4] (.ref a :: st) h Q := xe_P_lo (ins := .aload_n 0) (len := 1) (by decide +kernel) rfl rfl
theorem xs_73_1 : xe_P d 73 1 [l0, .ref a, l2, l3, l4] st h Q = xe_P d 73 2 [l0, .ref a, l2, l3, l4] (.ref a :: st) h Q := xe_P_lo (ins := .aload_n 1) (len := 1) (by decide +kernel) rfl rfl
theorem xs_73_2 : xe_P d 73 2 ls (.ref b :: .ref a :: st) h Q = ((xe_ob h a 5 ∧ b < xe_S) ∧ xe_P d 73 5 ls st (xe_sR h a 4 (some b)) Q) := xe_P_putR (i := 22) (by decide +kernel) (by decide +kernel) (by decide) (by decide +kernel) rfl
theorem xs_73_5 : xe_P d 73 5 [.ref a, l1, l2, l3, l4] st h Q = xe_P d 73 6 [.ref a, l1, l2, l3, l4] (.ref a :: st) h Q := xe_P_lo (ins := .aload_n 0) (len := 1) (by decide +kernel) rfl rfl
theorem xs_73_6 : xe_P d 73 6 ls st h Q = xe_P d 73 7 ls (.int 0 :: st) h Q := xe_P_ar (ins := .iconst 0) (len := 1) (by decide +kernel) rfl
theorem xs_73_7 : xe_P d 73 7 ls (.int v :: .ref a :: st) h Q = ((xe_ob h a 5 ∧ (v = 0 ∨ v = 1)) ∧ xe_P d 73 10 ls st (xe_sI h a 5 v) Q) := xe_P_putZ (i := 26) (by decide +kernel) (by decide +kernel) (by decide) (by decide +kernel) rfl
theorem xs_73_10 : xe_P d 73 10 [.ref a, l1, l2, l3, l4] st h Q = xe_P d 73 11 [.ref a, l1, l2, l3, l4] (.ref a :: st) h Q := xe_P_lo (ins := .aload_n 0) (len := 1) (by decide +kernel) rfl rfl
theorem xs_73_11 : xe_P d 73 11 ls st h Q = xe_P d 73 12 ls (.int (-1) :: st) h Q := xe_P_ar (ins := .iconst (-1)) (len := 1) (by decide +kernel) rfl
theorem xs_73_12 : xe_P d 73 12 ls (.int v :: .ref a :: st) h Q = (xe_ob h a 5 ∧ xe_P d 73 15 ls st (xe_sI h a 6 v) Q) := xe_P_putI (i := 35) (by decide +kernel) (by decide +kernel) (by decide) (by decide +kernel) rfl
theorem xs_73_15 : xe_P d 73 15 [.ref a, l1, l2, l3, l4] st h Q = xe_P d 73 16 [.ref a, l1, l2, l3, l4] (.ref a :: st) h Q := xe_P_lo (ins := .aload_n 0) (len := 1) (by decide +kernel) rfl rfl
theorem xs_73_16 : xe_P d 73 16 ls st h Q = xe_P d 73 17 ls (.int 0 :: st) h Q := xe_P_ar (ins := .iconst 0) (len := 1) (by decide +kernel) rfl
theorem xs_73_17 : xe_P d 73 17 ls (.int v :: .ref a :: st) h Q = (xe_ob h a 5 ∧ xe_P d 73 20 ls st (xe_sI h a 7 v) Q) := xe_P_putI (i := 39) (by decide +kernel) (by decide +kernel) (by decide) (by decide +kernel) rfl
theorem xs_73_20 : xe_P d 73 20 [.ref a, l1, l2, l3, l4] st h Q = xe_P d 73 21 [.ref a, l1, l2, l3, l4] (.ref a :: st) h Q := xe_P_lo (ins := .aload_n 0) (len := 1) (by decide +kernel) rfl rfl
theorem xs_73_21 : xe_P d 73 21 [.ref a, l1, l2, l3, l4] st h Q = xe_P d 73 22 [.ref a, l1, l2, l3, l4] (.ref a :: st) h Q := xe_P_lo (ins := .aload_n 0) (len := 1) (by decide +kernel) rfl rfl
theorem xs_73_22 : xe_P d 73 22 ls (.ref a :: st) h Q = (xe_ob h a 5 ∧ xe_P d 73 25 ls (va_rf (xe_R h a 4) :: st) h Q) := xe_P_getR (i := 22) (by decide +kernel) (by decide +kernel) (by decide) rfl
theorem xs_73_25 : xe_P d 73 25 ls (.ref a :: st) h Q = (xe_ob h a 3 ∧ xe_P d 73 28 ls (va_rf (xe_R h a 10) :: st) h Q) := xe_P_getR (i := 42) (by decide +kernel) (by decide +kernel) (by decide) rfl
theorem xs_73_28 : xe_P d 73 28 [l0, l1, .int x, l3, l4] st h Q = xe_P d 73 29 [l0, l1, .int x, l3, l4] (.int x :: st) h Q := xe_P_lo (ins := .iload_n 2) (len := 1) (by decide +kernel) rfl rfl
theorem xs_73_29 : xe_P d 73 29 ls (.int v :: .ref a :: st) h Q = ((xe_ia h a ∧ xe_ix h a v) ∧ xe_P d 73 30 ls (.int (xe_I h a v.toNatClampNeg) :: st) h Q) := xe_P_iald (by decide +kernel)
theorem xs_73_30 : xe_P d 73 30 ls st h Q = xe_P d 73 31 ls (.int 0 :: st) h Q := xe_P_ar (ins := .iconst 0) (len := 1) (by decide +kernel) rfl
theorem xs_73_31 : xe_P d 73 31 ls st h Q = xe_P d 73 33 ls (.int 1000000 :: st) h Q := xe_P_ldc (j := 59) (by decide +kernel) (by decide +kernel)
theorem xs_73_33 : xe_P d 73 33 ls (v2 :: v1 :: v0 :: .ref a :: st) h Q = ((xe_w st ≤ 8 ∧ xe_ob h a 5) ∧ xe_C d 75 [.ref a, v0, v1, v2] h (fun r h' => xe_P d 73 36 ls (r.toList ++ st) h' Q)) := xe_P_ivv (y := 73) (pc := 33) (z := 75) (i := 45) (vs := [v2, v1, v0]) (by decide +kernel) (by decide +kernel) rfl (by decide +kernel)
theorem xs_73_36 : xe_P d 73 36 ls st h Q = xe_P d 73 37 ls (.int 0 :: st) h Q := xe_P_ar (ins := .iconst 0) (len := 1) (by decide +kernel) rfl
theorem xs_73_37 : xe_P d 73 37 [l0, l1, l2, l3, l4] (.int x :: st) h Q = xe_P d 73 38 [l0, l1, xe_cut l2, .int x, l4] st h Q := xe_P_lo (ins := .istore_n 3) (len := 1) (by decide +kernel) rfl rfl
theorem xs_73_38 : xe_P d 73 38 ls st h Q = xe_P d 73 39 ls (.int 0 :: st) h Q := xe_P_ar (ins := .iconst 0) (len := 1) (by decide +kernel) rfl
theorem xs_73_39 : xe_P d 73 39 [l0, l1, l2, l3, l4] (.int x :: st) h Q = xe_P d 73 41 [l0, l1, l2, xe_cut l3, .int x] st h Q := xe_P_lo (ins := .istore 4) (len := 2) (by decide +kernel) rfl rfl
theorem xs_73_41 : xe_P d 73 41 [l0, l1, l2, l3, .int x] st h Q = xe_P d 73 43 [l0, l1, l2, l3, .int x] (.int x :: st) h Q := xe_P_lo (ins := .iload 4) (len := 2) (by decide +kernel) rfl rfl
theorem xs_73_43 : xe_P d 73 43 [.ref a, l1, l2, l3, l4] st h Q = xe_P d 73 44 [.ref a, l1, l2, l3, l4] (.ref a :: st) h Q := xe_P_lo (ins := .aload_n 0) (len := 1) (by decide +kernel) rfl rfl
theorem xs_73_44 : xe_P d 73 44 ls (.ref a :: st) h Q = (xe_ob h a 5 ∧ xe_P d 73 47 ls (.int (xe_I h a 2) :: st) h Q) := xe_P_getI (i := 60) (by decide +kernel) (by decide +kernel) (by decide) rfl
theorem xs_73_47 : xe_P d 73 47 ls (.int v :: .int x :: st) h Q = (if v ≤ x then xe_P d 73 73 ls st h Q else xe_P d 73 50 ls st h Q) := xe_P_if (ins := .if_icmp .ge 26) (len := 3) (off := 26) (by decide +kernel) (by decide) rfl rfl rfl
theorem xs_73_50 : xe_P d 73 50 [l0, l1, l2, .int x, l4] st h Q = xe_P d 73 51 [l0, l1, l2, .int x, l4] (.int x :: st) h Q := xe_P_lo (ins := .iload_n 3) (len := 1) (by decide +kernel) rfl rfl
theorem xs_73_51 : xe_P d 73 51 ls st h Q = xe_P d 73 52 ls (.int 1 :: st) h Q := xe_P_ar (ins := .iconst 1) (len := 1) (by decide +kernel) rfl
theorem xs_73_52 : xe_P d 73 52 [.ref a, l1, l2, l3, l4] st h Q = xe_P d 73 53 [.ref a, l1, l2, l3, l4] (.ref a :: st) h Q := xe_P_lo (ins := .aload_n 0) (len := 1) (by decide +kernel) rfl rfl
theorem xs_73_53 : xe_P d 73 53 ls (.ref a :: st) h Q = (xe_ob h a 5 ∧ xe_P d 73 56 ls (va_rf (xe_R h a 1) :: st) h Q) := xe_P_getR (i := 15) (by decide +kernel) (by decide +kernel) (by decide) rfl
theorem xs_73_56 : xe_P d 73 56 [l0, l1, l2, l3, .int x] st h Q = xe_P d 73 58 [l0, l1, l2, l3, .int x] (.int x :: st) h Q := xe_P_lo (ins := .iload 4) (len := 2) (by decide +kernel) rfl rfl
theorem xs_73_58 : xe_P d 73 58 ls (.int v :: .ref a :: st) h Q = ((xe_ob h a 9 ∧ xe_ix h a v) ∧ xe_P d 73 59 ls (.long (xe_L h a v.toNatClampNeg) :: st) h Q) := xe_P_lald (by decide +kernel)
theorem xs_73_59 : xe_P d 73 59 ls st h Q = xe_P d 73 61 ls (.int 18 :: st) h Q := xe_P_ar (ins := .bipush 18) (len := 2) (by decide +kernel) rfl
theorem xs_73_61 : xe_P d 73 61 ls (v1 :: v0 :: st) h Q = (xe_w st ≤ 8 ∧ xe_C d 80 [v0, v1] h (fun r h' => xe_P d 73 64 ls (r.toList ++ st) h' Q)) := xe_P_ivs (y := 73) (pc := 61) (z := 80) (i := 63) (vs := [v1, v0]) (by decide +kernel) (by decide +kernel) rfl
theorem xs_73_64 : xe_P d 73 64 ls (.int v :: .int x :: st) h Q = xe_P d 73 65 ls (.int (x <<< (v &&& 31)) :: st) h Q := xe_P_ar (ins := .ishl) (len := 1) (by decide +kernel) rfl
theorem xs_73_65 : xe_P d 73 65 ls (.int v :: .int x :: st) h Q = xe_P d 73 66 ls (.int (x ||| v) :: st) h Q := xe_P_ar (ins := .ior) (len := 1) (by decide +kernel) rfl
theorem xs_73_66 : xe_P d 73 66 [l0, l1, l2, l3, l4] (.int x :: st) h Q = xe_P d 73 67 [l0, l1, xe_cut l2, .int x, l4] st h Q := xe_P_lo (ins := .istore_n 3) (len := 1) (by decide +kernel) rfl rfl
theorem xs_73_67 : xe_P d 73 67 [l0, l1, l2, l3, .int x] st h Q = xe_P d 73 70 [l0, l1, l2, xe_cut l3, .int (x + 1)] st h Q := xe_P_lo (ins := .iinc 4 1) (len := 3) (by decide +kernel) rfl rfl
theorem xs_73_70 : xe_P d 73 70 ls st h Q = xe_P d 73 41 ls st h Q := xe_P_go (len := 3) (off := (-29)) (by decide +kernel) (by decide)
theorem xs_73_73 : xe_P d 73 73 [l0, l1, l2, .int x, l4] st h Q = xe_P d 73 74 [l0, l1, l2, .int x, l4] (.int x :: st) h Q := xe_P_lo (ins := .iload_n 3) (len := 1) (by decide +kernel) rfl rfl
theorem xs_73_74 : xe_P d 73 74 ls [.int x] h Q = Q (some (.int x)) h := xe_P_ireturn (by decide +kernel) rfl
theorem xs_73 : xe_C (d + 1) 73 [.ref a, .ref a0, .int x1] h Q = xe_P d 73 0 [.ref a, .ref a0, .int x1, .retAddr 0, .retAddr 0] [] h Q := xe_C_at (Nat.le_of_ble_eq_true rfl) rfl
theorem xs_74_0 : xe_P d 74 0 [.ref a, l1, l2, l3, l4, l5, l6, l7, l8] st h Q = xe_P d 74 1 [.ref a, l1, l2, l3, l4, l5, l6, l7, l8] (.ref a :: st) h Q := xe_P_lo (ins := .aload_n 0) (len := 1) (by decide +kernel) rfl rfl
theorem xs_74_1 : xe_P d 74 1 [l0, .ref a, l2, l3, l4, l5, l6, l7, l8] st h Q = xe_P d 74 2 [l0, .ref a, l2, l3, l4, l5, l6, l7, l8] (.ref a :: st) h Q := xe_P_lo (ins := .aload_n 1) (len := 1) (by decide +kernel) rfl rfl
theorem xs_74_2 : xe_P d 74 2 [l0, l1, .int x, l3, l4, l5, l6, l7, l8] st h Q = xe_P d 74 3 [l0, l1, .int x, l3, l4, l5, l6, l7, l8] (.int x :: st) h Q := xe_P_lo (ins := .iload_n 2) (len := 1) (by decide +kernel) rfl rfl
theorem xs_74_3 : xe_P d 74 3 ls st h Q = xe_P d 74 4 ls (.int (-1) :: st) h Q := xe_P_ar (ins := .iconst (-1)) (len := 1) (by decide +kernel) rfl
theorem xs_74_4 : xe_P d 74 4 ls st h Q = xe_P d 74 6 ls (.int 1000000 :: st) h Q := xe_P_ldc (j := 59) (by decide +kernel) (by decide +kernel)
theorem xs_74_6 : xe_P d 74 6 ls (v3 :: v2 :: v1 :: v0 :: .ref a :: st) h Q = ((xe_w st ≤ 8 ∧ xe_ob h a 5) ∧ xe_C d 71 [.ref a, v0, v1, v2, v3] h (fun r h' => xe_P d 74 9 ls (r.toList ++ st) h' Q)) := xe_P_ivv (y := 74) (pc := 6) (z := 71) (i := 67) (vs := [v3, v2, v1, v0]) (by decide +kernel) (by decide +kernel) rfl (by decide +kernel)
theorem xs_74_9 : xe_P d 74 9 [.ref a, l1, l2, l3, l4, l5, l6, l7, l8] st h Q = xe_P d 74 10 [.ref a, l1, l2, l3, l4, l5, l6, l7, l8] (.ref a :: st) h Q := xe_P_lo (ins := .aload_n 0) (len := 1) (by decide +kernel) rfl rfl
theorem xs_74_10 : xe_P d 74 10 ls (.ref a :: st) h Q = (xe_ob h a 5 ∧ xe_P d 74 13 ls (.int (xe_I h a 9) :: st) h Q) := xe_P_getI (i := 52) (by decide +kernel) (by decide +kernel) (by decide) rfl
theorem xs_74_13 : xe_P d 74 13 ls (.int x :: st) h Q = (if x = 0 then xe_P d 74 16 ls st h Q else xe_P d 74 26 ls st h Q) := xe_P_ifn (ins := .ifCond .ne 13) (len := 3) (off := 13) (by decide +kernel) (by decide) rfl rfl rfl
theorem xs_74_16 : xe_P d 74 16 [.ref a, l1, l2, l3, l4, l5, l6, l7, l8] st h Q = xe_P d 74 17 [.ref a, l1, l2, l3, l4, l5, l6, l7, l8] (.ref a :: st) h Q := xe_P_lo (ins := .aload_n 0) (len := 1) (by decide +kernel) rfl rfl
theorem xs_74_17 : xe_P d 74 17 ls (.ref a :: st) h Q = (xe_ob h a 5 ∧ xe_P d 74 20 ls (.int (xe_I h a 8) :: st) h Q) := xe_P_getI (i := 49) (by decide +kernel) (by decide +kernel) (by decide) rfl
theorem xs_74_20 : xe_P d 74 20 ls (.int x :: st) h Q = (if x < 0 then xe_P d 74 26 ls st h Q else xe_P d 74 23 ls st h Q) := xe_P_if (ins := .ifCond .lt 6) (len := 3) (off := 6) (by decide +kernel) (by decide) rfl rfl rfl
theorem xs_74_23 : xe_P d 74 23 ls st h Q = xe_P d 74 25 ls (.int (-4) :: st) h Q := xe_P_ar (ins := .bipush (-4)) (len := 2) (by decide +kernel) rfl
theorem xs_74_25 : xe_P d 74 25 ls [.int x] h Q = Q (some (.int x)) h := xe_P_ireturn (by decide +kernel) rfl
theorem xs_74_26 : xe_P d 74 26 [.ref a, l1, l2, l3, l4, l5, l6, l7, l8] st h Q = xe_P d 74 27 [.ref a, l1, l2, l3, l4, l5, l6, l7, l8] (.ref a :: st) h Q := xe_P_lo (ins := .aload_n 0) (len := 1) (by decide +kernel) rfl rfl
theorem xs_74_27 : xe_P d 74 27 ls (.ref a :: st) h Q = (xe_ob h a 5 ∧ xe_P d 74 30 ls (.int (xe_I h a 8) :: st) h Q) := xe_P_getI (i := 49) (by decide +kernel) (by decide +kernel) (by decide) rfl
theorem xs_74_30 : xe_P d 74 30 ls (.int x :: st) h Q = (if 0 ≤ x then xe_P d 74 38 ls st h Q else xe_P d 74 33 ls st h Q) := xe_P_if (ins := .ifCond .ge 8) (len := 3) (off := 8) (by decide +kernel) (by decide) rfl rfl rfl
theorem xs_74_33 : xe_P d 74 33 ls st h Q = xe_P d 74 35 ls (.int 1000000 :: st) h Q := xe_P_ldc (j := 59) (by decide +kernel) (by decide +kernel)
theorem xs_74_35 : xe_P d 74 35 ls st h Q = xe_P d 74 42 ls st h Q := xe_P_go (len := 3) (off := 7) (by decide +kernel) (by decide)
theorem xs_74_38 : xe_P d 74 38 [.ref a, l1, l2, l3, l4, l5, l6, l7, l8] st h Q = xe_P d 74 39 [.ref a, l1, l2, l3, l4, l5, l6, l7, l8] (.ref a :: st) h Q := xe_P_lo (ins := .aload_n 0) (len := 1) (by decide +kernel) rfl rfl
theorem xs_74_39 : xe_P d 74 39 ls (.ref a :: st) h Q = (xe_ob h a 5 ∧ xe_P d 74 42 ls (.int (xe_I h a 9) :: st) h Q) := xe_P_getI (i := 52) (by decide +kernel) (by decide +kernel) (by decide) rfl
theorem xs_74_42 : xe_P d 74 42 [l0, l1, l2, l3, l4, l5, l6, l7, l8] (.int x :: st) h Q = xe_P d 74 44 [l0, l1, l2, xe_cut l3, .int x, l5, l6, l7, l8] st h Q := xe_P_lo (ins := .istore 4) (len := 2) (by decide +kernel) rfl rfl
theorem xs_74_44 : xe_P d 74 44 ls st h Q = xe_P d 74 46 ls (.int (-4) :: st) h Q := xe_P_ar (ins := .bipush (-4)) (len := 2) (by decide +kernel) rfl
theorem xs_74_46 : xe_P d 74 46 [l0, l1, l2, l3, l4, l5, l6, l7, l8] (.int x :: st) h Q = xe_P d 74 48 [l0, l1, l2, l3, xe_cut l4, .int x, l6, l7, l8] st h Q := xe_P_lo (ins := .istore 5) (len := 2) (by decide +kernel) rfl rfl
theorem xs_74_48 : xe_P d 74 48 ls st h Q = xe_P d 74 49 ls (.int 0 :: st) h Q := xe_P_ar (ins := .iconst 0) (len := 1) (by decide +kernel) rfl
theorem xs_74_49 : xe_P d 74 49 [l0, l1, l2, l3, l4, l5, l6, l7, l8] (.int x :: st) h Q = xe_P d 74 51 [l0, l1, l2, l3, l4, xe_cut l5, .int x, l7, l8] st h Q := xe_P_lo (ins := .istore 6) (len := 2) (by decide +kernel) rfl rfl
theorem xs_74_51 : xe_P d 74 51 [l0, l1, l2, l3, l4, l5, .int x, l7, l8] st h Q = xe_P d 74 53 [l0, l1, l2, l3, l4, l5, .int x, l7, l8] (.int x :: st) h Q := xe_P_lo (ins := .iload 6) (len := 2) (by decide +kernel) rfl rfl
theorem xs_74_53 : xe_P d 74 53 [l0, .ref a, l2, l3, l4, l5, l6, l7, l8] st h Q = xe_P d 74 54 [l0, .ref a, l2, l3, l4, l5, l6, l7, l8] (.ref a :: st) h Q := xe_P_lo (ins := .aload_n 1) (len := 1) (by decide +kernel) rfl rfl
theorem xs_74_54 : xe_P d 74 54 ls (.ref a :: st) h Q = (xe_ob h a 3 ∧ xe_P d 74 57 ls (.int (xe_I h a 1) :: st) h Q) := xe_P_getI (i := 71) (by decide +kernel) (by decide +kernel) (by decide) rfl
theorem xs_74_57 : xe_P d 74 57 ls (.int v :: .int x :: st) h Q = (if v ≤ x then xe_P d 74 176 ls st h Q else xe_P d 74 60 ls st h Q) := xe_P_if (ins := .if_icmp .ge 119) (len := 3) (off := 119) (by decide +kernel) (by decide) rfl rfl rfl
theorem xs_74_60 : xe_P d 74 60 [l0, .ref a, l2, l3, l4, l5, l6, l7, l8] st h Q = xe_P d 74 61 [l0, .ref a, l2, l3, l4, l5, l6, l7, l8] (.ref a :: st) h Q := xe_P_lo (ins := .aload_n 1) (len := 1) (by decide +kernel) rfl rfl
theorem xs_74_61 : xe_P d 74 61 ls (.ref a :: st) h Q = (xe_ob h a 3 ∧ xe_P d 74 64 ls (va_rf (xe_R h a 9) :: st) h Q) := xe_P_getR (i := 74) (by decide +kernel) (by decide +kernel) (by decide) rfl
theorem xs_74_64 : xe_P d 74 64 [l0, l1, l2, l3, l4, l5, .int x, l7, l8] st h Q = xe_P d 74 66 [l0, l1, l2, l3, l4, l5, .int x, l7, l8] (.int x :: st) h Q := xe_P_lo (ins := .iload 6) (len := 2) (by decide +kernel) rfl rfl
theorem xs_74_66 : xe_P d 74 66 ls (.int v :: .ref a :: st) h Q = ((xe_ia h a ∧ xe_ix h a v) ∧ xe_P d 74 67 ls (.int (xe_I h a v.toNatClampNeg) :: st) h Q) := xe_P_iald (by decide +kernel)
theorem xs_74_67 : xe_P d 74 67 [l0, l1, l2, l3, l4, l5, l6, l7, l8] (.int x :: st) h Q = xe_P d 74 69 [l0, l1, l2, l3, l4, l5, xe_cut l6, .int x, l8] st h Q := xe_P_lo (ins := .istore 7) (len := 2) (by decide +kernel) rfl rfl
theorem xs_74_69 : xe_P d 74 69 ls st h Q = xe_P d 74 70 ls (.int 0 :: st) h Q := xe_P_ar (ins := .iconst 0) (len := 1) (by decide +kernel) rfl
theorem xs_74_70 : xe_P d 74 70 [l0, l1, l2, l3, l4, l5, l6, l7, l8] (.int x :: st) h Q = xe_P d 74 72 [l0, l1, l2, l3, l4, l5, l6, xe_cut l7, .int x] st h Q := xe_P_lo (ins := .istore 8) (len := 2) (by decide +kernel) rfl rfl
theorem xs_74_72 : xe_P d 74 72 [l0, l1, l2, l3, l4, l5, l6, l7, .int x] st h Q = xe_P d 74 74 [l0, l1, l2, l3, l4, l5, l6, l7, .int x] (.int x :: st) h Q := xe_P_lo (ins := .iload 8) (len := 2) (by decide +kernel) rfl rfl
theorem xs_74_74 : xe_P d 74 74 ls st h Q = xe_P d 74 76 ls (.int 6 :: st) h Q := xe_P_ar (ins := .bipush 6) (len := 2) (by decide +kernel) rfl
theorem xs_74_76 : xe_P d 74 76 ls (.int v :: .int x :: st) h Q = (if v < x then xe_P d 74 161 ls st h Q else xe_P d 74 79 ls st h Q) := xe_P_if (ins := .if_icmp .gt 85) (len := 3) (off := 85) (by decide +kernel) (by decide) rfl rfl rfl
theorem xs_74_79 : xe_P d 74 79 [l0, l1, l2, l3, l4, l5, l6, l7, .int x] st h Q = xe_P d 74 81 [l0, l1, l2, l3, l4, l5, l6, l7, .int x] (.int x :: st) h Q := xe_P_lo (ins := .iload 8) (len := 2) (by decide +kernel) rfl rfl
theorem xs_74_81 : xe_P d 74 81 [l0, l1, l2, l3, l4, l5, .int x, l7, l8] st h Q = xe_P d 74 83 [l0, l1, l2, l3, l4, l5, .int x, l7, l8] (.int x :: st) h Q := xe_P_lo (ins := .iload 6) (len := 2) (by decide +kernel) rfl rfl
theorem xs_74_83 : xe_P d 74 83 ls (.int v :: .int x :: st) h Q = (if x = v then xe_P d 74 155 ls st h Q else xe_P d 74 86 ls st h Q) := xe_P_if (ins := .if_icmp .eq 72) (len := 3) (off := 72) (by decide +kernel) (by decide) rfl rfl rfl
theorem xs_74_86 : xe_P d 74 86 [l0, l1, l2, l3, l4, l5, l6, l7, .int x] st h Q = xe_P d 74 88 [l0, l1, l2, l3, l4, l5, l6, l7, .int x] (.int x :: st) h Q := xe_P_lo (ins := .iload 8) (len := 2) (by decide +kernel) rfl rfl
theorem xs_74_88 : xe_P d 74 88 [l0, l1, l2, l3, l4, l5, l6, .int x, l8] st h Q = xe_P d 74 90 [l0, l1, l2, l3, l4, l5, l6, .int x, l8] (.int x :: st) h Q := xe_P_lo (ins := .iload 7) (len := 2) (by decide +kernel) rfl rfl
theorem xs_74_90 : xe_P d 74 90 ls (.int v :: .int x :: st) h Q = (if x = v then xe_P d 74 155 ls st h Q else xe_P d 74 93 ls st h Q) := xe_P_if (ins := .if_icmp .eq 65) (len := 3) (off := 65) (by decide +kernel) (by decide) rfl rfl rfl
theorem xs_74_93 : xe_P d 74 93 [l0, l1, l2, l3, l4, l5, l6, l7, .int x] st h Q = xe_P d 74 95 [l0, l1, l2, l3, l4, l5, l6, l7, .int x] (.int x :: st) h Q := xe_P_lo (ins := .iload 8) (len := 2) (by decide +kernel) rfl rfl
theorem xs_74_95 : xe_P d 74 95 ls st h Q = xe_P d 74 97 ls (.int 6 :: st) h Q := xe_P_ar (ins := .bipush 6) (len := 2) (by decide +kernel) rfl
theorem xs_74_97 : xe_P d 74 97 ls (.int v :: .int x :: st) h Q = (if x = v then xe_P d 74 112 ls st h Q else xe_P d 74 100 ls st h Q) := xe_P_if (ins := .if_icmp .eq 15) (len := 3) (off := 15) (by decide +kernel) (by decide) rfl rfl rfl
theorem xs_74_100 : xe_P d 74 100 [l0, .ref a, l2, l3, l4, l5, l6, l7, l8] st h Q = xe_P d 74 101 [l0, .ref a, l2, l3, l4, l5, l6, l7, l8] (.ref a :: st) h Q := xe_P_lo (ins := .aload_n 1) (len := 1) (by decide +kernel) rfl rfl
theorem xs_74_101 : xe_P d 74 101 [l0, l1, l2, l3, l4, l5, l6, l7, .int x] st h Q = xe_P d 74 103 [l0, l1, l2, l3, l4, l5, l6, l7, .int x] (.int x :: st) h Q := xe_P_lo (ins := .iload 8) (len := 2) (by decide +kernel) rfl rfl
theorem xs_74_103 : xe_P d 74 103 ls (v0 :: .ref a :: st) h Q = ((xe_w st ≤ 8 ∧ xe_ob h a 3) ∧ xe_C d 41 [.ref a, v0] h (fun r h' => xe_P d 74 106 ls (r.toList ++ st) h' Q)) := xe_P_ivv (y := 74) (pc := 103) (z := 41) (i := 77) (vs := [v0]) (by decide +kernel) (by decide +kernel) rfl (by decide +kernel)
theorem xs_74_106 : xe_P d 74 106 ls (.int x :: st) h Q = (if x = 0 then xe_P d 74 109 ls st h Q else xe_P d 74 112 ls st h Q) := xe_P_ifn (ins := .ifCond .ne 6) (len := 3) (off := 6) (by decide +kernel) (by decide) rfl rfl rfl
theorem xs_74_109 : xe_P d 74 109 ls st h Q = xe_P d 74 155 ls st h Q := xe_P_go (len := 3) (off := 46) (by decide +kernel) (by decide)
theorem xs_74_112 : xe_P d 74 112 [l0, .ref a, l2, l3, l4, l5, l6, l7, l8] st h Q = xe_P d 74 113 [l0, .ref a, l2, l3, l4, l5, l6, l7, l8] (.ref a :: st) h Q := xe_P_lo (ins := .aload_n 1) (len := 1) (by decide +kernel) rfl rfl
theorem xs_74_113 : xe_P d 74 113 ls (.ref a :: st) h Q = (xe_ob h a 3 ∧ xe_P d 74 116 ls (va_rf (xe_R h a 9) :: st) h Q) := xe_P_getR (i := 74) (by decide +kernel) (by decide +kernel) (by decide) rfl
theorem xs_74_116 : xe_P d 74 116 [l0, l1, l2, l3, l4, l5, .int x, l7, l8] st h Q = xe_P d 74 118 [l0, l1, l2, l3, l4, l5, .int x, l7, l8] (.int x :: st) h Q := xe_P_lo (ins := .iload 6) (len := 2) (by decide +kernel) rfl rfl
theorem xs_74_118 : xe_P d 74 118 [l0, l1, l2, l3, l4, l5, l6, l7, .int x] st h Q = xe_P d 74 120 [l0, l1, l2, l3, l4, l5, l6, l7, .int x] (.int x :: st) h Q := xe_P_lo (ins := .iload 8) (len := 2) (by decide +kernel) rfl rfl
theorem xs_74_120 : xe_P d 74 120 ls (.int x :: .int v :: .ref a :: st) h Q = ((xe_ob h a 8 ∧ xe_ix h a v) ∧ xe_P d 74 121 ls st (xe_sI h a v.toNatClampNeg x) Q) := xe_P_iast (by decide +kernel)
theorem xs_74_121 : xe_P d 74 121 [.ref a, l1, l2, l3, l4, l5, l6, l7, l8] st h Q = xe_P d 74 122 [.ref a, l1, l2, l3, l4, l5, l6, l7, l8] (.ref a :: st) h Q := xe_P_lo (ins := .aload_n 0) (len := 1) (by decide +kernel) rfl rfl
theorem xs_74_122 : xe_P d 74 122 [l0, .ref a, l2, l3, l4, l5, l6, l7, l8] st h Q = xe_P d 74 123 [l0, .ref a, l2, l3, l4, l5, l6, l7, l8] (.ref a :: st) h Q := xe_P_lo (ins := .aload_n 1) (len := 1) (by decide +kernel) rfl rfl
theorem xs_74_123 : xe_P d 74 123 [l0, l1, .int x, l3, l4, l5, l6, l7, l8] st h Q = xe_P d 74 124 [l0, l1, .int x, l3, l4, l5, l6, l7, l8] (.int x :: st) h Q := xe_P_lo (ins := .iload_n 2) (len := 1) (by decide +kernel) rfl rfl
theorem xs_74_124 : xe_P d 74 124 ls st h Q = xe_P d 74 125 ls (.int (-1) :: st) h Q := xe_P_ar (ins := .iconst (-1)) (len := 1) (by decide +kernel) rfl
theorem xs_74_125 : xe_P d 74 125 [l0, l1, l2, l3, .int x, l5, l6, l7, l8] st h Q = xe_P d 74 127 [l0, l1, l2, l3, .int x, l5, l6, l7, l8] (.int x :: st) h Q := xe_P_lo (ins := .iload 4) (len := 2) (by decide +kernel) rfl rfl
theorem xs_74_127 : xe_P d 74 127 ls st h Q = xe_P d 74 128 ls (.int 1 :: st) h Q := xe_P_ar (ins := .iconst 1) (len := 1) (by decide +kernel) rfl
theorem xs_74_128 : xe_P d 74 128 ls (.int v :: .int x :: st) h Q = xe_P d 74 129 ls (.int (x - v) :: st) h Q := xe_P_ar (ins := .isub) (len := 1) (by decide +kernel) rfl
theorem xs_74_129 : xe_P d 74 129 ls (v3 :: v2 :: v1 :: v0 :: .ref a :: st) h Q = ((xe_w st ≤ 8 ∧ xe_ob h a 5) ∧ xe_C d 71 [.ref a, v0, v1, v2, v3] h (fun r h' => xe_P d 74 132 ls (r.toList ++ st) h' Q)) := xe_P_ivv (y := 74) (pc := 129) (z := 71) (i := 67) (vs := [v3, v2, v1, v0]) (by decide +kernel) (by decide +kernel) rfl (by decide +kernel)
theorem xs_74_132 : xe_P d 74 132 [.ref a, l1, l2, l3, l4, l5, l6, l7, l8] st h Q = xe_P d 74 133 [.ref a, l1, l2, l3, l4, l5, l6, l7, l8] (.ref a :: st) h Q := xe_P_lo (ins := .aload_n 0) (len := 1) (by decide +kernel) rfl rfl
theorem xs_74_133 : xe_P d 74 133 ls (.ref a :: st) h Q = (xe_ob h a 5 ∧ xe_P d 74 136 ls (.int (xe_I h a 8) :: st) h Q) := xe_P_getI (i := 49) (by decide +kernel) (by decide +kernel) (by decide) rfl
theorem xs_74_136 : xe_P d 74 136 ls (.int x :: st) h Q = (if x < 0 then xe_P d 74 155 ls st h Q else xe_P d 74 139 ls st h Q) := xe_P_if (ins := .ifCond .lt 19) (len := 3) (off := 19) (by decide +kernel) (by decide) rfl rfl rfl
theorem xs_74_139 : xe_P d 74 139 [.ref a, l1, l2, l3, l4, l5, l6, l7, l8] st h Q = xe_P d 74 140 [.ref a, l1, l2, l3, l4, l5, l6, l7, l8] (.ref a :: st) h Q := xe_P_lo (ins := .aload_n 0) (len := 1) (by decide +kernel) rfl rfl
theorem xs_74_140 : xe_P d 74 140 ls (.ref a :: st) h Q = (xe_ob h a 5 ∧ xe_P d 74 143 ls (.int (xe_I h a 9) :: st) h Q) := xe_P_getI (i := 52) (by decide +kernel) (by decide +kernel) (by decide) rfl
theorem xs_74_143 : xe_P d 74 143 [l0, l1, l2, l3, l4, l5, l6, l7, l8] (.int x :: st) h Q = xe_P d 74 145 [l0, l1, l2, xe_cut l3, .int x, l5, l6, l7, l8] st h Q := xe_P_lo (ins := .istore 4) (len := 2) (by decide +kernel) rfl rfl
theorem xs_74_145 : xe_P d 74 145 ls st h Q = xe_P d 74 147 ls (.int 10 :: st) h Q := xe_P_ar (ins := .bipush 10) (len := 2) (by decide +kernel) rfl
theorem xs_74_147 : xe_P d 74 147 [l0, l1, l2, l3, l4, l5, .int x, l7, l8] st h Q = xe_P d 74 149 [l0, l1, l2, l3, l4, l5, .int x, l7, l8] (.int x :: st) h Q := xe_P_lo (ins := .iload 6) (len := 2) (by decide +kernel) rfl rfl
theorem xs_74_149 : xe_P d 74 149 ls (.int v :: .int x :: st) h Q = xe_P d 74 150 ls (.int (x * v) :: st) h Q := xe_P_ar (ins := .imul) (len := 1) (by decide +kernel) rfl
theorem xs_74_150 : xe_P d 74 150 [l0, l1, l2, l3, l4, l5, l6, l7, .int x] st h Q = xe_P d 74 152 [l0, l1, l2, l3, l4, l5, l6, l7, .int x] (.int x :: st) h Q := xe_P_lo (ins := .iload 8) (len := 2) (by decide +kernel) rfl rfl
theorem xs_74_152 : xe_P d 74 152 ls (.int v :: .int x :: st) h Q = xe_P d 74 153 ls (.int (x + v) :: st) h Q := xe_P_ar (ins := .iadd) (len := 1) (by decide +kernel) rfl
theorem xs_74_153 : xe_P d 74 153 [l0, l1, l2, l3, l4, l5, l6, l7, l8] (.int x :: st) h Q = xe_P d 74 155 [l0, l1, l2, l3, xe_cut l4, .int x, l6, l7, l8] st h Q := xe_P_lo (ins := .istore 5) (len := 2) (by decide +kernel) rfl rfl
theorem xs_74_155 : xe_P d 74 155 [l0, l1, l2, l3, l4, l5, l6, l7, .int x] st h Q = xe_P d 74 158 [l0, l1, l2, l3, l4, l5, l6, xe_cut l7, .int (x + 1)] st h Q := xe_P_lo (ins := .iinc 8 1) (len := 3) (by decide +kernel) rfl rfl
theorem xs_74_158 : xe_P d 74 158 ls st h Q = xe_P d 74 72 ls st h Q := xe_P_go (len := 3) (off := (-86)) (by decide +kernel) (by decide)
theorem xs_74_161 : xe_P d 74 161 [l0, .ref a, l2, l3, l4, l5, l6, l7, l8] st h Q = xe_P d 74 162 [l0, .ref a, l2, l3, l4, l5, l6, l7, l8] (.ref a :: st) h Q := xe_P_lo (ins := .aload_n 1) (len := 1) (by decide +kernel) rfl rfl
theorem xs_74_162 : xe_P d 74 162 ls (.ref a :: st) h Q = (xe_ob h a 3 ∧ xe_P d 74 165 ls (va_rf (xe_R h a 9) :: st) h Q) := xe_P_getR (i := 74) (by decide +kernel) (by decide +kernel) (by decide) rfl
theorem xs_74_165 : xe_P d 74 165 [l0, l1, l2, l3, l4, l5, .int x, l7, l8] st h Q = xe_P d 74 167 [l0, l1, l2, l3, l4, l5, .int x, l7, l8] (.int x :: st) h Q := xe_P_lo (ins := .iload 6) (len := 2) (by decide +kernel) rfl rfl
theorem xs_74_167 : xe_P d 74 167 [l0, l1, l2, l3, l4, l5, l6, .int x, l8] st h Q = xe_P d 74 169 [l0, l1, l2, l3, l4, l5, l6, .int x, l8] (.int x :: st) h Q := xe_P_lo (ins := .iload 7) (len := 2) (by decide +kernel) rfl rfl
theorem xs_74_169 : xe_P d 74 169 ls (.int x :: .int v :: .ref a :: st) h Q = ((xe_ob h a 8 ∧ xe_ix h a v) ∧ xe_P d 74 170 ls st (xe_sI h a v.toNatClampNeg x) Q) := xe_P_iast (by decide +kernel)
theorem xs_74_170 : xe_P d 74 170 [l0, l1, l2, l3, l4, l5, .int x, l7, l8] st h Q = xe_P d 74 173 [l0, l1, l2, l3, l4, xe_cut l5, .int (x + 1), l7, l8] st h Q := xe_P_lo (ins := .iinc 6 1) (len := 3) (by decide +kernel) rfl rfl
theorem xs_74_173 : xe_P d 74 173 ls st h Q = xe_P d 74 51 ls st h Q := xe_P_go (len := 3) (off := (-122)) (by decide +kernel) (by decide)
theorem xs_74_176 : xe_P d 74 176 [l0, l1, l2, l3, l4, .int x, l6, l7, l8] st h Q = xe_P d 74 178 [l0, l1, l2, l3, l4, .int x, l6, l7, l8] (.int x :: st) h Q := xe_P_lo (ins := .iload 5) (len := 2) (by decide +kernel) rfl rfl
theorem xs_74_178 : xe_P d 74 178 ls st h Q = xe_P d 74 180 ls (.int (-4) :: st) h Q := xe_P_ar (ins := .bipush (-4)) (len := 2) (by decide +kernel) rfl
theorem xs_74_180 : xe_P d 74 180 ls (.int v :: .int x :: st) h Q = (if x = v then xe_P d 74 187 ls st h Q else xe_P d 74 183 ls st h Q) := xe_P_if (ins := .if_icmp .eq 7) (len := 3) (off := 7) (by decide +kernel) (by decide) rfl rfl rfl
theorem xs_74_183 : xe_P d 74 183 [l0, l1, l2, .int x, l4, l5, l6, l7, l8] st h Q = xe_P d 74 184 [l0, l1, l2, .int x, l4, l5, l6, l7, l8] (.int x :: st) h Q := xe_P_lo (ins := .iload_n 3) (len := 1) (by decide +kernel) rfl rfl
theorem xs_74_184 : xe_P d 74 184 ls (.int x :: st) h Q = (if x = 0 then xe_P d 74 187 ls st h Q else xe_P d 74 192 ls st h Q) := xe_P_ifn (ins := .ifCond .ne 8) (len := 3) (off := 8) (by decide +kernel) (by decide) rfl rfl rfl
theorem xs_74_187 : xe_P d 74 187 [l0, l1, l2, l3, l4, .int x, l6, l7, l8] st h Q = xe_P d 74 189 [l0, l1, l2, l3, l4, .int x, l6, l7, l8] (.int x :: st) h Q := xe_P_lo (ins := .iload 5) (len := 2) (by decide +kernel) rfl rfl
theorem xs_74_189 : xe_P d 74 189 ls st h Q = xe_P d 74 194 ls st h Q := xe_P_go (len := 3) (off := 5) (by decide +kernel) (by decide)
theorem xs_74_192 : xe_P d 74 192 [l0, l1, l2, l3, .int x, l5, l6, l7, l8] st h Q = xe_P d 74 194 [l0, l1, l2, l3, .int x, l5, l6, l7, l8] (.int x :: st) h Q := xe_P_lo (ins := .iload 4) (len := 2) (by decide +kernel) rfl rfl
theorem xs_74_194 : xe_P d 74 194 ls [.int x] h Q = Q (some (.int x)) h := xe_P_ireturn (by decide +kernel) rfl
theorem xs_74 : xe_C (d + 1) 74 [.ref a, .ref a0, .int x1, .int x2] h Q = xe_P d 74 0 [.ref a, .ref a0, .int x1, .int x2, .retAddr 0, .retAddr 0, .retAddr 0, .retAddr 0, .retAddr 0] [] h Q := xe_C_at (Nat.le_of_ble_eq_true rfl) rfl
theorem xs_75_0 : xe_P d 75 0 [.ref a, l1, l2, l3, l4, l5] st h Q = xe_P d 75 1 [.ref a, l1, l2, l3, l4, l5] (.ref a :: st) h Q := xe_P_lo (ins := .aload_n 0) (len := 1) (by decide +kernel) rfl rfl
theorem xs_75_1 : xe_P d 75 1 ls (.ref a :: st) h Q = (xe_ob h a 5 ∧ xe_P d 75 4 ls (va_rf (xe_R h a 0) :: st) h Q) := xe_P_getR (i := 11) (by decide +kernel) (by decide +kernel) (by decide) rfl
theorem xs_75_4 : xe_P d 75 4 ls st h Q = xe_P d 75 5 ls (.int 0 :: st) h Q := xe_P_ar (ins := .iconst 0) (len := 1) (by decide +kernel) rfl
theorem xs_75_5 : xe_P d 75 5 [.ref a, l1, l2, l3, l4, l5] st h Q = xe_P d 75 6 [.ref a, l1, l2, l3, l4, l5] (.ref a :: st) h Q := xe_P_lo (ins := .aload_n 0) (len := 1) (by decide +kernel) rfl rfl
theorem xs_75_6 : xe_P d 75 6 ls (.ref a :: st) h Q = (xe_ob h a 5 ∧ xe_P d 75 9 ls (.int (xe_I h a 5) :: st) h Q) := xe_P_getI (i := 26) (by decide +kernel) (by decide +kernel) (by decide) rfl
theorem xs_75_9 : xe_P d 75 9 ls (.int x :: st) h Q = (if x = 0 then xe_P d 75 20 ls st h Q else xe_P d 75 12 ls st h Q) := xe_P_if (ins := .ifCond .eq 11) (len := 3) (off := 11) (by decide +kernel) (by decide) rfl rfl rfl
theorem xs_75_12 : xe_P d 75 12 [.ref a, l1, l2, l3, l4, l5] st h Q = xe_P d 75 13 [.ref a, l1, l2, l3, l4, l5] (.ref a :: st) h Q := xe_P_lo (ins := .aload_n 0) (len := 1) (by decide +kernel) rfl rfl
theorem xs_75_13 : xe_P d 75 13 ls (.ref a :: st) h Q = (xe_ob h a 5 ∧ xe_P d 75 16 ls (va_rf (xe_R h a 0) :: st) h Q) := xe_P_getR (i := 11) (by decide +kernel) (by decide +kernel) (by decide) rfl
theorem xs_75_16 : xe_P d 75 16 ls (.ref a :: st) h Q = (xe_al h a ∧ xe_P d 75 17 ls (.int (Int32.ofNat (xe_N h a)) :: st) h Q) := xe_P_alen (by decide +kernel)
theorem xs_75_17 : xe_P d 75 17 ls st h Q = xe_P d 75 23 ls st h Q := xe_P_go (len := 3) (off := 6) (by decide +kernel) (by decide)
theorem xs_75_20 : xe_P d 75 20 ls st h Q = xe_P d 75 23 ls (.int 320 :: st) h Q := xe_P_ar (ins := .sipush 320) (len := 3) (by decide +kernel) rfl
theorem xs_75_23 : xe_P d 75 23 ls st h Q = xe_P d 75 24 ls (.long 0 :: st) h Q := xe_P_ar (ins := .lconst 0) (len := 1) (by decide +kernel) rfl
theorem xs_75_24 : xe_P d 75 24 ls (v3 :: v2 :: v1 :: v0 :: st) h Q = (xe_w st ≤ 8 ∧ xe_C d 214 [v0, v1, v2, v3] h (fun r h' => xe_P d 75 27 ls (r.toList ++ st) h' Q)) := xe_P_ivs (y := 75) (pc := 24) (z := 214) (i := 81) (vs := [v3, v2, v1, v0]) (by decide +kernel) (by decide +kernel) rfl
theorem xs_75_27 : xe_P d 75 27 [.ref a, l1, l2, l3, l4, l5] st h Q = xe_P d 75 28 [.ref a, l1, l2, l3, l4, l5] (.ref a :: st) h Q := xe_P_lo (ins := .aload_n 0) (len := 1) (by decide +kernel) rfl rfl
theorem xs_75_28 : xe_P d 75 28 ls st h Q = xe_P d 75 29 ls (.int 0 :: st) h Q := xe_P_ar (ins := .iconst 0) (len := 1) (by decide +kernel) rfl
theorem xs_75_29 : xe_P d 75 29 ls (.int v :: .ref a :: st) h Q = (xe_ob h a 5 ∧ xe_P d 75 32 ls st (xe_sI h a 2 v) Q) := xe_P_putI (i := 60) (by decide +kernel) (by decide +kernel) (by decide) (by decide +kernel) rfl
theorem xs_75_32 : xe_P d 75 32 [.ref a, l1, l2, l3, l4, l5] st h Q = xe_P d 75 33 [.ref a, l1, l2, l3, l4, l5] (.ref a :: st) h Q := xe_P_lo (ins := .aload_n 0) (len := 1) (by decide +kernel) rfl rfl
theorem xs_75_33 : xe_P d 75 33 ls st h Q = xe_P d 75 34 ls (.int (-1) :: st) h Q := xe_P_ar (ins := .iconst (-1)) (len := 1) (by decide +kernel) rfl
theorem xs_75_34 : xe_P d 75 34 ls (.int v :: .ref a :: st) h Q = (xe_ob h a 5 ∧ xe_P d 75 37 ls st (xe_sI h a 8 v) Q) := xe_P_putI (i := 49) (by decide +kernel) (by decide +kernel) (by decide) (by decide +kernel) rfl
theorem xs_75_37 : xe_P d 75 37 [.ref a, l1, l2, l3, l4, l5] st h Q = xe_P d 75 38 [.ref a, l1, l2, l3, l4, l5] (.ref a :: st) h Q := xe_P_lo (ins := .aload_n 0) (len := 1) (by decide +kernel) rfl rfl
theorem xs_75_38 : xe_P d 75 38 ls st h Q = xe_P d 75 39 ls (.int 0 :: st) h Q := xe_P_ar (ins := .iconst 0) (len := 1) (by decide +kernel) rfl
theorem xs_75_39 : xe_P d 75 39 ls (.int v :: .ref a :: st) h Q = (xe_ob h a 5 ∧ xe_P d 75 42 ls st (xe_sI h a 9 v) Q) := xe_P_putI (i := 52) (by decide +kernel) (by decide +kernel) (by decide) (by decide +kernel) rfl
theorem xs_75_42 : xe_P d 75 42 [.ref a, l1, l2, l3, l4, l5] st h Q = xe_P d 75 43 [.ref a, l1, l2, l3, l4, l5] (.ref a :: st) h Q := xe_P_lo (ins := .aload_n 0) (len := 1) (by decide +kernel) rfl rfl
theorem xs_75_43 : xe_P d 75 43 [.ref a, l1, l2, l3, l4, l5] st h Q = xe_P d 75 44 [.ref a, l1, l2, l3, l4, l5] (.ref a :: st) h Q := xe_P_lo (ins := .aload_n 0) (len := 1) (by decide +kernel) rfl rfl
theorem xs_75_44 : xe_P d 75 44 ls (.ref a :: st) h Q = (xe_ob h a 5 ∧ xe_P d 75 47 ls (va_rf (xe_R h a 4) :: st) h Q) := xe_P_getR (i := 22) (by decide +kernel) (by decide +kernel) (by decide) rfl
theorem xs_75_47 : xe_P d 75 47 ls (.ref a :: st) h Q = (xe_ob h a 3 ∧ xe_P d 75 50 ls (.int (xe_I h a 6) :: st) h Q) := xe_P_getI (i := 87) (by decide +kernel) (by decide +kernel) (by decide) rfl
theorem xs_75_50 : xe_P d 75 50 [l0, .int x, l2, l3, l4, l5] st h Q = xe_P d 75 51 [l0, .int x, l2, l3, l4, l5] (.int x :: st) h Q := xe_P_lo (ins := .iload_n 1) (len := 1) (by decide +kernel) rfl rfl
theorem xs_75_51 : xe_P d 75 51 [l0, l1, .int x, l3, l4, l5] st h Q = xe_P d 75 52 [l0, l1, .int x, l3, l4, l5] (.int x :: st) h Q := xe_P_lo (ins := .iload_n 2) (len := 1) (by decide +kernel) rfl rfl
theorem xs_75_52 : xe_P d 75 52 ls st h Q = xe_P d 75 53 ls (.int 0 :: st) h Q := xe_P_ar (ins := .iconst 0) (len := 1) (by decide +kernel) rfl
theorem xs_75_53 : xe_P d 75 53 ls st h Q = xe_P d 75 54 ls (.int 0 :: st) h Q := xe_P_ar (ins := .iconst 0) (len := 1) (by decide +kernel) rfl
theorem xs_75_54 : xe_P d 75 54 ls (v4 :: v3 :: v2 :: v1 :: v0 :: .ref a :: st) h Q = ((xe_w st ≤ 8 ∧ xe_ob h a 5) ∧ xe_C d 78 [.ref a, v0, v1, v2, v3, v4] h (fun r h' => xe_P d 75 57 ls (r.toList ++ st) h' Q)) := xe_P_ivv (y := 75) (pc := 54) (z := 78) (i := 90) (vs := [v4, v3, v2, v1, v0]) (by decide +kernel) (by decide +kernel) rfl (by decide +kernel)
theorem xs_75_57 : xe_P d 75 57 ls (.int x :: st) h Q = xe_P d 75 58 ls st h Q := xe_P_ar (ins := .pop) (len := 1) (by decide +kernel) rfl
theorem xs_75_58 : xe_P d 75 58 [.ref a, l1, l2, l3, l4, l5] st h Q = xe_P d 75 59 [.ref a, l1, l2, l3, l4, l5] (.ref a :: st) h Q := xe_P_lo (ins := .aload_n 0) (len := 1) (by decide +kernel) rfl rfl
theorem xs_75_59 : xe_P d 75 59 [l0, .int x, l2, l3, l4, l5] st h Q = xe_P d 75 60 [l0, .int x, l2, l3, l4, l5] (.int x :: st) h Q := xe_P_lo (ins := .iload_n 1) (len := 1) (by decide +kernel) rfl rfl
theorem xs_75_60 : xe_P d 75 60 [l0, l1, .int x, l3, l4, l5] st h Q = xe_P d 75 61 [l0, l1, .int x, l3, l4, l5] (.int x :: st) h Q := xe_P_lo (ins := .iload_n 2) (len := 1) (by decide +kernel) rfl rfl
theorem xs_75_61 : xe_P d 75 61 ls (v1 :: v0 :: .ref a :: st) h Q = ((xe_w st ≤ 8 ∧ xe_ob h a 5) ∧ xe_C d 77 [.ref a, v0, v1] h (fun r h' => xe_P d 75 64 ls (r.toList ++ st) h' Q)) := xe_P_ivv (y := 75) (pc := 61) (z := 77) (i := 94) (vs := [v1, v0]) (by decide +kernel) (by decide +kernel) rfl (by decide +kernel)
theorem xs_75_64 : xe_P d 75 64 ls (.int x :: st) h Q = (if x = 0 then xe_P d 75 73 ls st h Q else xe_P d 75 67 ls st h Q) := xe_P_if (ins := .ifCond .eq 9) (len := 3) (off := 9) (by decide +kernel) (by decide) rfl rfl rfl
theorem xs_75_67 : xe_P d 75 67 [.ref a, l1, l2, l3, l4, l5] st h Q = xe_P d 75 68 [.ref a, l1, l2, l3, l4, l5] (.ref a :: st) h Q := xe_P_lo (ins := .aload_n 0) (len := 1) (by decide +kernel) rfl rfl
theorem xs_75_68 : xe_P d 75 68 ls st h Q = xe_P d 75 69 ls (.int 0 :: st) h Q := xe_P_ar (ins := .iconst 0) (len := 1) (by decide +kernel) rfl
theorem xs_75_69 : xe_P d 75 69 ls (.int v :: .ref a :: st) h Q = (xe_ob h a 5 ∧ xe_P d 75 72 ls st (xe_sI h a 8 v) Q) := xe_P_putI (i := 49) (by decide +kernel) (by decide +kernel) (by decide) (by decide +kernel) rfl
theorem xs_75_72 : xe_P d 75 72 ls [] h Q = Q none h := xe_P_vreturn (by decide +kernel) rfl
theorem xs_75_73 : xe_P d 75 73 [.ref a, l1, l2, l3, l4, l5] st h Q = xe_P d 75 74 [.ref a, l1, l2, l3, l4, l5] (.ref a :: st) h Q := xe_P_lo (ins := .aload_n 0) (len := 1) (by decide +kernel) rfl rfl
theorem xs_75_74 : xe_P d 75 74 ls (.ref a :: st) h Q = (xe_ob h a 5 ∧ xe_P d 75 77 ls (.int (xe_I h a 2) :: st) h Q) := xe_P_getI (i := 60) (by decide +kernel) (by decide +kernel) (by decide) rfl
theorem xs_75_77 : xe_P d 75 77 [l0, l1, l2, l3, l4, l5] (.int x :: st) h Q = xe_P d 75 79 [l0, l1, l2, xe_cut l3, .int x, l5] st h Q := xe_P_lo (ins := .istore 4) (len := 2) (by decide +kernel) rfl rfl
theorem xs_75_79 : xe_P d 75 79 ls st h Q = xe_P d 75 80 ls (.int 0 :: st) h Q := xe_P_ar (ins := .iconst 0) (len := 1) (by decide +kernel) rfl
theorem xs_75_80 : xe_P d 75 80 [l0, l1, l2, l3, l4, l5] (.int x :: st) h Q = xe_P d 75 82 [l0, l1, l2, l3, xe_cut l4, .int x] st h Q := xe_P_lo (ins := .istore 5) (len := 2) (by decide +kernel) rfl rfl
theorem xs_75_82 : xe_P d 75 82 [l0, l1, l2, l3, l4, .int x] st h Q = xe_P d 75 84 [l0, l1, l2, l3, l4, .int x] (.int x :: st) h Q := xe_P_lo (ins := .iload 5) (len := 2) (by decide +kernel) rfl rfl
theorem xs_75_84 : xe_P d 75 84 [.ref a, l1, l2, l3, l4, l5] st h Q = xe_P d 75 85 [.ref a, l1, l2, l3, l4, l5] (.ref a :: st) h Q := xe_P_lo (ins := .aload_n 0) (len := 1) (by decide +kernel) rfl rfl
theorem xs_75_85 : xe_P d 75 85 ls (.ref a :: st) h Q = (xe_ob h a 5 ∧ xe_P d 75 88 ls (.int (xe_I h a 2) :: st) h Q) := xe_P_getI (i := 60) (by decide +kernel) (by decide +kernel) (by decide) rfl
theorem xs_75_88 : xe_P d 75 88 ls (.int v :: .int x :: st) h Q = (if v ≤ x then xe_P d 75 166 ls st h Q else xe_P d 75 91 ls st h Q) := xe_P_if (ins := .if_icmp .ge 78) (len := 3) (off := 78) (by decide +kernel) (by decide) rfl rfl rfl
theorem xs_75_91 : xe_P d 75 91 [l0, l1, l2, l3, l4, .int x] st h Q = xe_P d 75 93 [l0, l1, l2, l3, l4, .int x] (.int x :: st) h Q := xe_P_lo (ins := .iload 5) (len := 2) (by decide +kernel) rfl rfl
theorem xs_75_93 : xe_P d 75 93 ls st h Q = xe_P d 75 95 ls (.int 102400 :: st) h Q := xe_P_ldc (j := 98) (by decide +kernel) (by decide +kernel)
theorem xs_75_95 : xe_P d 75 95 ls (.int v :: .int x :: st) h Q = (if v ≤ x then xe_P d 75 166 ls st h Q else xe_P d 75 98 ls st h Q) := xe_P_if (ins := .if_icmp .ge 71) (len := 3) (off := 71) (by decide +kernel) (by decide) rfl rfl rfl
theorem xs_75_98 : xe_P d 75 98 [l0, l1, l2, l3, l4, .int x] st h Q = xe_P d 75 100 [l0, l1, l2, l3, l4, .int x] (.int x :: st) h Q := xe_P_lo (ins := .iload 5) (len := 2) (by decide +kernel) rfl rfl
theorem xs_75_100 : xe_P d 75 100 [l0, l1, l2, l3, .int x, l5] st h Q = xe_P d 75 102 [l0, l1, l2, l3, .int x, l5] (.int x :: st) h Q := xe_P_lo (ins := .iload 4) (len := 2) (by decide +kernel) rfl rfl
theorem xs_75_102 : xe_P d 75 102 ls (.int v :: .int x :: st) h Q = (if x = v then xe_P d 75 105 ls st h Q else xe_P d 75 121 ls st h Q) := xe_P_ifn (ins := .if_icmp .ne 19) (len := 3) (off := 19) (by decide +kernel) (by decide) rfl rfl rfl
theorem xs_75_105 : xe_P d 75 105 [.ref a, l1, l2, l3, l4, l5] st h Q = xe_P d 75 106 [.ref a, l1, l2, l3, l4, l5] (.ref a :: st) h Q := xe_P_lo (ins := .aload_n 0) (len := 1) (by decide +kernel) rfl rfl
theorem xs_75_106 : xe_P d 75 106 ls (.ref a :: st) h Q = xe_P d 75 107 ls (.ref a :: .ref a :: st) h Q := xe_P_ar (ins := .dup) (len := 1) (by decide +kernel) rfl
theorem xs_75_106i : xe_P d 75 106 ls (.int x :: st) h Q = xe_P d 75 107 ls (.int x :: .int x :: st) h Q := xe_P_ar (ins := .dup) (len := 1) (by decide +kernel) rfl
theorem xs_75_107 : xe_P d 75 107 ls (.ref a :: st) h Q = (xe_ob h a 5 ∧ xe_P d 75 110 ls (.int (xe_I h a 9) :: st) h Q) := xe_P_getI (i := 52) (by decide +kernel) (by decide +kernel) (by decide) rfl
theorem xs_75_110 : xe_P d 75 110 ls st h Q = xe_P d 75 111 ls (.int 1 :: st) h Q := xe_P_ar (ins := .iconst 1) (len := 1) (by decide +kernel) rfl
theorem xs_75_111 : xe_P d 75 111 ls (.int v :: .int x :: st) h Q = xe_P d 75 112 ls (.int (x + v) :: st) h Q := xe_P_ar (ins := .iadd) (len := 1) (by decide +kernel) rfl
theorem xs_75_112 : xe_P d 75 112 ls (.int v :: .ref a :: st) h Q = (xe_ob h a 5 ∧ xe_P d 75 115 ls st (xe_sI h a 9 v) Q) := xe_P_putI (i := 52) (by decide +kernel) (by decide +kernel) (by decide) (by decide +kernel) rfl
theorem xs_75_115 : xe_P d 75 115 [.ref a, l1, l2, l3, l4, l5] st h Q = xe_P d 75 116 [.ref a, l1, l2, l3, l4, l5] (.ref a :: st) h Q := xe_P_lo (ins := .aload_n 0) (len := 1) (by decide +kernel) rfl rfl
theorem xs_75_116 : xe_P d 75 116 ls (.ref a :: st) h Q = (xe_ob h a 5 ∧ xe_P d 75 119 ls (.int (xe_I h a 2) :: st) h Q) := xe_P_getI (i := 60) (by decide +kernel) (by decide +kernel) (by decide) rfl
theorem xs_75_119 : xe_P d 75 119 [l0, l1, l2, l3, l4, l5] (.int x :: st) h Q = xe_P d 75 121 [l0, l1, l2, xe_cut l3, .int x, l5] st h Q := xe_P_lo (ins := .istore 4) (len := 2) (by decide +kernel) rfl rfl
theorem xs_75_121 : xe_P d 75 121 [.ref a, l1, l2, l3, l4, l5] st h Q = xe_P d 75 122 [.ref a, l1, l2, l3, l4, l5] (.ref a :: st) h Q := xe_P_lo (ins := .aload_n 0) (len := 1) (by decide +kernel) rfl rfl
theorem xs_75_122 : xe_P d 75 122 ls (.ref a :: st) h Q = (xe_ob h a 5 ∧ xe_P d 75 125 ls (.int (xe_I h a 9) :: st) h Q) := xe_P_getI (i := 52) (by decide +kernel) (by decide +kernel) (by decide) rfl
theorem xs_75_125 : xe_P d 75 125 [l0, l1, l2, .int x, l4, l5] st h Q = xe_P d 75 126 [l0, l1, l2, .int x, l4, l5] (.int x :: st) h Q := xe_P_lo (ins := .iload_n 3) (len := 1) (by decide +kernel) rfl rfl
theorem xs_75_126 : xe_P d 75 126 ls (.int v :: .int x :: st) h Q = (if x < v then xe_P d 75 130 ls st h Q else xe_P d 75 129 ls st h Q) := xe_P_if (ins := .if_icmp .lt 4) (len := 3) (off := 4) (by decide +kernel) (by decide) rfl rfl rfl
theorem xs_75_129 : xe_P d 75 129 ls [] h Q = Q none h := xe_P_vreturn (by decide +kernel) rfl
theorem xs_75_130 : xe_P d 75 130 [.ref a, l1, l2, l3, l4, l5] st h Q = xe_P d 75 131 [.ref a, l1, l2, l3, l4, l5] (.ref a :: st) h Q := xe_P_lo (ins := .aload_n 0) (len := 1) (by decide +kernel) rfl rfl
theorem xs_75_131 : xe_P d 75 131 [l0, l1, l2, l3, l4, .int x] st h Q = xe_P d 75 133 [l0, l1, l2, l3, l4, .int x] (.int x :: st) h Q := xe_P_lo (ins := .iload 5) (len := 2) (by decide +kernel) rfl rfl
theorem xs_75_133 : xe_P d 75 133 ls (v0 :: .ref a :: st) h Q = ((xe_w st ≤ 8 ∧ xe_ob h a 5) ∧ xe_C d 76 [.ref a, v0] h (fun r h' => xe_P d 75 136 ls (r.toList ++ st) h' Q)) := xe_P_ivv (y := 75) (pc := 133) (z := 76) (i := 99) (vs := [v0]) (by decide +kernel) (by decide +kernel) rfl (by decide +kernel)
theorem xs_75_136 : xe_P d 75 136 ls (.int x :: st) h Q = (if x = 0 then xe_P d 75 160 ls st h Q else xe_P d 75 139 ls st h Q) := xe_P_if (ins := .ifCond .eq 24) (len := 3) (off := 24) (by decide +kernel) (by decide) rfl rfl rfl
theorem xs_75_139 : xe_P d 75 139 [.ref a, l1, l2, l3, l4, l5] st h Q = xe_P d 75 140 [.ref a, l1, l2, l3, l4, l5] (.ref a :: st) h Q := xe_P_lo (ins := .aload_n 0) (len := 1) (by decide +kernel) rfl rfl
theorem xs_75_140 : xe_P d 75 140 ls (.ref a :: st) h Q = xe_P d 75 141 ls (.ref a :: .ref a :: st) h Q := xe_P_ar (ins := .dup) (len := 1) (by decide +kernel) rfl
theorem xs_75_140i : xe_P d 75 140 ls (.int x :: st) h Q = xe_P d 75 141 ls (.int x :: .int x :: st) h Q := xe_P_ar (ins := .dup) (len := 1) (by decide +kernel) rfl
theorem xs_75_141 : xe_P d 75 141 ls (.ref a :: st) h Q = (xe_ob h a 5 ∧ xe_P d 75 144 ls (.int (xe_I h a 9) :: st) h Q) := xe_P_getI (i := 52) (by decide +kernel) (by decide +kernel) (by decide) rfl
theorem xs_75_144 : xe_P d 75 144 ls st h Q = xe_P d 75 145 ls (.int 1 :: st) h Q := xe_P_ar (ins := .iconst 1) (len := 1) (by decide +kernel) rfl
theorem xs_75_145 : xe_P d 75 145 ls (.int v :: .int x :: st) h Q = xe_P d 75 146 ls (.int (x + v) :: st) h Q := xe_P_ar (ins := .iadd) (len := 1) (by decide +kernel) rfl
theorem xs_75_146 : xe_P d 75 146 ls (.int v :: .ref a :: st) h Q = (xe_ob h a 5 ∧ xe_P d 75 149 ls st (xe_sI h a 9 v) Q) := xe_P_putI (i := 52) (by decide +kernel) (by decide +kernel) (by decide) (by decide +kernel) rfl
theorem xs_75_149 : xe_P d 75 149 [.ref a, l1, l2, l3, l4, l5] st h Q = xe_P d 75 150 [.ref a, l1, l2, l3, l4, l5] (.ref a :: st) h Q := xe_P_lo (ins := .aload_n 0) (len := 1) (by decide +kernel) rfl rfl
theorem xs_75_150 : xe_P d 75 150 [.ref a, l1, l2, l3, l4, l5] st h Q = xe_P d 75 151 [.ref a, l1, l2, l3, l4, l5] (.ref a :: st) h Q := xe_P_lo (ins := .aload_n 0) (len := 1) (by decide +kernel) rfl rfl
theorem xs_75_151 : xe_P d 75 151 ls (.ref a :: st) h Q = (xe_ob h a 5 ∧ xe_P d 75 154 ls (.int (xe_I h a 2) :: st) h Q) := xe_P_getI (i := 60) (by decide +kernel) (by decide +kernel) (by decide) rfl
theorem xs_75_154 : xe_P d 75 154 ls st h Q = xe_P d 75 155 ls (.int 1 :: st) h Q := xe_P_ar (ins := .iconst 1) (len := 1) (by decide +kernel) rfl
theorem xs_75_155 : xe_P d 75 155 ls (.int v :: .int x :: st) h Q = xe_P d 75 156 ls (.int (x - v) :: st) h Q := xe_P_ar (ins := .isub) (len := 1) (by decide +kernel) rfl
theorem xs_75_156 : xe_P d 75 156 ls (.int v :: .ref a :: st) h Q = (xe_ob h a 5 ∧ xe_P d 75 159 ls st (xe_sI h a 8 v) Q) := xe_P_putI (i := 49) (by decide +kernel) (by decide +kernel) (by decide) (by decide +kernel) rfl
theorem xs_75_159 : xe_P d 75 159 ls [] h Q = Q none h := xe_P_vreturn (by decide +kernel) rfl
theorem xs_75_160 : xe_P d 75 160 [l0, l1, l2, l3, l4, .int x] st h Q = xe_P d 75 163 [l0, l1, l2, l3, xe_cut l4, .int (x + 1)] st h Q := xe_P_lo (ins := .iinc 5 1) (len := 3) (by decide +kernel) rfl rfl
theorem xs_75_163 : xe_P d 75 163 ls st h Q = xe_P d 75 82 ls st h Q := xe_P_go (len := 3) (off := (-81)) (by decide +kernel) (by decide)
theorem xs_75_166 : xe_P d 75 166 ls [] h Q = Q none h := xe_P_vreturn (by decide +kernel) rfl
theorem xs_75 : xe_C (d + 1) 75 [.ref a, .int x0, .int x1, .int x2] h Q = xe_P d 75 0 [.ref a, .int x0, .int x1, .int x2, .retAddr 0, .retAddr 0] [] h Q := xe_C_at (Nat.le_of_ble_eq_true rfl) rfl
theorem xs_76_0 : xe_P d 76 0 [.ref a, l1, l2, l3, l4, l5, l6, l7, l8, l9, l10] st h Q = xe_P d 76 1 [.ref a, l1, l2, l3, l4, l5, l6, l7, l8, l9, l10] (.ref a :: st) h Q := xe_P_lo (ins := .aload_n 0) (len := 1) (by decide +kernel) rfl rfl
theorem xs_76_1 : xe_P d 76 1 ls (.ref a :: st) h Q = (xe_ob h a 5 ∧ xe_P d 76 4 ls (va_rf (xe_R h a 1) :: st) h Q) := xe_P_getR (i := 15) (by decide +kernel) (by decide +kernel) (by decide) rfl
theorem xs_76_4 : xe_P d 76 4 [l0, .int x, l2, l3, l4, l5, l6, l7, l8, l9, l10] st h Q = xe_P d 76 5 [l0, .int x, l2, l3, l4, l5, l6, l7, l8, l9, l10] (.int x :: st) h Q := xe_P_lo (ins := .iload_n 1) (len := 1) (by decide +kernel) rfl rfl
theorem xs_76_5 : xe_P d 76 5 ls (.int v :: .ref a :: st) h Q = ((xe_ob h a 9 ∧ xe_ix h a v) ∧ xe_P d 76 6 ls (.long (xe_L h a v.toNatClampNeg) :: st) h Q) := xe_P_lald (by decide +kernel)
theorem xs_76_6 : xe_P d 76 6 ls (.long w :: st) h Q = xe_P d 76 7 ls (.int w.toInt32 :: st) h Q := xe_P_ar (ins := .l2i) (len := 1) (by decide +kernel) rfl
theorem xs_76_7 : xe_P d 76 7 ls st h Q = xe_P d 76 9 ls (.int 262143 :: st) h Q := xe_P_ldc (j := 102) (by decide +kernel) (by decide +kernel)
theorem xs_76_9 : xe_P d 76 9 ls (.int v :: .int x :: st) h Q = xe_P d 76 10 ls (.int (x &&& v) :: st) h Q := xe_P_ar (ins := .iand) (len := 1) (by decide +kernel) rfl
theorem xs_76_10 : xe_P d 76 10 [l0, l1, l2, l3, l4, l5, l6, l7, l8, l9, l10] (.int x :: st) h Q = xe_P d 76 11 [l0, xe_cut l1, .int x, l3, l4, l5, l6, l7, l8, l9, l10] st h Q := xe_P_lo (ins := .istore_n 2) (len := 1) (by decide +kernel) rfl rfl
theorem xs_76_11 : xe_P d 76 11 [.ref a, l1, l2, l3, l4, l5, l6, l7, l8, l9, l10] st h Q = xe_P d 76 12 [.ref a, l1, l2, l3, l4, l5, l6, l7, l8, l9, l10] (.ref a :: st) h Q := xe_P_lo (ins := .aload_n 0) (len := 1) (by decide +kernel) rfl rfl
theorem xs_76_12 : xe_P d 76 12 ls (.ref a :: st) h Q = (xe_ob h a 5 ∧ xe_P d 76 15 ls (va_rf (xe_R h a 1) :: st) h Q) := xe_P_getR (i := 15) (by decide +kernel) (by decide +kernel) (by decide) rfl
theorem xs_76_15 : xe_P d 76 15 [l0, .int x, l2, l3, l4, l5, l6, l7, l8, l9, l10] st h Q = xe_P d 76 16 [l0, .int x, l2, l3, l4, l5, l6, l7, l8, l9, l10] (.int x :: st) h Q := xe_P_lo (ins := .iload_n 1) (len := 1) (by decide +kernel) rfl rfl
theorem xs_76_16 : xe_P d 76 16 ls (.int v :: .ref a :: st) h Q = ((xe_ob h a 9 ∧ xe_ix h a v) ∧ xe_P d 76 17 ls (.long (xe_L h a v.toNatClampNeg) :: st) h Q) := xe_P_lald (by decide +kernel)
theorem xs_76_17 : xe_P d 76 17 ls st h Q = xe_P d 76 19 ls (.int 18 :: st) h Q := xe_P_ar (ins := .bipush 18) (len := 2) (by decide +kernel) rfl
theorem xs_76_19 : xe_P d 76 19 ls (v1 :: v0 :: st) h Q = (xe_w st ≤ 8 ∧ xe_C d 80 [v0, v1] h (fun r h' => xe_P d 76 22 ls (r.toList ++ st) h' Q)) := xe_P_ivs (y := 76) (pc := 19) (z := 80) (i := 63) (vs := [v1, v0]) (by decide +kernel) (by decide +kernel) rfl
theorem xs_76_22 : xe_P d 76 22 [l0, l1, l2, l3, l4, l5, l6, l7, l8, l9, l10] (.int x :: st) h Q = xe_P d 76 23 [l0, l1, xe_cut l2, .int x, l4, l5, l6, l7, l8, l9, l10] st h Q := xe_P_lo (ins := .istore_n 3) (len := 1) (by decide +kernel) rfl rfl
theorem xs_76_23 : xe_P d 76 23 [.ref a, l1, l2, l3, l4, l5, l6, l7, l8, l9, l10] st h Q = xe_P d 76 24 [.ref a, l1, l2, l3, l4, l5, l6, l7, l8, l9, l10] (.ref a :: st) h Q := xe_P_lo (ins := .aload_n 0) (len := 1) (by decide +kernel) rfl rfl
theorem xs_76_24 : xe_P d 76 24 ls (.ref a :: st) h Q = (xe_ob h a 5 ∧ xe_P d 76 27 ls (va_rf (xe_R h a 1) :: st) h Q) := xe_P_getR (i := 15) (by decide +kernel) (by decide +kernel) (by decide) rfl
theorem xs_76_27 : xe_P d 76 27 [l0, .int x, l2, l3, l4, l5, l6, l7, l8, l9, l10] st h Q = xe_P d 76 28 [l0, .int x, l2, l3, l4, l5, l6, l7, l8, l9, l10] (.int x :: st) h Q := xe_P_lo (ins := .iload_n 1) (len := 1) (by decide +kernel) rfl rfl
theorem xs_76_28 : xe_P d 76 28 ls (.int v :: .ref a :: st) h Q = ((xe_ob h a 9 ∧ xe_ix h a v) ∧ xe_P d 76 29 ls (.long (xe_L h a v.toNatClampNeg) :: st) h Q) := xe_P_lald (by decide +kernel)
theorem xs_76_29 : xe_P d 76 29 ls st h Q = xe_P d 76 31 ls (.int 21 :: st) h Q := xe_P_ar (ins := .bipush 21) (len := 2) (by decide +kernel) rfl
theorem xs_76_31 : xe_P d 76 31 ls (v1 :: v0 :: st) h Q = (xe_w st ≤ 8 ∧ xe_C d 80 [v0, v1] h (fun r h' => xe_P d 76 34 ls (r.toList ++ st) h' Q)) := xe_P_ivs (y := 76) (pc := 31) (z := 80) (i := 63) (vs := [v1, v0]) (by decide +kernel) (by decide +kernel) rfl
theorem xs_76_34 : xe_P d 76 34 [l0, l1, l2, l3, l4, l5, l6, l7, l8, l9, l10] (.int x :: st) h Q = xe_P d 76 36 [l0, l1, l2, xe_cut l3, .int x, l5, l6, l7, l8, l9, l10] st h Q := xe_P_lo (ins := .istore 4) (len := 2) (by decide +kernel) rfl rfl
theorem xs_76_36 : xe_P d 76 36 ls st h Q = xe_P d 76 37 ls (.int 0 :: st) h Q := xe_P_ar (ins := .iconst 0) (len := 1) (by decide +kernel) rfl
theorem xs_76_37 : xe_P d 76 37 [l0, l1, l2, l3, l4, l5, l6, l7, l8, l9, l10] (.int x :: st) h Q = xe_P d 76 39 [l0, l1, l2, l3, xe_cut l4, .int x, l6, l7, l8, l9, l10] st h Q := xe_P_lo (ins := .istore 5) (len := 2) (by decide +kernel) rfl rfl
theorem xs_76_39 : xe_P d 76 39 [l0, l1, l2, l3, l4, .int x, l6, l7, l8, l9, l10] st h Q = xe_P d 76 41 [l0, l1, l2, l3, l4, .int x, l6, l7, l8, l9, l10] (.int x :: st) h Q := xe_P_lo (ins := .iload 5) (len := 2) (by decide +kernel) rfl rfl
theorem xs_76_41 : xe_P d 76 41 [.ref a, l1, l2, l3, l4, l5, l6, l7, l8, l9, l10] st h Q = xe_P d 76 42 [.ref a, l1, l2, l3, l4, l5, l6, l7, l8, l9, l10] (.ref a :: st) h Q := xe_P_lo (ins := .aload_n 0) (len := 1) (by decide +kernel) rfl rfl
theorem xs_76_42 : xe_P d 76 42 ls (.ref a :: st) h Q = (xe_ob h a 5 ∧ xe_P d 76 45 ls (va_rf (xe_R h a 4) :: st) h Q) := xe_P_getR (i := 22) (by decide +kernel) (by decide +kernel) (by decide) rfl
theorem xs_76_45 : xe_P d 76 45 ls (.ref a :: st) h Q = (xe_ob h a 3 ∧ xe_P d 76 48 ls (.int (xe_I h a 1) :: st) h Q) := xe_P_getI (i := 71) (by decide +kernel) (by decide +kernel) (by decide) rfl
theorem xs_76_48 : xe_P d 76 48 ls (.int v :: .int x :: st) h Q = (if v < x then xe_P d 76 92 ls st h Q else xe_P d 76 51 ls st h Q) := xe_P_if (ins := .if_icmp .gt 44) (len := 3) (off := 44) (by decide +kernel) (by decide) rfl rfl rfl
theorem xs_76_51 : xe_P d 76 51 [.ref a, l1, l2, l3, l4, l5, l6, l7, l8, l9, l10] st h Q = xe_P d 76 52 [.ref a, l1, l2, l3, l4, l5, l6, l7, l8, l9, l10] (.ref a :: st) h Q := xe_P_lo (ins := .aload_n 0) (len := 1) (by decide +kernel) rfl rfl
theorem xs_76_52 : xe_P d 76 52 ls (.ref a :: st) h Q = (xe_ob h a 5 ∧ xe_P d 76 55 ls (va_rf (xe_R h a 3) :: st) h Q) := xe_P_getR (i := 18) (by decide +kernel) (by decide +kernel) (by decide) rfl
theorem xs_76_55 : xe_P d 76 55 [l0, l1, l2, l3, l4, .int x, l6, l7, l8, l9, l10] st h Q = xe_P d 76 57 [l0, l1, l2, l3, l4, .int x, l6, l7, l8, l9, l10] (.int x :: st) h Q := xe_P_lo (ins := .iload 5) (len := 2) (by decide +kernel) rfl rfl
theorem xs_76_57 : xe_P d 76 57 [.ref a, l1, l2, l3, l4, l5, l6, l7, l8, l9, l10] st h Q = xe_P d 76 58 [.ref a, l1, l2, l3, l4, l5, l6, l7, l8, l9, l10] (.ref a :: st) h Q := xe_P_lo (ins := .aload_n 0) (len := 1) (by decide +kernel) rfl rfl
theorem xs_76_58 : xe_P d 76 58 ls (.ref a :: st) h Q = (xe_ob h a 5 ∧ xe_P d 76 61 ls (va_rf (xe_R h a 4) :: st) h Q) := xe_P_getR (i := 22) (by decide +kernel) (by decide +kernel) (by decide) rfl
theorem xs_76_61 : xe_P d 76 61 [l0, l1, .int x, l3, l4, l5, l6, l7, l8, l9, l10] st h Q = xe_P d 76 62 [l0, l1, .int x, l3, l4, l5, l6, l7, l8, l9, l10] (.int x :: st) h Q := xe_P_lo (ins := .iload_n 2) (len := 1) (by decide +kernel) rfl rfl
theorem xs_76_62 : xe_P d 76 62 [l0, l1, l2, .int x, l4, l5, l6, l7, l8, l9, l10] st h Q = xe_P d 76 63 [l0, l1, l2, .int x, l4, l5, l6, l7, l8, l9, l10] (.int x :: st) h Q := xe_P_lo (ins := .iload_n 3) (len := 1) (by decide +kernel) rfl rfl
theorem xs_76_63 : xe_P d 76 63 [l0, l1, l2, l3, l4, .int x, l6, l7, l8, l9, l10] st h Q = xe_P d 76 65 [l0, l1, l2, l3, l4, .int x, l6, l7, l8, l9, l10] (.int x :: st) h Q := xe_P_lo (ins := .iload 5) (len := 2) (by decide +kernel) rfl rfl
theorem xs_76_65 : xe_P d 76 65 ls (v2 :: v1 :: v0 :: .ref a :: st) h Q = ((xe_w st ≤ 8 ∧ xe_ob h a 3) ∧ xe_C d 49 [.ref a, v0, v1, v2] h (fun r h' => xe_P d 76 68 ls (r.toList ++ st) h' Q)) := xe_P_ivv (y := 76) (pc := 65) (z := 49) (i := 103) (vs := [v2, v1, v0]) (by decide +kernel) (by decide +kernel) rfl (by decide +kernel)
theorem xs_76_68 : xe_P d 76 68 ls (.int x :: st) h Q = (if x = 0 then xe_P d 76 84 ls st h Q else xe_P d 76 71 ls st h Q) := xe_P_if (ins := .ifCond .eq 16) (len := 3) (off := 16) (by decide +kernel) (by decide) rfl rfl rfl
theorem xs_76_71 : xe_P d 76 71 [.ref a, l1, l2, l3, l4, l5, l6, l7, l8, l9, l10] st h Q = xe_P d 76 72 [.ref a, l1, l2, l3, l4, l5, l6, l7, l8, l9, l10] (.ref a :: st) h Q := xe_P_lo (ins := .aload_n 0) (len := 1) (by decide +kernel) rfl rfl
theorem xs_76_72 : xe_P d 76 72 ls (.ref a :: st) h Q = (xe_ob h a 5 ∧ xe_P d 76 75 ls (va_rf (xe_R h a 4) :: st) h Q) := xe_P_getR (i := 22) (by decide +kernel) (by decide +kernel) (by decide) rfl
theorem xs_76_75 : xe_P d 76 75 [l0, l1, .int x, l3, l4, l5, l6, l7, l8, l9, l10] st h Q = xe_P d 76 76 [l0, l1, .int x, l3, l4, l5, l6, l7, l8, l9, l10] (.int x :: st) h Q := xe_P_lo (ins := .iload_n 2) (len := 1) (by decide +kernel) rfl rfl
theorem xs_76_76 : xe_P d 76 76 [l0, l1, l2, l3, l4, .int x, l6, l7, l8, l9, l10] st h Q = xe_P d 76 78 [l0, l1, l2, l3, l4, .int x, l6, l7, l8, l9, l10] (.int x :: st) h Q := xe_P_lo (ins := .iload 5) (len := 2) (by decide +kernel) rfl rfl
theorem xs_76_78 : xe_P d 76 78 ls (v1 :: v0 :: .ref a :: st) h Q = ((xe_w st ≤ 8 ∧ xe_ob h a 3) ∧ xe_C d 51 [.ref a, v0, v1] h (fun r h' => xe_P d 76 81 ls (r.toList ++ st) h' Q)) := xe_P_ivv (y := 76) (pc := 78) (z := 51) (i := 107) (vs := [v1, v0]) (by decide +kernel) (by decide +kernel) rfl (by decide +kernel)
theorem xs_76_81 : xe_P d 76 81 ls st h Q = xe_P d 76 85 ls st h Q := xe_P_go (len := 3) (off := 4) (by decide +kernel) (by decide)
theorem xs_76_84 : xe_P d 76 84 ls st h Q = xe_P d 76 85 ls (.int (-1) :: st) h Q := xe_P_ar (ins := .iconst (-1)) (len := 1) (by decide +kernel) rfl
theorem xs_76_85 : xe_P d 76 85 ls (.int x :: .int v :: .ref a :: st) h Q = ((xe_ob h a 8 ∧ xe_ix h a v) ∧ xe_P d 76 86 ls st (xe_sI h a v.toNatClampNeg x) Q) := xe_P_iast (by decide +kernel)
theorem xs_76_86 : xe_P d 76 86 [l0, l1, l2, l3, l4, .int x, l6, l7, l8, l9, l10] st h Q = xe_P d 76 89 [l0, l1, l2, l3, xe_cut l4, .int (x + 1), l6, l7, l8, l9, l10] st h Q := xe_P_lo (ins := .iinc 5 1) (len := 3) (by decide +kernel) rfl rfl
theorem xs_76_89 : xe_P d 76 89 ls st h Q = xe_P d 76 39 ls st h Q := xe_P_go (len := 3) (off := (-50)) (by decide +kernel) (by decide)
theorem xs_76_92 : xe_P d 76 92 [.ref a, l1, l2, l3, l4, l5, l6, l7, l8, l9, l10] st h Q = xe_P d 76 93 [.ref a, l1, l2, l3, l4, l5, l6, l7, l8, l9, l10] (.ref a :: st) h Q := xe_P_lo (ins := .aload_n 0) (len := 1) (by decide +kernel) rfl rfl
theorem xs_76_93 : xe_P d 76 93 ls (.ref a :: st) h Q = (xe_ob h a 5 ∧ xe_P d 76 96 ls (.int (xe_I h a 5) :: st) h Q) := xe_P_getI (i := 26) (by decide +kernel) (by decide +kernel) (by decide) rfl
theorem xs_76_96 : xe_P d 76 96 ls (.int x :: st) h Q = (if x = 0 then xe_P d 76 109 ls st h Q else xe_P d 76 99 ls st h Q) := xe_P_if (ins := .ifCond .eq 13) (len := 3) (off := 13) (by decide +kernel) (by decide) rfl rfl rfl
theorem xs_76_99 : xe_P d 76 99 [.ref a, l1, l2, l3, l4, l5, l6, l7, l8, l9, l10] st h Q = xe_P d 76 100 [.ref a, l1, l2, l3, l4, l5, l6, l7, l8, l9, l10] (.ref a :: st) h Q := xe_P_lo (ins := .aload_n 0) (len := 1) (by decide +kernel) rfl rfl
theorem xs_76_100 : xe_P d 76 100 ls (.ref a :: st) h Q = (xe_ob h a 5 ∧ xe_P d 76 103 ls (va_rf (xe_R h a 4) :: st) h Q) := xe_P_getR (i := 22) (by decide +kernel) (by decide +kernel) (by decide) rfl
theorem xs_76_103 : xe_P d 76 103 ls (.ref a :: st) h Q = (xe_ob h a 3 ∧ xe_P d 76 106 ls (.int (xe_I h a 1) :: st) h Q) := xe_P_getI (i := 71) (by decide +kernel) (by decide +kernel) (by decide) rfl
theorem xs_76_106 : xe_P d 76 106 ls st h Q = xe_P d 76 110 ls st h Q := xe_P_go (len := 3) (off := 4) (by decide +kernel) (by decide)
theorem xs_76_109 : xe_P d 76 109 ls st h Q = xe_P d 76 110 ls (.int 0 :: st) h Q := xe_P_ar (ins := .iconst 0) (len := 1) (by decide +kernel) rfl
theorem xs_76_110 : xe_P d 76 110 [l0, l1, l2, l3, l4, l5, l6, l7, l8, l9, l10] (.int x :: st) h Q = xe_P d 76 112 [l0, l1, l2, l3, xe_cut l4, .int x, l6, l7, l8, l9, l10] st h Q := xe_P_lo (ins := .istore 5) (len := 2) (by decide +kernel) rfl rfl
theorem xs_76_112 : xe_P d 76 112 ls st h Q = xe_P d 76 113 ls (.int 0 :: st) h Q := xe_P_ar (ins := .iconst 0) (len := 1) (by decide +kernel) rfl
theorem xs_76_113 : xe_P d 76 113 [l0, l1, l2, l3, l4, l5, l6, l7, l8, l9, l10] (.int x :: st) h Q = xe_P d 76 115 [l0, l1, l2, l3, l4, xe_cut l5, .int x, l7, l8, l9, l10] st h Q := xe_P_lo (ins := .istore 6) (len := 2) (by decide +kernel) rfl rfl
theorem xs_76_115 : xe_P d 76 115 [l0, l1, l2, l3, l4, l5, .int x, l7, l8, l9, l10] st h Q = xe_P d 76 117 [l0, l1, l2, l3, l4, l5, .int x, l7, l8, l9, l10] (.int x :: st) h Q := xe_P_lo (ins := .iload 6) (len := 2) (by decide +kernel) rfl rfl
theorem xs_76_117 : xe_P d 76 117 [l0, l1, l2, l3, l4, .int x, l6, l7, l8, l9, l10] st h Q = xe_P d 76 119 [l0, l1, l2, l3, l4, .int x, l6, l7, l8, l9, l10] (.int x :: st) h Q := xe_P_lo (ins := .iload 5) (len := 2) (by decide +kernel) rfl rfl
theorem xs_76_119 : xe_P d 76 119 ls (.int v :: .int x :: st) h Q = (if v < x then xe_P d 76 265 ls st h Q else xe_P d 76 122 ls st h Q) := xe_P_if (ins := .if_icmp .gt 146) (len := 3) (off := 146) (by decide +kernel) (by decide) rfl rfl rfl
theorem xs_76_122 : xe_P d 76 122 ls st h Q = xe_P d 76 123 ls (.int 0 :: st) h Q := xe_P_ar (ins := .iconst 0) (len := 1) (by decide +kernel) rfl
theorem xs_76_123 : xe_P d 76 123 [l0, l1, l2, l3, l4, l5, l6, l7, l8, l9, l10] (.int x :: st) h Q = xe_P d 76 125 [l0, l1, l2, l3, l4, l5, xe_cut l6, .int x, l8, l9, l10] st h Q := xe_P_lo (ins := .istore 7) (len := 2) (by decide +kernel) rfl rfl
theorem xs_76_125 : xe_P d 76 125 [l0, l1, l2, l3, l4, l5, l6, .int x, l8, l9, l10] st h Q = xe_P d 76 127 [l0, l1, l2, l3, l4, l5, l6, .int x, l8, l9, l10] (.int x :: st) h Q := xe_P_lo (ins := .iload 7) (len := 2) (by decide +kernel) rfl rfl
theorem xs_76_127 : xe_P d 76 127 [.ref a, l1, l2, l3, l4, l5, l6, l7, l8, l9, l10] st h Q = xe_P d 76 128 [.ref a, l1, l2, l3, l4, l5, l6, l7, l8, l9, l10] (.ref a :: st) h Q := xe_P_lo (ins := .aload_n 0) (len := 1) (by decide +kernel) rfl rfl
theorem xs_76_128 : xe_P d 76 128 ls (.ref a :: st) h Q = (xe_ob h a 5 ∧ xe_P d 76 131 ls (va_rf (xe_R h a 4) :: st) h Q) := xe_P_getR (i := 22) (by decide +kernel) (by decide +kernel) (by decide) rfl
theorem xs_76_131 : xe_P d 76 131 ls (.ref a :: st) h Q = (xe_ob h a 3 ∧ xe_P d 76 134 ls (.int (xe_I h a 1) :: st) h Q) := xe_P_getI (i := 71) (by decide +kernel) (by decide +kernel) (by decide) rfl
theorem xs_76_134 : xe_P d 76 134 ls (.int v :: .int x :: st) h Q = (if v < x then xe_P d 76 259 ls st h Q else xe_P d 76 137 ls st h Q) := xe_P_if (ins := .if_icmp .gt 125) (len := 3) (off := 125) (by decide +kernel) (by decide) rfl rfl rfl
theorem xs_76_137 : xe_P d 76 137 [.ref a, l1, l2, l3, l4, l5, l6, l7, l8, l9, l10] st h Q = xe_P d 76 138 [.ref a, l1, l2, l3, l4, l5, l6, l7, l8, l9, l10] (.ref a :: st) h Q := xe_P_lo (ins := .aload_n 0) (len := 1) (by decide +kernel) rfl rfl
theorem xs_76_138 : xe_P d 76 138 ls (.ref a :: st) h Q = (xe_ob h a 5 ∧ xe_P d 76 141 ls (va_rf (xe_R h a 3) :: st) h Q) := xe_P_getR (i := 18) (by decide +kernel) (by decide +kernel) (by decide) rfl
theorem xs_76_141 : xe_P d 76 141 [l0, l1, l2, l3, l4, l5, l6, .int x, l8, l9, l10] st h Q = xe_P d 76 143 [l0, l1, l2, l3, l4, l5, l6, .int x, l8, l9, l10] (.int x :: st) h Q := xe_P_lo (ins := .iload 7) (len := 2) (by decide +kernel) rfl rfl
theorem xs_76_143 : xe_P d 76 143 ls (.int v :: .ref a :: st) h Q = ((xe_ia h a ∧ xe_ix h a v) ∧ xe_P d 76 144 ls (.int (xe_I h a v.toNatClampNeg) :: st) h Q) := xe_P_iald (by decide +kernel)
theorem xs_76_144 : xe_P d 76 144 ls st h Q = xe_P d 76 145 ls (.int (-1) :: st) h Q := xe_P_ar (ins := .iconst (-1)) (len := 1) (by decide +kernel) rfl
theorem xs_76_145 : xe_P d 76 145 ls (.int v :: .int x :: st) h Q = (if x = v then xe_P d 76 253 ls st h Q else xe_P d 76 148 ls st h Q) := xe_P_if (ins := .if_icmp .eq 108) (len := 3) (off := 108) (by decide +kernel) (by decide) rfl rfl rfl
theorem xs_76_148 : xe_P d 76 148 [.ref a, l1, l2, l3, l4, l5, l6, l7, l8, l9, l10] st h Q = xe_P d 76 149 [.ref a, l1, l2, l3, l4, l5, l6, l7, l8, l9, l10] (.ref a :: st) h Q := xe_P_lo (ins := .aload_n 0) (len := 1) (by decide +kernel) rfl rfl
theorem xs_76_149 : xe_P d 76 149 ls (.ref a :: st) h Q = (xe_ob h a 5 ∧ xe_P d 76 152 ls (va_rf (xe_R h a 4) :: st) h Q) := xe_P_getR (i := 22) (by decide +kernel) (by decide +kernel) (by decide) rfl
theorem xs_76_152 : xe_P d 76 152 [.ref a, l1, l2, l3, l4, l5, l6, l7, l8, l9, l10] st h Q = xe_P d 76 153 [.ref a, l1, l2, l3, l4, l5, l6, l7, l8, l9, l10] (.ref a :: st) h Q := xe_P_lo (ins := .aload_n 0) (len := 1) (by decide +kernel) rfl rfl
theorem xs_76_153 : xe_P d 76 153 ls (.ref a :: st) h Q = (xe_ob h a 5 ∧ xe_P d 76 156 ls (va_rf (xe_R h a 3) :: st) h Q) := xe_P_getR (i := 18) (by decide +kernel) (by decide +kernel) (by decide) rfl
theorem xs_76_156 : xe_P d 76 156 [l0, l1, l2, l3, l4, l5, l6, .int x, l8, l9, l10] st h Q = xe_P d 76 158 [l0, l1, l2, l3, l4, l5, l6, .int x, l8, l9, l10] (.int x :: st) h Q := xe_P_lo (ins := .iload 7) (len := 2) (by decide +kernel) rfl rfl
theorem xs_76_158 : xe_P d 76 158 ls (.int v :: .ref a :: st) h Q = ((xe_ia h a ∧ xe_ix h a v) ∧ xe_P d 76 159 ls (.int (xe_I h a v.toNatClampNeg) :: st) h Q) := xe_P_iald (by decide +kernel)
theorem xs_76_159 : xe_P d 76 159 [l0, l1, l2, l3, .int x, l5, l6, l7, l8, l9, l10] st h Q = xe_P d 76 161 [l0, l1, l2, l3, .int x, l5, l6, l7, l8, l9, l10] (.int x :: st) h Q := xe_P_lo (ins := .iload 4) (len := 2) (by decide +kernel) rfl rfl
theorem xs_76_161 : xe_P d 76 161 [l0, l1, l2, l3, l4, l5, .int x, l7, l8, l9, l10] st h Q = xe_P d 76 163 [l0, l1, l2, l3, l4, l5, .int x, l7, l8, l9, l10] (.int x :: st) h Q := xe_P_lo (ins := .iload 6) (len := 2) (by decide +kernel) rfl rfl
theorem xs_76_163 : xe_P d 76 163 ls (v2 :: v1 :: v0 :: .ref a :: st) h Q = ((xe_w st ≤ 8 ∧ xe_ob h a 3) ∧ xe_C d 49 [.ref a, v0, v1, v2] h (fun r h' => xe_P d 76 166 ls (r.toList ++ st) h' Q)) := xe_P_ivv (y := 76) (pc := 163) (z := 49) (i := 103) (vs := [v2, v1, v0]) (by decide +kernel) (by decide +kernel) rfl (by decide +kernel)
theorem xs_76_166 : xe_P d 76 166 ls (.int x :: st) h Q = (if x = 0 then xe_P d 76 169 ls st h Q else xe_P d 76 172 ls st h Q) := xe_P_ifn (ins := .ifCond .ne 6) (len := 3) (off := 6) (by decide +kernel) (by decide) rfl rfl rfl
theorem xs_76_169 : xe_P d 76 169 ls st h Q = xe_P d 76 253 ls st h Q := xe_P_go (len := 3) (off := 84) (by decide +kernel) (by decide)
theorem xs_76_172 : xe_P d 76 172 [.ref a, l1, l2, l3, l4, l5, l6, l7, l8, l9, l10] st h Q = xe_P d 76 173 [.ref a, l1, l2, l3, l4, l5, l6, l7, l8, l9, l10] (.ref a :: st) h Q := xe_P_lo (ins := .aload_n 0) (len := 1) (by decide +kernel) rfl rfl
theorem xs_76_173 : xe_P d 76 173 ls (.ref a :: st) h Q = (xe_ob h a 5 ∧ xe_P d 76 176 ls (va_rf (xe_R h a 4) :: st) h Q) := xe_P_getR (i := 22) (by decide +kernel) (by decide +kernel) (by decide) rfl
theorem xs_76_176 : xe_P d 76 176 [.ref a, l1, l2, l3, l4, l5, l6, l7, l8, l9, l10] st h Q = xe_P d 76 177 [.ref a, l1, l2, l3, l4, l5, l6, l7, l8, l9, l10] (.ref a :: st) h Q := xe_P_lo (ins := .aload_n 0) (len := 1) (by decide +kernel) rfl rfl
theorem xs_76_177 : xe_P d 76 177 ls (.ref a :: st) h Q = (xe_ob h a 5 ∧ xe_P d 76 180 ls (va_rf (xe_R h a 3) :: st) h Q) := xe_P_getR (i := 18) (by decide +kernel) (by decide +kernel) (by decide) rfl
theorem xs_76_180 : xe_P d 76 180 [l0, l1, l2, l3, l4, l5, l6, .int x, l8, l9, l10] st h Q = xe_P d 76 182 [l0, l1, l2, l3, l4, l5, l6, .int x, l8, l9, l10] (.int x :: st) h Q := xe_P_lo (ins := .iload 7) (len := 2) (by decide +kernel) rfl rfl
theorem xs_76_182 : xe_P d 76 182 ls (.int v :: .ref a :: st) h Q = ((xe_ia h a ∧ xe_ix h a v) ∧ xe_P d 76 183 ls (.int (xe_I h a v.toNatClampNeg) :: st) h Q) := xe_P_iald (by decide +kernel)
theorem xs_76_183 : xe_P d 76 183 [l0, l1, l2, l3, l4, l5, .int x, l7, l8, l9, l10] st h Q = xe_P d 76 185 [l0, l1, l2, l3, l4, l5, .int x, l7, l8, l9, l10] (.int x :: st) h Q := xe_P_lo (ins := .iload 6) (len := 2) (by decide +kernel) rfl rfl
theorem xs_76_185 : xe_P d 76 185 ls (v1 :: v0 :: .ref a :: st) h Q = ((xe_w st ≤ 8 ∧ xe_ob h a 3) ∧ xe_C d 51 [.ref a, v0, v1] h (fun r h' => xe_P d 76 188 ls (r.toList ++ st) h' Q)) := xe_P_ivv (y := 76) (pc := 185) (z := 51) (i := 107) (vs := [v1, v0]) (by decide +kernel) (by decide +kernel) rfl (by decide +kernel)
theorem xs_76_188 : xe_P d 76 188 ls (v0 :: st) h Q = (xe_w st ≤ 8 ∧ xe_C d 46 [v0] h (fun r h' => xe_P d 76 191 ls (r.toList ++ st) h' Q)) := xe_P_ivs (y := 76) (pc := 188) (z := 46) (i := 111) (vs := [v0]) (by decide +kernel) (by decide +kernel) rfl
theorem xs_76_191 : xe_P d 76 191 [l0, l1, l2, l3, l4, l5, l6, l7, l8, l9, l10] (.int x :: st) h Q = xe_P d 76 193 [l0, l1, l2, l3, l4, l5, l6, xe_cut l7, .int x, l9, l10] st h Q := xe_P_lo (ins := .istore 8) (len := 2) (by decide +kernel) rfl rfl
theorem xs_76_193 : xe_P d 76 193 [.ref a, l1, l2, l3, l4, l5, l6, l7, l8, l9, l10] st h Q = xe_P d 76 194 [.ref a, l1, l2, l3, l4, l5, l6, l7, l8, l9, l10] (.ref a :: st) h Q := xe_P_lo (ins := .aload_n 0) (len := 1) (by decide +kernel) rfl rfl
theorem xs_76_194 : xe_P d 76 194 ls (.ref a :: st) h Q = (xe_ob h a 5 ∧ xe_P d 76 197 ls (va_rf (xe_R h a 4) :: st) h Q) := xe_P_getR (i := 22) (by decide +kernel) (by decide +kernel) (by decide) rfl
theorem xs_76_197 : xe_P d 76 197 [l0, l1, l2, .int x, l4, l5, l6, l7, l8, l9, l10] st h Q = xe_P d 76 198 [l0, l1, l2, .int x, l4, l5, l6, l7, l8, l9, l10] (.int x :: st) h Q := xe_P_lo (ins := .iload_n 3) (len := 1) (by decide +kernel) rfl rfl
theorem xs_76_198 : xe_P d 76 198 [l0, l1, l2, l3, l4, l5, l6, .int x, l8, l9, l10] st h Q = xe_P d 76 200 [l0, l1, l2, l3, l4, l5, l6, .int x, l8, l9, l10] (.int x :: st) h Q := xe_P_lo (ins := .iload 7) (len := 2) (by decide +kernel) rfl rfl
theorem xs_76_200 : xe_P d 76 200 ls (v1 :: v0 :: .ref a :: st) h Q = ((xe_w st ≤ 8 ∧ xe_ob h a 3) ∧ xe_C d 50 [.ref a, v0, v1] h (fun r h' => xe_P d 76 203 ls (r.toList ++ st) h' Q)) := xe_P_ivv (y := 76) (pc := 200) (z := 50) (i := 114) (vs := [v1, v0]) (by decide +kernel) (by decide +kernel) rfl (by decide +kernel)
theorem xs_76_203 : xe_P d 76 203 [l0, l1, l2, l3, l4, l5, l6, l7, l8, l9, l10] (.int x :: st) h Q = xe_P d 76 205 [l0, l1, l2, l3, l4, l5, l6, l7, xe_cut l8, .int x, l10] st h Q := xe_P_lo (ins := .istore 9) (len := 2) (by decide +kernel) rfl rfl
theorem xs_76_205 : xe_P d 76 205 [.ref a, l1, l2, l3, l4, l5, l6, l7, l8, l9, l10] st h Q = xe_P d 76 206 [.ref a, l1, l2, l3, l4, l5, l6, l7, l8, l9, l10] (.ref a :: st) h Q := xe_P_lo (ins := .aload_n 0) (len := 1) (by decide +kernel) rfl rfl
theorem xs_76_206 : xe_P d 76 206 ls (.ref a :: st) h Q = (xe_ob h a 5 ∧ xe_P d 76 209 ls (va_rf (xe_R h a 4) :: st) h Q) := xe_P_getR (i := 22) (by decide +kernel) (by decide +kernel) (by decide) rfl
theorem xs_76_209 : xe_P d 76 209 [l0, l1, l2, l3, .int x, l5, l6, l7, l8, l9, l10] st h Q = xe_P d 76 211 [l0, l1, l2, l3, .int x, l5, l6, l7, l8, l9, l10] (.int x :: st) h Q := xe_P_lo (ins := .iload 4) (len := 2) (by decide +kernel) rfl rfl
theorem xs_76_211 : xe_P d 76 211 [l0, l1, l2, l3, l4, l5, .int x, l7, l8, l9, l10] st h Q = xe_P d 76 213 [l0, l1, l2, l3, l4, l5, .int x, l7, l8, l9, l10] (.int x :: st) h Q := xe_P_lo (ins := .iload 6) (len := 2) (by decide +kernel) rfl rfl
theorem xs_76_213 : xe_P d 76 213 ls (v1 :: v0 :: .ref a :: st) h Q = ((xe_w st ≤ 8 ∧ xe_ob h a 3) ∧ xe_C d 50 [.ref a, v0, v1] h (fun r h' => xe_P d 76 216 ls (r.toList ++ st) h' Q)) := xe_P_ivv (y := 76) (pc := 213) (z := 50) (i := 114) (vs := [v1, v0]) (by decide +kernel) (by decide +kernel) rfl (by decide +kernel)
theorem xs_76_216 : xe_P d 76 216 [l0, l1, l2, l3, l4, l5, l6, l7, l8, l9, l10] (.int x :: st) h Q = xe_P d 76 218 [l0, l1, l2, l3, l4, l5, l6, l7, l8, xe_cut l9, .int x] st h Q := xe_P_lo (ins := .istore 10) (len := 2) (by decide +kernel) rfl rfl
theorem xs_76_218 : xe_P d 76 218 [.ref a, l1, l2, l3, l4, l5, l6, l7, l8, l9, l10] st h Q = xe_P d 76 219 [.ref a, l1, l2, l3, l4, l5, l6, l7, l8, l9, l10] (.ref a :: st) h Q := xe_P_lo (ins := .aload_n 0) (len := 1) (by decide +kernel) rfl rfl
theorem xs_76_219 : xe_P d 76 219 [l0, l1, l2, l3, l4, l5, l6, l7, .int x, l9, l10] st h Q = xe_P d 76 221 [l0, l1, l2, l3, l4, l5, l6, l7, .int x, l9, l10] (.int x :: st) h Q := xe_P_lo (ins := .iload 8) (len := 2) (by decide +kernel) rfl rfl
theorem xs_76_221 : xe_P d 76 221 [l0, l1, l2, l3, l4, l5, l6, l7, l8, .int x, l10] st h Q = xe_P d 76 223 [l0, l1, l2, l3, l4, l5, l6, l7, l8, .int x, l10] (.int x :: st) h Q := xe_P_lo (ins := .iload 9) (len := 2) (by decide +kernel) rfl rfl
theorem xs_76_223 : xe_P d 76 223 [l0, l1, l2, l3, l4, l5, l6, l7, l8, l9, .int x] st h Q = xe_P d 76 225 [l0, l1, l2, l3, l4, l5, l6, l7, l8, l9, .int x] (.int x :: st) h Q := xe_P_lo (ins := .iload 10) (len := 2) (by decide +kernel) rfl rfl
theorem xs_76_225 : xe_P d 76 225 ls st h Q = xe_P d 76 227 ls (.int 8 :: st) h Q := xe_P_ar (ins := .bipush 8) (len := 2) (by decide +kernel) rfl
theorem xs_76_227 : xe_P d 76 227 [l0, l1, l2, l3, l4, l5, .int x, l7, l8, l9, l10] st h Q = xe_P d 76 229 [l0, l1, l2, l3, l4, l5, .int x, l7, l8, l9, l10] (.int x :: st) h Q := xe_P_lo (ins := .iload 6) (len := 2) (by decide +kernel) rfl rfl
theorem xs_76_229 : xe_P d 76 229 ls (.int v :: .int x :: st) h Q = xe_P d 76 230 ls (.int (x * v) :: st) h Q := xe_P_ar (ins := .imul) (len := 1) (by decide +kernel) rfl
theorem xs_76_230 : xe_P d 76 230 [l0, l1, l2, l3, l4, l5, l6, .int x, l8, l9, l10] st h Q = xe_P d 76 232 [l0, l1, l2, l3, l4, l5, l6, .int x, l8, l9, l10] (.int x :: st) h Q := xe_P_lo (ins := .iload 7) (len := 2) (by decide +kernel) rfl rfl
theorem xs_76_232 : xe_P d 76 232 ls (.int v :: .int x :: st) h Q = xe_P d 76 233 ls (.int (x + v) :: st) h Q := xe_P_ar (ins := .iadd) (len := 1) (by decide +kernel) rfl
theorem xs_76_233 : xe_P d 76 233 [l0, .int x, l2, l3, l4, l5, l6, l7, l8, l9, l10] st h Q = xe_P d 76 234 [l0, .int x, l2, l3, l4, l5, l6, l7, l8, l9, l10] (.int x :: st) h Q := xe_P_lo (ins := .iload_n 1) (len := 1) (by decide +kernel) rfl rfl
theorem xs_76_234 : xe_P d 76 234 ls (v4 :: v3 :: v2 :: v1 :: v0 :: .ref a :: st) h Q = ((xe_w st ≤ 8 ∧ xe_ob h a 5) ∧ xe_C d 78 [.ref a, v0, v1, v2, v3, v4] h (fun r h' => xe_P d 76 237 ls (r.toList ++ st) h' Q)) := xe_P_ivv (y := 76) (pc := 234) (z := 78) (i := 90) (vs := [v4, v3, v2, v1, v0]) (by decide +kernel) (by decide +kernel) rfl (by decide +kernel)
theorem xs_76_237 : xe_P d 76 237 ls (.int x :: st) h Q = (if x = 0 then xe_P d 76 253 ls st h Q else xe_P d 76 240 ls st h Q) := xe_P_if (ins := .ifCond .eq 16) (len := 3) (off := 16) (by decide +kernel) (by decide) rfl rfl rfl
theorem xs_76_240 : xe_P d 76 240 [.ref a, l1, l2, l3, l4, l5, l6, l7, l8, l9, l10] st h Q = xe_P d 76 241 [.ref a, l1, l2, l3, l4, l5, l6, l7, l8, l9, l10] (.ref a :: st) h Q := xe_P_lo (ins := .aload_n 0) (len := 1) (by decide +kernel) rfl rfl
theorem xs_76_241 : xe_P d 76 241 [l0, l1, l2, l3, l4, l5, l6, l7, l8, .int x, l10] st h Q = xe_P d 76 243 [l0, l1, l2, l3, l4, l5, l6, l7, l8, .int x, l10] (.int x :: st) h Q := xe_P_lo (ins := .iload 9) (len := 2) (by decide +kernel) rfl rfl
theorem xs_76_243 : xe_P d 76 243 [l0, l1, l2, l3, l4, l5, l6, l7, l8, l9, .int x] st h Q = xe_P d 76 245 [l0, l1, l2, l3, l4, l5, l6, l7, l8, l9, .int x] (.int x :: st) h Q := xe_P_lo (ins := .iload 10) (len := 2) (by decide +kernel) rfl rfl
theorem xs_76_245 : xe_P d 76 245 ls (v1 :: v0 :: .ref a :: st) h Q = ((xe_w st ≤ 8 ∧ xe_ob h a 5) ∧ xe_C d 77 [.ref a, v0, v1] h (fun r h' => xe_P d 76 248 ls (r.toList ++ st) h' Q)) := xe_P_ivv (y := 76) (pc := 245) (z := 77) (i := 94) (vs := [v1, v0]) (by decide +kernel) (by decide +kernel) rfl (by decide +kernel)
theorem xs_76_248 : xe_P d 76 248 ls (.int x :: st) h Q = (if x = 0 then xe_P d 76 253 ls st h Q else xe_P d 76 251 ls st h Q) := xe_P_if (ins := .ifCond .eq 5) (len := 3) (off := 5) (by decide +kernel) (by decide) rfl rfl rfl
theorem xs_76_251 : xe_P d 76 251 ls st h Q = xe_P d 76 252 ls (.int 1 :: st) h Q := xe_P_ar (ins := .iconst 1) (len := 1) (by decide +kernel) rfl
theorem xs_76_252 : xe_P d 76 252 ls [.int x] h Q = ((x = 0 ∨ x = 1) ∧ Q (some (.int x)) h) := xe_P_zreturn (by decide +kernel) rfl
theorem xs_76_253 : xe_P d 76 253 [l0, l1, l2, l3, l4, l5, l6, .int x, l8, l9, l10] st h Q = xe_P d 76 256 [l0, l1, l2, l3, l4, l5, xe_cut l6, .int (x + 1), l8, l9, l10] st h Q := xe_P_lo (ins := .iinc 7 1) (len := 3) (by decide +kernel) rfl rfl
theorem xs_76_256 : xe_P d 76 256 ls st h Q = xe_P d 76 125 ls st h Q := xe_P_go (len := 3) (off := (-131)) (by decide +kernel) (by decide)
theorem xs_76_259 : xe_P d 76 259 [l0, l1, l2, l3, l4, l5, .int x, l7, l8, l9, l10] st h Q = xe_P d 76 262 [l0, l1, l2, l3, l4, xe_cut l5, .int (x + 1), l7, l8, l9, l10] st h Q := xe_P_lo (ins := .iinc 6 1) (len := 3) (by decide +kernel) rfl rfl
theorem xs_76_262 : xe_P d 76 262 ls st h Q = xe_P d 76 115 ls st h Q := xe_P_go (len := 3) (off := (-147)) (by decide +kernel) (by decide)
theorem xs_76_265 : xe_P d 76 265 ls st h Q = xe_P d 76 266 ls (.int 0 :: st) h Q := xe_P_ar (ins := .iconst 0) (len := 1) (by decide +kernel) rfl
theorem xs_76_266 : xe_P d 76 266 ls [.int x] h Q = ((x = 0 ∨ x = 1) ∧ Q (some (.int x)) h) := xe_P_zreturn (by decide +kernel) rfl
theorem xs_76 : xe_C (d + 1) 76 [.ref a, .int x0] h Q = xe_P d 76 0 [.ref a, .int x0, .retAddr 0, .retAddr 0, .retAddr 0, .retAddr 0, .retAddr 0, .retAddr 0, .retAddr 0, .retAddr 0, .retAddr 0] [] h Q := xe_C_at (Nat.le_of_ble_eq_true rfl) rfl
theorem xs_77_0 : xe_P d 77 0 [l0, .int x, l2] st h Q = xe_P d 77 1 [l0, .int x, l2] (.int x :: st) h Q := xe_P_lo (ins := .iload_n 1) (len := 1) (by decide +kernel) rfl rfl
theorem xs_77_1 : xe_P d 77 1 [.ref a, l1, l2] st h Q = xe_P d 77 2 [.ref a, l1, l2] (.ref a :: st) h Q := xe_P_lo (ins := .aload_n 0) (len := 1) (by decide +kernel) rfl rfl
theorem xs_77_2 : xe_P d 77 2 ls (.ref a :: st) h Q = (xe_ob h a 5 ∧ xe_P d 77 5 ls (.int (xe_I h a 6) :: st) h Q) := xe_P_getI (i := 35) (by decide +kernel) (by decide +kernel) (by decide) rfl
theorem xs_77_5 : xe_P d 77 5 ls (.int v :: .int x :: st) h Q = (if x = v then xe_P d 77 8 ls st h Q else xe_P d 77 27 ls st h Q) := xe_P_ifn (ins := .if_icmp .ne 22) (len := 3) (off := 22) (by decide +kernel) (by decide) rfl rfl rfl
theorem xs_77_8 : xe_P d 77 8 [.ref a, l1, l2] st h Q = xe_P d 77 9 [.ref a, l1, l2] (.ref a :: st) h Q := xe_P_lo (ins := .aload_n 0) (len := 1) (by decide +kernel) rfl rfl
theorem xs_77_9 : xe_P d 77 9 ls (.ref a :: st) h Q = (xe_ob h a 5 ∧ xe_P d 77 12 ls (.int (xe_I h a 5) :: st) h Q) := xe_P_getI (i := 26) (by decide +kernel) (by decide +kernel) (by decide) rfl
theorem xs_77_12 : xe_P d 77 12 ls (.int x :: st) h Q = (if x = 0 then xe_P d 77 23 ls st h Q else xe_P d 77 15 ls st h Q) := xe_P_if (ins := .ifCond .eq 11) (len := 3) (off := 11) (by decide +kernel) (by decide) rfl rfl rfl
theorem xs_77_15 : xe_P d 77 15 [l0, l1, .int x] st h Q = xe_P d 77 16 [l0, l1, .int x] (.int x :: st) h Q := xe_P_lo (ins := .iload_n 2) (len := 1) (by decide +kernel) rfl rfl
theorem xs_77_16 : xe_P d 77 16 [.ref a, l1, l2] st h Q = xe_P d 77 17 [.ref a, l1, l2] (.ref a :: st) h Q := xe_P_lo (ins := .aload_n 0) (len := 1) (by decide +kernel) rfl rfl
theorem xs_77_17 : xe_P d 77 17 ls (.ref a :: st) h Q = (xe_ob h a 5 ∧ xe_P d 77 20 ls (.int (xe_I h a 7) :: st) h Q) := xe_P_getI (i := 39) (by decide +kernel) (by decide +kernel) (by decide) rfl
theorem xs_77_20 : xe_P d 77 20 ls (.int v :: .int x :: st) h Q = (if x = v then xe_P d 77 23 ls st h Q else xe_P d 77 27 ls st h Q) := xe_P_ifn (ins := .if_icmp .ne 7) (len := 3) (off := 7) (by decide +kernel) (by decide) rfl rfl rfl
theorem xs_77_23 : xe_P d 77 23 ls st h Q = xe_P d 77 24 ls (.int 1 :: st) h Q := xe_P_ar (ins := .iconst 1) (len := 1) (by decide +kernel) rfl
theorem xs_77_24 : xe_P d 77 24 ls st h Q = xe_P d 77 28 ls st h Q := xe_P_go (len := 3) (off := 4) (by decide +kernel) (by decide)
theorem xs_77_27 : xe_P d 77 27 ls st h Q = xe_P d 77 28 ls (.int 0 :: st) h Q := xe_P_ar (ins := .iconst 0) (len := 1) (by decide +kernel) rfl
theorem xs_77_28 : xe_P d 77 28 ls [.int x] h Q = ((x = 0 ∨ x = 1) ∧ Q (some (.int x)) h) := xe_P_zreturn (by decide +kernel) rfl
theorem xs_77 : xe_C (d + 1) 77 [.ref a, .int x0, .int x1] h Q = xe_P d 77 0 [.ref a, .int x0, .int x1] [] h Q := xe_C_at (Nat.le_of_ble_eq_true rfl) rfl
theorem xs_78_0 : xe_P d 78 0 [l0, l1, .int x, l3, l4, l5, l6, l7, l8, l9] st h Q = xe_P d 78 1 [l0, l1, .int x, l3, l4, l5, l6, l7, l8, l9] (.int x :: st) h Q := xe_P_lo (ins := .iload_n 2) (len := 1) (by decide +kernel) rfl rfl
theorem xs_78_1 : xe_P d 78 1 ls st h Q = xe_P d 78 2 ls (.int 5 :: st) h Q := xe_P_ar (ins := .iconst 5) (len := 1) (by decide +kernel) rfl
theorem xs_78_2 : xe_P d 78 2 [l0, l1, l2, .int x, l4, l5, l6, l7, l8, l9] st h Q = xe_P d 78 3 [l0, l1, l2, .int x, l4, l5, l6, l7, l8, l9] (.int x :: st) h Q := xe_P_lo (ins := .iload_n 3) (len := 1) (by decide +kernel) rfl rfl
theorem xs_78_3 : xe_P d 78 3 ls (.int v :: .int x :: st) h Q = xe_P d 78 4 ls (.int (x * v) :: st) h Q := xe_P_ar (ins := .imul) (len := 1) (by decide +kernel) rfl
theorem xs_78_4 : xe_P d 78 4 ls (.int v :: .int x :: st) h Q = xe_P d 78 5 ls (.int (x + v) :: st) h Q := xe_P_ar (ins := .iadd) (len := 1) (by decide +kernel) rfl
theorem xs_78_5 : xe_P d 78 5 ls st h Q = xe_P d 78 7 ls (.int 12 :: st) h Q := xe_P_ar (ins := .bipush 12) (len := 2) (by decide +kernel) rfl
theorem xs_78_7 : xe_P d 78 7 ls (.int v :: .int x :: st) h Q = xe_P d 78 8 ls (.int (x <<< (v &&& 31)) :: st) h Q := xe_P_ar (ins := .ishl) (len := 1) (by decide +kernel) rfl
theorem xs_78_8 : xe_P d 78 8 [l0, .int x, l2, l3, l4, l5, l6, l7, l8, l9] st h Q = xe_P d 78 9 [l0, .int x, l2, l3, l4, l5, l6, l7, l8, l9] (.int x :: st) h Q := xe_P_lo (ins := .iload_n 1) (len := 1) (by decide +kernel) rfl rfl
theorem xs_78_9 : xe_P d 78 9 ls (v0 :: st) h Q = (xe_w st ≤ 8 ∧ xe_C d 79 [v0] h (fun r h' => xe_P d 78 12 ls (r.toList ++ st) h' Q)) := xe_P_ivs (y := 78) (pc := 9) (z := 79) (i := 117) (vs := [v0]) (by decide +kernel) (by decide +kernel) rfl
theorem xs_78_12 : xe_P d 78 12 ls (.int v :: .int x :: st) h Q = xe_P d 78 13 ls (.int (x ||| v) :: st) h Q := xe_P_ar (ins := .ior) (len := 1) (by decide +kernel) rfl
theorem xs_78_13 : xe_P d 78 13 [l0, l1, l2, l3, l4, l5, l6, l7, l8, l9] (.int x :: st) h Q = xe_P d 78 15 [l0, l1, l2, l3, l4, xe_cut l5, .int x, l7, l8, l9] st h Q := xe_P_lo (ins := .istore 6) (len := 2) (by decide +kernel) rfl rfl
theorem xs_78_15 : xe_P d 78 15 [l0, l1, l2, l3, l4, l5, .int x, l7, l8, l9] st h Q = xe_P d 78 17 [l0, l1, l2, l3, l4, l5, .int x, l7, l8, l9] (.int x :: st) h Q := xe_P_lo (ins := .iload 6) (len := 2) (by decide +kernel) rfl rfl
theorem xs_78_17 : xe_P d 78 17 ls st h Q = xe_P d 78 19 ls (.int 6 :: st) h Q := xe_P_ar (ins := .bipush 6) (len := 2) (by decide +kernel) rfl
theorem xs_78_19 : xe_P d 78 19 ls (.int v :: .int x :: st) h Q = xe_P d 78 20 ls (.int (x >>> (v &&& 31)) :: st) h Q := xe_P_ar (ins := .ishr) (len := 1) (by decide +kernel) rfl
theorem xs_78_20 : xe_P d 78 20 [l0, l1, l2, l3, l4, l5, l6, l7, l8, l9] (.int x :: st) h Q = xe_P d 78 22 [l0, l1, l2, l3, l4, l5, xe_cut l6, .int x, l8, l9] st h Q := xe_P_lo (ins := .istore 7) (len := 2) (by decide +kernel) rfl rfl
theorem xs_78_22 : xe_P d 78 22 ls st h Q = xe_P d 78 23 ls (.long 1 :: st) h Q := xe_P_ar (ins := .lconst 1) (len := 1) (by decide +kernel) rfl
theorem xs_78_23 : xe_P d 78 23 [l0, l1, l2, l3, l4, l5, .int x, l7, l8, l9] st h Q = xe_P d 78 25 [l0, l1, l2, l3, l4, l5, .int x, l7, l8, l9] (.int x :: st) h Q := xe_P_lo (ins := .iload 6) (len := 2) (by decide +kernel) rfl rfl
theorem xs_78_25 : xe_P d 78 25 ls st h Q = xe_P d 78 27 ls (.int 63 :: st) h Q := xe_P_ar (ins := .bipush 63) (len := 2) (by decide +kernel) rfl
theorem xs_78_27 : xe_P d 78 27 ls (.int v :: .int x :: st) h Q = xe_P d 78 28 ls (.int (x &&& v) :: st) h Q := xe_P_ar (ins := .iand) (len := 1) (by decide +kernel) rfl
theorem xs_78_28 : xe_P d 78 28 ls (.int v :: .long w :: st) h Q = xe_P d 78 29 ls (.long (w <<< (v.toInt64 &&& 63)) :: st) h Q := xe_P_ar (ins := .lshl) (len := 1) (by decide +kernel) rfl
theorem xs_78_29 : xe_P d 78 29 [l0, l1, l2, l3, l4, l5, l6, l7, l8, l9] (.long w :: st) h Q = xe_P d 78 31 [l0, l1, l2, l3, l4, l5, l6, xe_cut l7, .long w, .retAddr 0] st h Q := xe_P_lo (ins := .lstore 8) (len := 2) (by decide +kernel) rfl rfl
theorem xs_78_31 : xe_P d 78 31 [l0, l1, l2, l3, l4, l5, l6, .int x, l8, l9] st h Q = xe_P d 78 33 [l0, l1, l2, l3, l4, l5, l6, .int x, l8, l9] (.int x :: st) h Q := xe_P_lo (ins := .iload 7) (len := 2) (by decide +kernel) rfl rfl
theorem xs_78_33 : xe_P d 78 33 ls (.int x :: st) h Q = (if x < 0 then xe_P d 78 61 ls st h Q else xe_P d 78 36 ls st h Q) := xe_P_if (ins := .ifCond .lt 28) (len := 3) (off := 28) (by decide +kernel) (by decide) rfl rfl rfl
theorem xs_78_36 : xe_P d 78 36 [l0, l1, l2, l3, l4, l5, l6, .int x, l8, l9] st h Q = xe_P d 78 38 [l0, l1, l2, l3, l4, l5, l6, .int x, l8, l9] (.int x :: st) h Q := xe_P_lo (ins := .iload 7) (len := 2) (by decide +kernel) rfl rfl
theorem xs_78_38 : xe_P d 78 38 [.ref a, l1, l2, l3, l4, l5, l6, l7, l8, l9] st h Q = xe_P d 78 39 [.ref a, l1, l2, l3, l4, l5, l6, l7, l8, l9] (.ref a :: st) h Q := xe_P_lo (ins := .aload_n 0) (len := 1) (by decide +kernel) rfl rfl
theorem xs_78_39 : xe_P d 78 39 ls (.ref a :: st) h Q = (xe_ob h a 5 ∧ xe_P d 78 42 ls (va_rf (xe_R h a 0) :: st) h Q) := xe_P_getR (i := 11) (by decide +kernel) (by decide +kernel) (by decide) rfl
theorem xs_78_42 : xe_P d 78 42 ls (.ref a :: st) h Q = (xe_al h a ∧ xe_P d 78 43 ls (.int (Int32.ofNat (xe_N h a)) :: st) h Q) := xe_P_alen (by decide +kernel)
theorem xs_78_43 : xe_P d 78 43 ls (.int v :: .int x :: st) h Q = (if v ≤ x then xe_P d 78 61 ls st h Q else xe_P d 78 46 ls st h Q) := xe_P_if (ins := .if_icmp .ge 18) (len := 3) (off := 18) (by decide +kernel) (by decide) rfl rfl rfl
theorem xs_78_46 : xe_P d 78 46 [.ref a, l1, l2, l3, l4, l5, l6, l7, l8, l9] st h Q = xe_P d 78 47 [.ref a, l1, l2, l3, l4, l5, l6, l7, l8, l9] (.ref a :: st) h Q := xe_P_lo (ins := .aload_n 0) (len := 1) (by decide +kernel) rfl rfl
theorem xs_78_47 : xe_P d 78 47 ls (.ref a :: st) h Q = (xe_ob h a 5 ∧ xe_P d 78 50 ls (va_rf (xe_R h a 0) :: st) h Q) := xe_P_getR (i := 11) (by decide +kernel) (by decide +kernel) (by decide) rfl
theorem xs_78_50 : xe_P d 78 50 [l0, l1, l2, l3, l4, l5, l6, .int x, l8, l9] st h Q = xe_P d 78 52 [l0, l1, l2, l3, l4, l5, l6, .int x, l8, l9] (.int x :: st) h Q := xe_P_lo (ins := .iload 7) (len := 2) (by decide +kernel) rfl rfl
theorem xs_78_52 : xe_P d 78 52 ls (.int v :: .ref a :: st) h Q = ((xe_ob h a 9 ∧ xe_ix h a v) ∧ xe_P d 78 53 ls (.long (xe_L h a v.toNatClampNeg) :: st) h Q) := xe_P_lald (by decide +kernel)
theorem xs_78_53 : xe_P d 78 53 [l0, l1, l2, l3, l4, l5, l6, l7, .long w, l9] st h Q = xe_P d 78 55 [l0, l1, l2, l3, l4, l5, l6, l7, .long w, l9] (.long w :: st) h Q := xe_P_lo (ins := .lload 8) (len := 2) (by decide +kernel) rfl rfl
theorem xs_78_55 : xe_P d 78 55 ls (.long u :: .long w :: st) h Q = xe_P d 78 56 ls (.long (w &&& u) :: st) h Q := xe_P_ar (ins := .land) (len := 1) (by decide +kernel) rfl
theorem xs_78_56 : xe_P d 78 56 ls st h Q = xe_P d 78 57 ls (.long 0 :: st) h Q := xe_P_ar (ins := .lconst 0) (len := 1) (by decide +kernel) rfl
theorem xs_78_57 : xe_P d 78 57 ls (.long u :: .long w :: st) h Q = xe_P d 78 58 ls (.int (lg_cmp w u) :: st) h Q := xe_P_ar (ins := .lcmp) (len := 1) (by decide +kernel) rfl
theorem xs_78_58 : xe_P d 78 58 ls (.int x :: st) h Q = (if x = 0 then xe_P d 78 63 ls st h Q else xe_P d 78 61 ls st h Q) := xe_P_if (ins := .ifCond .eq 5) (len := 3) (off := 5) (by decide +kernel) (by decide) rfl rfl rfl
theorem xs_78_61 : xe_P d 78 61 ls st h Q = xe_P d 78 62 ls (.int 0 :: st) h Q := xe_P_ar (ins := .iconst 0) (len := 1) (by decide +kernel) rfl
theorem xs_78_62 : xe_P d 78 62 ls [.int x] h Q = ((x = 0 ∨ x = 1) ∧ Q (some (.int x)) h) := xe_P_zreturn (by decide +kernel) rfl
theorem xs_78_63 : xe_P d 78 63 [.ref a, l1, l2, l3, l4, l5, l6, l7, l8, l9] st h Q = xe_P d 78 64 [.ref a, l1, l2, l3, l4, l5, l6, l7, l8, l9] (.ref a :: st) h Q := xe_P_lo (ins := .aload_n 0) (len := 1) (by decide +kernel) rfl rfl
theorem xs_78_64 : xe_P d 78 64 ls (.ref a :: st) h Q = (xe_ob h a 5 ∧ xe_P d 78 67 ls (va_rf (xe_R h a 0) :: st) h Q) := xe_P_getR (i := 11) (by decide +kernel) (by decide +kernel) (by decide) rfl
theorem xs_78_67 : xe_P d 78 67 [l0, l1, l2, l3, l4, l5, l6, .int x, l8, l9] st h Q = xe_P d 78 69 [l0, l1, l2, l3, l4, l5, l6, .int x, l8, l9] (.int x :: st) h Q := xe_P_lo (ins := .iload 7) (len := 2) (by decide +kernel) rfl rfl
theorem xs_78_69 : xe_P d 78 69 ls (.int v :: .ref a :: st) h Q = xe_P d 78 70 ls (.int v :: .ref a :: .int v :: .ref a :: st) h Q := xe_P_ar (ins := .dup2) (len := 1) (by decide +kernel) rfl
theorem xs_78_70 : xe_P d 78 70 ls (.int v :: .ref a :: st) h Q = ((xe_ob h a 9 ∧ xe_ix h a v) ∧ xe_P d 78 71 ls (.long (xe_L h a v.toNatClampNeg) :: st) h Q) := xe_P_lald (by decide +kernel)
theorem xs_78_71 : xe_P d 78 71 [l0, l1, l2, l3, l4, l5, l6, l7, .long w, l9] st h Q = xe_P d 78 73 [l0, l1, l2, l3, l4, l5, l6, l7, .long w, l9] (.long w :: st) h Q := xe_P_lo (ins := .lload 8) (len := 2) (by decide +kernel) rfl rfl
theorem xs_78_73 : xe_P d 78 73 ls (.long u :: .long w :: st) h Q = xe_P d 78 74 ls (.long (w ||| u) :: st) h Q := xe_P_ar (ins := .lor) (len := 1) (by decide +kernel) rfl
theorem xs_78_74 : xe_P d 78 74 ls (.long w :: .int v :: .ref a :: st) h Q = ((xe_ob h a 9 ∧ xe_ix h a v) ∧ xe_P d 78 75 ls st (xe_sL2 h a v.toNatClampNeg w) Q) := xe_P_last (by decide +kernel)
theorem xs_78_75 : xe_P d 78 75 [.ref a, l1, l2, l3, l4, l5, l6, l7, l8, l9] st h Q = xe_P d 78 76 [.ref a, l1, l2, l3, l4, l5, l6, l7, l8, l9] (.ref a :: st) h Q := xe_P_lo (ins := .aload_n 0) (len := 1) (by decide +kernel) rfl rfl
theorem xs_78_76 : xe_P d 78 76 ls (.ref a :: st) h Q = (xe_ob h a 5 ∧ xe_P d 78 79 ls (.int (xe_I h a 2) :: st) h Q) := xe_P_getI (i := 60) (by decide +kernel) (by decide +kernel) (by decide) rfl
theorem xs_78_79 : xe_P d 78 79 [.ref a, l1, l2, l3, l4, l5, l6, l7, l8, l9] st h Q = xe_P d 78 80 [.ref a, l1, l2, l3, l4, l5, l6, l7, l8, l9] (.ref a :: st) h Q := xe_P_lo (ins := .aload_n 0) (len := 1) (by decide +kernel) rfl rfl
theorem xs_78_80 : xe_P d 78 80 ls (.ref a :: st) h Q = (xe_ob h a 5 ∧ xe_P d 78 83 ls (va_rf (xe_R h a 1) :: st) h Q) := xe_P_getR (i := 15) (by decide +kernel) (by decide +kernel) (by decide) rfl
theorem xs_78_83 : xe_P d 78 83 ls (.ref a :: st) h Q = (xe_al h a ∧ xe_P d 78 84 ls (.int (Int32.ofNat (xe_N h a)) :: st) h Q) := xe_P_alen (by decide +kernel)
theorem xs_78_84 : xe_P d 78 84 ls (.int v :: .int x :: st) h Q = (if x < v then xe_P d 78 105 ls st h Q else xe_P d 78 87 ls st h Q) := xe_P_if (ins := .if_icmp .lt 21) (len := 3) (off := 21) (by decide +kernel) (by decide) rfl rfl rfl
theorem xs_78_87 : xe_P d 78 87 [.ref a, l1, l2, l3, l4, l5, l6, l7, l8, l9] st h Q = xe_P d 78 88 [.ref a, l1, l2, l3, l4, l5, l6, l7, l8, l9] (.ref a :: st) h Q := xe_P_lo (ins := .aload_n 0) (len := 1) (by decide +kernel) rfl rfl
theorem xs_78_88 : xe_P d 78 88 [.ref a, l1, l2, l3, l4, l5, l6, l7, l8, l9] st h Q = xe_P d 78 89 [.ref a, l1, l2, l3, l4, l5, l6, l7, l8, l9] (.ref a :: st) h Q := xe_P_lo (ins := .aload_n 0) (len := 1) (by decide +kernel) rfl rfl
theorem xs_78_89 : xe_P d 78 89 ls (.ref a :: st) h Q = (xe_ob h a 5 ∧ xe_P d 78 92 ls (va_rf (xe_R h a 1) :: st) h Q) := xe_P_getR (i := 15) (by decide +kernel) (by decide +kernel) (by decide) rfl
theorem xs_78_92 : xe_P d 78 92 ls st h Q = xe_P d 78 93 ls (.int 2 :: st) h Q := xe_P_ar (ins := .iconst 2) (len := 1) (by decide +kernel) rfl
theorem xs_78_93 : xe_P d 78 93 [.ref a, l1, l2, l3, l4, l5, l6, l7, l8, l9] st h Q = xe_P d 78 94 [.ref a, l1, l2, l3, l4, l5, l6, l7, l8, l9] (.ref a :: st) h Q := xe_P_lo (ins := .aload_n 0) (len := 1) (by decide +kernel) rfl rfl
theorem xs_78_94 : xe_P d 78 94 ls (.ref a :: st) h Q = (xe_ob h a 5 ∧ xe_P d 78 97 ls (va_rf (xe_R h a 1) :: st) h Q) := xe_P_getR (i := 15) (by decide +kernel) (by decide +kernel) (by decide) rfl
theorem xs_78_97 : xe_P d 78 97 ls (.ref a :: st) h Q = (xe_al h a ∧ xe_P d 78 98 ls (.int (Int32.ofNat (xe_N h a)) :: st) h Q) := xe_P_alen (by decide +kernel)
theorem xs_78_98 : xe_P d 78 98 ls (.int v :: .int x :: st) h Q = xe_P d 78 99 ls (.int (x * v) :: st) h Q := xe_P_ar (ins := .imul) (len := 1) (by decide +kernel) rfl
theorem xs_78_99 : xe_P d 78 99 ls (v1 :: v0 :: st) h Q = (xe_w st ≤ 8 ∧ xe_C d 217 [v0, v1] h (fun r h' => xe_P d 78 102 ls (r.toList ++ st) h' Q)) := xe_P_ivs (y := 78) (pc := 99) (z := 217) (i := 120) (vs := [v1, v0]) (by decide +kernel) (by decide +kernel) rfl
theorem xs_78_102 : xe_P d 78 102 ls (.ref b :: .ref a :: st) h Q = ((xe_ob h a 5 ∧ b < xe_S) ∧ xe_P d 78 105 ls st (xe_sR h a 1 (some b)) Q) := xe_P_putR (i := 15) (by decide +kernel) (by decide +kernel) (by decide) (by decide +kernel) rfl
theorem xs_78_105 : xe_P d 78 105 [.ref a, l1, l2, l3, l4, l5, l6, l7, l8, l9] st h Q = xe_P d 78 106 [.ref a, l1, l2, l3, l4, l5, l6, l7, l8, l9] (.ref a :: st) h Q := xe_P_lo (ins := .aload_n 0) (len := 1) (by decide +kernel) rfl rfl
theorem xs_78_106 : xe_P d 78 106 ls (.ref a :: st) h Q = (xe_ob h a 5 ∧ xe_P d 78 109 ls (va_rf (xe_R h a 1) :: st) h Q) := xe_P_getR (i := 15) (by decide +kernel) (by decide +kernel) (by decide) rfl
theorem xs_78_109 : xe_P d 78 109 [.ref a, l1, l2, l3, l4, l5, l6, l7, l8, l9] st h Q = xe_P d 78 110 [.ref a, l1, l2, l3, l4, l5, l6, l7, l8, l9] (.ref a :: st) h Q := xe_P_lo (ins := .aload_n 0) (len := 1) (by decide +kernel) rfl rfl
theorem xs_78_110 : xe_P d 78 110 ls (.ref a :: st) h Q = (xe_ob h a 5 ∧ xe_P d 78 113 ls (.int (xe_I h a 2) :: st) h Q) := xe_P_getI (i := 60) (by decide +kernel) (by decide +kernel) (by decide) rfl
theorem xs_78_113 : xe_P d 78 113 [l0, .int x, l2, l3, l4, l5, l6, l7, l8, l9] st h Q = xe_P d 78 114 [l0, .int x, l2, l3, l4, l5, l6, l7, l8, l9] (.int x :: st) h Q := xe_P_lo (ins := .iload_n 1) (len := 1) (by decide +kernel) rfl rfl
theorem xs_78_114 : xe_P d 78 114 ls (.int x :: st) h Q = xe_P d 78 115 ls (.long x.toInt64 :: st) h Q := xe_P_ar (ins := .i2l) (len := 1) (by decide +kernel) rfl
theorem xs_78_115 : xe_P d 78 115 [l0, l1, .int x, l3, l4, l5, l6, l7, l8, l9] st h Q = xe_P d 78 116 [l0, l1, .int x, l3, l4, l5, l6, l7, l8, l9] (.int x :: st) h Q := xe_P_lo (ins := .iload_n 2) (len := 1) (by decide +kernel) rfl rfl
theorem xs_78_116 : xe_P d 78 116 ls (.int x :: st) h Q = xe_P d 78 117 ls (.long x.toInt64 :: st) h Q := xe_P_ar (ins := .i2l) (len := 1) (by decide +kernel) rfl
theorem xs_78_117 : xe_P d 78 117 ls st h Q = xe_P d 78 119 ls (.int 18 :: st) h Q := xe_P_ar (ins := .bipush 18) (len := 2) (by decide +kernel) rfl
theorem xs_78_119 : xe_P d 78 119 ls (.int v :: .long w :: st) h Q = xe_P d 78 120 ls (.long (w <<< (v.toInt64 &&& 63)) :: st) h Q := xe_P_ar (ins := .lshl) (len := 1) (by decide +kernel) rfl
theorem xs_78_120 : xe_P d 78 120 ls (.long u :: .long w :: st) h Q = xe_P d 78 121 ls (.long (w ||| u) :: st) h Q := xe_P_ar (ins := .lor) (len := 1) (by decide +kernel) rfl
theorem xs_78_121 : xe_P d 78 121 [l0, l1, l2, .int x, l4, l5, l6, l7, l8, l9] st h Q = xe_P d 78 122 [l0, l1, l2, .int x, l4, l5, l6, l7, l8, l9] (.int x :: st) h Q := xe_P_lo (ins := .iload_n 3) (len := 1) (by decide +kernel) rfl rfl
theorem xs_78_122 : xe_P d 78 122 ls (.int x :: st) h Q = xe_P d 78 123 ls (.long x.toInt64 :: st) h Q := xe_P_ar (ins := .i2l) (len := 1) (by decide +kernel) rfl
theorem xs_78_123 : xe_P d 78 123 ls st h Q = xe_P d 78 125 ls (.int 21 :: st) h Q := xe_P_ar (ins := .bipush 21) (len := 2) (by decide +kernel) rfl
theorem xs_78_125 : xe_P d 78 125 ls (.int v :: .long w :: st) h Q = xe_P d 78 126 ls (.long (w <<< (v.toInt64 &&& 63)) :: st) h Q := xe_P_ar (ins := .lshl) (len := 1) (by decide +kernel) rfl
theorem xs_78_126 : xe_P d 78 126 ls (.long u :: .long w :: st) h Q = xe_P d 78 127 ls (.long (w ||| u) :: st) h Q := xe_P_ar (ins := .lor) (len := 1) (by decide +kernel) rfl
theorem xs_78_127 : xe_P d 78 127 [l0, l1, l2, l3, .int x, l5, l6, l7, l8, l9] st h Q = xe_P d 78 129 [l0, l1, l2, l3, .int x, l5, l6, l7, l8, l9] (.int x :: st) h Q := xe_P_lo (ins := .iload 4) (len := 2) (by decide +kernel) rfl rfl
theorem xs_78_129 : xe_P d 78 129 ls (.int x :: st) h Q = xe_P d 78 130 ls (.long x.toInt64 :: st) h Q := xe_P_ar (ins := .i2l) (len := 1) (by decide +kernel) rfl
theorem xs_78_130 : xe_P d 78 130 ls st h Q = xe_P d 78 132 ls (.int 24 :: st) h Q := xe_P_ar (ins := .bipush 24) (len := 2) (by decide +kernel) rfl
theorem xs_78_132 : xe_P d 78 132 ls (.int v :: .long w :: st) h Q = xe_P d 78 133 ls (.long (w <<< (v.toInt64 &&& 63)) :: st) h Q := xe_P_ar (ins := .lshl) (len := 1) (by decide +kernel) rfl
theorem xs_78_133 : xe_P d 78 133 ls (.long u :: .long w :: st) h Q = xe_P d 78 134 ls (.long (w ||| u) :: st) h Q := xe_P_ar (ins := .lor) (len := 1) (by decide +kernel) rfl
theorem xs_78_134 : xe_P d 78 134 [l0, l1, l2, l3, l4, .int x, l6, l7, l8, l9] st h Q = xe_P d 78 136 [l0, l1, l2, l3, l4, .int x, l6, l7, l8, l9] (.int x :: st) h Q := xe_P_lo (ins := .iload 5) (len := 2) (by decide +kernel) rfl rfl
theorem xs_78_136 : xe_P d 78 136 ls (.int x :: st) h Q = xe_P d 78 137 ls (.long x.toInt64 :: st) h Q := xe_P_ar (ins := .i2l) (len := 1) (by decide +kernel) rfl
theorem xs_78_137 : xe_P d 78 137 ls st h Q = xe_P d 78 139 ls (.int 30 :: st) h Q := xe_P_ar (ins := .bipush 30) (len := 2) (by decide +kernel) rfl
theorem xs_78_139 : xe_P d 78 139 ls (.int v :: .long w :: st) h Q = xe_P d 78 140 ls (.long (w <<< (v.toInt64 &&& 63)) :: st) h Q := xe_P_ar (ins := .lshl) (len := 1) (by decide +kernel) rfl
theorem xs_78_140 : xe_P d 78 140 ls (.long u :: .long w :: st) h Q = xe_P d 78 141 ls (.long (w ||| u) :: st) h Q := xe_P_ar (ins := .lor) (len := 1) (by decide +kernel) rfl
theorem xs_78_141 : xe_P d 78 141 ls (.long w :: .int v :: .ref a :: st) h Q = ((xe_ob h a 9 ∧ xe_ix h a v) ∧ xe_P d 78 142 ls st (xe_sL2 h a v.toNatClampNeg w) Q) := xe_P_last (by decide +kernel)
theorem xs_78_142 : xe_P d 78 142 [.ref a, l1, l2, l3, l4, l5, l6, l7, l8, l9] st h Q = xe_P d 78 143 [.ref a, l1, l2, l3, l4, l5, l6, l7, l8, l9] (.ref a :: st) h Q := xe_P_lo (ins := .aload_n 0) (len := 1) (by decide +kernel) rfl rfl
theorem xs_78_143 : xe_P d 78 143 ls (.ref a :: st) h Q = xe_P d 78 144 ls (.ref a :: .ref a :: st) h Q := xe_P_ar (ins := .dup) (len := 1) (by decide +kernel) rfl
theorem xs_78_143i : xe_P d 78 143 ls (.int x :: st) h Q = xe_P d 78 144 ls (.int x :: .int x :: st) h Q := xe_P_ar (ins := .dup) (len := 1) (by decide +kernel) rfl
theorem xs_78_144 : xe_P d 78 144 ls (.ref a :: st) h Q = (xe_ob h a 5 ∧ xe_P d 78 147 ls (.int (xe_I h a 2) :: st) h Q) := xe_P_getI (i := 60) (by decide +kernel) (by decide +kernel) (by decide) rfl
theorem xs_78_147 : xe_P d 78 147 ls st h Q = xe_P d 78 148 ls (.int 1 :: st) h Q := xe_P_ar (ins := .iconst 1) (len := 1) (by decide +kernel) rfl
theorem xs_78_148 : xe_P d 78 148 ls (.int v :: .int x :: st) h Q = xe_P d 78 149 ls (.int (x + v) :: st) h Q := xe_P_ar (ins := .iadd) (len := 1) (by decide +kernel) rfl
theorem xs_78_149 : xe_P d 78 149 ls (.int v :: .ref a :: st) h Q = (xe_ob h a 5 ∧ xe_P d 78 152 ls st (xe_sI h a 2 v) Q) := xe_P_putI (i := 60) (by decide +kernel) (by decide +kernel) (by decide) (by decide +kernel) rfl
theorem xs_78_152 : xe_P d 78 152 ls st h Q = xe_P d 78 153 ls (.int 1 :: st) h Q := xe_P_ar (ins := .iconst 1) (len := 1) (by decide +kernel) rfl
theorem xs_78_153 : xe_P d 78 153 ls [.int x] h Q = ((x = 0 ∨ x = 1) ∧ Q (some (.int x)) h) := xe_P_zreturn (by decide +kernel) rfl
theorem xs_78 : xe_C (d + 1) 78 [.ref a, .int x0, .int x1, .int x2, .int x3, .int x4] h Q = xe_P d 78 0 [.ref a, .int x0, .int x1, .int x2, .int x3, .int x4, .retAddr 0, .retAddr 0, .retAddr 0, .retAddr 0] [] h Q := xe_C_at (Nat.le_of_ble_eq_true rfl) rfl
theorem xs_79_0 : xe_P d 79 0 [.int x] st h Q = xe_P d 79 1 [.int x] (.int x :: st) h Q := xe_P_lo (ins := .iload_n 0) (len := 1) (by decide +kernel) rfl rfl
theorem xs_79_1 : xe_P d 79 1 ls st h Q = xe_P d 79 2 ls (.int 3 :: st) h Q := xe_P_ar (ins := .iconst 3) (len := 1) (by decide +kernel) rfl
theorem xs_79_2 : xe_P d 79 2 ls (.int v :: .int x :: st) h Q = xe_P d 79 3 ls (.int (x &&& v) :: st) h Q := xe_P_ar (ins := .iand) (len := 1) (by decide +kernel) rfl
theorem xs_79_3 : xe_P d 79 3 [.int x] st h Q = xe_P d 79 4 [.int x] (.int x :: st) h Q := xe_P_lo (ins := .iload_n 0) (len := 1) (by decide +kernel) rfl rfl
theorem xs_79_4 : xe_P d 79 4 ls st h Q = xe_P d 79 5 ls (.int 1 :: st) h Q := xe_P_ar (ins := .iconst 1) (len := 1) (by decide +kernel) rfl
theorem xs_79_5 : xe_P d 79 5 ls (.int v :: .int x :: st) h Q = xe_P d 79 6 ls (.int (x >>> (v &&& 31)) :: st) h Q := xe_P_ar (ins := .ishr) (len := 1) (by decide +kernel) rfl
theorem xs_79_6 : xe_P d 79 6 ls st h Q = xe_P d 79 8 ls (.int 12 :: st) h Q := xe_P_ar (ins := .bipush 12) (len := 2) (by decide +kernel) rfl
theorem xs_79_8 : xe_P d 79 8 ls (.int v :: .int x :: st) h Q = xe_P d 79 9 ls (.int (x &&& v) :: st) h Q := xe_P_ar (ins := .iand) (len := 1) (by decide +kernel) rfl
theorem xs_79_9 : xe_P d 79 9 ls (.int v :: .int x :: st) h Q = xe_P d 79 10 ls (.int (x ||| v) :: st) h Q := xe_P_ar (ins := .ior) (len := 1) (by decide +kernel) rfl
theorem xs_79_10 : xe_P d 79 10 [.int x] st h Q = xe_P d 79 11 [.int x] (.int x :: st) h Q := xe_P_lo (ins := .iload_n 0) (len := 1) (by decide +kernel) rfl rfl
theorem xs_79_11 : xe_P d 79 11 ls st h Q = xe_P d 79 12 ls (.int 2 :: st) h Q := xe_P_ar (ins := .iconst 2) (len := 1) (by decide +kernel) rfl
theorem xs_79_12 : xe_P d 79 12 ls (.int v :: .int x :: st) h Q = xe_P d 79 13 ls (.int (x >>> (v &&& 31)) :: st) h Q := xe_P_ar (ins := .ishr) (len := 1) (by decide +kernel) rfl
theorem xs_79_13 : xe_P d 79 13 ls st h Q = xe_P d 79 15 ls (.int 48 :: st) h Q := xe_P_ar (ins := .bipush 48) (len := 2) (by decide +kernel) rfl
theorem xs_79_15 : xe_P d 79 15 ls (.int v :: .int x :: st) h Q = xe_P d 79 16 ls (.int (x &&& v) :: st) h Q := xe_P_ar (ins := .iand) (len := 1) (by decide +kernel) rfl
theorem xs_79_16 : xe_P d 79 16 ls (.int v :: .int x :: st) h Q = xe_P d 79 17 ls (.int (x ||| v) :: st) h Q := xe_P_ar (ins := .ior) (len := 1) (by decide +kernel) rfl
theorem xs_79_17 : xe_P d 79 17 [.int x] st h Q = xe_P d 79 18 [.int x] (.int x :: st) h Q := xe_P_lo (ins := .iload_n 0) (len := 1) (by decide +kernel) rfl rfl
theorem xs_79_18 : xe_P d 79 18 ls st h Q = xe_P d 79 19 ls (.int 3 :: st) h Q := xe_P_ar (ins := .iconst 3) (len := 1) (by decide +kernel) rfl
theorem xs_79_19 : xe_P d 79 19 ls (.int v :: .int x :: st) h Q = xe_P d 79 20 ls (.int (x >>> (v &&& 31)) :: st) h Q := xe_P_ar (ins := .ishr) (len := 1) (by decide +kernel) rfl
theorem xs_79_20 : xe_P d 79 20 ls st h Q = xe_P d 79 23 ls (.int 192 :: st) h Q := xe_P_ar (ins := .sipush 192) (len := 3) (by decide +kernel) rfl
theorem xs_79_23 : xe_P d 79 23 ls (.int v :: .int x :: st) h Q = xe_P d 79 24 ls (.int (x &&& v) :: st) h Q := xe_P_ar (ins := .iand) (len := 1) (by decide +kernel) rfl
theorem xs_79_24 : xe_P d 79 24 ls (.int v :: .int x :: st) h Q = xe_P d 79 25 ls (.int (x ||| v) :: st) h Q := xe_P_ar (ins := .ior) (len := 1) (by decide +kernel) rfl
theorem xs_79_25 : xe_P d 79 25 [.int x] st h Q = xe_P d 79 26 [.int x] (.int x :: st) h Q := xe_P_lo (ins := .iload_n 0) (len := 1) (by decide +kernel) rfl rfl
theorem xs_79_26 : xe_P d 79 26 ls st h Q = xe_P d 79 27 ls (.int 4 :: st) h Q := xe_P_ar (ins := .iconst 4) (len := 1) (by decide +kernel) rfl
theorem xs_79_27 : xe_P d 79 27 ls (.int v :: .int x :: st) h Q = xe_P d 79 28 ls (.int (x >>> (v &&& 31)) :: st) h Q := xe_P_ar (ins := .ishr) (len := 1) (by decide +kernel) rfl
theorem xs_79_28 : xe_P d 79 28 ls st h Q = xe_P d 79 31 ls (.int 768 :: st) h Q := xe_P_ar (ins := .sipush 768) (len := 3) (by decide +kernel) rfl
theorem xs_79_31 : xe_P d 79 31 ls (.int v :: .int x :: st) h Q = xe_P d 79 32 ls (.int (x &&& v) :: st) h Q := xe_P_ar (ins := .iand) (len := 1) (by decide +kernel) rfl
theorem xs_79_32 : xe_P d 79 32 ls (.int v :: .int x :: st) h Q = xe_P d 79 33 ls (.int (x ||| v) :: st) h Q := xe_P_ar (ins := .ior) (len := 1) (by decide +kernel) rfl
theorem xs_79_33 : xe_P d 79 33 [.int x] st h Q = xe_P d 79 34 [.int x] (.int x :: st) h Q := xe_P_lo (ins := .iload_n 0) (len := 1) (by decide +kernel) rfl rfl
theorem xs_79_34 : xe_P d 79 34 ls st h Q = xe_P d 79 35 ls (.int 5 :: st) h Q := xe_P_ar (ins := .iconst 5) (len := 1) (by decide +kernel) rfl
theorem xs_79_35 : xe_P d 79 35 ls (.int v :: .int x :: st) h Q = xe_P d 79 36 ls (.int (x >>> (v &&& 31)) :: st) h Q := xe_P_ar (ins := .ishr) (len := 1) (by decide +kernel) rfl
theorem xs_79_36 : xe_P d 79 36 ls st h Q = xe_P d 79 39 ls (.int 3072 :: st) h Q := xe_P_ar (ins := .sipush 3072) (len := 3) (by decide +kernel) rfl
theorem xs_79_39 : xe_P d 79 39 ls (.int v :: .int x :: st) h Q = xe_P d 79 40 ls (.int (x &&& v) :: st) h Q := xe_P_ar (ins := .iand) (len := 1) (by decide +kernel) rfl
theorem xs_79_40 : xe_P d 79 40 ls (.int v :: .int x :: st) h Q = xe_P d 79 41 ls (.int (x ||| v) :: st) h Q := xe_P_ar (ins := .ior) (len := 1) (by decide +kernel) rfl
theorem xs_79_41 : xe_P d 79 41 ls [.int x] h Q = Q (some (.int x)) h := xe_P_ireturn (by decide +kernel) rfl
theorem xs_79 : xe_C (d + 1) 79 [.int x0] h Q = xe_P d 79 0 [.int x0] [] h Q := xe_C_at (Nat.le_of_ble_eq_true rfl) rfl
theorem xs_80_0 : xe_P d 80 0 [.long w, l1, l2] st h Q = xe_P d 80 1 [.long w, l1, l2] (.long w :: st) h Q := xe_P_lo (ins := .lload_n 0) (len := 1) (by decide +kernel) rfl rfl
theorem xs_80_1 : xe_P d 80 1 [l0, l1, .int x] st h Q = xe_P d 80 2 [l0, l1, .int x] (.int x :: st) h Q := xe_P_lo (ins := .iload_n 2) (len := 1) (by decide +kernel) rfl rfl
theorem xs_80_2 : xe_P d 80 2 ls (.int v :: .long w :: st) h Q = xe_P d 80 3 ls (.long (w >>> (v.toInt64 &&& 63)) :: st) h Q := xe_P_ar (ins := .lshr) (len := 1) (by decide +kernel) rfl
theorem xs_80_3 : xe_P d 80 3 ls (.long w :: st) h Q = xe_P d 80 4 ls (.int w.toInt32 :: st) h Q := xe_P_ar (ins := .l2i) (len := 1) (by decide +kernel) rfl
theorem xs_80_4 : xe_P d 80 4 ls st h Q = xe_P d 80 6 ls (.int 7 :: st) h Q := xe_P_ar (ins := .bipush 7) (len := 2) (by decide +kernel) rfl
theorem xs_80_6 : xe_P d 80 6 ls (.int v :: .int x :: st) h Q = xe_P d 80 7 ls (.int (x &&& v) :: st) h Q := xe_P_ar (ins := .iand) (len := 1) (by decide +kernel) rfl
theorem xs_80_7 : xe_P d 80 7 ls [.int x] h Q = Q (some (.int x)) h := xe_P_ireturn (by decide +kernel) rfl
theorem xs_80 : xe_C (d + 1) 80 [.long w0, .int x1] h Q = xe_P d 80 0 [.long w0, .retAddr 0, .int x1] [] h Q := xe_C_at (Nat.le_of_ble_eq_true rfl) rfl
theorem xs_81_0 : xe_P d 81 0 [.ref a, l1, l2, l3] st h Q = xe_P d 81 1 [.ref a, l1, l2, l3] (.ref a :: st) h Q := xe_P_lo (ins := .aload_n 0) (len := 1) (by decide +kernel) rfl rfl
theorem xs_81_1 : xe_P d 81 1 ls (.ref a :: st) h Q = (xe_ob h a 5 ∧ xe_P d 81 4 ls (.int (xe_I h a 8) :: st) h Q) := xe_P_getI (i := 49) (by decide +kernel) (by decide +kernel) (by decide) rfl
theorem xs_81_4 : xe_P d 81 4 [l0, l1, l2, l3] (.int x :: st) h Q = xe_P d 81 5 [l0, xe_cut l1, .int x, l3] st h Q := xe_P_lo (ins := .istore_n 2) (len := 1) (by decide +kernel) rfl rfl
theorem xs_81_5 : xe_P d 81 5 [.ref a, l1, l2, l3] st h Q = xe_P d 81 6 [.ref a, l1, l2, l3] (.ref a :: st) h Q := xe_P_lo (ins := .aload_n 0) (len := 1) (by decide +kernel) rfl rfl
theorem xs_81_6 : xe_P d 81 6 ls (.ref a :: st) h Q = (xe_ob h a 5 ∧ xe_P d 81 9 ls (.int (xe_I h a 9) :: st) h Q) := xe_P_getI (i := 52) (by decide +kernel) (by decide +kernel) (by decide) rfl
theorem xs_81_9 : xe_P d 81 9 ls st h Q = xe_P d 81 10 ls (.int 1 :: st) h Q := xe_P_ar (ins := .iconst 1) (len := 1) (by decide +kernel) rfl
theorem xs_81_10 : xe_P d 81 10 ls (.int v :: .int x :: st) h Q = xe_P d 81 11 ls (.int (x - v) :: st) h Q := xe_P_ar (ins := .isub) (len := 1) (by decide +kernel) rfl
theorem xs_81_11 : xe_P d 81 11 [l0, l1, l2, l3] (.int x :: st) h Q = xe_P d 81 12 [l0, l1, xe_cut l2, .int x] st h Q := xe_P_lo (ins := .istore_n 3) (len := 1) (by decide +kernel) rfl rfl
theorem xs_81_12 : xe_P d 81 12 [l0, l1, l2, .int x] st h Q = xe_P d 81 13 [l0, l1, l2, .int x] (.int x :: st) h Q := xe_P_lo (ins := .iload_n 3) (len := 1) (by decide +kernel) rfl rfl
theorem xs_81_13 : xe_P d 81 13 [l0, .int x, l2, l3] st h Q = xe_P d 81 14 [l0, .int x, l2, l3] (.int x :: st) h Q := xe_P_lo (ins := .iload_n 1) (len := 1) (by decide +kernel) rfl rfl
theorem xs_81_14 : xe_P d 81 14 ls (.int v :: .int x :: st) h Q = (if x ≤ v then xe_P d 81 34 ls st h Q else xe_P d 81 17 ls st h Q) := xe_P_if (ins := .if_icmp .le 20) (len := 3) (off := 20) (by decide +kernel) (by decide) rfl rfl rfl
theorem xs_81_17 : xe_P d 81 17 [.ref a, l1, l2, l3] st h Q = xe_P d 81 18 [.ref a, l1, l2, l3] (.ref a :: st) h Q := xe_P_lo (ins := .aload_n 0) (len := 1) (by decide +kernel) rfl rfl
theorem xs_81_18 : xe_P d 81 18 ls (.ref a :: st) h Q = (xe_ob h a 5 ∧ xe_P d 81 21 ls (va_rf (xe_R h a 1) :: st) h Q) := xe_P_getR (i := 15) (by decide +kernel) (by decide +kernel) (by decide) rfl
theorem xs_81_21 : xe_P d 81 21 [l0, l1, .int x, l3] st h Q = xe_P d 81 22 [l0, l1, .int x, l3] (.int x :: st) h Q := xe_P_lo (ins := .iload_n 2) (len := 1) (by decide +kernel) rfl rfl
theorem xs_81_22 : xe_P d 81 22 ls (.int v :: .ref a :: st) h Q = ((xe_ob h a 9 ∧ xe_ix h a v) ∧ xe_P d 81 23 ls (.long (xe_L h a v.toNatClampNeg) :: st) h Q) := xe_P_lald (by decide +kernel)
theorem xs_81_23 : xe_P d 81 23 ls st h Q = xe_P d 81 25 ls (.int 30 :: st) h Q := xe_P_ar (ins := .bipush 30) (len := 2) (by decide +kernel) rfl
theorem xs_81_25 : xe_P d 81 25 ls (.int v :: .long w :: st) h Q = xe_P d 81 26 ls (.long (w >>> (v.toInt64 &&& 63)) :: st) h Q := xe_P_ar (ins := .lshr) (len := 1) (by decide +kernel) rfl
theorem xs_81_26 : xe_P d 81 26 ls (.long w :: st) h Q = xe_P d 81 27 ls (.int w.toInt32 :: st) h Q := xe_P_ar (ins := .l2i) (len := 1) (by decide +kernel) rfl
theorem xs_81_27 : xe_P d 81 27 [l0, l1, l2, l3] (.int x :: st) h Q = xe_P d 81 28 [l0, xe_cut l1, .int x, l3] st h Q := xe_P_lo (ins := .istore_n 2) (len := 1) (by decide +kernel) rfl rfl
theorem xs_81_28 : xe_P d 81 28 [l0, l1, l2, .int x] st h Q = xe_P d 81 31 [l0, l1, xe_cut l2, .int (x + (-1))] st h Q := (xe_P_lo (ls' := [l0, l1, xe_cut l2, .int (x + Int32.ofInt (-1))]) (st' := st) (ins := .iinc 3 (-1)) (len := 3) (by decide +kernel) rfl rfl).trans (by rw [show Int32.ofInt (-1) = ((-1) : Int32) by decide])
theorem xs_81_31 : xe_P d 81 31 ls st h Q = xe_P d 81 12 ls st h Q := xe_P_go (len := 3) (off := (-19)) (by decide +kernel) (by decide)
theorem xs_81_34 : xe_P d 81 34 [.ref a, l1, l2, l3] st h Q = xe_P d 81 35 [.ref a, l1, l2, l3] (.ref a :: st) h Q := xe_P_lo (ins := .aload_n 0) (len := 1) (by decide +kernel) rfl rfl
theorem xs_81_35 : xe_P d 81 35 ls (.ref a :: st) h Q = (xe_ob h a 5 ∧ xe_P d 81 38 ls (va_rf (xe_R h a 1) :: st) h Q) := xe_P_getR (i := 15) (by decide +kernel) (by decide +kernel) (by decide) rfl
theorem xs_81_38 : xe_P d 81 38 [l0, l1, .int x, l3] st h Q = xe_P d 81 39 [l0, l1, .int x, l3] (.int x :: st) h Q := xe_P_lo (ins := .iload_n 2) (len := 1) (by decide +kernel) rfl rfl
theorem xs_81_39 : xe_P d 81 39 ls (.int v :: .ref a :: st) h Q = ((xe_ob h a 9 ∧ xe_ix h a v) ∧ xe_P d 81 40 ls (.long (xe_L h a v.toNatClampNeg) :: st) h Q) := xe_P_lald (by decide +kernel)
theorem xs_81_40 : xe_P d 81 40 ls st h Q = xe_P d 81 42 ls (.int 24 :: st) h Q := xe_P_ar (ins := .bipush 24) (len := 2) (by decide +kernel) rfl
theorem xs_81_42 : xe_P d 81 42 ls (.int v :: .long w :: st) h Q = xe_P d 81 43 ls (.long (w >>> (v.toInt64 &&& 63)) :: st) h Q := xe_P_ar (ins := .lshr) (len := 1) (by decide +kernel) rfl
theorem xs_81_43 : xe_P d 81 43 ls (.long w :: st) h Q = xe_P d 81 44 ls (.int w.toInt32 :: st) h Q := xe_P_ar (ins := .l2i) (len := 1) (by decide +kernel) rfl
theorem xs_81_44 : xe_P d 81 44 ls st h Q = xe_P d 81 46 ls (.int 63 :: st) h Q := xe_P_ar (ins := .bipush 63) (len := 2) (by decide +kernel) rfl
theorem xs_81_46 : xe_P d 81 46 ls (.int v :: .int x :: st) h Q = xe_P d 81 47 ls (.int (x &&& v) :: st) h Q := xe_P_ar (ins := .iand) (len := 1) (by decide +kernel) rfl
theorem xs_81_47 : xe_P d 81 47 ls [.int x] h Q = Q (some (.int x)) h := xe_P_ireturn (by decide +kernel) rfl
theorem xs_81 : xe_C (d + 1) 81 [.ref a, .int x0] h Q = xe_P d 81 0 [.ref a, .int x0, .retAddr 0, .retAddr 0] [] h Q := xe_C_at (Nat.le_of_ble_eq_true rfl) rfl
end XSX5
