section XSX1
variable {d : Nat} {l0 l1 l2 l3 l4 l5 l6 l7 l8 l9 l10 l11 v0 v1 v2 v3 v4 v5 : Value} {x v n x0 x1 x2 x3 x4 x5 : Int32} {w u w0 w1 w2 w3 : Int64} {a b a0 a1 a2 : Nat} {ls st : List Value} {h : xe_H} {Q : Option Value → xe_H → Prop}
theorem xs_11_0 : xe_P d 11 0 [.ref a] st h Q = xe_P d 11 1 [.ref a] (.ref a :: st) h Q := xe_P_lo (ins := .aload_n 0) (len := 1) (by decide +kernel) rfl rfl
theorem xs_11_1 : xe_P d 11 1 ls (.ref a :: st) h Q = ((a < xe_n h ∧ xe_n h ≤ xe_S ∧ xe_w st ≤ 8) ∧ xe_P d 11 4 ls st h Q) := xe_P_obj (i := 3) (by decide +kernel) (by decide +kernel) rfl
theorem xs_11_4 : xe_P d 11 4 [.ref a] st h Q = xe_P d 11 5 [.ref a] (.ref a :: st) h Q := xe_P_lo (ins := .aload_n 0) (len := 1) (by decide +kernel) rfl rfl
theorem xs_11_5 : xe_P d 11 5 ls st h Q = xe_P d 11 8 ls (.int 160 :: st) h Q := xe_P_ar (ins := .sipush 160) (len := 3) (by decide +kernel) rfl
theorem xs_11_8 : xe_P d 11 8 ls (.int v :: st) h Q = ((¬ v < 0 ∧ v.toNatClampNeg ≤ 200000 ∧ xe_n h < xe_S) ∧ xe_P d 11 10 ls (.ref (xe_n h) :: st) (xe_new h 8 v.toNatClampNeg) Q) := xe_P_newa (t := .int) (by decide +kernel) (by decide)
theorem xs_11_10 : xe_P d 11 10 ls (.ref b :: .ref a :: st) h Q = ((xe_ob h a 1 ∧ b < xe_S) ∧ xe_P d 11 13 ls st (xe_sR h a 0 (some b)) Q) := xe_P_putR (i := 11) (by decide +kernel) (by decide +kernel) (by decide) (by decide +kernel) rfl
theorem xs_11_13 : xe_P d 11 13 [.ref a] st h Q = xe_P d 11 14 [.ref a] (.ref a :: st) h Q := xe_P_lo (ins := .aload_n 0) (len := 1) (by decide +kernel) rfl rfl
theorem xs_11_14 : xe_P d 11 14 ls st h Q = xe_P d 11 15 ls (.int 4 :: st) h Q := xe_P_ar (ins := .iconst 4) (len := 1) (by decide +kernel) rfl
theorem xs_11_15 : xe_P d 11 15 ls (.int v :: st) h Q = ((¬ v < 0 ∧ v.toNatClampNeg ≤ 200000 ∧ xe_n h < xe_S) ∧ xe_P d 11 17 ls (.ref (xe_n h) :: st) (xe_new h 8 v.toNatClampNeg) Q) := xe_P_newa (t := .int) (by decide +kernel) (by decide)
theorem xs_11_17 : xe_P d 11 17 ls (.ref b :: .ref a :: st) h Q = ((xe_ob h a 1 ∧ b < xe_S) ∧ xe_P d 11 20 ls st (xe_sR h a 1 (some b)) Q) := xe_P_putR (i := 15) (by decide +kernel) (by decide +kernel) (by decide) (by decide +kernel) rfl
theorem xs_11_20 : xe_P d 11 20 [.ref a] st h Q = xe_P d 11 21 [.ref a] (.ref a :: st) h Q := xe_P_lo (ins := .aload_n 0) (len := 1) (by decide +kernel) rfl rfl
theorem xs_11_21 : xe_P d 11 21 ls st h Q = xe_P d 11 22 ls (.int 4 :: st) h Q := xe_P_ar (ins := .iconst 4) (len := 1) (by decide +kernel) rfl
theorem xs_11_22 : xe_P d 11 22 ls (.int v :: st) h Q = ((¬ v < 0 ∧ v.toNatClampNeg ≤ 200000 ∧ xe_n h < xe_S) ∧ xe_P d 11 24 ls (.ref (xe_n h) :: st) (xe_new h 8 v.toNatClampNeg) Q) := xe_P_newa (t := .int) (by decide +kernel) (by decide)
theorem xs_11_24 : xe_P d 11 24 ls (.ref b :: .ref a :: st) h Q = ((xe_ob h a 1 ∧ b < xe_S) ∧ xe_P d 11 27 ls st (xe_sR h a 2 (some b)) Q) := xe_P_putR (i := 18) (by decide +kernel) (by decide +kernel) (by decide) (by decide +kernel) rfl
theorem xs_11_27 : xe_P d 11 27 [.ref a] st h Q = xe_P d 11 28 [.ref a] (.ref a :: st) h Q := xe_P_lo (ins := .aload_n 0) (len := 1) (by decide +kernel) rfl rfl
theorem xs_11_28 : xe_P d 11 28 ls (.ref a :: st) h Q = (xe_ob h a 1 ∧ xe_P d 11 31 ls (va_rf (xe_R h a 1) :: st) h Q) := xe_P_getR (i := 15) (by decide +kernel) (by decide +kernel) (by decide) rfl
theorem xs_11_31 : xe_P d 11 31 ls st h Q = xe_P d 11 32 ls (.int (-1) :: st) h Q := xe_P_ar (ins := .iconst (-1)) (len := 1) (by decide +kernel) rfl
theorem xs_11_32 : xe_P d 11 32 ls (v1 :: v0 :: st) h Q = (xe_w st ≤ 8 ∧ xe_C d 215 [v0, v1] h (fun r h' => xe_P d 11 35 ls (r.toList ++ st) h' Q)) := xe_P_ivs (y := 11) (pc := 32) (z := 215) (i := 21) (vs := [v1, v0]) (by decide +kernel) (by decide +kernel) rfl
theorem xs_11_35 : xe_P d 11 35 ls [] h Q = Q none h := xe_P_vreturn (by decide +kernel) rfl
theorem xs_11 : xe_C (d + 1) 11 [.ref a] h Q = xe_P d 11 0 [.ref a] [] h Q := xe_C_at (Nat.le_of_ble_eq_true rfl) rfl
theorem xs_12_0 : xe_P d 12 0 [.int x] st h Q = xe_P d 12 1 [.int x] (.int x :: st) h Q := xe_P_lo (ins := .iload_n 0) (len := 1) (by decide +kernel) rfl rfl
theorem xs_12_1 : xe_P d 12 1 ls (.int x :: st) h Q = (if x < 0 then xe_P d 12 13 ls st h Q else xe_P d 12 4 ls st h Q) := xe_P_if (ins := .ifCond .lt 12) (len := 3) (off := 12) (by decide +kernel) (by decide) rfl rfl rfl
theorem xs_12_4 : xe_P d 12 4 [.int x] st h Q = xe_P d 12 5 [.int x] (.int x :: st) h Q := xe_P_lo (ins := .iload_n 0) (len := 1) (by decide +kernel) rfl rfl
theorem xs_12_5 : xe_P d 12 5 ls st h Q = xe_P d 12 6 ls (.int 4 :: st) h Q := xe_P_ar (ins := .iconst 4) (len := 1) (by decide +kernel) rfl
theorem xs_12_6 : xe_P d 12 6 ls (.int v :: .int x :: st) h Q = (if v ≤ x then xe_P d 12 13 ls st h Q else xe_P d 12 9 ls st h Q) := xe_P_if (ins := .if_icmp .ge 7) (len := 3) (off := 7) (by decide +kernel) (by decide) rfl rfl rfl
theorem xs_12_9 : xe_P d 12 9 ls st h Q = xe_P d 12 10 ls (.int 1 :: st) h Q := xe_P_ar (ins := .iconst 1) (len := 1) (by decide +kernel) rfl
theorem xs_12_10 : xe_P d 12 10 ls st h Q = xe_P d 12 14 ls st h Q := xe_P_go (len := 3) (off := 4) (by decide +kernel) (by decide)
theorem xs_12_13 : xe_P d 12 13 ls st h Q = xe_P d 12 14 ls (.int 0 :: st) h Q := xe_P_ar (ins := .iconst 0) (len := 1) (by decide +kernel) rfl
theorem xs_12_14 : xe_P d 12 14 ls [.int x] h Q = ((x = 0 ∨ x = 1) ∧ Q (some (.int x)) h) := xe_P_zreturn (by decide +kernel) rfl
theorem xs_12 : xe_C (d + 1) 12 [.int x0] h Q = xe_P d 12 0 [.int x0] [] h Q := xe_C_at (Nat.le_of_ble_eq_true rfl) rfl
theorem xs_13_0 : xe_P d 13 0 [.int x] st h Q = xe_P d 13 1 [.int x] (.int x :: st) h Q := xe_P_lo (ins := .iload_n 0) (len := 1) (by decide +kernel) rfl rfl
theorem xs_13_1 : xe_P d 13 1 ls (.int x :: st) h Q = (if x < 0 then xe_P d 13 13 ls st h Q else xe_P d 13 4 ls st h Q) := xe_P_if (ins := .ifCond .lt 12) (len := 3) (off := 12) (by decide +kernel) (by decide) rfl rfl rfl
theorem xs_13_4 : xe_P d 13 4 [.int x] st h Q = xe_P d 13 5 [.int x] (.int x :: st) h Q := xe_P_lo (ins := .iload_n 0) (len := 1) (by decide +kernel) rfl rfl
theorem xs_13_5 : xe_P d 13 5 ls st h Q = xe_P d 13 6 ls (.int 2 :: st) h Q := xe_P_ar (ins := .iconst 2) (len := 1) (by decide +kernel) rfl
theorem xs_13_6 : xe_P d 13 6 ls (.int v :: .int x :: st) h Q = (if v < x then xe_P d 13 13 ls st h Q else xe_P d 13 9 ls st h Q) := xe_P_if (ins := .if_icmp .gt 7) (len := 3) (off := 7) (by decide +kernel) (by decide) rfl rfl rfl
theorem xs_13_9 : xe_P d 13 9 ls st h Q = xe_P d 13 10 ls (.int 1 :: st) h Q := xe_P_ar (ins := .iconst 1) (len := 1) (by decide +kernel) rfl
theorem xs_13_10 : xe_P d 13 10 ls st h Q = xe_P d 13 14 ls st h Q := xe_P_go (len := 3) (off := 4) (by decide +kernel) (by decide)
theorem xs_13_13 : xe_P d 13 13 ls st h Q = xe_P d 13 14 ls (.int 0 :: st) h Q := xe_P_ar (ins := .iconst 0) (len := 1) (by decide +kernel) rfl
theorem xs_13_14 : xe_P d 13 14 ls [.int x] h Q = ((x = 0 ∨ x = 1) ∧ Q (some (.int x)) h) := xe_P_zreturn (by decide +kernel) rfl
theorem xs_13 : xe_C (d + 1) 13 [.int x0] h Q = xe_P d 13 0 [.int x0] [] h Q := xe_C_at (Nat.le_of_ble_eq_true rfl) rfl
theorem xs_14_0 : xe_P d 14 0 [.ref a, l1, l2, l3] st h Q = xe_P d 14 1 [.ref a, l1, l2, l3] (.ref a :: st) h Q := xe_P_lo (ins := .aload_n 0) (len := 1) (by decide +kernel) rfl rfl
theorem xs_14_1 : xe_P d 14 1 ls (.ref a :: st) h Q = (xe_ob h a 1 ∧ xe_P d 14 4 ls (va_rf (xe_R h a 1) :: st) h Q) := xe_P_getR (i := 15) (by decide +kernel) (by decide +kernel) (by decide) rfl
theorem xs_14_4 : xe_P d 14 4 [l0, .int x, l2, l3] st h Q = xe_P d 14 5 [l0, .int x, l2, l3] (.int x :: st) h Q := xe_P_lo (ins := .iload_n 1) (len := 1) (by decide +kernel) rfl rfl
theorem xs_14_5 : xe_P d 14 5 [l0, l1, .int x, l3] st h Q = xe_P d 14 6 [l0, l1, .int x, l3] (.int x :: st) h Q := xe_P_lo (ins := .iload_n 2) (len := 1) (by decide +kernel) rfl rfl
theorem xs_14_6 : xe_P d 14 6 ls (.int x :: .int v :: .ref a :: st) h Q = ((xe_ob h a 8 ∧ xe_ix h a v) ∧ xe_P d 14 7 ls st (xe_sI h a v.toNatClampNeg x) Q) := xe_P_iast (by decide +kernel)
theorem xs_14_7 : xe_P d 14 7 [.ref a, l1, l2, l3] st h Q = xe_P d 14 8 [.ref a, l1, l2, l3] (.ref a :: st) h Q := xe_P_lo (ins := .aload_n 0) (len := 1) (by decide +kernel) rfl rfl
theorem xs_14_8 : xe_P d 14 8 ls (.ref a :: st) h Q = (xe_ob h a 1 ∧ xe_P d 14 11 ls (va_rf (xe_R h a 2) :: st) h Q) := xe_P_getR (i := 18) (by decide +kernel) (by decide +kernel) (by decide) rfl
theorem xs_14_11 : xe_P d 14 11 [l0, .int x, l2, l3] st h Q = xe_P d 14 12 [l0, .int x, l2, l3] (.int x :: st) h Q := xe_P_lo (ins := .iload_n 1) (len := 1) (by decide +kernel) rfl rfl
theorem xs_14_12 : xe_P d 14 12 [l0, l1, l2, .int x] st h Q = xe_P d 14 13 [l0, l1, l2, .int x] (.int x :: st) h Q := xe_P_lo (ins := .iload_n 3) (len := 1) (by decide +kernel) rfl rfl
theorem xs_14_13 : xe_P d 14 13 ls (.int x :: .int v :: .ref a :: st) h Q = ((xe_ob h a 8 ∧ xe_ix h a v) ∧ xe_P d 14 14 ls st (xe_sI h a v.toNatClampNeg x) Q) := xe_P_iast (by decide +kernel)
theorem xs_14_14 : xe_P d 14 14 [.ref a, l1, l2, l3] st h Q = xe_P d 14 15 [.ref a, l1, l2, l3] (.ref a :: st) h Q := xe_P_lo (ins := .aload_n 0) (len := 1) (by decide +kernel) rfl rfl
theorem xs_14_15 : xe_P d 14 15 ls (.ref a :: st) h Q = (xe_ob h a 1 ∧ xe_P d 14 18 ls (va_rf (xe_R h a 0) :: st) h Q) := xe_P_getR (i := 11) (by decide +kernel) (by decide +kernel) (by decide) rfl
theorem xs_14_18 : xe_P d 14 18 [l0, .int x, l2, l3] st h Q = xe_P d 14 19 [l0, .int x, l2, l3] (.int x :: st) h Q := xe_P_lo (ins := .iload_n 1) (len := 1) (by decide +kernel) rfl rfl
theorem xs_14_19 : xe_P d 14 19 ls st h Q = xe_P d 14 21 ls (.int 40 :: st) h Q := xe_P_ar (ins := .bipush 40) (len := 2) (by decide +kernel) rfl
theorem xs_14_21 : xe_P d 14 21 ls (.int v :: .int x :: st) h Q = xe_P d 14 22 ls (.int (x * v) :: st) h Q := xe_P_ar (ins := .imul) (len := 1) (by decide +kernel) rfl
theorem xs_14_22 : xe_P d 14 22 [l0, .int x, l2, l3] st h Q = xe_P d 14 23 [l0, .int x, l2, l3] (.int x :: st) h Q := xe_P_lo (ins := .iload_n 1) (len := 1) (by decide +kernel) rfl rfl
theorem xs_14_23 : xe_P d 14 23 ls st h Q = xe_P d 14 24 ls (.int 1 :: st) h Q := xe_P_ar (ins := .iconst 1) (len := 1) (by decide +kernel) rfl
theorem xs_14_24 : xe_P d 14 24 ls (.int v :: .int x :: st) h Q = xe_P d 14 25 ls (.int (x + v) :: st) h Q := xe_P_ar (ins := .iadd) (len := 1) (by decide +kernel) rfl
theorem xs_14_25 : xe_P d 14 25 ls st h Q = xe_P d 14 27 ls (.int 40 :: st) h Q := xe_P_ar (ins := .bipush 40) (len := 2) (by decide +kernel) rfl
theorem xs_14_27 : xe_P d 14 27 ls (.int v :: .int x :: st) h Q = xe_P d 14 28 ls (.int (x * v) :: st) h Q := xe_P_ar (ins := .imul) (len := 1) (by decide +kernel) rfl
theorem xs_14_28 : xe_P d 14 28 ls st h Q = xe_P d 14 29 ls (.int 0 :: st) h Q := xe_P_ar (ins := .iconst 0) (len := 1) (by decide +kernel) rfl
theorem xs_14_29 : xe_P d 14 29 ls (v3 :: v2 :: v1 :: v0 :: st) h Q = (xe_w st ≤ 8 ∧ xe_C d 216 [v0, v1, v2, v3] h (fun r h' => xe_P d 14 32 ls (r.toList ++ st) h' Q)) := xe_P_ivs (y := 14) (pc := 29) (z := 216) (i := 27) (vs := [v3, v2, v1, v0]) (by decide +kernel) (by decide +kernel) rfl
theorem xs_14_32 : xe_P d 14 32 ls [] h Q = Q none h := xe_P_vreturn (by decide +kernel) rfl
theorem xs_14 : xe_C (d + 1) 14 [.ref a, .int x0, .int x1, .int x2] h Q = xe_P d 14 0 [.ref a, .int x0, .int x1, .int x2] [] h Q := xe_C_at (Nat.le_of_ble_eq_true rfl) rfl
theorem xs_15_0 : xe_P d 15 0 [.ref a, l1, l2] st h Q = xe_P d 15 1 [.ref a, l1, l2] (.ref a :: st) h Q := xe_P_lo (ins := .aload_n 0) (len := 1) (by decide +kernel) rfl rfl
theorem xs_15_1 : xe_P d 15 1 [l0, .int x, l2] st h Q = xe_P d 15 2 [l0, .int x, l2] (.int x :: st) h Q := xe_P_lo (ins := .iload_n 1) (len := 1) (by decide +kernel) rfl rfl
theorem xs_15_2 : xe_P d 15 2 [.ref a, l1, l2] st h Q = xe_P d 15 3 [.ref a, l1, l2] (.ref a :: st) h Q := xe_P_lo (ins := .aload_n 0) (len := 1) (by decide +kernel) rfl rfl
theorem xs_15_3 : xe_P d 15 3 ls (.ref a :: st) h Q = (xe_ob h a 1 ∧ xe_P d 15 6 ls (va_rf (xe_R h a 1) :: st) h Q) := xe_P_getR (i := 15) (by decide +kernel) (by decide +kernel) (by decide) rfl
theorem xs_15_6 : xe_P d 15 6 [l0, .int x, l2] st h Q = xe_P d 15 7 [l0, .int x, l2] (.int x :: st) h Q := xe_P_lo (ins := .iload_n 1) (len := 1) (by decide +kernel) rfl rfl
theorem xs_15_7 : xe_P d 15 7 ls (.int v :: .ref a :: st) h Q = ((xe_ia h a ∧ xe_ix h a v) ∧ xe_P d 15 8 ls (.int (xe_I h a v.toNatClampNeg) :: st) h Q) := xe_P_iald (by decide +kernel)
theorem xs_15_8 : xe_P d 15 8 [l0, l1, .int x] st h Q = xe_P d 15 9 [l0, l1, .int x] (.int x :: st) h Q := xe_P_lo (ins := .iload_n 2) (len := 1) (by decide +kernel) rfl rfl
theorem xs_15_9 : xe_P d 15 9 ls (v2 :: v1 :: v0 :: .ref a :: st) h Q = ((xe_w st ≤ 8 ∧ xe_ob h a 1) ∧ xe_C d 16 [.ref a, v0, v1, v2] h (fun r h' => xe_P d 15 12 ls (r.toList ++ st) h' Q)) := xe_P_ivv (y := 15) (pc := 9) (z := 16) (i := 30) (vs := [v2, v1, v0]) (by decide +kernel) (by decide +kernel) rfl (by decide +kernel)
theorem xs_15_12 : xe_P d 15 12 ls [.int x] h Q = Q (some (.int x)) h := xe_P_ireturn (by decide +kernel) rfl
theorem xs_15 : xe_C (d + 1) 15 [.ref a, .int x0, .int x1] h Q = xe_P d 15 0 [.ref a, .int x0, .int x1] [] h Q := xe_C_at (Nat.le_of_ble_eq_true rfl) rfl
theorem xs_16_0 : xe_P d 16 0 [.ref a, l1, l2, l3] st h Q = xe_P d 16 1 [.ref a, l1, l2, l3] (.ref a :: st) h Q := xe_P_lo (ins := .aload_n 0) (len := 1) (by decide +kernel) rfl rfl
theorem xs_16_1 : xe_P d 16 1 ls (.ref a :: st) h Q = (xe_ob h a 1 ∧ xe_P d 16 4 ls (va_rf (xe_R h a 1) :: st) h Q) := xe_P_getR (i := 15) (by decide +kernel) (by decide +kernel) (by decide) rfl
theorem xs_16_4 : xe_P d 16 4 [l0, .int x, l2, l3] st h Q = xe_P d 16 5 [l0, .int x, l2, l3] (.int x :: st) h Q := xe_P_lo (ins := .iload_n 1) (len := 1) (by decide +kernel) rfl rfl
theorem xs_16_5 : xe_P d 16 5 ls (.int v :: .ref a :: st) h Q = ((xe_ia h a ∧ xe_ix h a v) ∧ xe_P d 16 6 ls (.int (xe_I h a v.toNatClampNeg) :: st) h Q) := xe_P_iald (by decide +kernel)
theorem xs_16_6 : xe_P d 16 6 ls st h Q = xe_P d 16 7 ls (.int (-1) :: st) h Q := xe_P_ar (ins := .iconst (-1)) (len := 1) (by decide +kernel) rfl
theorem xs_16_7 : xe_P d 16 7 ls (.int v :: .int x :: st) h Q = (if x = v then xe_P d 16 10 ls st h Q else xe_P d 16 12 ls st h Q) := xe_P_ifn (ins := .if_icmp .ne 5) (len := 3) (off := 5) (by decide +kernel) (by decide) rfl rfl rfl
theorem xs_16_10 : xe_P d 16 10 ls st h Q = xe_P d 16 11 ls (.int 1 :: st) h Q := xe_P_ar (ins := .iconst 1) (len := 1) (by decide +kernel) rfl
theorem xs_16_11 : xe_P d 16 11 ls [.int x] h Q = Q (some (.int x)) h := xe_P_ireturn (by decide +kernel) rfl
theorem xs_16_12 : xe_P d 16 12 [.ref a, l1, l2, l3] st h Q = xe_P d 16 13 [.ref a, l1, l2, l3] (.ref a :: st) h Q := xe_P_lo (ins := .aload_n 0) (len := 1) (by decide +kernel) rfl rfl
theorem xs_16_13 : xe_P d 16 13 ls (.ref a :: st) h Q = (xe_ob h a 1 ∧ xe_P d 16 16 ls (va_rf (xe_R h a 1) :: st) h Q) := xe_P_getR (i := 15) (by decide +kernel) (by decide +kernel) (by decide) rfl
theorem xs_16_16 : xe_P d 16 16 [l0, .int x, l2, l3] st h Q = xe_P d 16 17 [l0, .int x, l2, l3] (.int x :: st) h Q := xe_P_lo (ins := .iload_n 1) (len := 1) (by decide +kernel) rfl rfl
theorem xs_16_17 : xe_P d 16 17 ls (.int v :: .ref a :: st) h Q = ((xe_ia h a ∧ xe_ix h a v) ∧ xe_P d 16 18 ls (.int (xe_I h a v.toNatClampNeg) :: st) h Q) := xe_P_iald (by decide +kernel)
theorem xs_16_18 : xe_P d 16 18 [l0, l1, .int x, l3] st h Q = xe_P d 16 19 [l0, l1, .int x, l3] (.int x :: st) h Q := xe_P_lo (ins := .iload_n 2) (len := 1) (by decide +kernel) rfl rfl
theorem xs_16_19 : xe_P d 16 19 ls (.int v :: .int x :: st) h Q = (if x = v then xe_P d 16 24 ls st h Q else xe_P d 16 22 ls st h Q) := xe_P_if (ins := .if_icmp .eq 5) (len := 3) (off := 5) (by decide +kernel) (by decide) rfl rfl rfl
theorem xs_16_22 : xe_P d 16 22 ls st h Q = xe_P d 16 23 ls (.int 3 :: st) h Q := xe_P_ar (ins := .iconst 3) (len := 1) (by decide +kernel) rfl
theorem xs_16_23 : xe_P d 16 23 ls [.int x] h Q = Q (some (.int x)) h := xe_P_ireturn (by decide +kernel) rfl
theorem xs_16_24 : xe_P d 16 24 [l0, l1, l2, .int x] st h Q = xe_P d 16 25 [l0, l1, l2, .int x] (.int x :: st) h Q := xe_P_lo (ins := .iload_n 3) (len := 1) (by decide +kernel) rfl rfl
theorem xs_16_25 : xe_P d 16 25 ls (.int x :: st) h Q = (if x < 0 then xe_P d 16 38 ls st h Q else xe_P d 16 28 ls st h Q) := xe_P_if (ins := .ifCond .lt 13) (len := 3) (off := 13) (by decide +kernel) (by decide) rfl rfl rfl
theorem xs_16_28 : xe_P d 16 28 [l0, l1, l2, .int x] st h Q = xe_P d 16 29 [l0, l1, l2, .int x] (.int x :: st) h Q := xe_P_lo (ins := .iload_n 3) (len := 1) (by decide +kernel) rfl rfl
theorem xs_16_29 : xe_P d 16 29 [.ref a, l1, l2, l3] st h Q = xe_P d 16 30 [.ref a, l1, l2, l3] (.ref a :: st) h Q := xe_P_lo (ins := .aload_n 0) (len := 1) (by decide +kernel) rfl rfl
theorem xs_16_30 : xe_P d 16 30 ls (.ref a :: st) h Q = (xe_ob h a 1 ∧ xe_P d 16 33 ls (va_rf (xe_R h a 2) :: st) h Q) := xe_P_getR (i := 18) (by decide +kernel) (by decide +kernel) (by decide) rfl
theorem xs_16_33 : xe_P d 16 33 [l0, .int x, l2, l3] st h Q = xe_P d 16 34 [l0, .int x, l2, l3] (.int x :: st) h Q := xe_P_lo (ins := .iload_n 1) (len := 1) (by decide +kernel) rfl rfl
theorem xs_16_34 : xe_P d 16 34 ls (.int v :: .ref a :: st) h Q = ((xe_ia h a ∧ xe_ix h a v) ∧ xe_P d 16 35 ls (.int (xe_I h a v.toNatClampNeg) :: st) h Q) := xe_P_iald (by decide +kernel)
theorem xs_16_35 : xe_P d 16 35 ls (.int v :: .int x :: st) h Q = (if x < v then xe_P d 16 42 ls st h Q else xe_P d 16 38 ls st h Q) := xe_P_if (ins := .if_icmp .lt 7) (len := 3) (off := 7) (by decide +kernel) (by decide) rfl rfl rfl
theorem xs_16_38 : xe_P d 16 38 ls st h Q = xe_P d 16 39 ls (.int 2 :: st) h Q := xe_P_ar (ins := .iconst 2) (len := 1) (by decide +kernel) rfl
theorem xs_16_39 : xe_P d 16 39 ls st h Q = xe_P d 16 43 ls st h Q := xe_P_go (len := 3) (off := 4) (by decide +kernel) (by decide)
theorem xs_16_42 : xe_P d 16 42 ls st h Q = xe_P d 16 43 ls (.int 0 :: st) h Q := xe_P_ar (ins := .iconst 0) (len := 1) (by decide +kernel) rfl
theorem xs_16_43 : xe_P d 16 43 ls [.int x] h Q = Q (some (.int x)) h := xe_P_ireturn (by decide +kernel) rfl
theorem xs_16 : xe_C (d + 1) 16 [.ref a, .int x0, .int x1, .int x2] h Q = xe_P d 16 0 [.ref a, .int x0, .int x1, .int x2] [] h Q := xe_C_at (Nat.le_of_ble_eq_true rfl) rfl
theorem xs_17_0 : xe_P d 17 0 [l0, l1, l2, .int x, l4] st h Q = xe_P d 17 1 [l0, l1, l2, .int x, l4] (.int x :: st) h Q := xe_P_lo (ins := .iload_n 3) (len := 1) (by decide +kernel) rfl rfl
theorem xs_17_1 : xe_P d 17 1 [l0, l1, l2, l3, l4] (.int x :: st) h Q = xe_P d 17 3 [l0, l1, l2, xe_cut l3, .int x] st h Q := xe_P_lo (ins := .istore 4) (len := 2) (by decide +kernel) rfl rfl
theorem xs_17_3 : xe_P d 17 3 [.ref a, l1, l2, l3, l4] st h Q = xe_P d 17 4 [.ref a, l1, l2, l3, l4] (.ref a :: st) h Q := xe_P_lo (ins := .aload_n 0) (len := 1) (by decide +kernel) rfl rfl
theorem xs_17_4 : xe_P d 17 4 ls (.ref a :: st) h Q = (xe_ob h a 1 ∧ xe_P d 17 7 ls (va_rf (xe_R h a 1) :: st) h Q) := xe_P_getR (i := 15) (by decide +kernel) (by decide +kernel) (by decide) rfl
theorem xs_17_7 : xe_P d 17 7 [l0, .int x, l2, l3, l4] st h Q = xe_P d 17 8 [l0, .int x, l2, l3, l4] (.int x :: st) h Q := xe_P_lo (ins := .iload_n 1) (len := 1) (by decide +kernel) rfl rfl
theorem xs_17_8 : xe_P d 17 8 ls (.int v :: .ref a :: st) h Q = ((xe_ia h a ∧ xe_ix h a v) ∧ xe_P d 17 9 ls (.int (xe_I h a v.toNatClampNeg) :: st) h Q) := xe_P_iald (by decide +kernel)
theorem xs_17_9 : xe_P d 17 9 ls (.int x :: st) h Q = (if x = 0 then xe_P d 17 12 ls st h Q else xe_P d 17 19 ls st h Q) := xe_P_ifn (ins := .ifCond .ne 10) (len := 3) (off := 10) (by decide +kernel) (by decide) rfl rfl rfl
theorem xs_17_12 : xe_P d 17 12 [l0, l1, l2, .int x, l4] st h Q = xe_P d 17 13 [l0, l1, l2, .int x, l4] (.int x :: st) h Q := xe_P_lo (ins := .iload_n 3) (len := 1) (by decide +kernel) rfl rfl
theorem xs_17_13 : xe_P d 17 13 ls (.int x :: st) h Q = xe_P d 17 14 ls (.int x.toInt8.toInt32 :: st) h Q := xe_P_ar (ins := .i2b) (len := 1) (by decide +kernel) rfl
theorem xs_17_14 : xe_P d 17 14 [l0, l1, l2, l3, l4] (.int x :: st) h Q = xe_P d 17 16 [l0, l1, l2, xe_cut l3, .int x] st h Q := xe_P_lo (ins := .istore 4) (len := 2) (by decide +kernel) rfl rfl
theorem xs_17_16 : xe_P d 17 16 ls st h Q = xe_P d 17 33 ls st h Q := xe_P_go (len := 3) (off := 17) (by decide +kernel) (by decide)
theorem xs_17_19 : xe_P d 17 19 [.ref a, l1, l2, l3, l4] st h Q = xe_P d 17 20 [.ref a, l1, l2, l3, l4] (.ref a :: st) h Q := xe_P_lo (ins := .aload_n 0) (len := 1) (by decide +kernel) rfl rfl
theorem xs_17_20 : xe_P d 17 20 ls (.ref a :: st) h Q = (xe_ob h a 1 ∧ xe_P d 17 23 ls (va_rf (xe_R h a 1) :: st) h Q) := xe_P_getR (i := 15) (by decide +kernel) (by decide +kernel) (by decide) rfl
theorem xs_17_23 : xe_P d 17 23 [l0, .int x, l2, l3, l4] st h Q = xe_P d 17 24 [l0, .int x, l2, l3, l4] (.int x :: st) h Q := xe_P_lo (ins := .iload_n 1) (len := 1) (by decide +kernel) rfl rfl
theorem xs_17_24 : xe_P d 17 24 ls (.int v :: .ref a :: st) h Q = ((xe_ia h a ∧ xe_ix h a v) ∧ xe_P d 17 25 ls (.int (xe_I h a v.toNatClampNeg) :: st) h Q) := xe_P_iald (by decide +kernel)
theorem xs_17_25 : xe_P d 17 25 ls st h Q = xe_P d 17 26 ls (.int 1 :: st) h Q := xe_P_ar (ins := .iconst 1) (len := 1) (by decide +kernel) rfl
theorem xs_17_26 : xe_P d 17 26 ls (.int v :: .int x :: st) h Q = (if x = v then xe_P d 17 29 ls st h Q else xe_P d 17 33 ls st h Q) := xe_P_ifn (ins := .if_icmp .ne 7) (len := 3) (off := 7) (by decide +kernel) (by decide) rfl rfl rfl
theorem xs_17_29 : xe_P d 17 29 [l0, l1, l2, .int x, l4] st h Q = xe_P d 17 30 [l0, l1, l2, .int x, l4] (.int x :: st) h Q := xe_P_lo (ins := .iload_n 3) (len := 1) (by decide +kernel) rfl rfl
theorem xs_17_30 : xe_P d 17 30 ls (.int x :: st) h Q = xe_P d 17 31 ls (.int x.toInt16.toInt32 :: st) h Q := xe_P_ar (ins := .i2s) (len := 1) (by decide +kernel) rfl
theorem xs_17_31 : xe_P d 17 31 [l0, l1, l2, l3, l4] (.int x :: st) h Q = xe_P d 17 33 [l0, l1, l2, xe_cut l3, .int x] st h Q := xe_P_lo (ins := .istore 4) (len := 2) (by decide +kernel) rfl rfl
theorem xs_17_33 : xe_P d 17 33 [.ref a, l1, l2, l3, l4] st h Q = xe_P d 17 34 [.ref a, l1, l2, l3, l4] (.ref a :: st) h Q := xe_P_lo (ins := .aload_n 0) (len := 1) (by decide +kernel) rfl rfl
theorem xs_17_34 : xe_P d 17 34 ls (.ref a :: st) h Q = (xe_ob h a 1 ∧ xe_P d 17 37 ls (va_rf (xe_R h a 0) :: st) h Q) := xe_P_getR (i := 11) (by decide +kernel) (by decide +kernel) (by decide) rfl
theorem xs_17_37 : xe_P d 17 37 [l0, .int x, l2, l3, l4] st h Q = xe_P d 17 38 [l0, .int x, l2, l3, l4] (.int x :: st) h Q := xe_P_lo (ins := .iload_n 1) (len := 1) (by decide +kernel) rfl rfl
theorem xs_17_38 : xe_P d 17 38 ls st h Q = xe_P d 17 40 ls (.int 40 :: st) h Q := xe_P_ar (ins := .bipush 40) (len := 2) (by decide +kernel) rfl
theorem xs_17_40 : xe_P d 17 40 ls (.int v :: .int x :: st) h Q = xe_P d 17 41 ls (.int (x * v) :: st) h Q := xe_P_ar (ins := .imul) (len := 1) (by decide +kernel) rfl
theorem xs_17_41 : xe_P d 17 41 [l0, l1, .int x, l3, l4] st h Q = xe_P d 17 42 [l0, l1, .int x, l3, l4] (.int x :: st) h Q := xe_P_lo (ins := .iload_n 2) (len := 1) (by decide +kernel) rfl rfl
theorem xs_17_42 : xe_P d 17 42 ls (.int v :: .int x :: st) h Q = xe_P d 17 43 ls (.int (x + v) :: st) h Q := xe_P_ar (ins := .iadd) (len := 1) (by decide +kernel) rfl
theorem xs_17_43 : xe_P d 17 43 [l0, l1, l2, l3, .int x] st h Q = xe_P d 17 45 [l0, l1, l2, l3, .int x] (.int x :: st) h Q := xe_P_lo (ins := .iload 4) (len := 2) (by decide +kernel) rfl rfl
theorem xs_17_45 : xe_P d 17 45 ls (.int x :: .int v :: .ref a :: st) h Q = ((xe_ob h a 8 ∧ xe_ix h a v) ∧ xe_P d 17 46 ls st (xe_sI h a v.toNatClampNeg x) Q) := xe_P_iast (by decide +kernel)
theorem xs_17_46 : xe_P d 17 46 ls [] h Q = Q none h := xe_P_vreturn (by decide +kernel) rfl
theorem xs_17 : xe_C (d + 1) 17 [.ref a, .int x0, .int x1, .int x2] h Q = xe_P d 17 0 [.ref a, .int x0, .int x1, .int x2, .retAddr 0] [] h Q := xe_C_at (Nat.le_of_ble_eq_true rfl) rfl
theorem xs_18_0 : xe_P d 18 0 [.ref a, l1, l2] st h Q = xe_P d 18 1 [.ref a, l1, l2] (.ref a :: st) h Q := xe_P_lo (ins := .aload_n 0) (len := 1) (by decide +kernel) rfl rfl
theorem xs_18_1 : xe_P d 18 1 ls (.ref a :: st) h Q = (xe_ob h a 1 ∧ xe_P d 18 4 ls (va_rf (xe_R h a 0) :: st) h Q) := xe_P_getR (i := 11) (by decide +kernel) (by decide +kernel) (by decide) rfl
theorem xs_18_4 : xe_P d 18 4 [l0, .int x, l2] st h Q = xe_P d 18 5 [l0, .int x, l2] (.int x :: st) h Q := xe_P_lo (ins := .iload_n 1) (len := 1) (by decide +kernel) rfl rfl
theorem xs_18_5 : xe_P d 18 5 ls st h Q = xe_P d 18 7 ls (.int 40 :: st) h Q := xe_P_ar (ins := .bipush 40) (len := 2) (by decide +kernel) rfl
theorem xs_18_7 : xe_P d 18 7 ls (.int v :: .int x :: st) h Q = xe_P d 18 8 ls (.int (x * v) :: st) h Q := xe_P_ar (ins := .imul) (len := 1) (by decide +kernel) rfl
theorem xs_18_8 : xe_P d 18 8 [l0, l1, .int x] st h Q = xe_P d 18 9 [l0, l1, .int x] (.int x :: st) h Q := xe_P_lo (ins := .iload_n 2) (len := 1) (by decide +kernel) rfl rfl
theorem xs_18_9 : xe_P d 18 9 ls (.int v :: .int x :: st) h Q = xe_P d 18 10 ls (.int (x + v) :: st) h Q := xe_P_ar (ins := .iadd) (len := 1) (by decide +kernel) rfl
theorem xs_18_10 : xe_P d 18 10 ls (.int v :: .ref a :: st) h Q = ((xe_ia h a ∧ xe_ix h a v) ∧ xe_P d 18 11 ls (.int (xe_I h a v.toNatClampNeg) :: st) h Q) := xe_P_iald (by decide +kernel)
theorem xs_18_11 : xe_P d 18 11 ls [.int x] h Q = Q (some (.int x)) h := xe_P_ireturn (by decide +kernel) rfl
theorem xs_18 : xe_C (d + 1) 18 [.ref a, .int x0, .int x1] h Q = xe_P d 18 0 [.ref a, .int x0, .int x1] [] h Q := xe_C_at (Nat.le_of_ble_eq_true rfl) rfl
theorem xs_19_0 : xe_P d 19 0 [.ref a, l1] st h Q = xe_P d 19 1 [.ref a, l1] (.ref a :: st) h Q := xe_P_lo (ins := .aload_n 0) (len := 1) (by decide +kernel) rfl rfl
theorem xs_19_1 : xe_P d 19 1 ls (.ref a :: st) h Q = (xe_ob h a 1 ∧ xe_P d 19 4 ls (va_rf (xe_R h a 1) :: st) h Q) := xe_P_getR (i := 15) (by decide +kernel) (by decide +kernel) (by decide) rfl
theorem xs_19_4 : xe_P d 19 4 [l0, .int x] st h Q = xe_P d 19 5 [l0, .int x] (.int x :: st) h Q := xe_P_lo (ins := .iload_n 1) (len := 1) (by decide +kernel) rfl rfl
theorem xs_19_5 : xe_P d 19 5 ls (.int v :: .ref a :: st) h Q = ((xe_ia h a ∧ xe_ix h a v) ∧ xe_P d 19 6 ls (.int (xe_I h a v.toNatClampNeg) :: st) h Q) := xe_P_iald (by decide +kernel)
theorem xs_19_6 : xe_P d 19 6 ls st h Q = xe_P d 19 7 ls (.int (-1) :: st) h Q := xe_P_ar (ins := .iconst (-1)) (len := 1) (by decide +kernel) rfl
theorem xs_19_7 : xe_P d 19 7 ls (.int v :: .int x :: st) h Q = (if x = v then xe_P d 19 10 ls st h Q else xe_P d 19 15 ls st h Q) := xe_P_ifn (ins := .if_icmp .ne 8) (len := 3) (off := 8) (by decide +kernel) (by decide) rfl rfl rfl
theorem xs_19_10 : xe_P d 19 10 ls st h Q = xe_P d 19 12 ls (.int (-4) :: st) h Q := xe_P_ar (ins := .bipush (-4)) (len := 2) (by decide +kernel) rfl
theorem xs_19_12 : xe_P d 19 12 ls st h Q = xe_P d 19 21 ls st h Q := xe_P_go (len := 3) (off := 9) (by decide +kernel) (by decide)
theorem xs_19_15 : xe_P d 19 15 [.ref a, l1] st h Q = xe_P d 19 16 [.ref a, l1] (.ref a :: st) h Q := xe_P_lo (ins := .aload_n 0) (len := 1) (by decide +kernel) rfl rfl
theorem xs_19_16 : xe_P d 19 16 ls (.ref a :: st) h Q = (xe_ob h a 1 ∧ xe_P d 19 19 ls (va_rf (xe_R h a 2) :: st) h Q) := xe_P_getR (i := 18) (by decide +kernel) (by decide +kernel) (by decide) rfl
theorem xs_19_19 : xe_P d 19 19 [l0, .int x] st h Q = xe_P d 19 20 [l0, .int x] (.int x :: st) h Q := xe_P_lo (ins := .iload_n 1) (len := 1) (by decide +kernel) rfl rfl
theorem xs_19_20 : xe_P d 19 20 ls (.int v :: .ref a :: st) h Q = ((xe_ia h a ∧ xe_ix h a v) ∧ xe_P d 19 21 ls (.int (xe_I h a v.toNatClampNeg) :: st) h Q) := xe_P_iald (by decide +kernel)
theorem xs_19_21 : xe_P d 19 21 ls [.int x] h Q = Q (some (.int x)) h := xe_P_ireturn (by decide +kernel) rfl
theorem xs_19 : xe_C (d + 1) 19 [.ref a, .int x0] h Q = xe_P d 19 0 [.ref a, .int x0] [] h Q := xe_C_at (Nat.le_of_ble_eq_true rfl) rfl
end XSX1
