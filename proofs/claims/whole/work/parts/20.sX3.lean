section XSX3
variable {d : Nat} {l0 l1 l2 l3 l4 l5 l6 l7 l8 l9 l10 l11 v0 v1 v2 v3 v4 v5 : Value} {x v n x0 x1 x2 x3 x4 x5 : Int32} {w u w0 w1 w2 w3 : Int64} {a b a0 a1 a2 : Nat} {ls st : List Value} {h : xe_H} {Q : Option Value → xe_H → Prop}
theorem xs_37_0 : xe_P d 37 0 [.ref a] st h Q = xe_P d 37 1 [.ref a] (.ref a :: st) h Q := xe_P_lo (ins := .aload_n 0) (len := 1) (by decide +kernel) rfl rfl
theorem xs_37_1 : xe_P d 37 1 ls (.ref a :: st) h Q = ((a < xe_n h ∧ xe_n h ≤ xe_S ∧ xe_w st ≤ 8) ∧ xe_P d 37 4 ls st h Q) := xe_P_obj (i := 3) (by decide +kernel) (by decide +kernel) rfl
theorem xs_37_4 : xe_P d 37 4 [.ref a] st h Q = xe_P d 37 5 [.ref a] (.ref a :: st) h Q := xe_P_lo (ins := .aload_n 0) (len := 1) (by decide +kernel) rfl rfl
theorem xs_37_5 : xe_P d 37 5 ls st h Q = xe_P d 37 7 ls (.int 6 :: st) h Q := xe_P_ar (ins := .bipush 6) (len := 2) (by decide +kernel) rfl
theorem xs_37_7 : xe_P d 37 7 ls (.int v :: st) h Q = ((¬ v < 0 ∧ v.toNatClampNeg ≤ 200000 ∧ xe_n h < xe_S) ∧ xe_P d 37 9 ls (.ref (xe_n h) :: st) (xe_new h 8 v.toNatClampNeg) Q) := xe_P_newa (t := .int) (by decide +kernel) (by decide)
theorem xs_37_9 : xe_P d 37 9 ls (.ref b :: .ref a :: st) h Q = ((xe_ob h a 3 ∧ b < xe_S) ∧ xe_P d 37 12 ls st (xe_sR h a 7 (some b)) Q) := xe_P_putR (i := 9) (by decide +kernel) (by decide +kernel) (by decide) (by decide +kernel) rfl
theorem xs_37_12 : xe_P d 37 12 [.ref a] st h Q = xe_P d 37 13 [.ref a] (.ref a :: st) h Q := xe_P_lo (ins := .aload_n 0) (len := 1) (by decide +kernel) rfl rfl
theorem xs_37_13 : xe_P d 37 13 ls st h Q = xe_P d 37 15 ls (.int 6 :: st) h Q := xe_P_ar (ins := .bipush 6) (len := 2) (by decide +kernel) rfl
theorem xs_37_15 : xe_P d 37 15 ls (.int v :: st) h Q = ((¬ v < 0 ∧ v.toNatClampNeg ≤ 200000 ∧ xe_n h < xe_S) ∧ xe_P d 37 17 ls (.ref (xe_n h) :: st) (xe_new h 8 v.toNatClampNeg) Q) := xe_P_newa (t := .int) (by decide +kernel) (by decide)
theorem xs_37_17 : xe_P d 37 17 ls (.ref b :: .ref a :: st) h Q = ((xe_ob h a 3 ∧ b < xe_S) ∧ xe_P d 37 20 ls st (xe_sR h a 8 (some b)) Q) := xe_P_putR (i := 15) (by decide +kernel) (by decide +kernel) (by decide) (by decide +kernel) rfl
theorem xs_37_20 : xe_P d 37 20 [.ref a] st h Q = xe_P d 37 21 [.ref a] (.ref a :: st) h Q := xe_P_lo (ins := .aload_n 0) (len := 1) (by decide +kernel) rfl rfl
theorem xs_37_21 : xe_P d 37 21 ls st h Q = xe_P d 37 23 ls (.int 6 :: st) h Q := xe_P_ar (ins := .bipush 6) (len := 2) (by decide +kernel) rfl
theorem xs_37_23 : xe_P d 37 23 ls (.int v :: st) h Q = ((¬ v < 0 ∧ v.toNatClampNeg ≤ 200000 ∧ xe_n h < xe_S) ∧ xe_P d 37 25 ls (.ref (xe_n h) :: st) (xe_new h 8 v.toNatClampNeg) Q) := xe_P_newa (t := .int) (by decide +kernel) (by decide)
theorem xs_37_25 : xe_P d 37 25 ls (.ref b :: .ref a :: st) h Q = ((xe_ob h a 3 ∧ b < xe_S) ∧ xe_P d 37 28 ls st (xe_sR h a 9 (some b)) Q) := xe_P_putR (i := 18) (by decide +kernel) (by decide +kernel) (by decide) (by decide +kernel) rfl
theorem xs_37_28 : xe_P d 37 28 [.ref a] st h Q = xe_P d 37 29 [.ref a] (.ref a :: st) h Q := xe_P_lo (ins := .aload_n 0) (len := 1) (by decide +kernel) rfl rfl
theorem xs_37_29 : xe_P d 37 29 ls st h Q = xe_P d 37 30 ls (.int 3 :: st) h Q := xe_P_ar (ins := .iconst 3) (len := 1) (by decide +kernel) rfl
theorem xs_37_30 : xe_P d 37 30 ls (.int v :: st) h Q = ((¬ v < 0 ∧ v.toNatClampNeg ≤ 200000 ∧ xe_n h < xe_S) ∧ xe_P d 37 32 ls (.ref (xe_n h) :: st) (xe_new h 8 v.toNatClampNeg) Q) := xe_P_newa (t := .int) (by decide +kernel) (by decide)
theorem xs_37_32 : xe_P d 37 32 ls (.ref b :: .ref a :: st) h Q = ((xe_ob h a 3 ∧ b < xe_S) ∧ xe_P d 37 35 ls st (xe_sR h a 10 (some b)) Q) := xe_P_putR (i := 21) (by decide +kernel) (by decide +kernel) (by decide) (by decide +kernel) rfl
theorem xs_37_35 : xe_P d 37 35 [.ref a] st h Q = xe_P d 37 36 [.ref a] (.ref a :: st) h Q := xe_P_lo (ins := .aload_n 0) (len := 1) (by decide +kernel) rfl rfl
theorem xs_37_36 : xe_P d 37 36 ls st h Q = xe_P d 37 37 ls (.int 3 :: st) h Q := xe_P_ar (ins := .iconst 3) (len := 1) (by decide +kernel) rfl
theorem xs_37_37 : xe_P d 37 37 ls (.int v :: st) h Q = ((¬ v < 0 ∧ v.toNatClampNeg ≤ 200000 ∧ xe_n h < xe_S) ∧ xe_P d 37 39 ls (.ref (xe_n h) :: st) (xe_new h 8 v.toNatClampNeg) Q) := xe_P_newa (t := .int) (by decide +kernel) (by decide)
theorem xs_37_39 : xe_P d 37 39 ls (.ref b :: .ref a :: st) h Q = ((xe_ob h a 3 ∧ b < xe_S) ∧ xe_P d 37 42 ls st (xe_sR h a 11 (some b)) Q) := xe_P_putR (i := 24) (by decide +kernel) (by decide +kernel) (by decide) (by decide +kernel) rfl
theorem xs_37_42 : xe_P d 37 42 [.ref a] st h Q = xe_P d 37 43 [.ref a] (.ref a :: st) h Q := xe_P_lo (ins := .aload_n 0) (len := 1) (by decide +kernel) rfl rfl
theorem xs_37_43 : xe_P d 37 43 ls (.ref a :: st) h Q = ((xe_w st ≤ 8 ∧ xe_ob h a 3) ∧ xe_C d 38 [.ref a] h (fun r h' => xe_P d 37 46 ls (r.toList ++ st) h' Q)) := xe_P_ivv (y := 37) (pc := 43) (z := 38) (i := 27) (vs := []) (by decide +kernel) (by decide +kernel) rfl (by decide +kernel)
theorem xs_37_46 : xe_P d 37 46 ls [] h Q = Q none h := xe_P_vreturn (by decide +kernel) rfl
theorem xs_37 : xe_C (d + 1) 37 [.ref a] h Q = xe_P d 37 0 [.ref a] [] h Q := xe_C_at (Nat.le_of_ble_eq_true rfl) rfl
theorem xs_38_0 : xe_P d 38 0 [.ref a] st h Q = xe_P d 38 1 [.ref a] (.ref a :: st) h Q := xe_P_lo (ins := .aload_n 0) (len := 1) (by decide +kernel) rfl rfl
theorem xs_38_1 : xe_P d 38 1 ls st h Q = xe_P d 38 2 ls (.int 2 :: st) h Q := xe_P_ar (ins := .iconst 2) (len := 1) (by decide +kernel) rfl
theorem xs_38_2 : xe_P d 38 2 ls (.int v :: .ref a :: st) h Q = (xe_ob h a 3 ∧ xe_P d 38 5 ls st (xe_sI h a 0 v) Q) := xe_P_putI (i := 30) (by decide +kernel) (by decide +kernel) (by decide) (by decide +kernel) rfl
theorem xs_38_5 : xe_P d 38 5 [.ref a] st h Q = xe_P d 38 6 [.ref a] (.ref a :: st) h Q := xe_P_lo (ins := .aload_n 0) (len := 1) (by decide +kernel) rfl rfl
theorem xs_38_6 : xe_P d 38 6 ls st h Q = xe_P d 38 7 ls (.int 0 :: st) h Q := xe_P_ar (ins := .iconst 0) (len := 1) (by decide +kernel) rfl
theorem xs_38_7 : xe_P d 38 7 ls (.int v :: .ref a :: st) h Q = (xe_ob h a 3 ∧ xe_P d 38 10 ls st (xe_sI h a 1 v) Q) := xe_P_putI (i := 34) (by decide +kernel) (by decide +kernel) (by decide) (by decide +kernel) rfl
theorem xs_38_10 : xe_P d 38 10 [.ref a] st h Q = xe_P d 38 11 [.ref a] (.ref a :: st) h Q := xe_P_lo (ins := .aload_n 0) (len := 1) (by decide +kernel) rfl rfl
theorem xs_38_11 : xe_P d 38 11 ls st h Q = xe_P d 38 12 ls (.int 0 :: st) h Q := xe_P_ar (ins := .iconst 0) (len := 1) (by decide +kernel) rfl
theorem xs_38_12 : xe_P d 38 12 ls (.int v :: .ref a :: st) h Q = (xe_ob h a 3 ∧ xe_P d 38 15 ls st (xe_sI h a 2 v) Q) := xe_P_putI (i := 37) (by decide +kernel) (by decide +kernel) (by decide) (by decide +kernel) rfl
theorem xs_38_15 : xe_P d 38 15 [.ref a] st h Q = xe_P d 38 16 [.ref a] (.ref a :: st) h Q := xe_P_lo (ins := .aload_n 0) (len := 1) (by decide +kernel) rfl rfl
theorem xs_38_16 : xe_P d 38 16 ls st h Q = xe_P d 38 17 ls (.int 0 :: st) h Q := xe_P_ar (ins := .iconst 0) (len := 1) (by decide +kernel) rfl
theorem xs_38_17 : xe_P d 38 17 ls (.int v :: .ref a :: st) h Q = (xe_ob h a 3 ∧ xe_P d 38 20 ls st (xe_sI h a 3 v) Q) := xe_P_putI (i := 40) (by decide +kernel) (by decide +kernel) (by decide) (by decide +kernel) rfl
theorem xs_38_20 : xe_P d 38 20 [.ref a] st h Q = xe_P d 38 21 [.ref a] (.ref a :: st) h Q := xe_P_lo (ins := .aload_n 0) (len := 1) (by decide +kernel) rfl rfl
theorem xs_38_21 : xe_P d 38 21 ls st h Q = xe_P d 38 22 ls (.int 2 :: st) h Q := xe_P_ar (ins := .iconst 2) (len := 1) (by decide +kernel) rfl
theorem xs_38_22 : xe_P d 38 22 ls (.int v :: .ref a :: st) h Q = (xe_ob h a 3 ∧ xe_P d 38 25 ls st (xe_sI h a 4 v) Q) := xe_P_putI (i := 43) (by decide +kernel) (by decide +kernel) (by decide) (by decide +kernel) rfl
theorem xs_38_25 : xe_P d 38 25 [.ref a] st h Q = xe_P d 38 26 [.ref a] (.ref a :: st) h Q := xe_P_lo (ins := .aload_n 0) (len := 1) (by decide +kernel) rfl rfl
theorem xs_38_26 : xe_P d 38 26 ls st h Q = xe_P d 38 27 ls (.int 0 :: st) h Q := xe_P_ar (ins := .iconst 0) (len := 1) (by decide +kernel) rfl
theorem xs_38_27 : xe_P d 38 27 ls (.int v :: .ref a :: st) h Q = (xe_ob h a 3 ∧ xe_P d 38 30 ls st (xe_sI h a 5 v) Q) := xe_P_putI (i := 46) (by decide +kernel) (by decide +kernel) (by decide) (by decide +kernel) rfl
theorem xs_38_30 : xe_P d 38 30 [.ref a] st h Q = xe_P d 38 31 [.ref a] (.ref a :: st) h Q := xe_P_lo (ins := .aload_n 0) (len := 1) (by decide +kernel) rfl rfl
theorem xs_38_31 : xe_P d 38 31 ls st h Q = xe_P d 38 32 ls (.int 0 :: st) h Q := xe_P_ar (ins := .iconst 0) (len := 1) (by decide +kernel) rfl
theorem xs_38_32 : xe_P d 38 32 ls (.int v :: .ref a :: st) h Q = (xe_ob h a 3 ∧ xe_P d 38 35 ls st (xe_sI h a 6 v) Q) := xe_P_putI (i := 49) (by decide +kernel) (by decide +kernel) (by decide) (by decide +kernel) rfl
theorem xs_38_35 : xe_P d 38 35 [.ref a] st h Q = xe_P d 38 36 [.ref a] (.ref a :: st) h Q := xe_P_lo (ins := .aload_n 0) (len := 1) (by decide +kernel) rfl rfl
theorem xs_38_36 : xe_P d 38 36 ls (.ref a :: st) h Q = (xe_ob h a 3 ∧ xe_P d 38 39 ls (va_rf (xe_R h a 9) :: st) h Q) := xe_P_getR (i := 18) (by decide +kernel) (by decide +kernel) (by decide) rfl
theorem xs_38_39 : xe_P d 38 39 ls st h Q = xe_P d 38 41 ls (.int 6 :: st) h Q := xe_P_ar (ins := .bipush 6) (len := 2) (by decide +kernel) rfl
theorem xs_38_41 : xe_P d 38 41 ls (v1 :: v0 :: st) h Q = (xe_w st ≤ 8 ∧ xe_C d 215 [v0, v1] h (fun r h' => xe_P d 38 44 ls (r.toList ++ st) h' Q)) := xe_P_ivs (y := 38) (pc := 41) (z := 215) (i := 52) (vs := [v1, v0]) (by decide +kernel) (by decide +kernel) rfl
theorem xs_38_44 : xe_P d 38 44 ls [] h Q = Q none h := xe_P_vreturn (by decide +kernel) rfl
theorem xs_38 : xe_C (d + 1) 38 [.ref a] h Q = xe_P d 38 0 [.ref a] [] h Q := xe_C_at (Nat.le_of_ble_eq_true rfl) rfl
theorem xs_39_0 : xe_P d 39 0 [.ref a, l1] st h Q = xe_P d 39 1 [.ref a, l1] (.ref a :: st) h Q := xe_P_lo (ins := .aload_n 0) (len := 1) (by decide +kernel) rfl rfl
theorem xs_39_1 : xe_P d 39 1 [l0, .ref a] st h Q = xe_P d 39 2 [l0, .ref a] (.ref a :: st) h Q := xe_P_lo (ins := .aload_n 1) (len := 1) (by decide +kernel) rfl rfl
theorem xs_39_2 : xe_P d 39 2 ls (.ref a :: st) h Q = (xe_ob h a 3 ∧ xe_P d 39 5 ls (.int (xe_I h a 0) :: st) h Q) := xe_P_getI (i := 30) (by decide +kernel) (by decide +kernel) (by decide) rfl
theorem xs_39_5 : xe_P d 39 5 ls (.int v :: .ref a :: st) h Q = (xe_ob h a 3 ∧ xe_P d 39 8 ls st (xe_sI h a 0 v) Q) := xe_P_putI (i := 30) (by decide +kernel) (by decide +kernel) (by decide) (by decide +kernel) rfl
theorem xs_39_8 : xe_P d 39 8 [.ref a, l1] st h Q = xe_P d 39 9 [.ref a, l1] (.ref a :: st) h Q := xe_P_lo (ins := .aload_n 0) (len := 1) (by decide +kernel) rfl rfl
theorem xs_39_9 : xe_P d 39 9 [l0, .ref a] st h Q = xe_P d 39 10 [l0, .ref a] (.ref a :: st) h Q := xe_P_lo (ins := .aload_n 1) (len := 1) (by decide +kernel) rfl rfl
theorem xs_39_10 : xe_P d 39 10 ls (.ref a :: st) h Q = (xe_ob h a 3 ∧ xe_P d 39 13 ls (.int (xe_I h a 1) :: st) h Q) := xe_P_getI (i := 34) (by decide +kernel) (by decide +kernel) (by decide) rfl
theorem xs_39_13 : xe_P d 39 13 ls (.int v :: .ref a :: st) h Q = (xe_ob h a 3 ∧ xe_P d 39 16 ls st (xe_sI h a 1 v) Q) := xe_P_putI (i := 34) (by decide +kernel) (by decide +kernel) (by decide) (by decide +kernel) rfl
theorem xs_39_16 : xe_P d 39 16 [.ref a, l1] st h Q = xe_P d 39 17 [.ref a, l1] (.ref a :: st) h Q := xe_P_lo (ins := .aload_n 0) (len := 1) (by decide +kernel) rfl rfl
theorem xs_39_17 : xe_P d 39 17 [l0, .ref a] st h Q = xe_P d 39 18 [l0, .ref a] (.ref a :: st) h Q := xe_P_lo (ins := .aload_n 1) (len := 1) (by decide +kernel) rfl rfl
theorem xs_39_18 : xe_P d 39 18 ls (.ref a :: st) h Q = (xe_ob h a 3 ∧ xe_P d 39 21 ls (.int (xe_I h a 2) :: st) h Q) := xe_P_getI (i := 37) (by decide +kernel) (by decide +kernel) (by decide) rfl
theorem xs_39_21 : xe_P d 39 21 ls (.int v :: .ref a :: st) h Q = (xe_ob h a 3 ∧ xe_P d 39 24 ls st (xe_sI h a 2 v) Q) := xe_P_putI (i := 37) (by decide +kernel) (by decide +kernel) (by decide) (by decide +kernel) rfl
theorem xs_39_24 : xe_P d 39 24 [.ref a, l1] st h Q = xe_P d 39 25 [.ref a, l1] (.ref a :: st) h Q := xe_P_lo (ins := .aload_n 0) (len := 1) (by decide +kernel) rfl rfl
theorem xs_39_25 : xe_P d 39 25 [l0, .ref a] st h Q = xe_P d 39 26 [l0, .ref a] (.ref a :: st) h Q := xe_P_lo (ins := .aload_n 1) (len := 1) (by decide +kernel) rfl rfl
theorem xs_39_26 : xe_P d 39 26 ls (.ref a :: st) h Q = (xe_ob h a 3 ∧ xe_P d 39 29 ls (.int (xe_I h a 3) :: st) h Q) := xe_P_getI (i := 40) (by decide +kernel) (by decide +kernel) (by decide) rfl
theorem xs_39_29 : xe_P d 39 29 ls (.int v :: .ref a :: st) h Q = (xe_ob h a 3 ∧ xe_P d 39 32 ls st (xe_sI h a 3 v) Q) := xe_P_putI (i := 40) (by decide +kernel) (by decide +kernel) (by decide) (by decide +kernel) rfl
theorem xs_39_32 : xe_P d 39 32 [.ref a, l1] st h Q = xe_P d 39 33 [.ref a, l1] (.ref a :: st) h Q := xe_P_lo (ins := .aload_n 0) (len := 1) (by decide +kernel) rfl rfl
theorem xs_39_33 : xe_P d 39 33 [l0, .ref a] st h Q = xe_P d 39 34 [l0, .ref a] (.ref a :: st) h Q := xe_P_lo (ins := .aload_n 1) (len := 1) (by decide +kernel) rfl rfl
theorem xs_39_34 : xe_P d 39 34 ls (.ref a :: st) h Q = (xe_ob h a 3 ∧ xe_P d 39 37 ls (.int (xe_I h a 4) :: st) h Q) := xe_P_getI (i := 43) (by decide +kernel) (by decide +kernel) (by decide) rfl
theorem xs_39_37 : xe_P d 39 37 ls (.int v :: .ref a :: st) h Q = (xe_ob h a 3 ∧ xe_P d 39 40 ls st (xe_sI h a 4 v) Q) := xe_P_putI (i := 43) (by decide +kernel) (by decide +kernel) (by decide) (by decide +kernel) rfl
theorem xs_39_40 : xe_P d 39 40 [.ref a, l1] st h Q = xe_P d 39 41 [.ref a, l1] (.ref a :: st) h Q := xe_P_lo (ins := .aload_n 0) (len := 1) (by decide +kernel) rfl rfl
theorem xs_39_41 : xe_P d 39 41 [l0, .ref a] st h Q = xe_P d 39 42 [l0, .ref a] (.ref a :: st) h Q := xe_P_lo (ins := .aload_n 1) (len := 1) (by decide +kernel) rfl rfl
theorem xs_39_42 : xe_P d 39 42 ls (.ref a :: st) h Q = (xe_ob h a 3 ∧ xe_P d 39 45 ls (.int (xe_I h a 5) :: st) h Q) := xe_P_getI (i := 46) (by decide +kernel) (by decide +kernel) (by decide) rfl
theorem xs_39_45 : xe_P d 39 45 ls (.int v :: .ref a :: st) h Q = (xe_ob h a 3 ∧ xe_P d 39 48 ls st (xe_sI h a 5 v) Q) := xe_P_putI (i := 46) (by decide +kernel) (by decide +kernel) (by decide) (by decide +kernel) rfl
theorem xs_39_48 : xe_P d 39 48 [.ref a, l1] st h Q = xe_P d 39 49 [.ref a, l1] (.ref a :: st) h Q := xe_P_lo (ins := .aload_n 0) (len := 1) (by decide +kernel) rfl rfl
theorem xs_39_49 : xe_P d 39 49 [l0, .ref a] st h Q = xe_P d 39 50 [l0, .ref a] (.ref a :: st) h Q := xe_P_lo (ins := .aload_n 1) (len := 1) (by decide +kernel) rfl rfl
theorem xs_39_50 : xe_P d 39 50 ls (.ref a :: st) h Q = (xe_ob h a 3 ∧ xe_P d 39 53 ls (.int (xe_I h a 6) :: st) h Q) := xe_P_getI (i := 49) (by decide +kernel) (by decide +kernel) (by decide) rfl
theorem xs_39_53 : xe_P d 39 53 ls (.int v :: .ref a :: st) h Q = (xe_ob h a 3 ∧ xe_P d 39 56 ls st (xe_sI h a 6 v) Q) := xe_P_putI (i := 49) (by decide +kernel) (by decide +kernel) (by decide) (by decide +kernel) rfl
theorem xs_39_56 : xe_P d 39 56 [l0, .ref a] st h Q = xe_P d 39 57 [l0, .ref a] (.ref a :: st) h Q := xe_P_lo (ins := .aload_n 1) (len := 1) (by decide +kernel) rfl rfl
theorem xs_39_57 : xe_P d 39 57 ls (.ref a :: st) h Q = (xe_ob h a 3 ∧ xe_P d 39 60 ls (va_rf (xe_R h a 7) :: st) h Q) := xe_P_getR (i := 9) (by decide +kernel) (by decide +kernel) (by decide) rfl
theorem xs_39_60 : xe_P d 39 60 ls st h Q = xe_P d 39 61 ls (.int 0 :: st) h Q := xe_P_ar (ins := .iconst 0) (len := 1) (by decide +kernel) rfl
theorem xs_39_61 : xe_P d 39 61 [.ref a, l1] st h Q = xe_P d 39 62 [.ref a, l1] (.ref a :: st) h Q := xe_P_lo (ins := .aload_n 0) (len := 1) (by decide +kernel) rfl rfl
theorem xs_39_62 : xe_P d 39 62 ls (.ref a :: st) h Q = (xe_ob h a 3 ∧ xe_P d 39 65 ls (va_rf (xe_R h a 7) :: st) h Q) := xe_P_getR (i := 9) (by decide +kernel) (by decide +kernel) (by decide) rfl
theorem xs_39_65 : xe_P d 39 65 ls st h Q = xe_P d 39 66 ls (.int 0 :: st) h Q := xe_P_ar (ins := .iconst 0) (len := 1) (by decide +kernel) rfl
theorem xs_39_66 : xe_P d 39 66 ls st h Q = xe_P d 39 68 ls (.int 6 :: st) h Q := xe_P_ar (ins := .bipush 6) (len := 2) (by decide +kernel) rfl
theorem xs_39_68 (hA : xe_T h a = 8) (hB : xe_T h b = 8) : xe_P d 39 68 ls (.int n :: .int v :: .ref b :: .int x :: .ref a :: st) h Q = ((xe_w st ≤ 8 ∧ a < xe_n h ∧ b < xe_n h ∧ ¬ x < 0 ∧ ¬ v < 0 ∧ ¬ n < 0 ∧ x.toNatClampNeg + n.toNatClampNeg ≤ xe_N h a ∧ v.toNatClampNeg + n.toNatClampNeg ≤ xe_N h b) ∧ xe_P d 39 71 ls st (xe_aI h b (va_cpy (xe_I h a) (xe_I h b) x.toNatClampNeg v.toNatClampNeg n.toNatClampNeg)) Q) := xe_P_cpyI (i := 58) (by decide +kernel) (by decide +kernel) hA hB
theorem xs_39_71 : xe_P d 39 71 [l0, .ref a] st h Q = xe_P d 39 72 [l0, .ref a] (.ref a :: st) h Q := xe_P_lo (ins := .aload_n 1) (len := 1) (by decide +kernel) rfl rfl
theorem xs_39_72 : xe_P d 39 72 ls (.ref a :: st) h Q = (xe_ob h a 3 ∧ xe_P d 39 75 ls (va_rf (xe_R h a 8) :: st) h Q) := xe_P_getR (i := 15) (by decide +kernel) (by decide +kernel) (by decide) rfl
theorem xs_39_75 : xe_P d 39 75 ls st h Q = xe_P d 39 76 ls (.int 0 :: st) h Q := xe_P_ar (ins := .iconst 0) (len := 1) (by decide +kernel) rfl
theorem xs_39_76 : xe_P d 39 76 [.ref a, l1] st h Q = xe_P d 39 77 [.ref a, l1] (.ref a :: st) h Q := xe_P_lo (ins := .aload_n 0) (len := 1) (by decide +kernel) rfl rfl
theorem xs_39_77 : xe_P d 39 77 ls (.ref a :: st) h Q = (xe_ob h a 3 ∧ xe_P d 39 80 ls (va_rf (xe_R h a 8) :: st) h Q) := xe_P_getR (i := 15) (by decide +kernel) (by decide +kernel) (by decide) rfl
theorem xs_39_80 : xe_P d 39 80 ls st h Q = xe_P d 39 81 ls (.int 0 :: st) h Q := xe_P_ar (ins := .iconst 0) (len := 1) (by decide +kernel) rfl
theorem xs_39_81 : xe_P d 39 81 ls st h Q = xe_P d 39 83 ls (.int 6 :: st) h Q := xe_P_ar (ins := .bipush 6) (len := 2) (by decide +kernel) rfl
theorem xs_39_83 (hA : xe_T h a = 8) (hB : xe_T h b = 8) : xe_P d 39 83 ls (.int n :: .int v :: .ref b :: .int x :: .ref a :: st) h Q = ((xe_w st ≤ 8 ∧ a < xe_n h ∧ b < xe_n h ∧ ¬ x < 0 ∧ ¬ v < 0 ∧ ¬ n < 0 ∧ x.toNatClampNeg + n.toNatClampNeg ≤ xe_N h a ∧ v.toNatClampNeg + n.toNatClampNeg ≤ xe_N h b) ∧ xe_P d 39 86 ls st (xe_aI h b (va_cpy (xe_I h a) (xe_I h b) x.toNatClampNeg v.toNatClampNeg n.toNatClampNeg)) Q) := xe_P_cpyI (i := 58) (by decide +kernel) (by decide +kernel) hA hB
theorem xs_39_86 : xe_P d 39 86 [l0, .ref a] st h Q = xe_P d 39 87 [l0, .ref a] (.ref a :: st) h Q := xe_P_lo (ins := .aload_n 1) (len := 1) (by decide +kernel) rfl rfl
theorem xs_39_87 : xe_P d 39 87 ls (.ref a :: st) h Q = (xe_ob h a 3 ∧ xe_P d 39 90 ls (va_rf (xe_R h a 9) :: st) h Q) := xe_P_getR (i := 18) (by decide +kernel) (by decide +kernel) (by decide) rfl
theorem xs_39_90 : xe_P d 39 90 ls st h Q = xe_P d 39 91 ls (.int 0 :: st) h Q := xe_P_ar (ins := .iconst 0) (len := 1) (by decide +kernel) rfl
theorem xs_39_91 : xe_P d 39 91 [.ref a, l1] st h Q = xe_P d 39 92 [.ref a, l1] (.ref a :: st) h Q := xe_P_lo (ins := .aload_n 0) (len := 1) (by decide +kernel) rfl rfl
theorem xs_39_92 : xe_P d 39 92 ls (.ref a :: st) h Q = (xe_ob h a 3 ∧ xe_P d 39 95 ls (va_rf (xe_R h a 9) :: st) h Q) := xe_P_getR (i := 18) (by decide +kernel) (by decide +kernel) (by decide) rfl
theorem xs_39_95 : xe_P d 39 95 ls st h Q = xe_P d 39 96 ls (.int 0 :: st) h Q := xe_P_ar (ins := .iconst 0) (len := 1) (by decide +kernel) rfl
theorem xs_39_96 : xe_P d 39 96 ls st h Q = xe_P d 39 98 ls (.int 6 :: st) h Q := xe_P_ar (ins := .bipush 6) (len := 2) (by decide +kernel) rfl
theorem xs_39_98 (hA : xe_T h a = 8) (hB : xe_T h b = 8) : xe_P d 39 98 ls (.int n :: .int v :: .ref b :: .int x :: .ref a :: st) h Q = ((xe_w st ≤ 8 ∧ a < xe_n h ∧ b < xe_n h ∧ ¬ x < 0 ∧ ¬ v < 0 ∧ ¬ n < 0 ∧ x.toNatClampNeg + n.toNatClampNeg ≤ xe_N h a ∧ v.toNatClampNeg + n.toNatClampNeg ≤ xe_N h b) ∧ xe_P d 39 101 ls st (xe_aI h b (va_cpy (xe_I h a) (xe_I h b) x.toNatClampNeg v.toNatClampNeg n.toNatClampNeg)) Q) := xe_P_cpyI (i := 58) (by decide +kernel) (by decide +kernel) hA hB
theorem xs_39_101 : xe_P d 39 101 [l0, .ref a] st h Q = xe_P d 39 102 [l0, .ref a] (.ref a :: st) h Q := xe_P_lo (ins := .aload_n 1) (len := 1) (by decide +kernel) rfl rfl
theorem xs_39_102 : xe_P d 39 102 ls (.ref a :: st) h Q = (xe_ob h a 3 ∧ xe_P d 39 105 ls (va_rf (xe_R h a 10) :: st) h Q) := xe_P_getR (i := 21) (by decide +kernel) (by decide +kernel) (by decide) rfl
theorem xs_39_105 : xe_P d 39 105 ls st h Q = xe_P d 39 106 ls (.int 0 :: st) h Q := xe_P_ar (ins := .iconst 0) (len := 1) (by decide +kernel) rfl
theorem xs_39_106 : xe_P d 39 106 [.ref a, l1] st h Q = xe_P d 39 107 [.ref a, l1] (.ref a :: st) h Q := xe_P_lo (ins := .aload_n 0) (len := 1) (by decide +kernel) rfl rfl
theorem xs_39_107 : xe_P d 39 107 ls (.ref a :: st) h Q = (xe_ob h a 3 ∧ xe_P d 39 110 ls (va_rf (xe_R h a 10) :: st) h Q) := xe_P_getR (i := 21) (by decide +kernel) (by decide +kernel) (by decide) rfl
theorem xs_39_110 : xe_P d 39 110 ls st h Q = xe_P d 39 111 ls (.int 0 :: st) h Q := xe_P_ar (ins := .iconst 0) (len := 1) (by decide +kernel) rfl
theorem xs_39_111 : xe_P d 39 111 ls st h Q = xe_P d 39 112 ls (.int 3 :: st) h Q := xe_P_ar (ins := .iconst 3) (len := 1) (by decide +kernel) rfl
theorem xs_39_112 (hA : xe_T h a = 8) (hB : xe_T h b = 8) : xe_P d 39 112 ls (.int n :: .int v :: .ref b :: .int x :: .ref a :: st) h Q = ((xe_w st ≤ 8 ∧ a < xe_n h ∧ b < xe_n h ∧ ¬ x < 0 ∧ ¬ v < 0 ∧ ¬ n < 0 ∧ x.toNatClampNeg + n.toNatClampNeg ≤ xe_N h a ∧ v.toNatClampNeg + n.toNatClampNeg ≤ xe_N h b) ∧ xe_P d 39 115 ls st (xe_aI h b (va_cpy (xe_I h a) (xe_I h b) x.toNatClampNeg v.toNatClampNeg n.toNatClampNeg)) Q) := xe_P_cpyI (i := 58) (by decide +kernel) (by decide +kernel) hA hB
theorem xs_39_115 : xe_P d 39 115 [l0, .ref a] st h Q = xe_P d 39 116 [l0, .ref a] (.ref a :: st) h Q := xe_P_lo (ins := .aload_n 1) (len := 1) (by decide +kernel) rfl rfl
theorem xs_39_116 : xe_P d 39 116 ls (.ref a :: st) h Q = (xe_ob h a 3 ∧ xe_P d 39 119 ls (va_rf (xe_R h a 11) :: st) h Q) := xe_P_getR (i := 24) (by decide +kernel) (by decide +kernel) (by decide) rfl
theorem xs_39_119 : xe_P d 39 119 ls st h Q = xe_P d 39 120 ls (.int 0 :: st) h Q := xe_P_ar (ins := .iconst 0) (len := 1) (by decide +kernel) rfl
theorem xs_39_120 : xe_P d 39 120 [.ref a, l1] st h Q = xe_P d 39 121 [.ref a, l1] (.ref a :: st) h Q := xe_P_lo (ins := .aload_n 0) (len := 1) (by decide +kernel) rfl rfl
theorem xs_39_121 : xe_P d 39 121 ls (.ref a :: st) h Q = (xe_ob h a 3 ∧ xe_P d 39 124 ls (va_rf (xe_R h a 11) :: st) h Q) := xe_P_getR (i := 24) (by decide +kernel) (by decide +kernel) (by decide) rfl
theorem xs_39_124 : xe_P d 39 124 ls st h Q = xe_P d 39 125 ls (.int 0 :: st) h Q := xe_P_ar (ins := .iconst 0) (len := 1) (by decide +kernel) rfl
theorem xs_39_125 : xe_P d 39 125 ls st h Q = xe_P d 39 126 ls (.int 3 :: st) h Q := xe_P_ar (ins := .iconst 3) (len := 1) (by decide +kernel) rfl
theorem xs_39_126 (hA : xe_T h a = 8) (hB : xe_T h b = 8) : xe_P d 39 126 ls (.int n :: .int v :: .ref b :: .int x :: .ref a :: st) h Q = ((xe_w st ≤ 8 ∧ a < xe_n h ∧ b < xe_n h ∧ ¬ x < 0 ∧ ¬ v < 0 ∧ ¬ n < 0 ∧ x.toNatClampNeg + n.toNatClampNeg ≤ xe_N h a ∧ v.toNatClampNeg + n.toNatClampNeg ≤ xe_N h b) ∧ xe_P d 39 129 ls st (xe_aI h b (va_cpy (xe_I h a) (xe_I h b) x.toNatClampNeg v.toNatClampNeg n.toNatClampNeg)) Q) := xe_P_cpyI (i := 58) (by decide +kernel) (by decide +kernel) hA hB
theorem xs_39_129 : xe_P d 39 129 ls [] h Q = Q none h := xe_P_vreturn (by decide +kernel) rfl
theorem xs_39 : xe_C (d + 1) 39 [.ref a, .ref a0] h Q = xe_P d 39 0 [.ref a, .ref a0] [] h Q := xe_C_at (Nat.le_of_ble_eq_true rfl) rfl
theorem xs_40_0 : xe_P d 40 0 [l0, .int x] st h Q = xe_P d 40 1 [l0, .int x] (.int x :: st) h Q := xe_P_lo (ins := .iload_n 1) (len := 1) (by decide +kernel) rfl rfl
theorem xs_40_1 : xe_P d 40 1 ls (.int x :: st) h Q = (if x < 0 then xe_P d 40 16 ls st h Q else xe_P d 40 4 ls st h Q) := xe_P_if (ins := .ifCond .lt 15) (len := 3) (off := 15) (by decide +kernel) (by decide) rfl rfl rfl
theorem xs_40_4 : xe_P d 40 4 [l0, .int x] st h Q = xe_P d 40 5 [l0, .int x] (.int x :: st) h Q := xe_P_lo (ins := .iload_n 1) (len := 1) (by decide +kernel) rfl rfl
theorem xs_40_5 : xe_P d 40 5 [.ref a, l1] st h Q = xe_P d 40 6 [.ref a, l1] (.ref a :: st) h Q := xe_P_lo (ins := .aload_n 0) (len := 1) (by decide +kernel) rfl rfl
theorem xs_40_6 : xe_P d 40 6 ls (.ref a :: st) h Q = (xe_ob h a 3 ∧ xe_P d 40 9 ls (.int (xe_I h a 0) :: st) h Q) := xe_P_getI (i := 30) (by decide +kernel) (by decide +kernel) (by decide) rfl
theorem xs_40_9 : xe_P d 40 9 ls (.int v :: .int x :: st) h Q = (if v ≤ x then xe_P d 40 16 ls st h Q else xe_P d 40 12 ls st h Q) := xe_P_if (ins := .if_icmp .ge 7) (len := 3) (off := 7) (by decide +kernel) (by decide) rfl rfl rfl
theorem xs_40_12 : xe_P d 40 12 ls st h Q = xe_P d 40 13 ls (.int 1 :: st) h Q := xe_P_ar (ins := .iconst 1) (len := 1) (by decide +kernel) rfl
theorem xs_40_13 : xe_P d 40 13 ls st h Q = xe_P d 40 17 ls st h Q := xe_P_go (len := 3) (off := 4) (by decide +kernel) (by decide)
theorem xs_40_16 : xe_P d 40 16 ls st h Q = xe_P d 40 17 ls (.int 0 :: st) h Q := xe_P_ar (ins := .iconst 0) (len := 1) (by decide +kernel) rfl
theorem xs_40_17 : xe_P d 40 17 ls [.int x] h Q = ((x = 0 ∨ x = 1) ∧ Q (some (.int x)) h) := xe_P_zreturn (by decide +kernel) rfl
theorem xs_40 : xe_C (d + 1) 40 [.ref a, .int x0] h Q = xe_P d 40 0 [.ref a, .int x0] [] h Q := xe_C_at (Nat.le_of_ble_eq_true rfl) rfl
theorem xs_41_0 : xe_P d 41 0 [l0, .int x] st h Q = xe_P d 41 1 [l0, .int x] (.int x :: st) h Q := xe_P_lo (ins := .iload_n 1) (len := 1) (by decide +kernel) rfl rfl
theorem xs_41_1 : xe_P d 41 1 ls (.int x :: st) h Q = (if x < 0 then xe_P d 41 16 ls st h Q else xe_P d 41 4 ls st h Q) := xe_P_if (ins := .ifCond .lt 15) (len := 3) (off := 15) (by decide +kernel) (by decide) rfl rfl rfl
theorem xs_41_4 : xe_P d 41 4 [l0, .int x] st h Q = xe_P d 41 5 [l0, .int x] (.int x :: st) h Q := xe_P_lo (ins := .iload_n 1) (len := 1) (by decide +kernel) rfl rfl
theorem xs_41_5 : xe_P d 41 5 [.ref a, l1] st h Q = xe_P d 41 6 [.ref a, l1] (.ref a :: st) h Q := xe_P_lo (ins := .aload_n 0) (len := 1) (by decide +kernel) rfl rfl
theorem xs_41_6 : xe_P d 41 6 ls (.ref a :: st) h Q = (xe_ob h a 3 ∧ xe_P d 41 9 ls (.int (xe_I h a 1) :: st) h Q) := xe_P_getI (i := 34) (by decide +kernel) (by decide +kernel) (by decide) rfl
theorem xs_41_9 : xe_P d 41 9 ls (.int v :: .int x :: st) h Q = (if v ≤ x then xe_P d 41 16 ls st h Q else xe_P d 41 12 ls st h Q) := xe_P_if (ins := .if_icmp .ge 7) (len := 3) (off := 7) (by decide +kernel) (by decide) rfl rfl rfl
theorem xs_41_12 : xe_P d 41 12 ls st h Q = xe_P d 41 13 ls (.int 1 :: st) h Q := xe_P_ar (ins := .iconst 1) (len := 1) (by decide +kernel) rfl
theorem xs_41_13 : xe_P d 41 13 ls st h Q = xe_P d 41 17 ls st h Q := xe_P_go (len := 3) (off := 4) (by decide +kernel) (by decide)
theorem xs_41_16 : xe_P d 41 16 ls st h Q = xe_P d 41 17 ls (.int 0 :: st) h Q := xe_P_ar (ins := .iconst 0) (len := 1) (by decide +kernel) rfl
theorem xs_41_17 : xe_P d 41 17 ls [.int x] h Q = ((x = 0 ∨ x = 1) ∧ Q (some (.int x)) h) := xe_P_zreturn (by decide +kernel) rfl
theorem xs_41 : xe_C (d + 1) 41 [.ref a, .int x0] h Q = xe_P d 41 0 [.ref a, .int x0] [] h Q := xe_C_at (Nat.le_of_ble_eq_true rfl) rfl
theorem xs_42_0 : xe_P d 42 0 [l0, .int x] st h Q = xe_P d 42 1 [l0, .int x] (.int x :: st) h Q := xe_P_lo (ins := .iload_n 1) (len := 1) (by decide +kernel) rfl rfl
theorem xs_42_1 : xe_P d 42 1 ls (.int x :: st) h Q = (if x < 0 then xe_P d 42 16 ls st h Q else xe_P d 42 4 ls st h Q) := xe_P_if (ins := .ifCond .lt 15) (len := 3) (off := 15) (by decide +kernel) (by decide) rfl rfl rfl
theorem xs_42_4 : xe_P d 42 4 [l0, .int x] st h Q = xe_P d 42 5 [l0, .int x] (.int x :: st) h Q := xe_P_lo (ins := .iload_n 1) (len := 1) (by decide +kernel) rfl rfl
theorem xs_42_5 : xe_P d 42 5 [.ref a, l1] st h Q = xe_P d 42 6 [.ref a, l1] (.ref a :: st) h Q := xe_P_lo (ins := .aload_n 0) (len := 1) (by decide +kernel) rfl rfl
theorem xs_42_6 : xe_P d 42 6 ls (.ref a :: st) h Q = (xe_ob h a 3 ∧ xe_P d 42 9 ls (.int (xe_I h a 2) :: st) h Q) := xe_P_getI (i := 37) (by decide +kernel) (by decide +kernel) (by decide) rfl
theorem xs_42_9 : xe_P d 42 9 ls (.int v :: .int x :: st) h Q = (if v ≤ x then xe_P d 42 16 ls st h Q else xe_P d 42 12 ls st h Q) := xe_P_if (ins := .if_icmp .ge 7) (len := 3) (off := 7) (by decide +kernel) (by decide) rfl rfl rfl
theorem xs_42_12 : xe_P d 42 12 ls st h Q = xe_P d 42 13 ls (.int 1 :: st) h Q := xe_P_ar (ins := .iconst 1) (len := 1) (by decide +kernel) rfl
theorem xs_42_13 : xe_P d 42 13 ls st h Q = xe_P d 42 17 ls st h Q := xe_P_go (len := 3) (off := 4) (by decide +kernel) (by decide)
theorem xs_42_16 : xe_P d 42 16 ls st h Q = xe_P d 42 17 ls (.int 0 :: st) h Q := xe_P_ar (ins := .iconst 0) (len := 1) (by decide +kernel) rfl
theorem xs_42_17 : xe_P d 42 17 ls [.int x] h Q = ((x = 0 ∨ x = 1) ∧ Q (some (.int x)) h) := xe_P_zreturn (by decide +kernel) rfl
theorem xs_42 : xe_C (d + 1) 42 [.ref a, .int x0] h Q = xe_P d 42 0 [.ref a, .int x0] [] h Q := xe_C_at (Nat.le_of_ble_eq_true rfl) rfl
theorem xs_43_0 : xe_P d 43 0 [.int x, l1] st h Q = xe_P d 43 1 [.int x, l1] (.int x :: st) h Q := xe_P_lo (ins := .iload_n 0) (len := 1) (by decide +kernel) rfl rfl
theorem xs_43_1 : xe_P d 43 1 ls st h Q = xe_P d 43 2 ls (.int 3 :: st) h Q := xe_P_ar (ins := .iconst 3) (len := 1) (by decide +kernel) rfl
theorem xs_43_2 : xe_P d 43 2 [l0, .int x] st h Q = xe_P d 43 3 [l0, .int x] (.int x :: st) h Q := xe_P_lo (ins := .iload_n 1) (len := 1) (by decide +kernel) rfl rfl
theorem xs_43_3 : xe_P d 43 3 ls (.int v :: .int x :: st) h Q = xe_P d 43 4 ls (.int (x * v) :: st) h Q := xe_P_ar (ins := .imul) (len := 1) (by decide +kernel) rfl
theorem xs_43_4 : xe_P d 43 4 ls (.int v :: .int x :: st) h Q = xe_P d 43 5 ls (.int (x >>> (v &&& 31)) :: st) h Q := xe_P_ar (ins := .ishr) (len := 1) (by decide +kernel) rfl
theorem xs_43_5 : xe_P d 43 5 ls st h Q = xe_P d 43 7 ls (.int 7 :: st) h Q := xe_P_ar (ins := .bipush 7) (len := 2) (by decide +kernel) rfl
theorem xs_43_7 : xe_P d 43 7 ls (.int v :: .int x :: st) h Q = xe_P d 43 8 ls (.int (x &&& v) :: st) h Q := xe_P_ar (ins := .iand) (len := 1) (by decide +kernel) rfl
theorem xs_43_8 : xe_P d 43 8 ls [.int x] h Q = Q (some (.int x)) h := xe_P_ireturn (by decide +kernel) rfl
theorem xs_43 : xe_C (d + 1) 43 [.int x0, .int x1] h Q = xe_P d 43 0 [.int x0, .int x1] [] h Q := xe_C_at (Nat.le_of_ble_eq_true rfl) rfl
theorem xs_44_0 : xe_P d 44 0 [.int x, l1, l2] st h Q = xe_P d 44 1 [.int x, l1, l2] (.int x :: st) h Q := xe_P_lo (ins := .iload_n 0) (len := 1) (by decide +kernel) rfl rfl
theorem xs_44_1 : xe_P d 44 1 ls st h Q = xe_P d 44 3 ls (.int 7 :: st) h Q := xe_P_ar (ins := .bipush 7) (len := 2) (by decide +kernel) rfl
theorem xs_44_3 : xe_P d 44 3 ls st h Q = xe_P d 44 4 ls (.int 3 :: st) h Q := xe_P_ar (ins := .iconst 3) (len := 1) (by decide +kernel) rfl
theorem xs_44_4 : xe_P d 44 4 [l0, .int x, l2] st h Q = xe_P d 44 5 [l0, .int x, l2] (.int x :: st) h Q := xe_P_lo (ins := .iload_n 1) (len := 1) (by decide +kernel) rfl rfl
theorem xs_44_5 : xe_P d 44 5 ls (.int v :: .int x :: st) h Q = xe_P d 44 6 ls (.int (x * v) :: st) h Q := xe_P_ar (ins := .imul) (len := 1) (by decide +kernel) rfl
theorem xs_44_6 : xe_P d 44 6 ls (.int v :: .int x :: st) h Q = xe_P d 44 7 ls (.int (x <<< (v &&& 31)) :: st) h Q := xe_P_ar (ins := .ishl) (len := 1) (by decide +kernel) rfl
theorem xs_44_7 : xe_P d 44 7 ls st h Q = xe_P d 44 8 ls (.int (-1) :: st) h Q := xe_P_ar (ins := .iconst (-1)) (len := 1) (by decide +kernel) rfl
theorem xs_44_8 : xe_P d 44 8 ls (.int v :: .int x :: st) h Q = xe_P d 44 9 ls (.int (x ^^^ v) :: st) h Q := xe_P_ar (ins := .ixor) (len := 1) (by decide +kernel) rfl
theorem xs_44_9 : xe_P d 44 9 ls (.int v :: .int x :: st) h Q = xe_P d 44 10 ls (.int (x &&& v) :: st) h Q := xe_P_ar (ins := .iand) (len := 1) (by decide +kernel) rfl
theorem xs_44_10 : xe_P d 44 10 [l0, l1, .int x] st h Q = xe_P d 44 11 [l0, l1, .int x] (.int x :: st) h Q := xe_P_lo (ins := .iload_n 2) (len := 1) (by decide +kernel) rfl rfl
theorem xs_44_11 : xe_P d 44 11 ls st h Q = xe_P d 44 12 ls (.int 3 :: st) h Q := xe_P_ar (ins := .iconst 3) (len := 1) (by decide +kernel) rfl
theorem xs_44_12 : xe_P d 44 12 [l0, .int x, l2] st h Q = xe_P d 44 13 [l0, .int x, l2] (.int x :: st) h Q := xe_P_lo (ins := .iload_n 1) (len := 1) (by decide +kernel) rfl rfl
theorem xs_44_13 : xe_P d 44 13 ls (.int v :: .int x :: st) h Q = xe_P d 44 14 ls (.int (x * v) :: st) h Q := xe_P_ar (ins := .imul) (len := 1) (by decide +kernel) rfl
theorem xs_44_14 : xe_P d 44 14 ls (.int v :: .int x :: st) h Q = xe_P d 44 15 ls (.int (x <<< (v &&& 31)) :: st) h Q := xe_P_ar (ins := .ishl) (len := 1) (by decide +kernel) rfl
theorem xs_44_15 : xe_P d 44 15 ls (.int v :: .int x :: st) h Q = xe_P d 44 16 ls (.int (x ||| v) :: st) h Q := xe_P_ar (ins := .ior) (len := 1) (by decide +kernel) rfl
theorem xs_44_16 : xe_P d 44 16 ls [.int x] h Q = Q (some (.int x)) h := xe_P_ireturn (by decide +kernel) rfl
theorem xs_44 : xe_C (d + 1) 44 [.int x0, .int x1, .int x2] h Q = xe_P d 44 0 [.int x0, .int x1, .int x2] [] h Q := xe_C_at (Nat.le_of_ble_eq_true rfl) rfl
theorem xs_45_0 : xe_P d 45 0 [.int x, l1] st h Q = xe_P d 45 1 [.int x, l1] (.int x :: st) h Q := xe_P_lo (ins := .iload_n 0) (len := 1) (by decide +kernel) rfl rfl
theorem xs_45_1 : xe_P d 45 1 ls st h Q = xe_P d 45 3 ls (.int 7 :: st) h Q := xe_P_ar (ins := .bipush 7) (len := 2) (by decide +kernel) rfl
theorem xs_45_3 : xe_P d 45 3 ls st h Q = xe_P d 45 4 ls (.int 3 :: st) h Q := xe_P_ar (ins := .iconst 3) (len := 1) (by decide +kernel) rfl
theorem xs_45_4 : xe_P d 45 4 [l0, .int x] st h Q = xe_P d 45 5 [l0, .int x] (.int x :: st) h Q := xe_P_lo (ins := .iload_n 1) (len := 1) (by decide +kernel) rfl rfl
theorem xs_45_5 : xe_P d 45 5 ls (.int v :: .int x :: st) h Q = xe_P d 45 6 ls (.int (x * v) :: st) h Q := xe_P_ar (ins := .imul) (len := 1) (by decide +kernel) rfl
theorem xs_45_6 : xe_P d 45 6 ls (.int v :: .int x :: st) h Q = xe_P d 45 7 ls (.int (x <<< (v &&& 31)) :: st) h Q := xe_P_ar (ins := .ishl) (len := 1) (by decide +kernel) rfl
theorem xs_45_7 : xe_P d 45 7 ls (.int v :: .int x :: st) h Q = xe_P d 45 8 ls (.int (x &&& v) :: st) h Q := xe_P_ar (ins := .iand) (len := 1) (by decide +kernel) rfl
theorem xs_45_8 : xe_P d 45 8 ls (.int x :: st) h Q = (if x = 0 then xe_P d 45 11 ls st h Q else xe_P d 45 15 ls st h Q) := xe_P_ifn (ins := .ifCond .ne 7) (len := 3) (off := 7) (by decide +kernel) (by decide) rfl rfl rfl
theorem xs_45_11 : xe_P d 45 11 ls st h Q = xe_P d 45 12 ls (.int 1 :: st) h Q := xe_P_ar (ins := .iconst 1) (len := 1) (by decide +kernel) rfl
theorem xs_45_12 : xe_P d 45 12 ls st h Q = xe_P d 45 16 ls st h Q := xe_P_go (len := 3) (off := 4) (by decide +kernel) (by decide)
theorem xs_45_15 : xe_P d 45 15 ls st h Q = xe_P d 45 16 ls (.int 0 :: st) h Q := xe_P_ar (ins := .iconst 0) (len := 1) (by decide +kernel) rfl
theorem xs_45_16 : xe_P d 45 16 ls [.int x] h Q = ((x = 0 ∨ x = 1) ∧ Q (some (.int x)) h) := xe_P_zreturn (by decide +kernel) rfl
theorem xs_45 : xe_C (d + 1) 45 [.int x0, .int x1] h Q = xe_P d 45 0 [.int x0, .int x1] [] h Q := xe_C_at (Nat.le_of_ble_eq_true rfl) rfl
theorem xs_46_0 : xe_P d 46 0 [.int x] st h Q = xe_P d 46 1 [.int x] (.int x :: st) h Q := xe_P_lo (ins := .iload_n 0) (len := 1) (by decide +kernel) rfl rfl
theorem xs_46_1 : xe_P d 46 1 [.int x] st h Q = xe_P d 46 2 [.int x] (.int x :: st) h Q := xe_P_lo (ins := .iload_n 0) (len := 1) (by decide +kernel) rfl rfl
theorem xs_46_2 : xe_P d 46 2 [.int x] st h Q = xe_P d 46 3 [.int x] (.int x :: st) h Q := xe_P_lo (ins := .iload_n 0) (len := 1) (by decide +kernel) rfl rfl
theorem xs_46_3 : xe_P d 46 3 ls st h Q = xe_P d 46 4 ls (.int 1 :: st) h Q := xe_P_ar (ins := .iconst 1) (len := 1) (by decide +kernel) rfl
theorem xs_46_4 : xe_P d 46 4 ls (.int v :: .int x :: st) h Q = xe_P d 46 5 ls (.int (x >>> (v &&& 31)) :: st) h Q := xe_P_ar (ins := .ishr) (len := 1) (by decide +kernel) rfl
theorem xs_46_5 : xe_P d 46 5 ls (.int v :: .int x :: st) h Q = xe_P d 46 6 ls (.int (x ||| v) :: st) h Q := xe_P_ar (ins := .ior) (len := 1) (by decide +kernel) rfl
theorem xs_46_6 : xe_P d 46 6 [.int x] st h Q = xe_P d 46 7 [.int x] (.int x :: st) h Q := xe_P_lo (ins := .iload_n 0) (len := 1) (by decide +kernel) rfl rfl
theorem xs_46_7 : xe_P d 46 7 ls st h Q = xe_P d 46 8 ls (.int 2 :: st) h Q := xe_P_ar (ins := .iconst 2) (len := 1) (by decide +kernel) rfl
theorem xs_46_8 : xe_P d 46 8 ls (.int v :: .int x :: st) h Q = xe_P d 46 9 ls (.int (x >>> (v &&& 31)) :: st) h Q := xe_P_ar (ins := .ishr) (len := 1) (by decide +kernel) rfl
theorem xs_46_9 : xe_P d 46 9 ls (.int v :: .int x :: st) h Q = xe_P d 46 10 ls (.int (x ||| v) :: st) h Q := xe_P_ar (ins := .ior) (len := 1) (by decide +kernel) rfl
theorem xs_46_10 : xe_P d 46 10 ls st h Q = xe_P d 46 12 ls (.int 37449 :: st) h Q := xe_P_ldc (j := 64) (by decide +kernel) (by decide +kernel)
theorem xs_46_12 : xe_P d 46 12 ls (.int v :: .int x :: st) h Q = xe_P d 46 13 ls (.int (x &&& v) :: st) h Q := xe_P_ar (ins := .iand) (len := 1) (by decide +kernel) rfl
theorem xs_46_13 : xe_P d 46 13 ls (.int v :: .int x :: st) h Q = xe_P d 46 14 ls (.int (x - v) :: st) h Q := xe_P_ar (ins := .isub) (len := 1) (by decide +kernel) rfl
theorem xs_46_14 : xe_P d 46 14 ls [.int x] h Q = Q (some (.int x)) h := xe_P_ireturn (by decide +kernel) rfl
theorem xs_46 : xe_C (d + 1) 46 [.int x0] h Q = xe_P d 46 0 [.int x0] [] h Q := xe_C_at (Nat.le_of_ble_eq_true rfl) rfl
theorem xs_47_0 : xe_P d 47 0 [l0, .int x, l2] st h Q = xe_P d 47 1 [l0, .int x, l2] (.int x :: st) h Q := xe_P_lo (ins := .iload_n 1) (len := 1) (by decide +kernel) rfl rfl
theorem xs_47_1 : xe_P d 47 1 ls st h Q = xe_P d 47 3 ls (.int 6 :: st) h Q := xe_P_ar (ins := .bipush 6) (len := 2) (by decide +kernel) rfl
theorem xs_47_3 : xe_P d 47 3 ls (.int v :: .int x :: st) h Q = (if x = v then xe_P d 47 6 ls st h Q else xe_P d 47 8 ls st h Q) := xe_P_ifn (ins := .if_icmp .ne 5) (len := 3) (off := 5) (by decide +kernel) (by decide) rfl rfl rfl
theorem xs_47_6 : xe_P d 47 6 [.int x, l1, l2] st h Q = xe_P d 47 7 [.int x, l1, l2] (.int x :: st) h Q := xe_P_lo (ins := .iload_n 0) (len := 1) (by decide +kernel) rfl rfl
theorem xs_47_7 : xe_P d 47 7 ls [.int x] h Q = Q (some (.int x)) h := xe_P_ireturn (by decide +kernel) rfl
theorem xs_47_8 : xe_P d 47 8 [.int x, l1, l2] st h Q = xe_P d 47 9 [.int x, l1, l2] (.int x :: st) h Q := xe_P_lo (ins := .iload_n 0) (len := 1) (by decide +kernel) rfl rfl
theorem xs_47_9 : xe_P d 47 9 ls st h Q = xe_P d 47 11 ls (.int 7 :: st) h Q := xe_P_ar (ins := .bipush 7) (len := 2) (by decide +kernel) rfl
theorem xs_47_11 : xe_P d 47 11 ls st h Q = xe_P d 47 12 ls (.int 3 :: st) h Q := xe_P_ar (ins := .iconst 3) (len := 1) (by decide +kernel) rfl
theorem xs_47_12 : xe_P d 47 12 [l0, .int x, l2] st h Q = xe_P d 47 13 [l0, .int x, l2] (.int x :: st) h Q := xe_P_lo (ins := .iload_n 1) (len := 1) (by decide +kernel) rfl rfl
theorem xs_47_13 : xe_P d 47 13 ls (.int v :: .int x :: st) h Q = xe_P d 47 14 ls (.int (x * v) :: st) h Q := xe_P_ar (ins := .imul) (len := 1) (by decide +kernel) rfl
theorem xs_47_14 : xe_P d 47 14 ls (.int v :: .int x :: st) h Q = xe_P d 47 15 ls (.int (x <<< (v &&& 31)) :: st) h Q := xe_P_ar (ins := .ishl) (len := 1) (by decide +kernel) rfl
theorem xs_47_15 : xe_P d 47 15 ls st h Q = xe_P d 47 16 ls (.int (-1) :: st) h Q := xe_P_ar (ins := .iconst (-1)) (len := 1) (by decide +kernel) rfl
theorem xs_47_16 : xe_P d 47 16 ls (.int v :: .int x :: st) h Q = xe_P d 47 17 ls (.int (x ^^^ v) :: st) h Q := xe_P_ar (ins := .ixor) (len := 1) (by decide +kernel) rfl
theorem xs_47_17 : xe_P d 47 17 ls (.int v :: .int x :: st) h Q = xe_P d 47 18 ls (.int (x &&& v) :: st) h Q := xe_P_ar (ins := .iand) (len := 1) (by decide +kernel) rfl
theorem xs_47_18 : xe_P d 47 18 [l0, l1, .int x] st h Q = xe_P d 47 19 [l0, l1, .int x] (.int x :: st) h Q := xe_P_lo (ins := .iload_n 2) (len := 1) (by decide +kernel) rfl rfl
theorem xs_47_19 : xe_P d 47 19 ls st h Q = xe_P d 47 20 ls (.int 1 :: st) h Q := xe_P_ar (ins := .iconst 1) (len := 1) (by decide +kernel) rfl
theorem xs_47_20 : xe_P d 47 20 ls (.int v :: .int x :: st) h Q = xe_P d 47 21 ls (.int (x + v) :: st) h Q := xe_P_ar (ins := .iadd) (len := 1) (by decide +kernel) rfl
theorem xs_47_21 : xe_P d 47 21 ls st h Q = xe_P d 47 22 ls (.int 3 :: st) h Q := xe_P_ar (ins := .iconst 3) (len := 1) (by decide +kernel) rfl
theorem xs_47_22 : xe_P d 47 22 [l0, .int x, l2] st h Q = xe_P d 47 23 [l0, .int x, l2] (.int x :: st) h Q := xe_P_lo (ins := .iload_n 1) (len := 1) (by decide +kernel) rfl rfl
theorem xs_47_23 : xe_P d 47 23 ls (.int v :: .int x :: st) h Q = xe_P d 47 24 ls (.int (x * v) :: st) h Q := xe_P_ar (ins := .imul) (len := 1) (by decide +kernel) rfl
theorem xs_47_24 : xe_P d 47 24 ls (.int v :: .int x :: st) h Q = xe_P d 47 25 ls (.int (x <<< (v &&& 31)) :: st) h Q := xe_P_ar (ins := .ishl) (len := 1) (by decide +kernel) rfl
theorem xs_47_25 : xe_P d 47 25 ls (.int v :: .int x :: st) h Q = xe_P d 47 26 ls (.int (x ||| v) :: st) h Q := xe_P_ar (ins := .ior) (len := 1) (by decide +kernel) rfl
theorem xs_47_26 : xe_P d 47 26 ls [.int x] h Q = Q (some (.int x)) h := xe_P_ireturn (by decide +kernel) rfl
theorem xs_47 : xe_C (d + 1) 47 [.int x0, .int x1, .int x2] h Q = xe_P d 47 0 [.int x0, .int x1, .int x2] [] h Q := xe_C_at (Nat.le_of_ble_eq_true rfl) rfl
theorem xs_48_0 : xe_P d 48 0 [.ref a, l1, l2] st h Q = xe_P d 48 1 [.ref a, l1, l2] (.ref a :: st) h Q := xe_P_lo (ins := .aload_n 0) (len := 1) (by decide +kernel) rfl rfl
theorem xs_48_1 : xe_P d 48 1 ls (.ref a :: st) h Q = (xe_ob h a 3 ∧ xe_P d 48 4 ls (va_rf (xe_R h a 7) :: st) h Q) := xe_P_getR (i := 9) (by decide +kernel) (by decide +kernel) (by decide) rfl
theorem xs_48_4 : xe_P d 48 4 [l0, .int x, l2] st h Q = xe_P d 48 5 [l0, .int x, l2] (.int x :: st) h Q := xe_P_lo (ins := .iload_n 1) (len := 1) (by decide +kernel) rfl rfl
theorem xs_48_5 : xe_P d 48 5 ls (.int v :: .ref a :: st) h Q = ((xe_ia h a ∧ xe_ix h a v) ∧ xe_P d 48 6 ls (.int (xe_I h a v.toNatClampNeg) :: st) h Q) := xe_P_iald (by decide +kernel)
theorem xs_48_6 : xe_P d 48 6 [l0, l1, .int x] st h Q = xe_P d 48 7 [l0, l1, .int x] (.int x :: st) h Q := xe_P_lo (ins := .iload_n 2) (len := 1) (by decide +kernel) rfl rfl
theorem xs_48_7 : xe_P d 48 7 ls (.int v :: .int x :: st) h Q = (if x = v then xe_P d 48 20 ls st h Q else xe_P d 48 10 ls st h Q) := xe_P_if (ins := .if_icmp .eq 13) (len := 3) (off := 13) (by decide +kernel) (by decide) rfl rfl rfl
theorem xs_48_10 : xe_P d 48 10 [.ref a, l1, l2] st h Q = xe_P d 48 11 [.ref a, l1, l2] (.ref a :: st) h Q := xe_P_lo (ins := .aload_n 0) (len := 1) (by decide +kernel) rfl rfl
theorem xs_48_11 : xe_P d 48 11 ls (.ref a :: st) h Q = (xe_ob h a 3 ∧ xe_P d 48 14 ls (va_rf (xe_R h a 8) :: st) h Q) := xe_P_getR (i := 15) (by decide +kernel) (by decide +kernel) (by decide) rfl
theorem xs_48_14 : xe_P d 48 14 [l0, .int x, l2] st h Q = xe_P d 48 15 [l0, .int x, l2] (.int x :: st) h Q := xe_P_lo (ins := .iload_n 1) (len := 1) (by decide +kernel) rfl rfl
theorem xs_48_15 : xe_P d 48 15 ls (.int v :: .ref a :: st) h Q = ((xe_ia h a ∧ xe_ix h a v) ∧ xe_P d 48 16 ls (.int (xe_I h a v.toNatClampNeg) :: st) h Q) := xe_P_iald (by decide +kernel)
theorem xs_48_16 : xe_P d 48 16 [l0, l1, .int x] st h Q = xe_P d 48 17 [l0, l1, .int x] (.int x :: st) h Q := xe_P_lo (ins := .iload_n 2) (len := 1) (by decide +kernel) rfl rfl
theorem xs_48_17 : xe_P d 48 17 ls (.int v :: .int x :: st) h Q = (if x = v then xe_P d 48 20 ls st h Q else xe_P d 48 24 ls st h Q) := xe_P_ifn (ins := .if_icmp .ne 7) (len := 3) (off := 7) (by decide +kernel) (by decide) rfl rfl rfl
theorem xs_48_20 : xe_P d 48 20 ls st h Q = xe_P d 48 21 ls (.int 1 :: st) h Q := xe_P_ar (ins := .iconst 1) (len := 1) (by decide +kernel) rfl
theorem xs_48_21 : xe_P d 48 21 ls st h Q = xe_P d 48 25 ls st h Q := xe_P_go (len := 3) (off := 4) (by decide +kernel) (by decide)
theorem xs_48_24 : xe_P d 48 24 ls st h Q = xe_P d 48 25 ls (.int 0 :: st) h Q := xe_P_ar (ins := .iconst 0) (len := 1) (by decide +kernel) rfl
theorem xs_48_25 : xe_P d 48 25 ls [.int x] h Q = ((x = 0 ∨ x = 1) ∧ Q (some (.int x)) h) := xe_P_zreturn (by decide +kernel) rfl
theorem xs_48 : xe_C (d + 1) 48 [.ref a, .int x0, .int x1] h Q = xe_P d 48 0 [.ref a, .int x0, .int x1] [] h Q := xe_C_at (Nat.le_of_ble_eq_true rfl) rfl
theorem xs_49_0 : xe_P d 49 0 [l0, l1, l2, .int x] st h Q = xe_P d 49 1 [l0, l1, l2, .int x] (.int x :: st) h Q := xe_P_lo (ins := .iload_n 3) (len := 1) (by decide +kernel) rfl rfl
theorem xs_49_1 : xe_P d 49 1 ls (.int x :: st) h Q = (if x = 0 then xe_P d 49 37 ls st h Q else xe_P d 49 4 ls st h Q) := xe_P_if (ins := .ifCond .eq 36) (len := 3) (off := 36) (by decide +kernel) (by decide) rfl rfl rfl
theorem xs_49_4 : xe_P d 49 4 [l0, l1, l2, .int x] st h Q = xe_P d 49 5 [l0, l1, l2, .int x] (.int x :: st) h Q := xe_P_lo (ins := .iload_n 3) (len := 1) (by decide +kernel) rfl rfl
theorem xs_49_5 : xe_P d 49 5 ls (.int x :: st) h Q = (if x ≤ 0 then xe_P d 49 41 ls st h Q else xe_P d 49 8 ls st h Q) := xe_P_if (ins := .ifCond .le 36) (len := 3) (off := 36) (by decide +kernel) (by decide) rfl rfl rfl
theorem xs_49_8 : xe_P d 49 8 [l0, l1, l2, .int x] st h Q = xe_P d 49 9 [l0, l1, l2, .int x] (.int x :: st) h Q := xe_P_lo (ins := .iload_n 3) (len := 1) (by decide +kernel) rfl rfl
theorem xs_49_9 : xe_P d 49 9 [.ref a, l1, l2, l3] st h Q = xe_P d 49 10 [.ref a, l1, l2, l3] (.ref a :: st) h Q := xe_P_lo (ins := .aload_n 0) (len := 1) (by decide +kernel) rfl rfl
theorem xs_49_10 : xe_P d 49 10 ls (.ref a :: st) h Q = (xe_ob h a 3 ∧ xe_P d 49 13 ls (.int (xe_I h a 1) :: st) h Q) := xe_P_getI (i := 34) (by decide +kernel) (by decide +kernel) (by decide) rfl
theorem xs_49_13 : xe_P d 49 13 ls (.int v :: .int x :: st) h Q = (if v < x then xe_P d 49 41 ls st h Q else xe_P d 49 16 ls st h Q) := xe_P_if (ins := .if_icmp .gt 28) (len := 3) (off := 28) (by decide +kernel) (by decide) rfl rfl rfl
theorem xs_49_16 : xe_P d 49 16 [.ref a, l1, l2, l3] st h Q = xe_P d 49 17 [.ref a, l1, l2, l3] (.ref a :: st) h Q := xe_P_lo (ins := .aload_n 0) (len := 1) (by decide +kernel) rfl rfl
theorem xs_49_17 : xe_P d 49 17 [l0, l1, l2, .int x] st h Q = xe_P d 49 18 [l0, l1, l2, .int x] (.int x :: st) h Q := xe_P_lo (ins := .iload_n 3) (len := 1) (by decide +kernel) rfl rfl
theorem xs_49_18 : xe_P d 49 18 ls st h Q = xe_P d 49 19 ls (.int 1 :: st) h Q := xe_P_ar (ins := .iconst 1) (len := 1) (by decide +kernel) rfl
theorem xs_49_19 : xe_P d 49 19 ls (.int v :: .int x :: st) h Q = xe_P d 49 20 ls (.int (x - v) :: st) h Q := xe_P_ar (ins := .isub) (len := 1) (by decide +kernel) rfl
theorem xs_49_20 : xe_P d 49 20 [l0, l1, .int x, l3] st h Q = xe_P d 49 21 [l0, l1, .int x, l3] (.int x :: st) h Q := xe_P_lo (ins := .iload_n 2) (len := 1) (by decide +kernel) rfl rfl
theorem xs_49_21 : xe_P d 49 21 ls (v1 :: v0 :: .ref a :: st) h Q = ((xe_w st ≤ 8 ∧ xe_ob h a 3) ∧ xe_C d 48 [.ref a, v0, v1] h (fun r h' => xe_P d 49 24 ls (r.toList ++ st) h' Q)) := xe_P_ivv (y := 49) (pc := 21) (z := 48) (i := 65) (vs := [v1, v0]) (by decide +kernel) (by decide +kernel) rfl (by decide +kernel)
theorem xs_49_24 : xe_P d 49 24 ls (.int x :: st) h Q = (if x = 0 then xe_P d 49 41 ls st h Q else xe_P d 49 27 ls st h Q) := xe_P_if (ins := .ifCond .eq 17) (len := 3) (off := 17) (by decide +kernel) (by decide) rfl rfl rfl
theorem xs_49_27 : xe_P d 49 27 [l0, .int x, l2, l3] st h Q = xe_P d 49 28 [l0, .int x, l2, l3] (.int x :: st) h Q := xe_P_lo (ins := .iload_n 1) (len := 1) (by decide +kernel) rfl rfl
theorem xs_49_28 : xe_P d 49 28 [l0, l1, l2, .int x] st h Q = xe_P d 49 29 [l0, l1, l2, .int x] (.int x :: st) h Q := xe_P_lo (ins := .iload_n 3) (len := 1) (by decide +kernel) rfl rfl
theorem xs_49_29 : xe_P d 49 29 ls st h Q = xe_P d 49 30 ls (.int 1 :: st) h Q := xe_P_ar (ins := .iconst 1) (len := 1) (by decide +kernel) rfl
theorem xs_49_30 : xe_P d 49 30 ls (.int v :: .int x :: st) h Q = xe_P d 49 31 ls (.int (x - v) :: st) h Q := xe_P_ar (ins := .isub) (len := 1) (by decide +kernel) rfl
theorem xs_49_31 : xe_P d 49 31 ls (v1 :: v0 :: st) h Q = (xe_w st ≤ 8 ∧ xe_C d 45 [v0, v1] h (fun r h' => xe_P d 49 34 ls (r.toList ++ st) h' Q)) := xe_P_ivs (y := 49) (pc := 31) (z := 45) (i := 69) (vs := [v1, v0]) (by decide +kernel) (by decide +kernel) rfl
theorem xs_49_34 : xe_P d 49 34 ls (.int x :: st) h Q = (if x = 0 then xe_P d 49 41 ls st h Q else xe_P d 49 37 ls st h Q) := xe_P_if (ins := .ifCond .eq 7) (len := 3) (off := 7) (by decide +kernel) (by decide) rfl rfl rfl
theorem xs_49_37 : xe_P d 49 37 ls st h Q = xe_P d 49 38 ls (.int 1 :: st) h Q := xe_P_ar (ins := .iconst 1) (len := 1) (by decide +kernel) rfl
theorem xs_49_38 : xe_P d 49 38 ls st h Q = xe_P d 49 42 ls st h Q := xe_P_go (len := 3) (off := 4) (by decide +kernel) (by decide)
theorem xs_49_41 : xe_P d 49 41 ls st h Q = xe_P d 49 42 ls (.int 0 :: st) h Q := xe_P_ar (ins := .iconst 0) (len := 1) (by decide +kernel) rfl
theorem xs_49_42 : xe_P d 49 42 ls [.int x] h Q = ((x = 0 ∨ x = 1) ∧ Q (some (.int x)) h) := xe_P_zreturn (by decide +kernel) rfl
theorem xs_49 : xe_C (d + 1) 49 [.ref a, .int x0, .int x1, .int x2] h Q = xe_P d 49 0 [.ref a, .int x0, .int x1, .int x2] [] h Q := xe_C_at (Nat.le_of_ble_eq_true rfl) rfl
theorem xs_50_0 : xe_P d 50 0 [l0, l1, .int x] st h Q = xe_P d 50 1 [l0, l1, .int x] (.int x :: st) h Q := xe_P_lo (ins := .iload_n 2) (len := 1) (by decide +kernel) rfl rfl
theorem xs_50_1 : xe_P d 50 1 ls (.int x :: st) h Q = (if x = 0 then xe_P d 50 4 ls st h Q else xe_P d 50 6 ls st h Q) := xe_P_ifn (ins := .ifCond .ne 5) (len := 3) (off := 5) (by decide +kernel) (by decide) rfl rfl rfl
theorem xs_50_4 : xe_P d 50 4 [l0, .int x, l2] st h Q = xe_P d 50 5 [l0, .int x, l2] (.int x :: st) h Q := xe_P_lo (ins := .iload_n 1) (len := 1) (by decide +kernel) rfl rfl
theorem xs_50_5 : xe_P d 50 5 ls [.int x] h Q = Q (some (.int x)) h := xe_P_ireturn (by decide +kernel) rfl
theorem xs_50_6 : xe_P d 50 6 [.ref a, l1, l2] st h Q = xe_P d 50 7 [.ref a, l1, l2] (.ref a :: st) h Q := xe_P_lo (ins := .aload_n 0) (len := 1) (by decide +kernel) rfl rfl
theorem xs_50_7 : xe_P d 50 7 ls (.ref a :: st) h Q = (xe_ob h a 3 ∧ xe_P d 50 10 ls (va_rf (xe_R h a 7) :: st) h Q) := xe_P_getR (i := 9) (by decide +kernel) (by decide +kernel) (by decide) rfl
theorem xs_50_10 : xe_P d 50 10 [l0, l1, .int x] st h Q = xe_P d 50 11 [l0, l1, .int x] (.int x :: st) h Q := xe_P_lo (ins := .iload_n 2) (len := 1) (by decide +kernel) rfl rfl
theorem xs_50_11 : xe_P d 50 11 ls st h Q = xe_P d 50 12 ls (.int 1 :: st) h Q := xe_P_ar (ins := .iconst 1) (len := 1) (by decide +kernel) rfl
theorem xs_50_12 : xe_P d 50 12 ls (.int v :: .int x :: st) h Q = xe_P d 50 13 ls (.int (x - v) :: st) h Q := xe_P_ar (ins := .isub) (len := 1) (by decide +kernel) rfl
theorem xs_50_13 : xe_P d 50 13 ls (.int v :: .ref a :: st) h Q = ((xe_ia h a ∧ xe_ix h a v) ∧ xe_P d 50 14 ls (.int (xe_I h a v.toNatClampNeg) :: st) h Q) := xe_P_iald (by decide +kernel)
theorem xs_50_14 : xe_P d 50 14 [l0, .int x, l2] st h Q = xe_P d 50 15 [l0, .int x, l2] (.int x :: st) h Q := xe_P_lo (ins := .iload_n 1) (len := 1) (by decide +kernel) rfl rfl
theorem xs_50_15 : xe_P d 50 15 ls (.int v :: .int x :: st) h Q = (if x = v then xe_P d 50 18 ls st h Q else xe_P d 50 29 ls st h Q) := xe_P_ifn (ins := .if_icmp .ne 14) (len := 3) (off := 14) (by decide +kernel) (by decide) rfl rfl rfl
theorem xs_50_18 : xe_P d 50 18 [.ref a, l1, l2] st h Q = xe_P d 50 19 [.ref a, l1, l2] (.ref a :: st) h Q := xe_P_lo (ins := .aload_n 0) (len := 1) (by decide +kernel) rfl rfl
theorem xs_50_19 : xe_P d 50 19 ls (.ref a :: st) h Q = (xe_ob h a 3 ∧ xe_P d 50 22 ls (va_rf (xe_R h a 8) :: st) h Q) := xe_P_getR (i := 15) (by decide +kernel) (by decide +kernel) (by decide) rfl
theorem xs_50_22 : xe_P d 50 22 [l0, l1, .int x] st h Q = xe_P d 50 23 [l0, l1, .int x] (.int x :: st) h Q := xe_P_lo (ins := .iload_n 2) (len := 1) (by decide +kernel) rfl rfl
theorem xs_50_23 : xe_P d 50 23 ls st h Q = xe_P d 50 24 ls (.int 1 :: st) h Q := xe_P_ar (ins := .iconst 1) (len := 1) (by decide +kernel) rfl
theorem xs_50_24 : xe_P d 50 24 ls (.int v :: .int x :: st) h Q = xe_P d 50 25 ls (.int (x - v) :: st) h Q := xe_P_ar (ins := .isub) (len := 1) (by decide +kernel) rfl
theorem xs_50_25 : xe_P d 50 25 ls (.int v :: .ref a :: st) h Q = ((xe_ia h a ∧ xe_ix h a v) ∧ xe_P d 50 26 ls (.int (xe_I h a v.toNatClampNeg) :: st) h Q) := xe_P_iald (by decide +kernel)
theorem xs_50_26 : xe_P d 50 26 ls st h Q = xe_P d 50 37 ls st h Q := xe_P_go (len := 3) (off := 11) (by decide +kernel) (by decide)
theorem xs_50_29 : xe_P d 50 29 [.ref a, l1, l2] st h Q = xe_P d 50 30 [.ref a, l1, l2] (.ref a :: st) h Q := xe_P_lo (ins := .aload_n 0) (len := 1) (by decide +kernel) rfl rfl
theorem xs_50_30 : xe_P d 50 30 ls (.ref a :: st) h Q = (xe_ob h a 3 ∧ xe_P d 50 33 ls (va_rf (xe_R h a 7) :: st) h Q) := xe_P_getR (i := 9) (by decide +kernel) (by decide +kernel) (by decide) rfl
theorem xs_50_33 : xe_P d 50 33 [l0, l1, .int x] st h Q = xe_P d 50 34 [l0, l1, .int x] (.int x :: st) h Q := xe_P_lo (ins := .iload_n 2) (len := 1) (by decide +kernel) rfl rfl
theorem xs_50_34 : xe_P d 50 34 ls st h Q = xe_P d 50 35 ls (.int 1 :: st) h Q := xe_P_ar (ins := .iconst 1) (len := 1) (by decide +kernel) rfl
theorem xs_50_35 : xe_P d 50 35 ls (.int v :: .int x :: st) h Q = xe_P d 50 36 ls (.int (x - v) :: st) h Q := xe_P_ar (ins := .isub) (len := 1) (by decide +kernel) rfl
theorem xs_50_36 : xe_P d 50 36 ls (.int v :: .ref a :: st) h Q = ((xe_ia h a ∧ xe_ix h a v) ∧ xe_P d 50 37 ls (.int (xe_I h a v.toNatClampNeg) :: st) h Q) := xe_P_iald (by decide +kernel)
theorem xs_50_37 : xe_P d 50 37 ls [.int x] h Q = Q (some (.int x)) h := xe_P_ireturn (by decide +kernel) rfl
theorem xs_50 : xe_C (d + 1) 50 [.ref a, .int x0, .int x1] h Q = xe_P d 50 0 [.ref a, .int x0, .int x1] [] h Q := xe_C_at (Nat.le_of_ble_eq_true rfl) rfl
theorem xs_51_0 : xe_P d 51 0 [l0, l1, .int x, l3, l4] st h Q = xe_P d 51 1 [l0, l1, .int x, l3, l4] (.int x :: st) h Q := xe_P_lo (ins := .iload_n 2) (len := 1) (by decide +kernel) rfl rfl
theorem xs_51_1 : xe_P d 51 1 ls (.int x :: st) h Q = (if x = 0 then xe_P d 51 4 ls st h Q else xe_P d 51 6 ls st h Q) := xe_P_ifn (ins := .ifCond .ne 5) (len := 3) (off := 5) (by decide +kernel) (by decide) rfl rfl rfl
theorem xs_51_4 : xe_P d 51 4 [l0, .int x, l2, l3, l4] st h Q = xe_P d 51 5 [l0, .int x, l2, l3, l4] (.int x :: st) h Q := xe_P_lo (ins := .iload_n 1) (len := 1) (by decide +kernel) rfl rfl
theorem xs_51_5 : xe_P d 51 5 ls [.int x] h Q = Q (some (.int x)) h := xe_P_ireturn (by decide +kernel) rfl
theorem xs_51_6 : xe_P d 51 6 [l0, l1, .int x, l3, l4] st h Q = xe_P d 51 7 [l0, l1, .int x, l3, l4] (.int x :: st) h Q := xe_P_lo (ins := .iload_n 2) (len := 1) (by decide +kernel) rfl rfl
theorem xs_51_7 : xe_P d 51 7 ls st h Q = xe_P d 51 8 ls (.int 1 :: st) h Q := xe_P_ar (ins := .iconst 1) (len := 1) (by decide +kernel) rfl
theorem xs_51_8 : xe_P d 51 8 ls (.int v :: .int x :: st) h Q = xe_P d 51 9 ls (.int (x - v) :: st) h Q := xe_P_ar (ins := .isub) (len := 1) (by decide +kernel) rfl
theorem xs_51_9 : xe_P d 51 9 [l0, l1, l2, l3, l4] (.int x :: st) h Q = xe_P d 51 10 [l0, l1, xe_cut l2, .int x, l4] st h Q := xe_P_lo (ins := .istore_n 3) (len := 1) (by decide +kernel) rfl rfl
theorem xs_51_10 : xe_P d 51 10 [.ref a, l1, l2, l3, l4] st h Q = xe_P d 51 11 [.ref a, l1, l2, l3, l4] (.ref a :: st) h Q := xe_P_lo (ins := .aload_n 0) (len := 1) (by decide +kernel) rfl rfl
theorem xs_51_11 : xe_P d 51 11 ls (.ref a :: st) h Q = (xe_ob h a 3 ∧ xe_P d 51 14 ls (.int (xe_I h a 3) :: st) h Q) := xe_P_getI (i := 40) (by decide +kernel) (by decide +kernel) (by decide) rfl
theorem xs_51_14 : xe_P d 51 14 ls st h Q = xe_P d 51 15 ls (.int 1 :: st) h Q := xe_P_ar (ins := .iconst 1) (len := 1) (by decide +kernel) rfl
theorem xs_51_15 : xe_P d 51 15 ls (.int v :: .int x :: st) h Q = (if x = v then xe_P d 51 18 ls st h Q else xe_P d 51 58 ls st h Q) := xe_P_ifn (ins := .if_icmp .ne 43) (len := 3) (off := 43) (by decide +kernel) (by decide) rfl rfl rfl
theorem xs_51_18 : xe_P d 51 18 [l0, .int x, l2, l3, l4] st h Q = xe_P d 51 19 [l0, .int x, l2, l3, l4] (.int x :: st) h Q := xe_P_lo (ins := .iload_n 1) (len := 1) (by decide +kernel) rfl rfl
theorem xs_51_19 : xe_P d 51 19 [l0, l1, l2, .int x, l4] st h Q = xe_P d 51 20 [l0, l1, l2, .int x, l4] (.int x :: st) h Q := xe_P_lo (ins := .iload_n 3) (len := 1) (by decide +kernel) rfl rfl
theorem xs_51_20 : xe_P d 51 20 [.ref a, l1, l2, l3, l4] st h Q = xe_P d 51 21 [.ref a, l1, l2, l3, l4] (.ref a :: st) h Q := xe_P_lo (ins := .aload_n 0) (len := 1) (by decide +kernel) rfl rfl
theorem xs_51_21 : xe_P d 51 21 ls (.ref a :: st) h Q = (xe_ob h a 3 ∧ xe_P d 51 24 ls (.int (xe_I h a 4) :: st) h Q) := xe_P_getI (i := 43) (by decide +kernel) (by decide +kernel) (by decide) rfl
theorem xs_51_24 : xe_P d 51 24 ls (v2 :: v1 :: v0 :: st) h Q = (xe_w st ≤ 8 ∧ xe_C d 47 [v0, v1, v2] h (fun r h' => xe_P d 51 27 ls (r.toList ++ st) h' Q)) := xe_P_ivs (y := 51) (pc := 24) (z := 47) (i := 72) (vs := [v2, v1, v0]) (by decide +kernel) (by decide +kernel) rfl
theorem xs_51_27 : xe_P d 51 27 [l0, l1, l2, l3, l4] (.int x :: st) h Q = xe_P d 51 29 [l0, l1, l2, xe_cut l3, .int x] st h Q := xe_P_lo (ins := .istore 4) (len := 2) (by decide +kernel) rfl rfl
theorem xs_51_29 : xe_P d 51 29 [.ref a, l1, l2, l3, l4] st h Q = xe_P d 51 30 [.ref a, l1, l2, l3, l4] (.ref a :: st) h Q := xe_P_lo (ins := .aload_n 0) (len := 1) (by decide +kernel) rfl rfl
theorem xs_51_30 : xe_P d 51 30 ls (.ref a :: st) h Q = (xe_ob h a 3 ∧ xe_P d 51 33 ls (va_rf (xe_R h a 9) :: st) h Q) := xe_P_getR (i := 18) (by decide +kernel) (by decide +kernel) (by decide) rfl
theorem xs_51_33 : xe_P d 51 33 [l0, l1, l2, .int x, l4] st h Q = xe_P d 51 34 [l0, l1, l2, .int x, l4] (.int x :: st) h Q := xe_P_lo (ins := .iload_n 3) (len := 1) (by decide +kernel) rfl rfl
theorem xs_51_34 : xe_P d 51 34 ls (.int v :: .ref a :: st) h Q = ((xe_ia h a ∧ xe_ix h a v) ∧ xe_P d 51 35 ls (.int (xe_I h a v.toNatClampNeg) :: st) h Q) := xe_P_iald (by decide +kernel)
theorem xs_51_35 : xe_P d 51 35 ls st h Q = xe_P d 51 37 ls (.int 6 :: st) h Q := xe_P_ar (ins := .bipush 6) (len := 2) (by decide +kernel) rfl
theorem xs_51_37 : xe_P d 51 37 ls (.int v :: .int x :: st) h Q = (if x = v then xe_P d 51 40 ls st h Q else xe_P d 51 45 ls st h Q) := xe_P_ifn (ins := .if_icmp .ne 8) (len := 3) (off := 8) (by decide +kernel) (by decide) rfl rfl rfl
theorem xs_51_40 : xe_P d 51 40 [l0, l1, l2, l3, .int x] st h Q = xe_P d 51 42 [l0, l1, l2, l3, .int x] (.int x :: st) h Q := xe_P_lo (ins := .iload 4) (len := 2) (by decide +kernel) rfl rfl
theorem xs_51_42 : xe_P d 51 42 ls st h Q = xe_P d 51 57 ls st h Q := xe_P_go (len := 3) (off := 15) (by decide +kernel) (by decide)
theorem xs_51_45 : xe_P d 51 45 [l0, l1, l2, l3, .int x] st h Q = xe_P d 51 47 [l0, l1, l2, l3, .int x] (.int x :: st) h Q := xe_P_lo (ins := .iload 4) (len := 2) (by decide +kernel) rfl rfl
theorem xs_51_47 : xe_P d 51 47 [.ref a, l1, l2, l3, l4] st h Q = xe_P d 51 48 [.ref a, l1, l2, l3, l4] (.ref a :: st) h Q := xe_P_lo (ins := .aload_n 0) (len := 1) (by decide +kernel) rfl rfl
theorem xs_51_48 : xe_P d 51 48 ls (.ref a :: st) h Q = (xe_ob h a 3 ∧ xe_P d 51 51 ls (va_rf (xe_R h a 9) :: st) h Q) := xe_P_getR (i := 18) (by decide +kernel) (by decide +kernel) (by decide) rfl
theorem xs_51_51 : xe_P d 51 51 [l0, l1, l2, .int x, l4] st h Q = xe_P d 51 52 [l0, l1, l2, .int x, l4] (.int x :: st) h Q := xe_P_lo (ins := .iload_n 3) (len := 1) (by decide +kernel) rfl rfl
theorem xs_51_52 : xe_P d 51 52 ls (.int v :: .ref a :: st) h Q = ((xe_ia h a ∧ xe_ix h a v) ∧ xe_P d 51 53 ls (.int (xe_I h a v.toNatClampNeg) :: st) h Q) := xe_P_iald (by decide +kernel)
theorem xs_51_53 : xe_P d 51 53 ls st h Q = xe_P d 51 54 ls (.int 0 :: st) h Q := xe_P_ar (ins := .iconst 0) (len := 1) (by decide +kernel) rfl
theorem xs_51_54 : xe_P d 51 54 ls (v2 :: v1 :: v0 :: st) h Q = (xe_w st ≤ 8 ∧ xe_C d 44 [v0, v1, v2] h (fun r h' => xe_P d 51 57 ls (r.toList ++ st) h' Q)) := xe_P_ivs (y := 51) (pc := 54) (z := 44) (i := 76) (vs := [v2, v1, v0]) (by decide +kernel) (by decide +kernel) rfl
theorem xs_51_57 : xe_P d 51 57 ls [.int x] h Q = Q (some (.int x)) h := xe_P_ireturn (by decide +kernel) rfl
theorem xs_51_58 : xe_P d 51 58 [.ref a, l1, l2, l3, l4] st h Q = xe_P d 51 59 [.ref a, l1, l2, l3, l4] (.ref a :: st) h Q := xe_P_lo (ins := .aload_n 0) (len := 1) (by decide +kernel) rfl rfl
theorem xs_51_59 : xe_P d 51 59 ls (.ref a :: st) h Q = (xe_ob h a 3 ∧ xe_P d 51 62 ls (.int (xe_I h a 3) :: st) h Q) := xe_P_getI (i := 40) (by decide +kernel) (by decide +kernel) (by decide) rfl
theorem xs_51_62 : xe_P d 51 62 ls st h Q = xe_P d 51 63 ls (.int 2 :: st) h Q := xe_P_ar (ins := .iconst 2) (len := 1) (by decide +kernel) rfl
theorem xs_51_63 : xe_P d 51 63 ls (.int v :: .int x :: st) h Q = (if x = v then xe_P d 51 66 ls st h Q else xe_P d 51 115 ls st h Q) := xe_P_ifn (ins := .if_icmp .ne 52) (len := 3) (off := 52) (by decide +kernel) (by decide) rfl rfl rfl
theorem xs_51_66 : xe_P d 51 66 [l0, l1, l2, .int x, l4] st h Q = xe_P d 51 67 [l0, l1, l2, .int x, l4] (.int x :: st) h Q := xe_P_lo (ins := .iload_n 3) (len := 1) (by decide +kernel) rfl rfl
theorem xs_51_67 : xe_P d 51 67 ls (.int x :: st) h Q = (if x = 0 then xe_P d 51 70 ls st h Q else xe_P d 51 74 ls st h Q) := xe_P_ifn (ins := .ifCond .ne 7) (len := 3) (off := 7) (by decide +kernel) (by decide) rfl rfl rfl
theorem xs_51_70 : xe_P d 51 70 [l0, .int x, l2, l3, l4] st h Q = xe_P d 51 71 [l0, .int x, l2, l3, l4] (.int x :: st) h Q := xe_P_lo (ins := .iload_n 1) (len := 1) (by decide +kernel) rfl rfl
theorem xs_51_71 : xe_P d 51 71 ls st h Q = xe_P d 51 85 ls st h Q := xe_P_go (len := 3) (off := 14) (by decide +kernel) (by decide)
theorem xs_51_74 : xe_P d 51 74 [l0, .int x, l2, l3, l4] st h Q = xe_P d 51 75 [l0, .int x, l2, l3, l4] (.int x :: st) h Q := xe_P_lo (ins := .iload_n 1) (len := 1) (by decide +kernel) rfl rfl
theorem xs_51_75 : xe_P d 51 75 [l0, l1, l2, .int x, l4] st h Q = xe_P d 51 76 [l0, l1, l2, .int x, l4] (.int x :: st) h Q := xe_P_lo (ins := .iload_n 3) (len := 1) (by decide +kernel) rfl rfl
theorem xs_51_76 : xe_P d 51 76 ls st h Q = xe_P d 51 77 ls (.int 1 :: st) h Q := xe_P_ar (ins := .iconst 1) (len := 1) (by decide +kernel) rfl
theorem xs_51_77 : xe_P d 51 77 ls (.int v :: .int x :: st) h Q = xe_P d 51 78 ls (.int (x - v) :: st) h Q := xe_P_ar (ins := .isub) (len := 1) (by decide +kernel) rfl
theorem xs_51_78 : xe_P d 51 78 [.ref a, l1, l2, l3, l4] st h Q = xe_P d 51 79 [.ref a, l1, l2, l3, l4] (.ref a :: st) h Q := xe_P_lo (ins := .aload_n 0) (len := 1) (by decide +kernel) rfl rfl
theorem xs_51_79 : xe_P d 51 79 ls (.ref a :: st) h Q = (xe_ob h a 3 ∧ xe_P d 51 82 ls (.int (xe_I h a 4) :: st) h Q) := xe_P_getI (i := 43) (by decide +kernel) (by decide +kernel) (by decide) rfl
theorem xs_51_82 : xe_P d 51 82 ls (v2 :: v1 :: v0 :: st) h Q = (xe_w st ≤ 8 ∧ xe_C d 47 [v0, v1, v2] h (fun r h' => xe_P d 51 85 ls (r.toList ++ st) h' Q)) := xe_P_ivs (y := 51) (pc := 82) (z := 47) (i := 72) (vs := [v2, v1, v0]) (by decide +kernel) (by decide +kernel) rfl
theorem xs_51_85 : xe_P d 51 85 [l0, l1, l2, l3, l4] (.int x :: st) h Q = xe_P d 51 87 [l0, l1, l2, xe_cut l3, .int x] st h Q := xe_P_lo (ins := .istore 4) (len := 2) (by decide +kernel) rfl rfl
theorem xs_51_87 : xe_P d 51 87 [l0, l1, l2, .int x, l4] st h Q = xe_P d 51 88 [l0, l1, l2, .int x, l4] (.int x :: st) h Q := xe_P_lo (ins := .iload_n 3) (len := 1) (by decide +kernel) rfl rfl
theorem xs_51_88 : xe_P d 51 88 [.ref a, l1, l2, l3, l4] st h Q = xe_P d 51 89 [.ref a, l1, l2, l3, l4] (.ref a :: st) h Q := xe_P_lo (ins := .aload_n 0) (len := 1) (by decide +kernel) rfl rfl
theorem xs_51_89 : xe_P d 51 89 ls (.ref a :: st) h Q = (xe_ob h a 3 ∧ xe_P d 51 92 ls (.int (xe_I h a 1) :: st) h Q) := xe_P_getI (i := 34) (by decide +kernel) (by decide +kernel) (by decide) rfl
theorem xs_51_92 : xe_P d 51 92 ls st h Q = xe_P d 51 93 ls (.int 1 :: st) h Q := xe_P_ar (ins := .iconst 1) (len := 1) (by decide +kernel) rfl
theorem xs_51_93 : xe_P d 51 93 ls (.int v :: .int x :: st) h Q = xe_P d 51 94 ls (.int (x - v) :: st) h Q := xe_P_ar (ins := .isub) (len := 1) (by decide +kernel) rfl
theorem xs_51_94 : xe_P d 51 94 ls (.int v :: .int x :: st) h Q = (if x = v then xe_P d 51 97 ls st h Q else xe_P d 51 102 ls st h Q) := xe_P_ifn (ins := .if_icmp .ne 8) (len := 3) (off := 8) (by decide +kernel) (by decide) rfl rfl rfl
theorem xs_51_97 : xe_P d 51 97 [l0, l1, l2, l3, .int x] st h Q = xe_P d 51 99 [l0, l1, l2, l3, .int x] (.int x :: st) h Q := xe_P_lo (ins := .iload 4) (len := 2) (by decide +kernel) rfl rfl
theorem xs_51_99 : xe_P d 51 99 ls st h Q = xe_P d 51 114 ls st h Q := xe_P_go (len := 3) (off := 15) (by decide +kernel) (by decide)
theorem xs_51_102 : xe_P d 51 102 [l0, l1, l2, l3, .int x] st h Q = xe_P d 51 104 [l0, l1, l2, l3, .int x] (.int x :: st) h Q := xe_P_lo (ins := .iload 4) (len := 2) (by decide +kernel) rfl rfl
theorem xs_51_104 : xe_P d 51 104 [l0, l1, l2, .int x, l4] st h Q = xe_P d 51 105 [l0, l1, l2, .int x, l4] (.int x :: st) h Q := xe_P_lo (ins := .iload_n 3) (len := 1) (by decide +kernel) rfl rfl
theorem xs_51_105 : xe_P d 51 105 ls st h Q = xe_P d 51 106 ls (.int 1 :: st) h Q := xe_P_ar (ins := .iconst 1) (len := 1) (by decide +kernel) rfl
theorem xs_51_106 : xe_P d 51 106 ls (.int v :: .int x :: st) h Q = xe_P d 51 107 ls (.int (x + v) :: st) h Q := xe_P_ar (ins := .iadd) (len := 1) (by decide +kernel) rfl
theorem xs_51_107 : xe_P d 51 107 [.ref a, l1, l2, l3, l4] st h Q = xe_P d 51 108 [.ref a, l1, l2, l3, l4] (.ref a :: st) h Q := xe_P_lo (ins := .aload_n 0) (len := 1) (by decide +kernel) rfl rfl
theorem xs_51_108 : xe_P d 51 108 ls (.ref a :: st) h Q = (xe_ob h a 3 ∧ xe_P d 51 111 ls (.int (xe_I h a 4) :: st) h Q) := xe_P_getI (i := 43) (by decide +kernel) (by decide +kernel) (by decide) rfl
theorem xs_51_111 : xe_P d 51 111 ls (v2 :: v1 :: v0 :: st) h Q = (xe_w st ≤ 8 ∧ xe_C d 47 [v0, v1, v2] h (fun r h' => xe_P d 51 114 ls (r.toList ++ st) h' Q)) := xe_P_ivs (y := 51) (pc := 111) (z := 47) (i := 72) (vs := [v2, v1, v0]) (by decide +kernel) (by decide +kernel) rfl
theorem xs_51_114 : xe_P d 51 114 ls [.int x] h Q = Q (some (.int x)) h := xe_P_ireturn (by decide +kernel) rfl
theorem xs_51_115 : xe_P d 51 115 [l0, .int x, l2, l3, l4] st h Q = xe_P d 51 116 [l0, .int x, l2, l3, l4] (.int x :: st) h Q := xe_P_lo (ins := .iload_n 1) (len := 1) (by decide +kernel) rfl rfl
theorem xs_51_116 : xe_P d 51 116 [.ref a, l1, l2, l3, l4] st h Q = xe_P d 51 117 [.ref a, l1, l2, l3, l4] (.ref a :: st) h Q := xe_P_lo (ins := .aload_n 0) (len := 1) (by decide +kernel) rfl rfl
theorem xs_51_117 : xe_P d 51 117 ls (.ref a :: st) h Q = (xe_ob h a 3 ∧ xe_P d 51 120 ls (va_rf (xe_R h a 9) :: st) h Q) := xe_P_getR (i := 18) (by decide +kernel) (by decide +kernel) (by decide) rfl
theorem xs_51_120 : xe_P d 51 120 [l0, l1, l2, .int x, l4] st h Q = xe_P d 51 121 [l0, l1, l2, .int x, l4] (.int x :: st) h Q := xe_P_lo (ins := .iload_n 3) (len := 1) (by decide +kernel) rfl rfl
theorem xs_51_121 : xe_P d 51 121 ls (.int v :: .ref a :: st) h Q = ((xe_ia h a ∧ xe_ix h a v) ∧ xe_P d 51 122 ls (.int (xe_I h a v.toNatClampNeg) :: st) h Q) := xe_P_iald (by decide +kernel)
theorem xs_51_122 : xe_P d 51 122 [.ref a, l1, l2, l3, l4] st h Q = xe_P d 51 123 [.ref a, l1, l2, l3, l4] (.ref a :: st) h Q := xe_P_lo (ins := .aload_n 0) (len := 1) (by decide +kernel) rfl rfl
theorem xs_51_123 : xe_P d 51 123 ls (.ref a :: st) h Q = (xe_ob h a 3 ∧ xe_P d 51 126 ls (.int (xe_I h a 4) :: st) h Q) := xe_P_getI (i := 43) (by decide +kernel) (by decide +kernel) (by decide) rfl
theorem xs_51_126 : xe_P d 51 126 ls (v2 :: v1 :: v0 :: st) h Q = (xe_w st ≤ 8 ∧ xe_C d 47 [v0, v1, v2] h (fun r h' => xe_P d 51 129 ls (r.toList ++ st) h' Q)) := xe_P_ivs (y := 51) (pc := 126) (z := 47) (i := 72) (vs := [v2, v1, v0]) (by decide +kernel) (by decide +kernel) rfl
theorem xs_51_129 : xe_P d 51 129 ls [.int x] h Q = Q (some (.int x)) h := xe_P_ireturn (by decide +kernel) rfl
theorem xs_51 : xe_C (d + 1) 51 [.ref a, .int x0, .int x1] h Q = xe_P d 51 0 [.ref a, .int x0, .int x1, .retAddr 0, .retAddr 0] [] h Q := xe_C_at (Nat.le_of_ble_eq_true rfl) rfl
theorem xs_52_0 : xe_P d 52 0 ls st h Q = xe_P d 52 1 ls (.int 0 :: st) h Q := xe_P_ar (ins := .iconst 0) (len := 1) (by decide +kernel) rfl
theorem xs_52_1 : xe_P d 52 1 [l0, l1, l2, l3] (.int x :: st) h Q = xe_P d 52 2 [l0, xe_cut l1, .int x, l3] st h Q := xe_P_lo (ins := .istore_n 2) (len := 1) (by decide +kernel) rfl rfl
theorem xs_52_2 : xe_P d 52 2 ls st h Q = xe_P d 52 3 ls (.int 0 :: st) h Q := xe_P_ar (ins := .iconst 0) (len := 1) (by decide +kernel) rfl
theorem xs_52_3 : xe_P d 52 3 [l0, l1, l2, l3] (.int x :: st) h Q = xe_P d 52 4 [l0, l1, xe_cut l2, .int x] st h Q := xe_P_lo (ins := .istore_n 3) (len := 1) (by decide +kernel) rfl rfl
theorem xs_52_4 : xe_P d 52 4 [l0, l1, l2, .int x] st h Q = xe_P d 52 5 [l0, l1, l2, .int x] (.int x :: st) h Q := xe_P_lo (ins := .iload_n 3) (len := 1) (by decide +kernel) rfl rfl
theorem xs_52_5 : xe_P d 52 5 [.ref a, l1, l2, l3] st h Q = xe_P d 52 6 [.ref a, l1, l2, l3] (.ref a :: st) h Q := xe_P_lo (ins := .aload_n 0) (len := 1) (by decide +kernel) rfl rfl
theorem xs_52_6 : xe_P d 52 6 ls (.ref a :: st) h Q = (xe_ob h a 3 ∧ xe_P d 52 9 ls (.int (xe_I h a 1) :: st) h Q) := xe_P_getI (i := 34) (by decide +kernel) (by decide +kernel) (by decide) rfl
theorem xs_52_9 : xe_P d 52 9 ls (.int v :: .int x :: st) h Q = (if v ≤ x then xe_P d 52 44 ls st h Q else xe_P d 52 12 ls st h Q) := xe_P_if (ins := .if_icmp .ge 35) (len := 3) (off := 35) (by decide +kernel) (by decide) rfl rfl rfl
theorem xs_52_12 : xe_P d 52 12 [.ref a, l1, l2, l3] st h Q = xe_P d 52 13 [.ref a, l1, l2, l3] (.ref a :: st) h Q := xe_P_lo (ins := .aload_n 0) (len := 1) (by decide +kernel) rfl rfl
theorem xs_52_13 : xe_P d 52 13 [.ref a, l1, l2, l3] st h Q = xe_P d 52 14 [.ref a, l1, l2, l3] (.ref a :: st) h Q := xe_P_lo (ins := .aload_n 0) (len := 1) (by decide +kernel) rfl rfl
theorem xs_52_14 : xe_P d 52 14 ls (.ref a :: st) h Q = (xe_ob h a 3 ∧ xe_P d 52 17 ls (.int (xe_I h a 6) :: st) h Q) := xe_P_getI (i := 49) (by decide +kernel) (by decide +kernel) (by decide) rfl
theorem xs_52_17 : xe_P d 52 17 [.ref a, l1, l2, l3] st h Q = xe_P d 52 18 [.ref a, l1, l2, l3] (.ref a :: st) h Q := xe_P_lo (ins := .aload_n 0) (len := 1) (by decide +kernel) rfl rfl
theorem xs_52_18 : xe_P d 52 18 ls (.ref a :: st) h Q = (xe_ob h a 3 ∧ xe_P d 52 21 ls (va_rf (xe_R h a 10) :: st) h Q) := xe_P_getR (i := 21) (by decide +kernel) (by decide +kernel) (by decide) rfl
theorem xs_52_21 : xe_P d 52 21 [l0, .int x, l2, l3] st h Q = xe_P d 52 22 [l0, .int x, l2, l3] (.int x :: st) h Q := xe_P_lo (ins := .iload_n 1) (len := 1) (by decide +kernel) rfl rfl
theorem xs_52_22 : xe_P d 52 22 ls (.int v :: .ref a :: st) h Q = ((xe_ia h a ∧ xe_ix h a v) ∧ xe_P d 52 23 ls (.int (xe_I h a v.toNatClampNeg) :: st) h Q) := xe_P_iald (by decide +kernel)
theorem xs_52_23 : xe_P d 52 23 [l0, l1, l2, .int x] st h Q = xe_P d 52 24 [l0, l1, l2, .int x] (.int x :: st) h Q := xe_P_lo (ins := .iload_n 3) (len := 1) (by decide +kernel) rfl rfl
theorem xs_52_24 : xe_P d 52 24 ls st h Q = xe_P d 52 25 ls (.int 1 :: st) h Q := xe_P_ar (ins := .iconst 1) (len := 1) (by decide +kernel) rfl
theorem xs_52_25 : xe_P d 52 25 ls (.int v :: .int x :: st) h Q = xe_P d 52 26 ls (.int (x + v) :: st) h Q := xe_P_ar (ins := .iadd) (len := 1) (by decide +kernel) rfl
theorem xs_52_26 : xe_P d 52 26 ls (v2 :: v1 :: v0 :: .ref a :: st) h Q = ((xe_w st ≤ 8 ∧ xe_ob h a 3) ∧ xe_C d 49 [.ref a, v0, v1, v2] h (fun r h' => xe_P d 52 29 ls (r.toList ++ st) h' Q)) := xe_P_ivv (y := 52) (pc := 26) (z := 49) (i := 79) (vs := [v2, v1, v0]) (by decide +kernel) (by decide +kernel) rfl (by decide +kernel)
theorem xs_52_29 : xe_P d 52 29 ls (.int x :: st) h Q = (if x = 0 then xe_P d 52 38 ls st h Q else xe_P d 52 32 ls st h Q) := xe_P_if (ins := .ifCond .eq 9) (len := 3) (off := 9) (by decide +kernel) (by decide) rfl rfl rfl
theorem xs_52_32 : xe_P d 52 32 [l0, l1, .int x, l3] st h Q = xe_P d 52 33 [l0, l1, .int x, l3] (.int x :: st) h Q := xe_P_lo (ins := .iload_n 2) (len := 1) (by decide +kernel) rfl rfl
theorem xs_52_33 : xe_P d 52 33 ls st h Q = xe_P d 52 34 ls (.int 1 :: st) h Q := xe_P_ar (ins := .iconst 1) (len := 1) (by decide +kernel) rfl
theorem xs_52_34 : xe_P d 52 34 [l0, l1, l2, .int x] st h Q = xe_P d 52 35 [l0, l1, l2, .int x] (.int x :: st) h Q := xe_P_lo (ins := .iload_n 3) (len := 1) (by decide +kernel) rfl rfl
theorem xs_52_35 : xe_P d 52 35 ls (.int v :: .int x :: st) h Q = xe_P d 52 36 ls (.int (x <<< (v &&& 31)) :: st) h Q := xe_P_ar (ins := .ishl) (len := 1) (by decide +kernel) rfl
theorem xs_52_36 : xe_P d 52 36 ls (.int v :: .int x :: st) h Q = xe_P d 52 37 ls (.int (x ||| v) :: st) h Q := xe_P_ar (ins := .ior) (len := 1) (by decide +kernel) rfl
theorem xs_52_37 : xe_P d 52 37 [l0, l1, l2, l3] (.int x :: st) h Q = xe_P d 52 38 [l0, xe_cut l1, .int x, l3] st h Q := xe_P_lo (ins := .istore_n 2) (len := 1) (by decide +kernel) rfl rfl
theorem xs_52_38 : xe_P d 52 38 [l0, l1, l2, .int x] st h Q = xe_P d 52 41 [l0, l1, xe_cut l2, .int (x + 1)] st h Q := xe_P_lo (ins := .iinc 3 1) (len := 3) (by decide +kernel) rfl rfl
theorem xs_52_41 : xe_P d 52 41 ls st h Q = xe_P d 52 4 ls st h Q := xe_P_go (len := 3) (off := (-37)) (by decide +kernel) (by decide)
theorem xs_52_44 : xe_P d 52 44 [l0, l1, .int x, l3] st h Q = xe_P d 52 45 [l0, l1, .int x, l3] (.int x :: st) h Q := xe_P_lo (ins := .iload_n 2) (len := 1) (by decide +kernel) rfl rfl
theorem xs_52_45 : xe_P d 52 45 ls [.int x] h Q = Q (some (.int x)) h := xe_P_ireturn (by decide +kernel) rfl
theorem xs_52 : xe_C (d + 1) 52 [.ref a, .int x0] h Q = xe_P d 52 0 [.ref a, .int x0, .retAddr 0, .retAddr 0] [] h Q := xe_C_at (Nat.le_of_ble_eq_true rfl) rfl
theorem xs_53_0 : xe_P d 53 0 [.ref a, l1, l2, l3, l4] st h Q = xe_P d 53 1 [.ref a, l1, l2, l3, l4] (.ref a :: st) h Q := xe_P_lo (ins := .aload_n 0) (len := 1) (by decide +kernel) rfl rfl
theorem xs_53_1 : xe_P d 53 1 [l0, .int x, l2, l3, l4] st h Q = xe_P d 53 2 [l0, .int x, l2, l3, l4] (.int x :: st) h Q := xe_P_lo (ins := .iload_n 1) (len := 1) (by decide +kernel) rfl rfl
theorem xs_53_2 : xe_P d 53 2 ls (v0 :: .ref a :: st) h Q = ((xe_w st ≤ 8 ∧ xe_ob h a 3) ∧ xe_C d 54 [.ref a, v0] h (fun r h' => xe_P d 53 5 ls (r.toList ++ st) h' Q)) := xe_P_ivv (y := 53) (pc := 2) (z := 54) (i := 83) (vs := [v0]) (by decide +kernel) (by decide +kernel) rfl (by decide +kernel)
theorem xs_53_5 : xe_P d 53 5 ls (.int x :: st) h Q = (if x = 0 then xe_P d 53 8 ls st h Q else xe_P d 53 10 ls st h Q) := xe_P_ifn (ins := .ifCond .ne 5) (len := 3) (off := 5) (by decide +kernel) (by decide) rfl rfl rfl
theorem xs_53_8 : xe_P d 53 8 ls st h Q = xe_P d 53 9 ls (.int (-1) :: st) h Q := xe_P_ar (ins := .iconst (-1)) (len := 1) (by decide +kernel) rfl
theorem xs_53_9 : xe_P d 53 9 ls [.int x] h Q = Q (some (.int x)) h := xe_P_ireturn (by decide +kernel) rfl
theorem xs_53_10 : xe_P d 53 10 [.ref a, l1, l2, l3, l4] st h Q = xe_P d 53 11 [.ref a, l1, l2, l3, l4] (.ref a :: st) h Q := xe_P_lo (ins := .aload_n 0) (len := 1) (by decide +kernel) rfl rfl
theorem xs_53_11 : xe_P d 53 11 ls (.ref a :: st) h Q = (xe_ob h a 3 ∧ xe_P d 53 14 ls (.int (xe_I h a 5) :: st) h Q) := xe_P_getI (i := 46) (by decide +kernel) (by decide +kernel) (by decide) rfl
theorem xs_53_14 : xe_P d 53 14 ls st h Q = xe_P d 53 17 ls (.int 999 :: st) h Q := xe_P_ar (ins := .sipush 999) (len := 3) (by decide +kernel) rfl
theorem xs_53_17 : xe_P d 53 17 ls (.int v :: .int x :: st) h Q = (if x < v then xe_P d 53 23 ls st h Q else xe_P d 53 20 ls st h Q) := xe_P_if (ins := .if_icmp .lt 6) (len := 3) (off := 6) (by decide +kernel) (by decide) rfl rfl rfl
theorem xs_53_20 : xe_P d 53 20 ls st h Q = xe_P d 53 22 ls (.int (-3) :: st) h Q := xe_P_ar (ins := .bipush (-3)) (len := 2) (by decide +kernel) rfl
theorem xs_53_22 : xe_P d 53 22 ls [.int x] h Q = Q (some (.int x)) h := xe_P_ireturn (by decide +kernel) rfl
theorem xs_53_23 : xe_P d 53 23 ls st h Q = xe_P d 53 24 ls (.int 0 :: st) h Q := xe_P_ar (ins := .iconst 0) (len := 1) (by decide +kernel) rfl
theorem xs_53_24 : xe_P d 53 24 [l0, l1, l2, l3, l4] (.int x :: st) h Q = xe_P d 53 25 [l0, xe_cut l1, .int x, l3, l4] st h Q := xe_P_lo (ins := .istore_n 2) (len := 1) (by decide +kernel) rfl rfl
theorem xs_53_25 : xe_P d 53 25 ls st h Q = xe_P d 53 26 ls (.int 0 :: st) h Q := xe_P_ar (ins := .iconst 0) (len := 1) (by decide +kernel) rfl
theorem xs_53_26 : xe_P d 53 26 [l0, l1, l2, l3, l4] (.int x :: st) h Q = xe_P d 53 27 [l0, l1, xe_cut l2, .int x, l4] st h Q := xe_P_lo (ins := .istore_n 3) (len := 1) (by decide +kernel) rfl rfl
theorem xs_53_27 : xe_P d 53 27 [l0, l1, l2, .int x, l4] st h Q = xe_P d 53 28 [l0, l1, l2, .int x, l4] (.int x :: st) h Q := xe_P_lo (ins := .iload_n 3) (len := 1) (by decide +kernel) rfl rfl
theorem xs_53_28 : xe_P d 53 28 [.ref a, l1, l2, l3, l4] st h Q = xe_P d 53 29 [.ref a, l1, l2, l3, l4] (.ref a :: st) h Q := xe_P_lo (ins := .aload_n 0) (len := 1) (by decide +kernel) rfl rfl
theorem xs_53_29 : xe_P d 53 29 ls (.ref a :: st) h Q = (xe_ob h a 3 ∧ xe_P d 53 32 ls (.int (xe_I h a 2) :: st) h Q) := xe_P_getI (i := 37) (by decide +kernel) (by decide +kernel) (by decide) rfl
theorem xs_53_32 : xe_P d 53 32 ls (.int v :: .int x :: st) h Q = (if v ≤ x then xe_P d 53 111 ls st h Q else xe_P d 53 35 ls st h Q) := xe_P_if (ins := .if_icmp .ge 79) (len := 3) (off := 79) (by decide +kernel) (by decide) rfl rfl rfl
theorem xs_53_35 : xe_P d 53 35 [l0, .int x, l2, l3, l4] st h Q = xe_P d 53 36 [l0, .int x, l2, l3, l4] (.int x :: st) h Q := xe_P_lo (ins := .iload_n 1) (len := 1) (by decide +kernel) rfl rfl
theorem xs_53_36 : xe_P d 53 36 ls st h Q = xe_P d 53 37 ls (.int 3 :: st) h Q := xe_P_ar (ins := .iconst 3) (len := 1) (by decide +kernel) rfl
theorem xs_53_37 : xe_P d 53 37 [l0, l1, l2, .int x, l4] st h Q = xe_P d 53 38 [l0, l1, l2, .int x, l4] (.int x :: st) h Q := xe_P_lo (ins := .iload_n 3) (len := 1) (by decide +kernel) rfl rfl
theorem xs_53_38 : xe_P d 53 38 ls (.int v :: .int x :: st) h Q = xe_P d 53 39 ls (.int (x * v) :: st) h Q := xe_P_ar (ins := .imul) (len := 1) (by decide +kernel) rfl
theorem xs_53_39 : xe_P d 53 39 ls (.int v :: .int x :: st) h Q = xe_P d 53 40 ls (.int (x >>> (v &&& 31)) :: st) h Q := xe_P_ar (ins := .ishr) (len := 1) (by decide +kernel) rfl
theorem xs_53_40 : xe_P d 53 40 ls st h Q = xe_P d 53 42 ls (.int 7 :: st) h Q := xe_P_ar (ins := .bipush 7) (len := 2) (by decide +kernel) rfl
theorem xs_53_42 : xe_P d 53 42 ls (.int v :: .int x :: st) h Q = xe_P d 53 43 ls (.int (x &&& v) :: st) h Q := xe_P_ar (ins := .iand) (len := 1) (by decide +kernel) rfl
theorem xs_53_43 : xe_P d 53 43 [l0, l1, l2, l3, l4] (.int x :: st) h Q = xe_P d 53 45 [l0, l1, l2, xe_cut l3, .int x] st h Q := xe_P_lo (ins := .istore 4) (len := 2) (by decide +kernel) rfl rfl
theorem xs_53_45 : xe_P d 53 45 [.ref a, l1, l2, l3, l4] st h Q = xe_P d 53 46 [.ref a, l1, l2, l3, l4] (.ref a :: st) h Q := xe_P_lo (ins := .aload_n 0) (len := 1) (by decide +kernel) rfl rfl
theorem xs_53_46 : xe_P d 53 46 [.ref a, l1, l2, l3, l4] st h Q = xe_P d 53 47 [.ref a, l1, l2, l3, l4] (.ref a :: st) h Q := xe_P_lo (ins := .aload_n 0) (len := 1) (by decide +kernel) rfl rfl
theorem xs_53_47 : xe_P d 53 47 ls (.ref a :: st) h Q = (xe_ob h a 3 ∧ xe_P d 53 50 ls (.int (xe_I h a 6) :: st) h Q) := xe_P_getI (i := 49) (by decide +kernel) (by decide +kernel) (by decide) rfl
theorem xs_53_50 : xe_P d 53 50 [.ref a, l1, l2, l3, l4] st h Q = xe_P d 53 51 [.ref a, l1, l2, l3, l4] (.ref a :: st) h Q := xe_P_lo (ins := .aload_n 0) (len := 1) (by decide +kernel) rfl rfl
theorem xs_53_51 : xe_P d 53 51 ls (.ref a :: st) h Q = (xe_ob h a 3 ∧ xe_P d 53 54 ls (va_rf (xe_R h a 10) :: st) h Q) := xe_P_getR (i := 21) (by decide +kernel) (by decide +kernel) (by decide) rfl
theorem xs_53_54 : xe_P d 53 54 [l0, l1, l2, .int x, l4] st h Q = xe_P d 53 55 [l0, l1, l2, .int x, l4] (.int x :: st) h Q := xe_P_lo (ins := .iload_n 3) (len := 1) (by decide +kernel) rfl rfl
theorem xs_53_55 : xe_P d 53 55 ls (.int v :: .ref a :: st) h Q = ((xe_ia h a ∧ xe_ix h a v) ∧ xe_P d 53 56 ls (.int (xe_I h a v.toNatClampNeg) :: st) h Q) := xe_P_iald (by decide +kernel)
theorem xs_53_56 : xe_P d 53 56 [l0, l1, l2, l3, .int x] st h Q = xe_P d 53 58 [l0, l1, l2, l3, .int x] (.int x :: st) h Q := xe_P_lo (ins := .iload 4) (len := 2) (by decide +kernel) rfl rfl
theorem xs_53_58 : xe_P d 53 58 ls (v2 :: v1 :: v0 :: .ref a :: st) h Q = ((xe_w st ≤ 8 ∧ xe_ob h a 3) ∧ xe_C d 49 [.ref a, v0, v1, v2] h (fun r h' => xe_P d 53 61 ls (r.toList ++ st) h' Q)) := xe_P_ivv (y := 53) (pc := 58) (z := 49) (i := 79) (vs := [v2, v1, v0]) (by decide +kernel) (by decide +kernel) rfl (by decide +kernel)
theorem xs_53_61 : xe_P d 53 61 ls (.int x :: st) h Q = (if x = 0 then xe_P d 53 99 ls st h Q else xe_P d 53 64 ls st h Q) := xe_P_if (ins := .ifCond .eq 38) (len := 3) (off := 38) (by decide +kernel) (by decide) rfl rfl rfl
theorem xs_53_64 : xe_P d 53 64 [.ref a, l1, l2, l3, l4] st h Q = xe_P d 53 65 [.ref a, l1, l2, l3, l4] (.ref a :: st) h Q := xe_P_lo (ins := .aload_n 0) (len := 1) (by decide +kernel) rfl rfl
theorem xs_53_65 : xe_P d 53 65 [.ref a, l1, l2, l3, l4] st h Q = xe_P d 53 66 [.ref a, l1, l2, l3, l4] (.ref a :: st) h Q := xe_P_lo (ins := .aload_n 0) (len := 1) (by decide +kernel) rfl rfl
theorem xs_53_66 : xe_P d 53 66 [.ref a, l1, l2, l3, l4] st h Q = xe_P d 53 67 [.ref a, l1, l2, l3, l4] (.ref a :: st) h Q := xe_P_lo (ins := .aload_n 0) (len := 1) (by decide +kernel) rfl rfl
theorem xs_53_67 : xe_P d 53 67 ls (.ref a :: st) h Q = (xe_ob h a 3 ∧ xe_P d 53 70 ls (.int (xe_I h a 6) :: st) h Q) := xe_P_getI (i := 49) (by decide +kernel) (by decide +kernel) (by decide) rfl
theorem xs_53_70 : xe_P d 53 70 [l0, l1, l2, l3, .int x] st h Q = xe_P d 53 72 [l0, l1, l2, l3, .int x] (.int x :: st) h Q := xe_P_lo (ins := .iload 4) (len := 2) (by decide +kernel) rfl rfl
theorem xs_53_72 : xe_P d 53 72 ls (v1 :: v0 :: .ref a :: st) h Q = ((xe_w st ≤ 8 ∧ xe_ob h a 3) ∧ xe_C d 51 [.ref a, v0, v1] h (fun r h' => xe_P d 53 75 ls (r.toList ++ st) h' Q)) := xe_P_ivv (y := 53) (pc := 72) (z := 51) (i := 87) (vs := [v1, v0]) (by decide +kernel) (by decide +kernel) rfl (by decide +kernel)
theorem xs_53_75 : xe_P d 53 75 ls (.int v :: .ref a :: st) h Q = (xe_ob h a 3 ∧ xe_P d 53 78 ls st (xe_sI h a 6 v) Q) := xe_P_putI (i := 49) (by decide +kernel) (by decide +kernel) (by decide) (by decide +kernel) rfl
theorem xs_53_78 : xe_P d 53 78 [.ref a, l1, l2, l3, l4] st h Q = xe_P d 53 79 [.ref a, l1, l2, l3, l4] (.ref a :: st) h Q := xe_P_lo (ins := .aload_n 0) (len := 1) (by decide +kernel) rfl rfl
theorem xs_53_79 : xe_P d 53 79 ls (.ref a :: st) h Q = (xe_ob h a 3 ∧ xe_P d 53 82 ls (va_rf (xe_R h a 10) :: st) h Q) := xe_P_getR (i := 21) (by decide +kernel) (by decide +kernel) (by decide) rfl
theorem xs_53_82 : xe_P d 53 82 [l0, l1, l2, .int x, l4] st h Q = xe_P d 53 83 [l0, l1, l2, .int x, l4] (.int x :: st) h Q := xe_P_lo (ins := .iload_n 3) (len := 1) (by decide +kernel) rfl rfl
theorem xs_53_83 : xe_P d 53 83 [.ref a, l1, l2, l3, l4] st h Q = xe_P d 53 84 [.ref a, l1, l2, l3, l4] (.ref a :: st) h Q := xe_P_lo (ins := .aload_n 0) (len := 1) (by decide +kernel) rfl rfl
theorem xs_53_84 : xe_P d 53 84 [.ref a, l1, l2, l3, l4] st h Q = xe_P d 53 85 [.ref a, l1, l2, l3, l4] (.ref a :: st) h Q := xe_P_lo (ins := .aload_n 0) (len := 1) (by decide +kernel) rfl rfl
theorem xs_53_85 : xe_P d 53 85 ls (.ref a :: st) h Q = (xe_ob h a 3 ∧ xe_P d 53 88 ls (va_rf (xe_R h a 10) :: st) h Q) := xe_P_getR (i := 21) (by decide +kernel) (by decide +kernel) (by decide) rfl
theorem xs_53_88 : xe_P d 53 88 [l0, l1, l2, .int x, l4] st h Q = xe_P d 53 89 [l0, l1, l2, .int x, l4] (.int x :: st) h Q := xe_P_lo (ins := .iload_n 3) (len := 1) (by decide +kernel) rfl rfl
theorem xs_53_89 : xe_P d 53 89 ls (.int v :: .ref a :: st) h Q = ((xe_ia h a ∧ xe_ix h a v) ∧ xe_P d 53 90 ls (.int (xe_I h a v.toNatClampNeg) :: st) h Q) := xe_P_iald (by decide +kernel)
theorem xs_53_90 : xe_P d 53 90 [l0, l1, l2, l3, .int x] st h Q = xe_P d 53 92 [l0, l1, l2, l3, .int x] (.int x :: st) h Q := xe_P_lo (ins := .iload 4) (len := 2) (by decide +kernel) rfl rfl
theorem xs_53_92 : xe_P d 53 92 ls (v1 :: v0 :: .ref a :: st) h Q = ((xe_w st ≤ 8 ∧ xe_ob h a 3) ∧ xe_C d 50 [.ref a, v0, v1] h (fun r h' => xe_P d 53 95 ls (r.toList ++ st) h' Q)) := xe_P_ivv (y := 53) (pc := 92) (z := 50) (i := 91) (vs := [v1, v0]) (by decide +kernel) (by decide +kernel) rfl (by decide +kernel)
theorem xs_53_95 : xe_P d 53 95 ls (.int x :: .int v :: .ref a :: st) h Q = ((xe_ob h a 8 ∧ xe_ix h a v) ∧ xe_P d 53 96 ls st (xe_sI h a v.toNatClampNeg x) Q) := xe_P_iast (by decide +kernel)
theorem xs_53_96 : xe_P d 53 96 ls st h Q = xe_P d 53 105 ls st h Q := xe_P_go (len := 3) (off := 9) (by decide +kernel) (by decide)
theorem xs_53_99 : xe_P d 53 99 [l0, l1, .int x, l3, l4] st h Q = xe_P d 53 100 [l0, l1, .int x, l3, l4] (.int x :: st) h Q := xe_P_lo (ins := .iload_n 2) (len := 1) (by decide +kernel) rfl rfl
theorem xs_53_100 : xe_P d 53 100 ls st h Q = xe_P d 53 101 ls (.int 1 :: st) h Q := xe_P_ar (ins := .iconst 1) (len := 1) (by decide +kernel) rfl
theorem xs_53_101 : xe_P d 53 101 [l0, l1, l2, .int x, l4] st h Q = xe_P d 53 102 [l0, l1, l2, .int x, l4] (.int x :: st) h Q := xe_P_lo (ins := .iload_n 3) (len := 1) (by decide +kernel) rfl rfl
theorem xs_53_102 : xe_P d 53 102 ls (.int v :: .int x :: st) h Q = xe_P d 53 103 ls (.int (x <<< (v &&& 31)) :: st) h Q := xe_P_ar (ins := .ishl) (len := 1) (by decide +kernel) rfl
theorem xs_53_103 : xe_P d 53 103 ls (.int v :: .int x :: st) h Q = xe_P d 53 104 ls (.int (x ||| v) :: st) h Q := xe_P_ar (ins := .ior) (len := 1) (by decide +kernel) rfl
theorem xs_53_104 : xe_P d 53 104 [l0, l1, l2, l3, l4] (.int x :: st) h Q = xe_P d 53 105 [l0, xe_cut l1, .int x, l3, l4] st h Q := xe_P_lo (ins := .istore_n 2) (len := 1) (by decide +kernel) rfl rfl
theorem xs_53_105 : xe_P d 53 105 [l0, l1, l2, .int x, l4] st h Q = xe_P d 53 108 [l0, l1, xe_cut l2, .int (x + 1), l4] st h Q := xe_P_lo (ins := .iinc 3 1) (len := 3) (by decide +kernel) rfl rfl
theorem xs_53_108 : xe_P d 53 108 ls st h Q = xe_P d 53 27 ls st h Q := xe_P_go (len := 3) (off := (-81)) (by decide +kernel) (by decide)
theorem xs_53_111 : xe_P d 53 111 [.ref a, l1, l2, l3, l4] st h Q = xe_P d 53 112 [.ref a, l1, l2, l3, l4] (.ref a :: st) h Q := xe_P_lo (ins := .aload_n 0) (len := 1) (by decide +kernel) rfl rfl
theorem xs_53_112 : xe_P d 53 112 [.ref a, l1, l2, l3, l4] st h Q = xe_P d 53 113 [.ref a, l1, l2, l3, l4] (.ref a :: st) h Q := xe_P_lo (ins := .aload_n 0) (len := 1) (by decide +kernel) rfl rfl
theorem xs_53_113 : xe_P d 53 113 ls (.ref a :: st) h Q = (xe_ob h a 3 ∧ xe_P d 53 116 ls (.int (xe_I h a 6) :: st) h Q) := xe_P_getI (i := 49) (by decide +kernel) (by decide +kernel) (by decide) rfl
theorem xs_53_116 : xe_P d 53 116 ls (v0 :: st) h Q = (xe_w st ≤ 8 ∧ xe_C d 46 [v0] h (fun r h' => xe_P d 53 119 ls (r.toList ++ st) h' Q)) := xe_P_ivs (y := 53) (pc := 116) (z := 46) (i := 94) (vs := [v0]) (by decide +kernel) (by decide +kernel) rfl
theorem xs_53_119 : xe_P d 53 119 ls (.int v :: .ref a :: st) h Q = (xe_ob h a 3 ∧ xe_P d 53 122 ls st (xe_sI h a 6 v) Q) := xe_P_putI (i := 49) (by decide +kernel) (by decide +kernel) (by decide) (by decide +kernel) rfl
theorem xs_53_122 : xe_P d 53 122 [.ref a, l1, l2, l3, l4] st h Q = xe_P d 53 123 [.ref a, l1, l2, l3, l4] (.ref a :: st) h Q := xe_P_lo (ins := .aload_n 0) (len := 1) (by decide +kernel) rfl rfl
theorem xs_53_123 : xe_P d 53 123 ls (.ref a :: st) h Q = xe_P d 53 124 ls (.ref a :: .ref a :: st) h Q := xe_P_ar (ins := .dup) (len := 1) (by decide +kernel) rfl
theorem xs_53_123i : xe_P d 53 123 ls (.int x :: st) h Q = xe_P d 53 124 ls (.int x :: .int x :: st) h Q := xe_P_ar (ins := .dup) (len := 1) (by decide +kernel) rfl
theorem xs_53_124 : xe_P d 53 124 ls (.ref a :: st) h Q = (xe_ob h a 3 ∧ xe_P d 53 127 ls (.int (xe_I h a 5) :: st) h Q) := xe_P_getI (i := 46) (by decide +kernel) (by decide +kernel) (by decide) rfl
theorem xs_53_127 : xe_P d 53 127 ls st h Q = xe_P d 53 128 ls (.int 1 :: st) h Q := xe_P_ar (ins := .iconst 1) (len := 1) (by decide +kernel) rfl
theorem xs_53_128 : xe_P d 53 128 ls (.int v :: .int x :: st) h Q = xe_P d 53 129 ls (.int (x + v) :: st) h Q := xe_P_ar (ins := .iadd) (len := 1) (by decide +kernel) rfl
theorem xs_53_129 : xe_P d 53 129 ls (.int v :: .ref a :: st) h Q = (xe_ob h a 3 ∧ xe_P d 53 132 ls st (xe_sI h a 5 v) Q) := xe_P_putI (i := 46) (by decide +kernel) (by decide +kernel) (by decide) (by decide +kernel) rfl
theorem xs_53_132 : xe_P d 53 132 [l0, l1, .int x, l3, l4] st h Q = xe_P d 53 133 [l0, l1, .int x, l3, l4] (.int x :: st) h Q := xe_P_lo (ins := .iload_n 2) (len := 1) (by decide +kernel) rfl rfl
theorem xs_53_133 : xe_P d 53 133 ls [.int x] h Q = Q (some (.int x)) h := xe_P_ireturn (by decide +kernel) rfl
theorem xs_53 : xe_C (d + 1) 53 [.ref a, .int x0] h Q = xe_P d 53 0 [.ref a, .int x0, .retAddr 0, .retAddr 0, .retAddr 0] [] h Q := xe_C_at (Nat.le_of_ble_eq_true rfl) rfl
theorem xs_54_0 : xe_P d 54 0 [l0, .int x, l2] st h Q = xe_P d 54 1 [l0, .int x, l2] (.int x :: st) h Q := xe_P_lo (ins := .iload_n 1) (len := 1) (by decide +kernel) rfl rfl
theorem xs_54_1 : xe_P d 54 1 ls (.int x :: st) h Q = (if x < 0 then xe_P d 54 15 ls st h Q else xe_P d 54 4 ls st h Q) := xe_P_if (ins := .ifCond .lt 14) (len := 3) (off := 14) (by decide +kernel) (by decide) rfl rfl rfl
theorem xs_54_4 : xe_P d 54 4 [l0, .int x, l2] st h Q = xe_P d 54 5 [l0, .int x, l2] (.int x :: st) h Q := xe_P_lo (ins := .iload_n 1) (len := 1) (by decide +kernel) rfl rfl
theorem xs_54_5 : xe_P d 54 5 ls st h Q = xe_P d 54 6 ls (.int 3 :: st) h Q := xe_P_ar (ins := .iconst 3) (len := 1) (by decide +kernel) rfl
theorem xs_54_6 : xe_P d 54 6 [.ref a, l1, l2] st h Q = xe_P d 54 7 [.ref a, l1, l2] (.ref a :: st) h Q := xe_P_lo (ins := .aload_n 0) (len := 1) (by decide +kernel) rfl rfl
theorem xs_54_7 : xe_P d 54 7 ls (.ref a :: st) h Q = (xe_ob h a 3 ∧ xe_P d 54 10 ls (.int (xe_I h a 2) :: st) h Q) := xe_P_getI (i := 37) (by decide +kernel) (by decide +kernel) (by decide) rfl
theorem xs_54_10 : xe_P d 54 10 ls (.int v :: .int x :: st) h Q = xe_P d 54 11 ls (.int (x * v) :: st) h Q := xe_P_ar (ins := .imul) (len := 1) (by decide +kernel) rfl
theorem xs_54_11 : xe_P d 54 11 ls (.int v :: .int x :: st) h Q = xe_P d 54 12 ls (.int (x >>> (v &&& 31)) :: st) h Q := xe_P_ar (ins := .ishr) (len := 1) (by decide +kernel) rfl
theorem xs_54_12 : xe_P d 54 12 ls (.int x :: st) h Q = (if x = 0 then xe_P d 54 17 ls st h Q else xe_P d 54 15 ls st h Q) := xe_P_if (ins := .ifCond .eq 5) (len := 3) (off := 5) (by decide +kernel) (by decide) rfl rfl rfl
theorem xs_54_15 : xe_P d 54 15 ls st h Q = xe_P d 54 16 ls (.int 0 :: st) h Q := xe_P_ar (ins := .iconst 0) (len := 1) (by decide +kernel) rfl
theorem xs_54_16 : xe_P d 54 16 ls [.int x] h Q = ((x = 0 ∨ x = 1) ∧ Q (some (.int x)) h) := xe_P_zreturn (by decide +kernel) rfl
theorem xs_54_17 : xe_P d 54 17 ls st h Q = xe_P d 54 18 ls (.int 0 :: st) h Q := xe_P_ar (ins := .iconst 0) (len := 1) (by decide +kernel) rfl
theorem xs_54_18 : xe_P d 54 18 [l0, l1, l2] (.int x :: st) h Q = xe_P d 54 19 [l0, xe_cut l1, .int x] st h Q := xe_P_lo (ins := .istore_n 2) (len := 1) (by decide +kernel) rfl rfl
theorem xs_54_19 : xe_P d 54 19 [l0, l1, .int x] st h Q = xe_P d 54 20 [l0, l1, .int x] (.int x :: st) h Q := xe_P_lo (ins := .iload_n 2) (len := 1) (by decide +kernel) rfl rfl
theorem xs_54_20 : xe_P d 54 20 [.ref a, l1, l2] st h Q = xe_P d 54 21 [.ref a, l1, l2] (.ref a :: st) h Q := xe_P_lo (ins := .aload_n 0) (len := 1) (by decide +kernel) rfl rfl
theorem xs_54_21 : xe_P d 54 21 ls (.ref a :: st) h Q = (xe_ob h a 3 ∧ xe_P d 54 24 ls (.int (xe_I h a 2) :: st) h Q) := xe_P_getI (i := 37) (by decide +kernel) (by decide +kernel) (by decide) rfl
theorem xs_54_24 : xe_P d 54 24 ls (.int v :: .int x :: st) h Q = (if v ≤ x then xe_P d 54 50 ls st h Q else xe_P d 54 27 ls st h Q) := xe_P_if (ins := .if_icmp .ge 26) (len := 3) (off := 26) (by decide +kernel) (by decide) rfl rfl rfl
theorem xs_54_27 : xe_P d 54 27 [l0, .int x, l2] st h Q = xe_P d 54 28 [l0, .int x, l2] (.int x :: st) h Q := xe_P_lo (ins := .iload_n 1) (len := 1) (by decide +kernel) rfl rfl
theorem xs_54_28 : xe_P d 54 28 ls st h Q = xe_P d 54 29 ls (.int 3 :: st) h Q := xe_P_ar (ins := .iconst 3) (len := 1) (by decide +kernel) rfl
theorem xs_54_29 : xe_P d 54 29 [l0, l1, .int x] st h Q = xe_P d 54 30 [l0, l1, .int x] (.int x :: st) h Q := xe_P_lo (ins := .iload_n 2) (len := 1) (by decide +kernel) rfl rfl
theorem xs_54_30 : xe_P d 54 30 ls (.int v :: .int x :: st) h Q = xe_P d 54 31 ls (.int (x * v) :: st) h Q := xe_P_ar (ins := .imul) (len := 1) (by decide +kernel) rfl
theorem xs_54_31 : xe_P d 54 31 ls (.int v :: .int x :: st) h Q = xe_P d 54 32 ls (.int (x >>> (v &&& 31)) :: st) h Q := xe_P_ar (ins := .ishr) (len := 1) (by decide +kernel) rfl
theorem xs_54_32 : xe_P d 54 32 ls st h Q = xe_P d 54 34 ls (.int 7 :: st) h Q := xe_P_ar (ins := .bipush 7) (len := 2) (by decide +kernel) rfl
theorem xs_54_34 : xe_P d 54 34 ls (.int v :: .int x :: st) h Q = xe_P d 54 35 ls (.int (x &&& v) :: st) h Q := xe_P_ar (ins := .iand) (len := 1) (by decide +kernel) rfl
theorem xs_54_35 : xe_P d 54 35 [.ref a, l1, l2] st h Q = xe_P d 54 36 [.ref a, l1, l2] (.ref a :: st) h Q := xe_P_lo (ins := .aload_n 0) (len := 1) (by decide +kernel) rfl rfl
theorem xs_54_36 : xe_P d 54 36 ls (.ref a :: st) h Q = (xe_ob h a 3 ∧ xe_P d 54 39 ls (.int (xe_I h a 1) :: st) h Q) := xe_P_getI (i := 34) (by decide +kernel) (by decide +kernel) (by decide) rfl
theorem xs_54_39 : xe_P d 54 39 ls (.int v :: .int x :: st) h Q = (if x ≤ v then xe_P d 54 44 ls st h Q else xe_P d 54 42 ls st h Q) := xe_P_if (ins := .if_icmp .le 5) (len := 3) (off := 5) (by decide +kernel) (by decide) rfl rfl rfl
theorem xs_54_42 : xe_P d 54 42 ls st h Q = xe_P d 54 43 ls (.int 0 :: st) h Q := xe_P_ar (ins := .iconst 0) (len := 1) (by decide +kernel) rfl
theorem xs_54_43 : xe_P d 54 43 ls [.int x] h Q = ((x = 0 ∨ x = 1) ∧ Q (some (.int x)) h) := xe_P_zreturn (by decide +kernel) rfl
theorem xs_54_44 : xe_P d 54 44 [l0, l1, .int x] st h Q = xe_P d 54 47 [l0, xe_cut l1, .int (x + 1)] st h Q := xe_P_lo (ins := .iinc 2 1) (len := 3) (by decide +kernel) rfl rfl
theorem xs_54_47 : xe_P d 54 47 ls st h Q = xe_P d 54 19 ls st h Q := xe_P_go (len := 3) (off := (-28)) (by decide +kernel) (by decide)
theorem xs_54_50 : xe_P d 54 50 ls st h Q = xe_P d 54 51 ls (.int 1 :: st) h Q := xe_P_ar (ins := .iconst 1) (len := 1) (by decide +kernel) rfl
theorem xs_54_51 : xe_P d 54 51 ls [.int x] h Q = ((x = 0 ∨ x = 1) ∧ Q (some (.int x)) h) := xe_P_zreturn (by decide +kernel) rfl
theorem xs_54 : xe_C (d + 1) 54 [.ref a, .int x0] h Q = xe_P d 54 0 [.ref a, .int x0, .retAddr 0] [] h Q := xe_C_at (Nat.le_of_ble_eq_true rfl) rfl
theorem xs_55_0 : xe_P d 55 0 [l0, .int x, l2, l3] st h Q = xe_P d 55 1 [l0, .int x, l2, l3] (.int x :: st) h Q := xe_P_lo (ins := .iload_n 1) (len := 1) (by decide +kernel) rfl rfl
theorem xs_55_1 : xe_P d 55 1 [l0, l1, l2, l3] (.int x :: st) h Q = xe_P d 55 2 [l0, xe_cut l1, .int x, l3] st h Q := xe_P_lo (ins := .istore_n 2) (len := 1) (by decide +kernel) rfl rfl
theorem xs_55_2 : xe_P d 55 2 ls st h Q = xe_P d 55 3 ls (.int 0 :: st) h Q := xe_P_ar (ins := .iconst 0) (len := 1) (by decide +kernel) rfl
theorem xs_55_3 : xe_P d 55 3 [l0, l1, l2, l3] (.int x :: st) h Q = xe_P d 55 4 [l0, l1, xe_cut l2, .int x] st h Q := xe_P_lo (ins := .istore_n 3) (len := 1) (by decide +kernel) rfl rfl
theorem xs_55_4 : xe_P d 55 4 [l0, l1, l2, .int x] st h Q = xe_P d 55 5 [l0, l1, l2, .int x] (.int x :: st) h Q := xe_P_lo (ins := .iload_n 3) (len := 1) (by decide +kernel) rfl rfl
theorem xs_55_5 : xe_P d 55 5 [.ref a, l1, l2, l3] st h Q = xe_P d 55 6 [.ref a, l1, l2, l3] (.ref a :: st) h Q := xe_P_lo (ins := .aload_n 0) (len := 1) (by decide +kernel) rfl rfl
theorem xs_55_6 : xe_P d 55 6 ls (.ref a :: st) h Q = (xe_ob h a 3 ∧ xe_P d 55 9 ls (.int (xe_I h a 1) :: st) h Q) := xe_P_getI (i := 34) (by decide +kernel) (by decide +kernel) (by decide) rfl
theorem xs_55_9 : xe_P d 55 9 ls (.int v :: .int x :: st) h Q = (if v ≤ x then xe_P d 55 42 ls st h Q else xe_P d 55 12 ls st h Q) := xe_P_if (ins := .if_icmp .ge 33) (len := 3) (off := 33) (by decide +kernel) (by decide) rfl rfl rfl
theorem xs_55_12 : xe_P d 55 12 [.ref a, l1, l2, l3] st h Q = xe_P d 55 13 [.ref a, l1, l2, l3] (.ref a :: st) h Q := xe_P_lo (ins := .aload_n 0) (len := 1) (by decide +kernel) rfl rfl
theorem xs_55_13 : xe_P d 55 13 ls (.ref a :: st) h Q = (xe_ob h a 3 ∧ xe_P d 55 16 ls (va_rf (xe_R h a 9) :: st) h Q) := xe_P_getR (i := 18) (by decide +kernel) (by decide +kernel) (by decide) rfl
theorem xs_55_16 : xe_P d 55 16 [l0, l1, .int x, l3] st h Q = xe_P d 55 17 [l0, l1, .int x, l3] (.int x :: st) h Q := xe_P_lo (ins := .iload_n 2) (len := 1) (by decide +kernel) rfl rfl
theorem xs_55_17 : xe_P d 55 17 ls (.int v :: .ref a :: st) h Q = ((xe_ia h a ∧ xe_ix h a v) ∧ xe_P d 55 18 ls (.int (xe_I h a v.toNatClampNeg) :: st) h Q) := xe_P_iald (by decide +kernel)
theorem xs_55_18 : xe_P d 55 18 [l0, l1, l2, l3] (.int x :: st) h Q = xe_P d 55 19 [l0, xe_cut l1, .int x, l3] st h Q := xe_P_lo (ins := .istore_n 2) (len := 1) (by decide +kernel) rfl rfl
theorem xs_55_19 : xe_P d 55 19 [l0, l1, .int x, l3] st h Q = xe_P d 55 20 [l0, l1, .int x, l3] (.int x :: st) h Q := xe_P_lo (ins := .iload_n 2) (len := 1) (by decide +kernel) rfl rfl
theorem xs_55_20 : xe_P d 55 20 [l0, .int x, l2, l3] st h Q = xe_P d 55 21 [l0, .int x, l2, l3] (.int x :: st) h Q := xe_P_lo (ins := .iload_n 1) (len := 1) (by decide +kernel) rfl rfl
theorem xs_55_21 : xe_P d 55 21 ls (.int v :: .int x :: st) h Q = (if x = v then xe_P d 55 24 ls st h Q else xe_P d 55 26 ls st h Q) := xe_P_ifn (ins := .if_icmp .ne 5) (len := 3) (off := 5) (by decide +kernel) (by decide) rfl rfl rfl
theorem xs_55_24 : xe_P d 55 24 ls st h Q = xe_P d 55 25 ls (.int 1 :: st) h Q := xe_P_ar (ins := .iconst 1) (len := 1) (by decide +kernel) rfl
theorem xs_55_25 : xe_P d 55 25 ls [.int x] h Q = ((x = 0 ∨ x = 1) ∧ Q (some (.int x)) h) := xe_P_zreturn (by decide +kernel) rfl
theorem xs_55_26 : xe_P d 55 26 [.ref a, l1, l2, l3] st h Q = xe_P d 55 27 [.ref a, l1, l2, l3] (.ref a :: st) h Q := xe_P_lo (ins := .aload_n 0) (len := 1) (by decide +kernel) rfl rfl
theorem xs_55_27 : xe_P d 55 27 [l0, l1, .int x, l3] st h Q = xe_P d 55 28 [l0, l1, .int x, l3] (.int x :: st) h Q := xe_P_lo (ins := .iload_n 2) (len := 1) (by decide +kernel) rfl rfl
theorem xs_55_28 : xe_P d 55 28 ls (v0 :: .ref a :: st) h Q = ((xe_w st ≤ 8 ∧ xe_ob h a 3) ∧ xe_C d 41 [.ref a, v0] h (fun r h' => xe_P d 55 31 ls (r.toList ++ st) h' Q)) := xe_P_ivv (y := 55) (pc := 28) (z := 41) (i := 98) (vs := [v0]) (by decide +kernel) (by decide +kernel) rfl (by decide +kernel)
theorem xs_55_31 : xe_P d 55 31 ls (.int x :: st) h Q = (if x = 0 then xe_P d 55 34 ls st h Q else xe_P d 55 36 ls st h Q) := xe_P_ifn (ins := .ifCond .ne 5) (len := 3) (off := 5) (by decide +kernel) (by decide) rfl rfl rfl
theorem xs_55_34 : xe_P d 55 34 ls st h Q = xe_P d 55 35 ls (.int 0 :: st) h Q := xe_P_ar (ins := .iconst 0) (len := 1) (by decide +kernel) rfl
theorem xs_55_35 : xe_P d 55 35 ls [.int x] h Q = ((x = 0 ∨ x = 1) ∧ Q (some (.int x)) h) := xe_P_zreturn (by decide +kernel) rfl
theorem xs_55_36 : xe_P d 55 36 [l0, l1, l2, .int x] st h Q = xe_P d 55 39 [l0, l1, xe_cut l2, .int (x + 1)] st h Q := xe_P_lo (ins := .iinc 3 1) (len := 3) (by decide +kernel) rfl rfl
theorem xs_55_39 : xe_P d 55 39 ls st h Q = xe_P d 55 4 ls st h Q := xe_P_go (len := 3) (off := (-35)) (by decide +kernel) (by decide)
theorem xs_55_42 : xe_P d 55 42 ls st h Q = xe_P d 55 43 ls (.int 0 :: st) h Q := xe_P_ar (ins := .iconst 0) (len := 1) (by decide +kernel) rfl
theorem xs_55_43 : xe_P d 55 43 ls [.int x] h Q = ((x = 0 ∨ x = 1) ∧ Q (some (.int x)) h) := xe_P_zreturn (by decide +kernel) rfl
theorem xs_55 : xe_C (d + 1) 55 [.ref a, .int x0] h Q = xe_P d 55 0 [.ref a, .int x0, .retAddr 0, .retAddr 0] [] h Q := xe_C_at (Nat.le_of_ble_eq_true rfl) rfl
theorem xs_56_0 : xe_P d 56 0 ls st h Q = xe_P d 56 1 ls (.int 0 :: st) h Q := xe_P_ar (ins := .iconst 0) (len := 1) (by decide +kernel) rfl
theorem xs_56_1 : xe_P d 56 1 [l0, l1, l2] (.int x :: st) h Q = xe_P d 56 2 [xe_cut l0, .int x, l2] st h Q := xe_P_lo (ins := .istore_n 1) (len := 1) (by decide +kernel) rfl rfl
theorem xs_56_2 : xe_P d 56 2 ls st h Q = xe_P d 56 3 ls (.int 0 :: st) h Q := xe_P_ar (ins := .iconst 0) (len := 1) (by decide +kernel) rfl
theorem xs_56_3 : xe_P d 56 3 [l0, l1, l2] (.int x :: st) h Q = xe_P d 56 4 [l0, xe_cut l1, .int x] st h Q := xe_P_lo (ins := .istore_n 2) (len := 1) (by decide +kernel) rfl rfl
theorem xs_56_4 : xe_P d 56 4 [l0, l1, .int x] st h Q = xe_P d 56 5 [l0, l1, .int x] (.int x :: st) h Q := xe_P_lo (ins := .iload_n 2) (len := 1) (by decide +kernel) rfl rfl
theorem xs_56_5 : xe_P d 56 5 [.ref a, l1, l2] st h Q = xe_P d 56 6 [.ref a, l1, l2] (.ref a :: st) h Q := xe_P_lo (ins := .aload_n 0) (len := 1) (by decide +kernel) rfl rfl
theorem xs_56_6 : xe_P d 56 6 ls (.ref a :: st) h Q = (xe_ob h a 3 ∧ xe_P d 56 9 ls (.int (xe_I h a 1) :: st) h Q) := xe_P_getI (i := 34) (by decide +kernel) (by decide +kernel) (by decide) rfl
theorem xs_56_9 : xe_P d 56 9 ls (.int v :: .int x :: st) h Q = (if v ≤ x then xe_P d 56 32 ls st h Q else xe_P d 56 12 ls st h Q) := xe_P_if (ins := .if_icmp .ge 23) (len := 3) (off := 23) (by decide +kernel) (by decide) rfl rfl rfl
theorem xs_56_12 : xe_P d 56 12 [.ref a, l1, l2] st h Q = xe_P d 56 13 [.ref a, l1, l2] (.ref a :: st) h Q := xe_P_lo (ins := .aload_n 0) (len := 1) (by decide +kernel) rfl rfl
theorem xs_56_13 : xe_P d 56 13 ls (.ref a :: st) h Q = (xe_ob h a 3 ∧ xe_P d 56 16 ls (.int (xe_I h a 6) :: st) h Q) := xe_P_getI (i := 49) (by decide +kernel) (by decide +kernel) (by decide) rfl
theorem xs_56_16 : xe_P d 56 16 [l0, l1, .int x] st h Q = xe_P d 56 17 [l0, l1, .int x] (.int x :: st) h Q := xe_P_lo (ins := .iload_n 2) (len := 1) (by decide +kernel) rfl rfl
theorem xs_56_17 : xe_P d 56 17 ls (v1 :: v0 :: st) h Q = (xe_w st ≤ 8 ∧ xe_C d 45 [v0, v1] h (fun r h' => xe_P d 56 20 ls (r.toList ++ st) h' Q)) := xe_P_ivs (y := 56) (pc := 17) (z := 45) (i := 69) (vs := [v1, v0]) (by decide +kernel) (by decide +kernel) rfl
theorem xs_56_20 : xe_P d 56 20 ls (.int x :: st) h Q = (if x = 0 then xe_P d 56 26 ls st h Q else xe_P d 56 23 ls st h Q) := xe_P_if (ins := .ifCond .eq 6) (len := 3) (off := 6) (by decide +kernel) (by decide) rfl rfl rfl
theorem xs_56_23 : xe_P d 56 23 [l0, .int x, l2] st h Q = xe_P d 56 26 [xe_cut l0, .int (x + 1), l2] st h Q := xe_P_lo (ins := .iinc 1 1) (len := 3) (by decide +kernel) rfl rfl
theorem xs_56_26 : xe_P d 56 26 [l0, l1, .int x] st h Q = xe_P d 56 29 [l0, xe_cut l1, .int (x + 1)] st h Q := xe_P_lo (ins := .iinc 2 1) (len := 3) (by decide +kernel) rfl rfl
theorem xs_56_29 : xe_P d 56 29 ls st h Q = xe_P d 56 4 ls st h Q := xe_P_go (len := 3) (off := (-25)) (by decide +kernel) (by decide)
theorem xs_56_32 : xe_P d 56 32 [l0, .int x, l2] st h Q = xe_P d 56 33 [l0, .int x, l2] (.int x :: st) h Q := xe_P_lo (ins := .iload_n 1) (len := 1) (by decide +kernel) rfl rfl
theorem xs_56_33 : xe_P d 56 33 ls [.int x] h Q = Q (some (.int x)) h := xe_P_ireturn (by decide +kernel) rfl
theorem xs_56 : xe_C (d + 1) 56 [.ref a] h Q = xe_P d 56 0 [.ref a, .retAddr 0, .retAddr 0] [] h Q := xe_C_at (Nat.le_of_ble_eq_true rfl) rfl
theorem xs_57_0 : xe_P d 57 0 ls st h Q = xe_P d 57 1 ls (.int 0 :: st) h Q := xe_P_ar (ins := .iconst 0) (len := 1) (by decide +kernel) rfl
theorem xs_57_1 : xe_P d 57 1 [l0, l1, l2] (.int x :: st) h Q = xe_P d 57 2 [xe_cut l0, .int x, l2] st h Q := xe_P_lo (ins := .istore_n 1) (len := 1) (by decide +kernel) rfl rfl
theorem xs_57_2 : xe_P d 57 2 ls st h Q = xe_P d 57 3 ls (.int 0 :: st) h Q := xe_P_ar (ins := .iconst 0) (len := 1) (by decide +kernel) rfl
theorem xs_57_3 : xe_P d 57 3 [l0, l1, l2] (.int x :: st) h Q = xe_P d 57 4 [l0, xe_cut l1, .int x] st h Q := xe_P_lo (ins := .istore_n 2) (len := 1) (by decide +kernel) rfl rfl
theorem xs_57_4 : xe_P d 57 4 [l0, l1, .int x] st h Q = xe_P d 57 5 [l0, l1, .int x] (.int x :: st) h Q := xe_P_lo (ins := .iload_n 2) (len := 1) (by decide +kernel) rfl rfl
theorem xs_57_5 : xe_P d 57 5 [.ref a, l1, l2] st h Q = xe_P d 57 6 [.ref a, l1, l2] (.ref a :: st) h Q := xe_P_lo (ins := .aload_n 0) (len := 1) (by decide +kernel) rfl rfl
theorem xs_57_6 : xe_P d 57 6 ls (.ref a :: st) h Q = (xe_ob h a 3 ∧ xe_P d 57 9 ls (.int (xe_I h a 2) :: st) h Q) := xe_P_getI (i := 37) (by decide +kernel) (by decide +kernel) (by decide) rfl
theorem xs_57_9 : xe_P d 57 9 ls (.int v :: .int x :: st) h Q = (if v ≤ x then xe_P d 57 36 ls st h Q else xe_P d 57 12 ls st h Q) := xe_P_if (ins := .if_icmp .ge 27) (len := 3) (off := 27) (by decide +kernel) (by decide) rfl rfl rfl
theorem xs_57_12 : xe_P d 57 12 [.ref a, l1, l2] st h Q = xe_P d 57 13 [.ref a, l1, l2] (.ref a :: st) h Q := xe_P_lo (ins := .aload_n 0) (len := 1) (by decide +kernel) rfl rfl
theorem xs_57_13 : xe_P d 57 13 ls (.ref a :: st) h Q = (xe_ob h a 3 ∧ xe_P d 57 16 ls (va_rf (xe_R h a 10) :: st) h Q) := xe_P_getR (i := 21) (by decide +kernel) (by decide +kernel) (by decide) rfl
theorem xs_57_16 : xe_P d 57 16 [l0, l1, .int x] st h Q = xe_P d 57 17 [l0, l1, .int x] (.int x :: st) h Q := xe_P_lo (ins := .iload_n 2) (len := 1) (by decide +kernel) rfl rfl
theorem xs_57_17 : xe_P d 57 17 ls (.int v :: .ref a :: st) h Q = ((xe_ia h a ∧ xe_ix h a v) ∧ xe_P d 57 18 ls (.int (xe_I h a v.toNatClampNeg) :: st) h Q) := xe_P_iald (by decide +kernel)
theorem xs_57_18 : xe_P d 57 18 [.ref a, l1, l2] st h Q = xe_P d 57 19 [.ref a, l1, l2] (.ref a :: st) h Q := xe_P_lo (ins := .aload_n 0) (len := 1) (by decide +kernel) rfl rfl
theorem xs_57_19 : xe_P d 57 19 ls (.ref a :: st) h Q = (xe_ob h a 3 ∧ xe_P d 57 22 ls (va_rf (xe_R h a 11) :: st) h Q) := xe_P_getR (i := 24) (by decide +kernel) (by decide +kernel) (by decide) rfl
theorem xs_57_22 : xe_P d 57 22 [l0, l1, .int x] st h Q = xe_P d 57 23 [l0, l1, .int x] (.int x :: st) h Q := xe_P_lo (ins := .iload_n 2) (len := 1) (by decide +kernel) rfl rfl
theorem xs_57_23 : xe_P d 57 23 ls (.int v :: .ref a :: st) h Q = ((xe_ia h a ∧ xe_ix h a v) ∧ xe_P d 57 24 ls (.int (xe_I h a v.toNatClampNeg) :: st) h Q) := xe_P_iald (by decide +kernel)
theorem xs_57_24 : xe_P d 57 24 ls (.int v :: .int x :: st) h Q = (if x = v then xe_P d 57 27 ls st h Q else xe_P d 57 30 ls st h Q) := xe_P_ifn (ins := .if_icmp .ne 6) (len := 3) (off := 6) (by decide +kernel) (by decide) rfl rfl rfl
theorem xs_57_27 : xe_P d 57 27 [l0, .int x, l2] st h Q = xe_P d 57 30 [xe_cut l0, .int (x + 1), l2] st h Q := xe_P_lo (ins := .iinc 1 1) (len := 3) (by decide +kernel) rfl rfl
theorem xs_57_30 : xe_P d 57 30 [l0, l1, .int x] st h Q = xe_P d 57 33 [l0, xe_cut l1, .int (x + 1)] st h Q := xe_P_lo (ins := .iinc 2 1) (len := 3) (by decide +kernel) rfl rfl
theorem xs_57_33 : xe_P d 57 33 ls st h Q = xe_P d 57 4 ls st h Q := xe_P_go (len := 3) (off := (-29)) (by decide +kernel) (by decide)
theorem xs_57_36 : xe_P d 57 36 [l0, .int x, l2] st h Q = xe_P d 57 37 [l0, .int x, l2] (.int x :: st) h Q := xe_P_lo (ins := .iload_n 1) (len := 1) (by decide +kernel) rfl rfl
theorem xs_57_37 : xe_P d 57 37 ls [.int x] h Q = Q (some (.int x)) h := xe_P_ireturn (by decide +kernel) rfl
theorem xs_57 : xe_C (d + 1) 57 [.ref a] h Q = xe_P d 57 0 [.ref a, .retAddr 0, .retAddr 0] [] h Q := xe_C_at (Nat.le_of_ble_eq_true rfl) rfl
end XSX3
