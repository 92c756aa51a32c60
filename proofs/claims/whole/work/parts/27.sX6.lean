section XSX6
variable {d : Nat} {l0 l1 l2 l3 l4 l5 l6 l7 l8 l9 l10 l11 v0 v1 v2 v3 v4 v5 : Value} {x v n x0 x1 x2 x3 x4 x5 : Int32} {w u w0 w1 w2 w3 : Int64} {a b a0 a1 a2 : Nat} {ls st : List Value} {h : xe_H} {Q : Option Value → xe_H → Prop}
theorem xs_82_0 : xe_P d 82 0 [.ref a, l1] st h Q = xe_P d 82 1 [.ref a, l1] (.ref a :: st) h Q := xe_P_lo (ins := .aload_n 0) (len := 1) (by decide +kernel) rfl rfl
theorem xs_82_1 : xe_P d 82 1 ls (.ref a :: st) h Q = ((a < xe_n h ∧ xe_n h ≤ xe_S ∧ xe_w st ≤ 8) ∧ xe_P d 82 4 ls st h Q) := xe_P_obj (i := 1) (by decide +kernel) (by decide +kernel) rfl
theorem xs_82_4 : xe_P d 82 4 [.ref a, l1] st h Q = xe_P d 82 5 [.ref a, l1] (.ref a :: st) h Q := xe_P_lo (ins := .aload_n 0) (len := 1) (by decide +kernel) rfl rfl
theorem xs_82_5 : xe_P d 82 5 ls st h Q = (xe_n h < xe_S ∧ xe_P d 82 8 ls (.ref (xe_n h) :: st) (xe_new h 3 12) Q) := xe_P_new (j := 7) (by decide +kernel) (by decide +kernel) (by decide)
theorem xs_82_8 : xe_P d 82 8 ls (.ref a :: st) h Q = xe_P d 82 9 ls (.ref a :: .ref a :: st) h Q := xe_P_ar (ins := .dup) (len := 1) (by decide +kernel) rfl
theorem xs_82_8i : xe_P d 82 8 ls (.int x :: st) h Q = xe_P d 82 9 ls (.int x :: .int x :: st) h Q := xe_P_ar (ins := .dup) (len := 1) (by decide +kernel) rfl
theorem xs_82_9 : xe_P d 82 9 ls (.ref a :: st) h Q = ((xe_w st ≤ 8 ∧ a < xe_n h ∧ xe_n h ≤ xe_S) ∧ xe_C d 37 [.ref a] h (fun r h' => xe_P d 82 12 ls (r.toList ++ st) h' Q)) := xe_P_ivi (y := 82) (pc := 9) (z := 37) (i := 9) (k := 2) (vs := []) (by decide +kernel) (by decide +kernel) (by decide) rfl
theorem xs_82_12 : xe_P d 82 12 ls (.ref b :: .ref a :: st) h Q = ((xe_ob h a 6 ∧ b < xe_S) ∧ xe_P d 82 15 ls st (xe_sR h a 0 (some b)) Q) := xe_P_putR (i := 10) (by decide +kernel) (by decide +kernel) (by decide) (by decide +kernel) rfl
theorem xs_82_15 : xe_P d 82 15 [.ref a, l1] st h Q = xe_P d 82 16 [.ref a, l1] (.ref a :: st) h Q := xe_P_lo (ins := .aload_n 0) (len := 1) (by decide +kernel) rfl rfl
theorem xs_82_16 : xe_P d 82 16 ls st h Q = (xe_n h < xe_S ∧ xe_P d 82 19 ls (.ref (xe_n h) :: st) (xe_new h 3 12) Q) := xe_P_new (j := 7) (by decide +kernel) (by decide +kernel) (by decide)
theorem xs_82_19 : xe_P d 82 19 ls (.ref a :: st) h Q = xe_P d 82 20 ls (.ref a :: .ref a :: st) h Q := xe_P_ar (ins := .dup) (len := 1) (by decide +kernel) rfl
theorem xs_82_19i : xe_P d 82 19 ls (.int x :: st) h Q = xe_P d 82 20 ls (.int x :: .int x :: st) h Q := xe_P_ar (ins := .dup) (len := 1) (by decide +kernel) rfl
theorem xs_82_20 : xe_P d 82 20 ls (.ref a :: st) h Q = ((xe_w st ≤ 8 ∧ a < xe_n h ∧ xe_n h ≤ xe_S) ∧ xe_C d 37 [.ref a] h (fun r h' => xe_P d 82 23 ls (r.toList ++ st) h' Q)) := xe_P_ivi (y := 82) (pc := 20) (z := 37) (i := 9) (k := 2) (vs := []) (by decide +kernel) (by decide +kernel) (by decide) rfl
theorem xs_82_23 : xe_P d 82 23 ls (.ref b :: .ref a :: st) h Q = ((xe_ob h a 6 ∧ b < xe_S) ∧ xe_P d 82 26 ls st (xe_sR h a 1 (some b)) Q) := xe_P_putR (i := 16) (by decide +kernel) (by decide +kernel) (by decide) (by decide +kernel) rfl
theorem xs_82_26 : xe_P d 82 26 [.ref a, l1] st h Q = xe_P d 82 27 [.ref a, l1] (.ref a :: st) h Q := xe_P_lo (ins := .aload_n 0) (len := 1) (by decide +kernel) rfl rfl
theorem xs_82_27 : xe_P d 82 27 ls st h Q = xe_P d 82 28 ls (.int 2 :: st) h Q := xe_P_ar (ins := .iconst 2) (len := 1) (by decide +kernel) rfl
theorem xs_82_28 : xe_P d 82 28 ls (.int v :: st) h Q = ((¬ v < 0 ∧ v.toNatClampNeg ≤ 200000 ∧ xe_n h < xe_S) ∧ xe_P d 82 31 ls (.ref (xe_n h) :: st) (xe_new h 12 v.toNatClampNeg) Q) := xe_P_newq (j := 7) (by decide +kernel) (by decide +kernel)
theorem xs_82_31 : xe_P d 82 31 ls (.ref b :: .ref a :: st) h Q = ((xe_ob h a 6 ∧ b < xe_S) ∧ xe_P d 82 34 ls st (xe_sR h a 2 (some b)) Q) := xe_P_putR (i := 19) (by decide +kernel) (by decide +kernel) (by decide) (by decide +kernel) rfl
theorem xs_82_34 : xe_P d 82 34 ls st h Q = xe_P d 82 35 ls (.int 0 :: st) h Q := xe_P_ar (ins := .iconst 0) (len := 1) (by decide +kernel) rfl
theorem xs_82_35 : xe_P d 82 35 [l0, l1] (.int x :: st) h Q = xe_P d 82 36 [xe_cut l0, .int x] st h Q := xe_P_lo (ins := .istore_n 1) (len := 1) (by decide +kernel) rfl rfl
theorem xs_82_36 : xe_P d 82 36 [l0, .int x] st h Q = xe_P d 82 37 [l0, .int x] (.int x :: st) h Q := xe_P_lo (ins := .iload_n 1) (len := 1) (by decide +kernel) rfl rfl
theorem xs_82_37 : xe_P d 82 37 ls st h Q = xe_P d 82 38 ls (.int 2 :: st) h Q := xe_P_ar (ins := .iconst 2) (len := 1) (by decide +kernel) rfl
theorem xs_82_38 : xe_P d 82 38 ls (.int v :: .int x :: st) h Q = (if v ≤ x then xe_P d 82 60 ls st h Q else xe_P d 82 41 ls st h Q) := xe_P_if (ins := .if_icmp .ge 22) (len := 3) (off := 22) (by decide +kernel) (by decide) rfl rfl rfl
theorem xs_82_41 : xe_P d 82 41 [.ref a, l1] st h Q = xe_P d 82 42 [.ref a, l1] (.ref a :: st) h Q := xe_P_lo (ins := .aload_n 0) (len := 1) (by decide +kernel) rfl rfl
theorem xs_82_42 : xe_P d 82 42 ls (.ref a :: st) h Q = (xe_ob h a 6 ∧ xe_P d 82 45 ls (va_rf (xe_R h a 2) :: st) h Q) := xe_P_getR (i := 19) (by decide +kernel) (by decide +kernel) (by decide) rfl
theorem xs_82_45 : xe_P d 82 45 [l0, .int x] st h Q = xe_P d 82 46 [l0, .int x] (.int x :: st) h Q := xe_P_lo (ins := .iload_n 1) (len := 1) (by decide +kernel) rfl rfl
theorem xs_82_46 : xe_P d 82 46 ls st h Q = (xe_n h < xe_S ∧ xe_P d 82 49 ls (.ref (xe_n h) :: st) (xe_new h 3 12) Q) := xe_P_new (j := 7) (by decide +kernel) (by decide +kernel) (by decide)
theorem xs_82_49 : xe_P d 82 49 ls (.ref a :: st) h Q = xe_P d 82 50 ls (.ref a :: .ref a :: st) h Q := xe_P_ar (ins := .dup) (len := 1) (by decide +kernel) rfl
theorem xs_82_49i : xe_P d 82 49 ls (.int x :: st) h Q = xe_P d 82 50 ls (.int x :: .int x :: st) h Q := xe_P_ar (ins := .dup) (len := 1) (by decide +kernel) rfl
theorem xs_82_50 : xe_P d 82 50 ls (.ref a :: st) h Q = ((xe_w st ≤ 8 ∧ a < xe_n h ∧ xe_n h ≤ xe_S) ∧ xe_C d 37 [.ref a] h (fun r h' => xe_P d 82 53 ls (r.toList ++ st) h' Q)) := xe_P_ivi (y := 82) (pc := 50) (z := 37) (i := 9) (k := 2) (vs := []) (by decide +kernel) (by decide +kernel) (by decide) rfl
theorem xs_82_53 : xe_P d 82 53 ls (.ref b :: .int v :: .ref a :: st) h Q = ((xe_ob h a 12 ∧ xe_ob h b 3 ∧ xe_n h ≤ xe_S ∧ xe_ix h a v) ∧ xe_P d 82 54 ls st (xe_sR h a v.toNatClampNeg (some b)) Q) := xe_P_aast (by decide +kernel)
theorem xs_82_54 : xe_P d 82 54 [l0, .int x] st h Q = xe_P d 82 57 [xe_cut l0, .int (x + 1)] st h Q := xe_P_lo (ins := .iinc 1 1) (len := 3) (by decide +kernel) rfl rfl
theorem xs_82_57 : xe_P d 82 57 ls st h Q = xe_P d 82 36 ls st h Q := xe_P_go (len := 3) (off := (-21)) (by decide +kernel) (by decide)
theorem xs_82_60 : xe_P d 82 60 [.ref a, l1] st h Q = xe_P d 82 61 [.ref a, l1] (.ref a :: st) h Q := xe_P_lo (ins := .aload_n 0) (len := 1) (by decide +kernel) rfl rfl
theorem xs_82_61 : xe_P d 82 61 ls st h Q = xe_P d 82 62 ls (.int 2 :: st) h Q := xe_P_ar (ins := .iconst 2) (len := 1) (by decide +kernel) rfl
theorem xs_82_62 : xe_P d 82 62 ls (.int v :: st) h Q = ((¬ v < 0 ∧ v.toNatClampNeg ≤ 200000 ∧ xe_n h < xe_S) ∧ xe_P d 82 64 ls (.ref (xe_n h) :: st) (xe_new h 11 v.toNatClampNeg) Q) := xe_P_newa (t := .boolean) (by decide +kernel) (by decide)
theorem xs_82_64 : xe_P d 82 64 ls (.ref b :: .ref a :: st) h Q = ((xe_ob h a 6 ∧ b < xe_S) ∧ xe_P d 82 67 ls st (xe_sR h a 3 (some b)) Q) := xe_P_putR (i := 23) (by decide +kernel) (by decide +kernel) (by decide) (by decide +kernel) rfl
theorem xs_82_67 : xe_P d 82 67 [.ref a, l1] st h Q = xe_P d 82 68 [.ref a, l1] (.ref a :: st) h Q := xe_P_lo (ins := .aload_n 0) (len := 1) (by decide +kernel) rfl rfl
theorem xs_82_68 : xe_P d 82 68 ls st h Q = (xe_n h < xe_S ∧ xe_P d 82 71 ls (.ref (xe_n h) :: st) (xe_new h 2 12) Q) := xe_P_new (j := 27) (by decide +kernel) (by decide +kernel) (by decide)
theorem xs_82_71 : xe_P d 82 71 ls (.ref a :: st) h Q = xe_P d 82 72 ls (.ref a :: .ref a :: st) h Q := xe_P_ar (ins := .dup) (len := 1) (by decide +kernel) rfl
theorem xs_82_71i : xe_P d 82 71 ls (.int x :: st) h Q = xe_P d 82 72 ls (.int x :: .int x :: st) h Q := xe_P_ar (ins := .dup) (len := 1) (by decide +kernel) rfl
theorem xs_82_72 : xe_P d 82 72 ls (.ref a :: st) h Q = ((xe_w st ≤ 8 ∧ a < xe_n h ∧ xe_n h ≤ xe_S) ∧ xe_C d 20 [.ref a] h (fun r h' => xe_P d 82 75 ls (r.toList ++ st) h' Q)) := xe_P_ivi (y := 82) (pc := 72) (z := 20) (i := 29) (k := 3) (vs := []) (by decide +kernel) (by decide +kernel) (by decide) rfl
theorem xs_82_75 : xe_P d 82 75 ls (.ref b :: .ref a :: st) h Q = ((xe_ob h a 6 ∧ b < xe_S) ∧ xe_P d 82 78 ls st (xe_sR h a 4 (some b)) Q) := xe_P_putR (i := 30) (by decide +kernel) (by decide +kernel) (by decide) (by decide +kernel) rfl
theorem xs_82_78 : xe_P d 82 78 [.ref a, l1] st h Q = xe_P d 82 79 [.ref a, l1] (.ref a :: st) h Q := xe_P_lo (ins := .aload_n 0) (len := 1) (by decide +kernel) rfl rfl
theorem xs_82_79 : xe_P d 82 79 ls st h Q = (xe_n h < xe_S ∧ xe_P d 82 82 ls (.ref (xe_n h) :: st) (xe_new h 5 10) Q) := xe_P_new (j := 34) (by decide +kernel) (by decide +kernel) (by decide)
theorem xs_82_82 : xe_P d 82 82 ls (.ref a :: st) h Q = xe_P d 82 83 ls (.ref a :: .ref a :: st) h Q := xe_P_ar (ins := .dup) (len := 1) (by decide +kernel) rfl
theorem xs_82_82i : xe_P d 82 82 ls (.int x :: st) h Q = xe_P d 82 83 ls (.int x :: .int x :: st) h Q := xe_P_ar (ins := .dup) (len := 1) (by decide +kernel) rfl
theorem xs_82_83 : xe_P d 82 83 ls (.ref a :: st) h Q = ((xe_w st ≤ 8 ∧ a < xe_n h ∧ xe_n h ≤ xe_S) ∧ xe_C d 70 [.ref a] h (fun r h' => xe_P d 82 86 ls (r.toList ++ st) h' Q)) := xe_P_ivi (y := 82) (pc := 83) (z := 70) (i := 36) (k := 3) (vs := []) (by decide +kernel) (by decide +kernel) (by decide) rfl
theorem xs_82_86 : xe_P d 82 86 ls (.ref b :: .ref a :: st) h Q = ((xe_ob h a 6 ∧ b < xe_S) ∧ xe_P d 82 89 ls st (xe_sR h a 5 (some b)) Q) := xe_P_putR (i := 37) (by decide +kernel) (by decide +kernel) (by decide) (by decide +kernel) rfl
theorem xs_82_89 : xe_P d 82 89 [.ref a, l1] st h Q = xe_P d 82 90 [.ref a, l1] (.ref a :: st) h Q := xe_P_lo (ins := .aload_n 0) (len := 1) (by decide +kernel) rfl rfl
theorem xs_82_90 : xe_P d 82 90 ls st h Q = (xe_n h < xe_S ∧ xe_P d 82 93 ls (.ref (xe_n h) :: st) (xe_new h 0 7) Q) := xe_P_new (j := 41) (by decide +kernel) (by decide +kernel) (by decide)
theorem xs_82_93 : xe_P d 82 93 ls (.ref a :: st) h Q = xe_P d 82 94 ls (.ref a :: .ref a :: st) h Q := xe_P_ar (ins := .dup) (len := 1) (by decide +kernel) rfl
theorem xs_82_93i : xe_P d 82 93 ls (.int x :: st) h Q = xe_P d 82 94 ls (.int x :: .int x :: st) h Q := xe_P_ar (ins := .dup) (len := 1) (by decide +kernel) rfl
theorem xs_82_94 : xe_P d 82 94 ls (.ref a :: st) h Q = ((xe_w st ≤ 8 ∧ a < xe_n h ∧ xe_n h ≤ xe_S) ∧ xe_C d 0 [.ref a] h (fun r h' => xe_P d 82 97 ls (r.toList ++ st) h' Q)) := xe_P_ivi (y := 82) (pc := 94) (z := 0) (i := 43) (k := 3) (vs := []) (by decide +kernel) (by decide +kernel) (by decide) rfl
theorem xs_82_97 : xe_P d 82 97 ls (.ref b :: .ref a :: st) h Q = ((xe_ob h a 6 ∧ b < xe_S) ∧ xe_P d 82 100 ls st (xe_sR h a 6 (some b)) Q) := xe_P_putR (i := 44) (by decide +kernel) (by decide +kernel) (by decide) (by decide +kernel) rfl
theorem xs_82_100 : xe_P d 82 100 [.ref a, l1] st h Q = xe_P d 82 101 [.ref a, l1] (.ref a :: st) h Q := xe_P_lo (ins := .aload_n 0) (len := 1) (by decide +kernel) rfl rfl
theorem xs_82_101 : xe_P d 82 101 ls st h Q = (xe_n h < xe_S ∧ xe_P d 82 104 ls (.ref (xe_n h) :: st) (xe_new h 4 13) Q) := xe_P_new (j := 48) (by decide +kernel) (by decide +kernel) (by decide)
theorem xs_82_104 : xe_P d 82 104 ls (.ref a :: st) h Q = xe_P d 82 105 ls (.ref a :: .ref a :: st) h Q := xe_P_ar (ins := .dup) (len := 1) (by decide +kernel) rfl
theorem xs_82_104i : xe_P d 82 104 ls (.int x :: st) h Q = xe_P d 82 105 ls (.int x :: .int x :: st) h Q := xe_P_ar (ins := .dup) (len := 1) (by decide +kernel) rfl
theorem xs_82_105 : xe_P d 82 105 ls (.ref a :: st) h Q = ((xe_w st ≤ 8 ∧ a < xe_n h ∧ xe_n h ≤ xe_S) ∧ xe_C d 58 [.ref a] h (fun r h' => xe_P d 82 108 ls (r.toList ++ st) h' Q)) := xe_P_ivi (y := 82) (pc := 105) (z := 58) (i := 50) (k := 3) (vs := []) (by decide +kernel) (by decide +kernel) (by decide) rfl
theorem xs_82_108 : xe_P d 82 108 ls (.ref b :: .ref a :: st) h Q = ((xe_ob h a 6 ∧ b < xe_S) ∧ xe_P d 82 111 ls st (xe_sR h a 7 (some b)) Q) := xe_P_putR (i := 51) (by decide +kernel) (by decide +kernel) (by decide) (by decide +kernel) rfl
theorem xs_82_111 : xe_P d 82 111 [.ref a, l1] st h Q = xe_P d 82 112 [.ref a, l1] (.ref a :: st) h Q := xe_P_lo (ins := .aload_n 0) (len := 1) (by decide +kernel) rfl rfl
theorem xs_82_112 : xe_P d 82 112 ls st h Q = (xe_n h < xe_S ∧ xe_P d 82 115 ls (.ref (xe_n h) :: st) (xe_new h 1 3) Q) := xe_P_new (j := 55) (by decide +kernel) (by decide +kernel) (by decide)
theorem xs_82_115 : xe_P d 82 115 ls (.ref a :: st) h Q = xe_P d 82 116 ls (.ref a :: .ref a :: st) h Q := xe_P_ar (ins := .dup) (len := 1) (by decide +kernel) rfl
theorem xs_82_115i : xe_P d 82 115 ls (.int x :: st) h Q = xe_P d 82 116 ls (.int x :: .int x :: st) h Q := xe_P_ar (ins := .dup) (len := 1) (by decide +kernel) rfl
theorem xs_82_116 : xe_P d 82 116 ls (.ref a :: st) h Q = ((xe_w st ≤ 8 ∧ a < xe_n h ∧ xe_n h ≤ xe_S) ∧ xe_C d 11 [.ref a] h (fun r h' => xe_P d 82 119 ls (r.toList ++ st) h' Q)) := xe_P_ivi (y := 82) (pc := 116) (z := 11) (i := 57) (k := 2) (vs := []) (by decide +kernel) (by decide +kernel) (by decide) rfl
theorem xs_82_119 : xe_P d 82 119 ls (.ref b :: .ref a :: st) h Q = ((xe_ob h a 6 ∧ b < xe_S) ∧ xe_P d 82 122 ls st (xe_sR h a 8 (some b)) Q) := xe_P_putR (i := 58) (by decide +kernel) (by decide +kernel) (by decide) (by decide +kernel) rfl
theorem xs_82_122 : xe_P d 82 122 [.ref a, l1] st h Q = xe_P d 82 123 [.ref a, l1] (.ref a :: st) h Q := xe_P_lo (ins := .aload_n 0) (len := 1) (by decide +kernel) rfl rfl
theorem xs_82_123 : xe_P d 82 123 ls st h Q = xe_P d 82 124 ls (.int 0 :: st) h Q := xe_P_ar (ins := .iconst 0) (len := 1) (by decide +kernel) rfl
theorem xs_82_124 : xe_P d 82 124 ls (.int v :: .ref a :: st) h Q = (xe_ob h a 6 ∧ xe_P d 82 127 ls st (xe_sI h a 9 v) Q) := xe_P_putI (i := 62) (by decide +kernel) (by decide +kernel) (by decide) (by decide +kernel) rfl
theorem xs_82_127 : xe_P d 82 127 ls [] h Q = Q none h := xe_P_vreturn (by decide +kernel) rfl
theorem xs_82 : xe_C (d + 1) 82 [.ref a] h Q = xe_P d 82 0 [.ref a, .retAddr 0] [] h Q := xe_C_at (Nat.le_of_ble_eq_true rfl) rfl
theorem xs_83_0 : xe_P d 83 0 [.ref a, l1, l2] st h Q = xe_P d 83 1 [.ref a, l1, l2] (.ref a :: st) h Q := xe_P_lo (ins := .aload_n 0) (len := 1) (by decide +kernel) rfl rfl
theorem xs_83_1 : xe_P d 83 1 ls (.ref a :: st) h Q = (xe_ob h a 6 ∧ xe_P d 83 4 ls (va_rf (xe_R h a 4) :: st) h Q) := xe_P_getR (i := 30) (by decide +kernel) (by decide +kernel) (by decide) rfl
theorem xs_83_4 : xe_P d 83 4 [l0, .long w, l2] st h Q = xe_P d 83 5 [l0, .long w, l2] (.long w :: st) h Q := xe_P_lo (ins := .lload_n 1) (len := 1) (by decide +kernel) rfl rfl
theorem xs_83_5 : xe_P d 83 5 ls (v0 :: .ref a :: st) h Q = ((xe_w st ≤ 8 ∧ xe_ob h a 2) ∧ xe_C d 21 [.ref a, v0] h (fun r h' => xe_P d 83 8 ls (r.toList ++ st) h' Q)) := xe_P_ivv (y := 83) (pc := 5) (z := 21) (i := 66) (vs := [v0]) (by decide +kernel) (by decide +kernel) rfl (by decide +kernel)
theorem xs_83_8 : xe_P d 83 8 ls [.int x] h Q = Q (some (.int x)) h := xe_P_ireturn (by decide +kernel) rfl
theorem xs_83 : xe_C (d + 1) 83 [.ref a, .long w0] h Q = xe_P d 83 0 [.ref a, .long w0, .retAddr 0] [] h Q := xe_C_at (Nat.le_of_ble_eq_true rfl) rfl
theorem xs_84_0 : xe_P d 84 0 [.ref a, l1] st h Q = xe_P d 84 1 [.ref a, l1] (.ref a :: st) h Q := xe_P_lo (ins := .aload_n 0) (len := 1) (by decide +kernel) rfl rfl
theorem xs_84_1 : xe_P d 84 1 ls (.ref a :: st) h Q = (xe_ob h a 6 ∧ xe_P d 84 4 ls (va_rf (xe_R h a 4) :: st) h Q) := xe_P_getR (i := 30) (by decide +kernel) (by decide +kernel) (by decide) rfl
theorem xs_84_4 : xe_P d 84 4 [l0, .int x] st h Q = xe_P d 84 5 [l0, .int x] (.int x :: st) h Q := xe_P_lo (ins := .iload_n 1) (len := 1) (by decide +kernel) rfl rfl
theorem xs_84_5 : xe_P d 84 5 ls (v0 :: .ref a :: st) h Q = ((xe_w st ≤ 8 ∧ xe_ob h a 2) ∧ xe_C d 22 [.ref a, v0] h (fun r h' => xe_P d 84 8 ls (r.toList ++ st) h' Q)) := xe_P_ivv (y := 84) (pc := 5) (z := 22) (i := 70) (vs := [v0]) (by decide +kernel) (by decide +kernel) rfl (by decide +kernel)
theorem xs_84_8 : xe_P d 84 8 ls [.int x] h Q = Q (some (.int x)) h := xe_P_ireturn (by decide +kernel) rfl
theorem xs_84 : xe_C (d + 1) 84 [.ref a, .int x0] h Q = xe_P d 84 0 [.ref a, .int x0] [] h Q := xe_C_at (Nat.le_of_ble_eq_true rfl) rfl
theorem xs_85_0 : xe_P d 85 0 [.ref a, l1] st h Q = xe_P d 85 1 [.ref a, l1] (.ref a :: st) h Q := xe_P_lo (ins := .aload_n 0) (len := 1) (by decide +kernel) rfl rfl
theorem xs_85_1 : xe_P d 85 1 ls (.ref a :: st) h Q = (xe_ob h a 6 ∧ xe_P d 85 4 ls (va_rf (xe_R h a 4) :: st) h Q) := xe_P_getR (i := 30) (by decide +kernel) (by decide +kernel) (by decide) rfl
theorem xs_85_4 : xe_P d 85 4 [.ref a, l1] st h Q = xe_P d 85 5 [.ref a, l1] (.ref a :: st) h Q := xe_P_lo (ins := .aload_n 0) (len := 1) (by decide +kernel) rfl rfl
theorem xs_85_5 : xe_P d 85 5 ls (.ref a :: st) h Q = (xe_ob h a 6 ∧ xe_P d 85 8 ls (va_rf (xe_R h a 1) :: st) h Q) := xe_P_getR (i := 16) (by decide +kernel) (by decide +kernel) (by decide) rfl
theorem xs_85_8 : xe_P d 85 8 ls (v0 :: .ref a :: st) h Q = ((xe_w st ≤ 8 ∧ xe_ob h a 2) ∧ xe_C d 23 [.ref a, v0] h (fun r h' => xe_P d 85 11 ls (r.toList ++ st) h' Q)) := xe_P_ivv (y := 85) (pc := 8) (z := 23) (i := 74) (vs := [v0]) (by decide +kernel) (by decide +kernel) rfl (by decide +kernel)
theorem xs_85_11 : xe_P d 85 11 [l0, l1] (.int x :: st) h Q = xe_P d 85 12 [xe_cut l0, .int x] st h Q := xe_P_lo (ins := .istore_n 1) (len := 1) (by decide +kernel) rfl rfl
theorem xs_85_12 : xe_P d 85 12 [l0, .int x] st h Q = xe_P d 85 13 [l0, .int x] (.int x :: st) h Q := xe_P_lo (ins := .iload_n 1) (len := 1) (by decide +kernel) rfl rfl
theorem xs_85_13 : xe_P d 85 13 ls (.int x :: st) h Q = (if x < 0 then xe_P d 85 49 ls st h Q else xe_P d 85 16 ls st h Q) := xe_P_if (ins := .ifCond .lt 36) (len := 3) (off := 36) (by decide +kernel) (by decide) rfl rfl rfl
theorem xs_85_16 : xe_P d 85 16 [.ref a, l1] st h Q = xe_P d 85 17 [.ref a, l1] (.ref a :: st) h Q := xe_P_lo (ins := .aload_n 0) (len := 1) (by decide +kernel) rfl rfl
theorem xs_85_17 : xe_P d 85 17 ls (.ref a :: st) h Q = (xe_ob h a 6 ∧ xe_P d 85 20 ls (va_rf (xe_R h a 0) :: st) h Q) := xe_P_getR (i := 10) (by decide +kernel) (by decide +kernel) (by decide) rfl
theorem xs_85_20 : xe_P d 85 20 [.ref a, l1] st h Q = xe_P d 85 21 [.ref a, l1] (.ref a :: st) h Q := xe_P_lo (ins := .aload_n 0) (len := 1) (by decide +kernel) rfl rfl
theorem xs_85_21 : xe_P d 85 21 ls (.ref a :: st) h Q = (xe_ob h a 6 ∧ xe_P d 85 24 ls (va_rf (xe_R h a 1) :: st) h Q) := xe_P_getR (i := 16) (by decide +kernel) (by decide +kernel) (by decide) rfl
theorem xs_85_24 : xe_P d 85 24 ls (v0 :: .ref a :: st) h Q = ((xe_w st ≤ 8 ∧ xe_ob h a 3) ∧ xe_C d 39 [.ref a, v0] h (fun r h' => xe_P d 85 27 ls (r.toList ++ st) h' Q)) := xe_P_ivv (y := 85) (pc := 24) (z := 39) (i := 78) (vs := [v0]) (by decide +kernel) (by decide +kernel) rfl (by decide +kernel)
theorem xs_85_27 : xe_P d 85 27 [.ref a, l1] st h Q = xe_P d 85 28 [.ref a, l1] (.ref a :: st) h Q := xe_P_lo (ins := .aload_n 0) (len := 1) (by decide +kernel) rfl rfl
theorem xs_85_28 : xe_P d 85 28 ls (.ref a :: st) h Q = (xe_ob h a 6 ∧ xe_P d 85 31 ls (va_rf (xe_R h a 7) :: st) h Q) := xe_P_getR (i := 51) (by decide +kernel) (by decide +kernel) (by decide) rfl
theorem xs_85_31 : xe_P d 85 31 ls st h Q = xe_P d 85 32 ls (.int 0 :: st) h Q := xe_P_ar (ins := .iconst 0) (len := 1) (by decide +kernel) rfl
theorem xs_85_32 : xe_P d 85 32 ls (.int v :: .ref a :: st) h Q = (xe_ob h a 4 ∧ xe_P d 85 35 ls st (xe_sI h a 0 v) Q) := xe_P_putI (i := 82) (by decide +kernel) (by decide +kernel) (by decide) (by decide +kernel) rfl
theorem xs_85_35 : xe_P d 85 35 [.ref a, l1] st h Q = xe_P d 85 36 [.ref a, l1] (.ref a :: st) h Q := xe_P_lo (ins := .aload_n 0) (len := 1) (by decide +kernel) rfl rfl
theorem xs_85_36 : xe_P d 85 36 ls (.ref a :: st) h Q = (xe_ob h a 6 ∧ xe_P d 85 39 ls (va_rf (xe_R h a 3) :: st) h Q) := xe_P_getR (i := 23) (by decide +kernel) (by decide +kernel) (by decide) rfl
theorem xs_85_39 : xe_P d 85 39 ls st h Q = xe_P d 85 40 ls (.int 0 :: st) h Q := xe_P_ar (ins := .iconst 0) (len := 1) (by decide +kernel) rfl
theorem xs_85_40 : xe_P d 85 40 ls st h Q = xe_P d 85 41 ls (.int 0 :: st) h Q := xe_P_ar (ins := .iconst 0) (len := 1) (by decide +kernel) rfl
theorem xs_85_41 (hT : xe_T h a = 10) : xe_P d 85 41 ls (.int x :: .int v :: .ref a :: st) h Q = ((xe_ob h a 10 ∧ xe_ix h a v) ∧ xe_P d 85 42 ls st (xe_sI h a v.toNatClampNeg x.toInt8.toInt32) Q) := xe_P_bastB (by decide +kernel) hT
theorem xs_85_41z (hT : xe_T h a = 11) : xe_P d 85 41 ls (.int x :: .int v :: .ref a :: st) h Q = ((xe_ob h a 11 ∧ xe_ix h a v ∧ (x = 0 ∨ x = 1)) ∧ xe_P d 85 42 ls st (xe_sI h a v.toNatClampNeg x) Q) := xe_P_bastZ (by decide +kernel) hT
theorem xs_85_42 : xe_P d 85 42 [.ref a, l1] st h Q = xe_P d 85 43 [.ref a, l1] (.ref a :: st) h Q := xe_P_lo (ins := .aload_n 0) (len := 1) (by decide +kernel) rfl rfl
theorem xs_85_43 : xe_P d 85 43 ls (.ref a :: st) h Q = (xe_ob h a 6 ∧ xe_P d 85 46 ls (va_rf (xe_R h a 3) :: st) h Q) := xe_P_getR (i := 23) (by decide +kernel) (by decide +kernel) (by decide) rfl
theorem xs_85_46 : xe_P d 85 46 ls st h Q = xe_P d 85 47 ls (.int 1 :: st) h Q := xe_P_ar (ins := .iconst 1) (len := 1) (by decide +kernel) rfl
theorem xs_85_47 : xe_P d 85 47 ls st h Q = xe_P d 85 48 ls (.int 0 :: st) h Q := xe_P_ar (ins := .iconst 0) (len := 1) (by decide +kernel) rfl
theorem xs_85_48 (hT : xe_T h a = 10) : xe_P d 85 48 ls (.int x :: .int v :: .ref a :: st) h Q = ((xe_ob h a 10 ∧ xe_ix h a v) ∧ xe_P d 85 49 ls st (xe_sI h a v.toNatClampNeg x.toInt8.toInt32) Q) := xe_P_bastB (by decide +kernel) hT
theorem xs_85_48z (hT : xe_T h a = 11) : xe_P d 85 48 ls (.int x :: .int v :: .ref a :: st) h Q = ((xe_ob h a 11 ∧ xe_ix h a v ∧ (x = 0 ∨ x = 1)) ∧ xe_P d 85 49 ls st (xe_sI h a v.toNatClampNeg x) Q) := xe_P_bastZ (by decide +kernel) hT
theorem xs_85_49 : xe_P d 85 49 [l0, .int x] st h Q = xe_P d 85 50 [l0, .int x] (.int x :: st) h Q := xe_P_lo (ins := .iload_n 1) (len := 1) (by decide +kernel) rfl rfl
theorem xs_85_50 : xe_P d 85 50 ls [.int x] h Q = Q (some (.int x)) h := xe_P_ireturn (by decide +kernel) rfl
theorem xs_85 : xe_C (d + 1) 85 [.ref a] h Q = xe_P d 85 0 [.ref a, .retAddr 0] [] h Q := xe_C_at (Nat.le_of_ble_eq_true rfl) rfl
theorem xs_86_0 : xe_P d 86 0 [.ref a] st h Q = xe_P d 86 1 [.ref a] (.ref a :: st) h Q := xe_P_lo (ins := .aload_n 0) (len := 1) (by decide +kernel) rfl rfl
theorem xs_86_1 : xe_P d 86 1 ls (.ref a :: st) h Q = (xe_ob h a 6 ∧ xe_P d 86 4 ls (va_rf (xe_R h a 4) :: st) h Q) := xe_P_getR (i := 30) (by decide +kernel) (by decide +kernel) (by decide) rfl
theorem xs_86_4 : xe_P d 86 4 ls (.ref a :: st) h Q = (xe_ob h a 2 ∧ xe_P d 86 7 ls (.int (xe_I h a 2) :: st) h Q) := xe_P_getI (i := 85) (by decide +kernel) (by decide +kernel) (by decide) rfl
theorem xs_86_7 : xe_P d 86 7 ls [.int x] h Q = Q (some (.int x)) h := xe_P_ireturn (by decide +kernel) rfl
theorem xs_86 : xe_C (d + 1) 86 [.ref a] h Q = xe_P d 86 0 [.ref a] [] h Q := xe_C_at (Nat.le_of_ble_eq_true rfl) rfl
theorem xs_87_0 : xe_P d 87 0 [l0, .int x] st h Q = xe_P d 87 1 [l0, .int x] (.int x :: st) h Q := xe_P_lo (ins := .iload_n 1) (len := 1) (by decide +kernel) rfl rfl
theorem xs_87_1 : xe_P d 87 1 ls (.int x :: st) h Q = (if x = 0 then xe_P d 87 40 ls st h Q else (if x = 1 then xe_P d 87 48 ls st h Q else (if x = 2 then xe_P d 87 56 ls st h Q else (if x = 3 then xe_P d 87 64 ls st h Q else (if x = 4 then xe_P d 87 72 ls st h Q else (if x = 5 then xe_P d 87 80 ls st h Q else xe_P d 87 88 ls st h Q)))))) := (xe_P_sw (dflt := 87) (hi := 5) (offs := #[39, 47, 55, 63, 71, 79]) (len := 39) (by decide +kernel) (by decide) (by decide)).trans rfl
theorem xs_87_40 : xe_P d 87 40 [.ref a, l1] st h Q = xe_P d 87 41 [.ref a, l1] (.ref a :: st) h Q := xe_P_lo (ins := .aload_n 0) (len := 1) (by decide +kernel) rfl rfl
theorem xs_87_41 : xe_P d 87 41 ls (.ref a :: st) h Q = (xe_ob h a 6 ∧ xe_P d 87 44 ls (va_rf (xe_R h a 0) :: st) h Q) := xe_P_getR (i := 10) (by decide +kernel) (by decide +kernel) (by decide) rfl
theorem xs_87_44 : xe_P d 87 44 ls (.ref a :: st) h Q = (xe_ob h a 3 ∧ xe_P d 87 47 ls (.int (xe_I h a 0) :: st) h Q) := xe_P_getI (i := 88) (by decide +kernel) (by decide +kernel) (by decide) rfl
theorem xs_87_47 : xe_P d 87 47 ls [.int x] h Q = Q (some (.int x)) h := xe_P_ireturn (by decide +kernel) rfl
theorem xs_87_48 : xe_P d 87 48 [.ref a, l1] st h Q = xe_P d 87 49 [.ref a, l1] (.ref a :: st) h Q := xe_P_lo (ins := .aload_n 0) (len := 1) (by decide +kernel) rfl rfl
theorem xs_87_49 : xe_P d 87 49 ls (.ref a :: st) h Q = (xe_ob h a 6 ∧ xe_P d 87 52 ls (va_rf (xe_R h a 0) :: st) h Q) := xe_P_getR (i := 10) (by decide +kernel) (by decide +kernel) (by decide) rfl
theorem xs_87_52 : xe_P d 87 52 ls (.ref a :: st) h Q = (xe_ob h a 3 ∧ xe_P d 87 55 ls (.int (xe_I h a 1) :: st) h Q) := xe_P_getI (i := 91) (by decide +kernel) (by decide +kernel) (by decide) rfl
theorem xs_87_55 : xe_P d 87 55 ls [.int x] h Q = Q (some (.int x)) h := xe_P_ireturn (by decide +kernel) rfl
theorem xs_87_56 : xe_P d 87 56 [.ref a, l1] st h Q = xe_P d 87 57 [.ref a, l1] (.ref a :: st) h Q := xe_P_lo (ins := .aload_n 0) (len := 1) (by decide +kernel) rfl rfl
theorem xs_87_57 : xe_P d 87 57 ls (.ref a :: st) h Q = (xe_ob h a 6 ∧ xe_P d 87 60 ls (va_rf (xe_R h a 0) :: st) h Q) := xe_P_getR (i := 10) (by decide +kernel) (by decide +kernel) (by decide) rfl
theorem xs_87_60 : xe_P d 87 60 ls (.ref a :: st) h Q = (xe_ob h a 3 ∧ xe_P d 87 63 ls (.int (xe_I h a 2) :: st) h Q) := xe_P_getI (i := 94) (by decide +kernel) (by decide +kernel) (by decide) rfl
theorem xs_87_63 : xe_P d 87 63 ls [.int x] h Q = Q (some (.int x)) h := xe_P_ireturn (by decide +kernel) rfl
theorem xs_87_64 : xe_P d 87 64 [.ref a, l1] st h Q = xe_P d 87 65 [.ref a, l1] (.ref a :: st) h Q := xe_P_lo (ins := .aload_n 0) (len := 1) (by decide +kernel) rfl rfl
theorem xs_87_65 : xe_P d 87 65 ls (.ref a :: st) h Q = (xe_ob h a 6 ∧ xe_P d 87 68 ls (va_rf (xe_R h a 0) :: st) h Q) := xe_P_getR (i := 10) (by decide +kernel) (by decide +kernel) (by decide) rfl
theorem xs_87_68 : xe_P d 87 68 ls (.ref a :: st) h Q = (xe_ob h a 3 ∧ xe_P d 87 71 ls (.int (xe_I h a 3) :: st) h Q) := xe_P_getI (i := 97) (by decide +kernel) (by decide +kernel) (by decide) rfl
theorem xs_87_71 : xe_P d 87 71 ls [.int x] h Q = Q (some (.int x)) h := xe_P_ireturn (by decide +kernel) rfl
theorem xs_87_72 : xe_P d 87 72 [.ref a, l1] st h Q = xe_P d 87 73 [.ref a, l1] (.ref a :: st) h Q := xe_P_lo (ins := .aload_n 0) (len := 1) (by decide +kernel) rfl rfl
theorem xs_87_73 : xe_P d 87 73 ls (.ref a :: st) h Q = (xe_ob h a 6 ∧ xe_P d 87 76 ls (va_rf (xe_R h a 0) :: st) h Q) := xe_P_getR (i := 10) (by decide +kernel) (by decide +kernel) (by decide) rfl
theorem xs_87_76 : xe_P d 87 76 ls (.ref a :: st) h Q = (xe_ob h a 3 ∧ xe_P d 87 79 ls (.int (xe_I h a 4) :: st) h Q) := xe_P_getI (i := 100) (by decide +kernel) (by decide +kernel) (by decide) rfl
theorem xs_87_79 : xe_P d 87 79 ls [.int x] h Q = Q (some (.int x)) h := xe_P_ireturn (by decide +kernel) rfl
theorem xs_87_80 : xe_P d 87 80 [.ref a, l1] st h Q = xe_P d 87 81 [.ref a, l1] (.ref a :: st) h Q := xe_P_lo (ins := .aload_n 0) (len := 1) (by decide +kernel) rfl rfl
theorem xs_87_81 : xe_P d 87 81 ls (.ref a :: st) h Q = (xe_ob h a 6 ∧ xe_P d 87 84 ls (va_rf (xe_R h a 0) :: st) h Q) := xe_P_getR (i := 10) (by decide +kernel) (by decide +kernel) (by decide) rfl
theorem xs_87_84 : xe_P d 87 84 ls (.ref a :: st) h Q = (xe_ob h a 3 ∧ xe_P d 87 87 ls (.int (xe_I h a 5) :: st) h Q) := xe_P_getI (i := 103) (by decide +kernel) (by decide +kernel) (by decide) rfl
theorem xs_87_87 : xe_P d 87 87 ls [.int x] h Q = Q (some (.int x)) h := xe_P_ireturn (by decide +kernel) rfl
theorem xs_87_88 : xe_P d 87 88 ls st h Q = xe_P d 87 89 ls (.int (-1) :: st) h Q := xe_P_ar (ins := .iconst (-1)) (len := 1) (by decide +kernel) rfl
theorem xs_87_89 : xe_P d 87 89 ls [.int x] h Q = Q (some (.int x)) h := xe_P_ireturn (by decide +kernel) rfl
theorem xs_87 : xe_C (d + 1) 87 [.ref a, .int x0] h Q = xe_P d 87 0 [.ref a, .int x0] [] h Q := xe_C_at (Nat.le_of_ble_eq_true rfl) rfl
theorem xs_88_0 : xe_P d 88 0 [.ref a, l1, l2] st h Q = xe_P d 88 1 [.ref a, l1, l2] (.ref a :: st) h Q := xe_P_lo (ins := .aload_n 0) (len := 1) (by decide +kernel) rfl rfl
theorem xs_88_1 : xe_P d 88 1 ls (.ref a :: st) h Q = (xe_ob h a 6 ∧ xe_P d 88 4 ls (va_rf (xe_R h a 0) :: st) h Q) := xe_P_getR (i := 10) (by decide +kernel) (by decide +kernel) (by decide) rfl
theorem xs_88_4 : xe_P d 88 4 [l0, .int x, l2] st h Q = xe_P d 88 5 [l0, .int x, l2] (.int x :: st) h Q := xe_P_lo (ins := .iload_n 1) (len := 1) (by decide +kernel) rfl rfl
theorem xs_88_5 : xe_P d 88 5 ls (v0 :: .ref a :: st) h Q = ((xe_w st ≤ 8 ∧ xe_ob h a 3) ∧ xe_C d 41 [.ref a, v0] h (fun r h' => xe_P d 88 8 ls (r.toList ++ st) h' Q)) := xe_P_ivv (y := 88) (pc := 5) (z := 41) (i := 106) (vs := [v0]) (by decide +kernel) (by decide +kernel) rfl (by decide +kernel)
theorem xs_88_8 : xe_P d 88 8 ls (.int x :: st) h Q = (if x = 0 then xe_P d 88 11 ls st h Q else xe_P d 88 13 ls st h Q) := xe_P_ifn (ins := .ifCond .ne 5) (len := 3) (off := 5) (by decide +kernel) (by decide) rfl rfl rfl
theorem xs_88_11 : xe_P d 88 11 ls st h Q = xe_P d 88 12 ls (.int (-1) :: st) h Q := xe_P_ar (ins := .iconst (-1)) (len := 1) (by decide +kernel) rfl
theorem xs_88_12 : xe_P d 88 12 ls [.int x] h Q = Q (some (.int x)) h := xe_P_ireturn (by decide +kernel) rfl
theorem xs_88_13 : xe_P d 88 13 [l0, l1, .int x] st h Q = xe_P d 88 14 [l0, l1, .int x] (.int x :: st) h Q := xe_P_lo (ins := .iload_n 2) (len := 1) (by decide +kernel) rfl rfl
theorem xs_88_14 : xe_P d 88 14 ls (.int x :: st) h Q = (if x = 0 then xe_P d 88 44 ls st h Q else (if x = 1 then xe_P d 88 54 ls st h Q else (if x = 2 then xe_P d 88 64 ls st h Q else (if x = 3 then xe_P d 88 77 ls st h Q else xe_P d 88 89 ls st h Q)))) := (xe_P_sw (dflt := 75) (hi := 3) (offs := #[30, 40, 50, 63]) (len := 30) (by decide +kernel) (by decide) (by decide)).trans rfl
theorem xs_88_44 : xe_P d 88 44 [.ref a, l1, l2] st h Q = xe_P d 88 45 [.ref a, l1, l2] (.ref a :: st) h Q := xe_P_lo (ins := .aload_n 0) (len := 1) (by decide +kernel) rfl rfl
theorem xs_88_45 : xe_P d 88 45 ls (.ref a :: st) h Q = (xe_ob h a 6 ∧ xe_P d 88 48 ls (va_rf (xe_R h a 0) :: st) h Q) := xe_P_getR (i := 10) (by decide +kernel) (by decide +kernel) (by decide) rfl
theorem xs_88_48 : xe_P d 88 48 ls (.ref a :: st) h Q = (xe_ob h a 3 ∧ xe_P d 88 51 ls (va_rf (xe_R h a 7) :: st) h Q) := xe_P_getR (i := 110) (by decide +kernel) (by decide +kernel) (by decide) rfl
theorem xs_88_51 : xe_P d 88 51 [l0, .int x, l2] st h Q = xe_P d 88 52 [l0, .int x, l2] (.int x :: st) h Q := xe_P_lo (ins := .iload_n 1) (len := 1) (by decide +kernel) rfl rfl
theorem xs_88_52 : xe_P d 88 52 ls (.int v :: .ref a :: st) h Q = ((xe_ia h a ∧ xe_ix h a v) ∧ xe_P d 88 53 ls (.int (xe_I h a v.toNatClampNeg) :: st) h Q) := xe_P_iald (by decide +kernel)
theorem xs_88_53 : xe_P d 88 53 ls [.int x] h Q = Q (some (.int x)) h := xe_P_ireturn (by decide +kernel) rfl
theorem xs_88_54 : xe_P d 88 54 [.ref a, l1, l2] st h Q = xe_P d 88 55 [.ref a, l1, l2] (.ref a :: st) h Q := xe_P_lo (ins := .aload_n 0) (len := 1) (by decide +kernel) rfl rfl
theorem xs_88_55 : xe_P d 88 55 ls (.ref a :: st) h Q = (xe_ob h a 6 ∧ xe_P d 88 58 ls (va_rf (xe_R h a 0) :: st) h Q) := xe_P_getR (i := 10) (by decide +kernel) (by decide +kernel) (by decide) rfl
theorem xs_88_58 : xe_P d 88 58 ls (.ref a :: st) h Q = (xe_ob h a 3 ∧ xe_P d 88 61 ls (va_rf (xe_R h a 8) :: st) h Q) := xe_P_getR (i := 114) (by decide +kernel) (by decide +kernel) (by decide) rfl
theorem xs_88_61 : xe_P d 88 61 [l0, .int x, l2] st h Q = xe_P d 88 62 [l0, .int x, l2] (.int x :: st) h Q := xe_P_lo (ins := .iload_n 1) (len := 1) (by decide +kernel) rfl rfl
theorem xs_88_62 : xe_P d 88 62 ls (.int v :: .ref a :: st) h Q = ((xe_ia h a ∧ xe_ix h a v) ∧ xe_P d 88 63 ls (.int (xe_I h a v.toNatClampNeg) :: st) h Q) := xe_P_iald (by decide +kernel)
theorem xs_88_63 : xe_P d 88 63 ls [.int x] h Q = Q (some (.int x)) h := xe_P_ireturn (by decide +kernel) rfl
theorem xs_88_64 : xe_P d 88 64 [.ref a, l1, l2] st h Q = xe_P d 88 65 [.ref a, l1, l2] (.ref a :: st) h Q := xe_P_lo (ins := .aload_n 0) (len := 1) (by decide +kernel) rfl rfl
theorem xs_88_65 : xe_P d 88 65 ls (.ref a :: st) h Q = (xe_ob h a 6 ∧ xe_P d 88 68 ls (va_rf (xe_R h a 0) :: st) h Q) := xe_P_getR (i := 10) (by decide +kernel) (by decide +kernel) (by decide) rfl
theorem xs_88_68 : xe_P d 88 68 ls (.ref a :: st) h Q = (xe_ob h a 3 ∧ xe_P d 88 71 ls (va_rf (xe_R h a 9) :: st) h Q) := xe_P_getR (i := 117) (by decide +kernel) (by decide +kernel) (by decide) rfl
theorem xs_88_71 : xe_P d 88 71 [l0, .int x, l2] st h Q = xe_P d 88 72 [l0, .int x, l2] (.int x :: st) h Q := xe_P_lo (ins := .iload_n 1) (len := 1) (by decide +kernel) rfl rfl
theorem xs_88_72 : xe_P d 88 72 ls (.int v :: .ref a :: st) h Q = ((xe_ia h a ∧ xe_ix h a v) ∧ xe_P d 88 73 ls (.int (xe_I h a v.toNatClampNeg) :: st) h Q) := xe_P_iald (by decide +kernel)
theorem xs_88_73 : xe_P d 88 73 ls (v0 :: st) h Q = (xe_w st ≤ 8 ∧ xe_C d 116 [v0] h (fun r h' => xe_P d 88 76 ls (r.toList ++ st) h' Q)) := xe_P_ivs (y := 88) (pc := 73) (z := 116) (i := 120) (vs := [v0]) (by decide +kernel) (by decide +kernel) rfl
theorem xs_88_76 : xe_P d 88 76 ls [.int x] h Q = Q (some (.int x)) h := xe_P_ireturn (by decide +kernel) rfl
theorem xs_88_77 : xe_P d 88 77 [.ref a, l1, l2] st h Q = xe_P d 88 78 [.ref a, l1, l2] (.ref a :: st) h Q := xe_P_lo (ins := .aload_n 0) (len := 1) (by decide +kernel) rfl rfl
theorem xs_88_78 : xe_P d 88 78 ls (.ref a :: st) h Q = (xe_ob h a 6 ∧ xe_P d 88 81 ls (va_rf (xe_R h a 0) :: st) h Q) := xe_P_getR (i := 10) (by decide +kernel) (by decide +kernel) (by decide) rfl
theorem xs_88_81 : xe_P d 88 81 ls (.ref a :: st) h Q = (xe_ob h a 3 ∧ xe_P d 88 84 ls (.int (xe_I h a 6) :: st) h Q) := xe_P_getI (i := 123) (by decide +kernel) (by decide +kernel) (by decide) rfl
theorem xs_88_84 : xe_P d 88 84 [l0, .int x, l2] st h Q = xe_P d 88 85 [l0, .int x, l2] (.int x :: st) h Q := xe_P_lo (ins := .iload_n 1) (len := 1) (by decide +kernel) rfl rfl
theorem xs_88_85 : xe_P d 88 85 ls (v1 :: v0 :: st) h Q = (xe_w st ≤ 8 ∧ xe_C d 43 [v0, v1] h (fun r h' => xe_P d 88 88 ls (r.toList ++ st) h' Q)) := xe_P_ivs (y := 88) (pc := 85) (z := 43) (i := 126) (vs := [v1, v0]) (by decide +kernel) (by decide +kernel) rfl
theorem xs_88_88 : xe_P d 88 88 ls [.int x] h Q = Q (some (.int x)) h := xe_P_ireturn (by decide +kernel) rfl
theorem xs_88_89 : xe_P d 88 89 ls st h Q = xe_P d 88 90 ls (.int (-1) :: st) h Q := xe_P_ar (ins := .iconst (-1)) (len := 1) (by decide +kernel) rfl
theorem xs_88_90 : xe_P d 88 90 ls [.int x] h Q = Q (some (.int x)) h := xe_P_ireturn (by decide +kernel) rfl
theorem xs_88 : xe_C (d + 1) 88 [.ref a, .int x0, .int x1] h Q = xe_P d 88 0 [.ref a, .int x0, .int x1] [] h Q := xe_C_at (Nat.le_of_ble_eq_true rfl) rfl
theorem xs_89_0 : xe_P d 89 0 [.ref a, l1, l2] st h Q = xe_P d 89 1 [.ref a, l1, l2] (.ref a :: st) h Q := xe_P_lo (ins := .aload_n 0) (len := 1) (by decide +kernel) rfl rfl
theorem xs_89_1 : xe_P d 89 1 ls (.ref a :: st) h Q = (xe_ob h a 6 ∧ xe_P d 89 4 ls (va_rf (xe_R h a 0) :: st) h Q) := xe_P_getR (i := 10) (by decide +kernel) (by decide +kernel) (by decide) rfl
theorem xs_89_4 : xe_P d 89 4 [l0, .int x, l2] st h Q = xe_P d 89 5 [l0, .int x, l2] (.int x :: st) h Q := xe_P_lo (ins := .iload_n 1) (len := 1) (by decide +kernel) rfl rfl
theorem xs_89_5 : xe_P d 89 5 ls (v0 :: .ref a :: st) h Q = ((xe_w st ≤ 8 ∧ xe_ob h a 3) ∧ xe_C d 42 [.ref a, v0] h (fun r h' => xe_P d 89 8 ls (r.toList ++ st) h' Q)) := xe_P_ivv (y := 89) (pc := 5) (z := 42) (i := 130) (vs := [v0]) (by decide +kernel) (by decide +kernel) rfl (by decide +kernel)
theorem xs_89_8 : xe_P d 89 8 ls (.int x :: st) h Q = (if x = 0 then xe_P d 89 11 ls st h Q else xe_P d 89 13 ls st h Q) := xe_P_ifn (ins := .ifCond .ne 5) (len := 3) (off := 5) (by decide +kernel) (by decide) rfl rfl rfl
theorem xs_89_11 : xe_P d 89 11 ls st h Q = xe_P d 89 12 ls (.int (-1) :: st) h Q := xe_P_ar (ins := .iconst (-1)) (len := 1) (by decide +kernel) rfl
theorem xs_89_12 : xe_P d 89 12 ls [.int x] h Q = Q (some (.int x)) h := xe_P_ireturn (by decide +kernel) rfl
theorem xs_89_13 : xe_P d 89 13 [l0, l1, .int x] st h Q = xe_P d 89 14 [l0, l1, .int x] (.int x :: st) h Q := xe_P_lo (ins := .iload_n 2) (len := 1) (by decide +kernel) rfl rfl
theorem xs_89_14 : xe_P d 89 14 ls (.int x :: st) h Q = (if x = 0 then xe_P d 89 40 ls st h Q else (if x = 1 then xe_P d 89 50 ls st h Q else (if x = 2 then xe_P d 89 60 ls st h Q else xe_P d 89 69 ls st h Q))) := (xe_P_sw (dflt := 55) (hi := 2) (offs := #[26, 36, 46]) (len := 26) (by decide +kernel) (by decide) (by decide)).trans rfl
theorem xs_89_40 : xe_P d 89 40 [.ref a, l1, l2] st h Q = xe_P d 89 41 [.ref a, l1, l2] (.ref a :: st) h Q := xe_P_lo (ins := .aload_n 0) (len := 1) (by decide +kernel) rfl rfl
theorem xs_89_41 : xe_P d 89 41 ls (.ref a :: st) h Q = (xe_ob h a 6 ∧ xe_P d 89 44 ls (va_rf (xe_R h a 0) :: st) h Q) := xe_P_getR (i := 10) (by decide +kernel) (by decide +kernel) (by decide) rfl
theorem xs_89_44 : xe_P d 89 44 ls (.ref a :: st) h Q = (xe_ob h a 3 ∧ xe_P d 89 47 ls (va_rf (xe_R h a 10) :: st) h Q) := xe_P_getR (i := 133) (by decide +kernel) (by decide +kernel) (by decide) rfl
theorem xs_89_47 : xe_P d 89 47 [l0, .int x, l2] st h Q = xe_P d 89 48 [l0, .int x, l2] (.int x :: st) h Q := xe_P_lo (ins := .iload_n 1) (len := 1) (by decide +kernel) rfl rfl
theorem xs_89_48 : xe_P d 89 48 ls (.int v :: .ref a :: st) h Q = ((xe_ia h a ∧ xe_ix h a v) ∧ xe_P d 89 49 ls (.int (xe_I h a v.toNatClampNeg) :: st) h Q) := xe_P_iald (by decide +kernel)
theorem xs_89_49 : xe_P d 89 49 ls [.int x] h Q = Q (some (.int x)) h := xe_P_ireturn (by decide +kernel) rfl
theorem xs_89_50 : xe_P d 89 50 [.ref a, l1, l2] st h Q = xe_P d 89 51 [.ref a, l1, l2] (.ref a :: st) h Q := xe_P_lo (ins := .aload_n 0) (len := 1) (by decide +kernel) rfl rfl
theorem xs_89_51 : xe_P d 89 51 ls (.ref a :: st) h Q = (xe_ob h a 6 ∧ xe_P d 89 54 ls (va_rf (xe_R h a 0) :: st) h Q) := xe_P_getR (i := 10) (by decide +kernel) (by decide +kernel) (by decide) rfl
theorem xs_89_54 : xe_P d 89 54 ls (.ref a :: st) h Q = (xe_ob h a 3 ∧ xe_P d 89 57 ls (va_rf (xe_R h a 11) :: st) h Q) := xe_P_getR (i := 136) (by decide +kernel) (by decide +kernel) (by decide) rfl
theorem xs_89_57 : xe_P d 89 57 [l0, .int x, l2] st h Q = xe_P d 89 58 [l0, .int x, l2] (.int x :: st) h Q := xe_P_lo (ins := .iload_n 1) (len := 1) (by decide +kernel) rfl rfl
theorem xs_89_58 : xe_P d 89 58 ls (.int v :: .ref a :: st) h Q = ((xe_ia h a ∧ xe_ix h a v) ∧ xe_P d 89 59 ls (.int (xe_I h a v.toNatClampNeg) :: st) h Q) := xe_P_iald (by decide +kernel)
theorem xs_89_59 : xe_P d 89 59 ls [.int x] h Q = Q (some (.int x)) h := xe_P_ireturn (by decide +kernel) rfl
theorem xs_89_60 : xe_P d 89 60 [.ref a, l1, l2] st h Q = xe_P d 89 61 [.ref a, l1, l2] (.ref a :: st) h Q := xe_P_lo (ins := .aload_n 0) (len := 1) (by decide +kernel) rfl rfl
theorem xs_89_61 : xe_P d 89 61 ls (.ref a :: st) h Q = (xe_ob h a 6 ∧ xe_P d 89 64 ls (va_rf (xe_R h a 0) :: st) h Q) := xe_P_getR (i := 10) (by decide +kernel) (by decide +kernel) (by decide) rfl
theorem xs_89_64 : xe_P d 89 64 [l0, .int x, l2] st h Q = xe_P d 89 65 [l0, .int x, l2] (.int x :: st) h Q := xe_P_lo (ins := .iload_n 1) (len := 1) (by decide +kernel) rfl rfl
theorem xs_89_65 : xe_P d 89 65 ls (v0 :: .ref a :: st) h Q = ((xe_w st ≤ 8 ∧ xe_ob h a 3) ∧ xe_C d 52 [.ref a, v0] h (fun r h' => xe_P d 89 68 ls (r.toList ++ st) h' Q)) := xe_P_ivv (y := 89) (pc := 65) (z := 52) (i := 139) (vs := [v0]) (by decide +kernel) (by decide +kernel) rfl (by decide +kernel)
theorem xs_89_68 : xe_P d 89 68 ls [.int x] h Q = Q (some (.int x)) h := xe_P_ireturn (by decide +kernel) rfl
theorem xs_89_69 : xe_P d 89 69 ls st h Q = xe_P d 89 70 ls (.int (-1) :: st) h Q := xe_P_ar (ins := .iconst (-1)) (len := 1) (by decide +kernel) rfl
theorem xs_89_70 : xe_P d 89 70 ls [.int x] h Q = Q (some (.int x)) h := xe_P_ireturn (by decide +kernel) rfl
theorem xs_89 : xe_C (d + 1) 89 [.ref a, .int x0, .int x1] h Q = xe_P d 89 0 [.ref a, .int x0, .int x1] [] h Q := xe_C_at (Nat.le_of_ble_eq_true rfl) rfl
theorem xs_90_0 : xe_P d 90 0 [l0, .int x, l2] st h Q = xe_P d 90 1 [l0, .int x, l2] (.int x :: st) h Q := xe_P_lo (ins := .iload_n 1) (len := 1) (by decide +kernel) rfl rfl
theorem xs_90_1 : xe_P d 90 1 ls (.int x :: st) h Q = (if x < 0 then xe_P d 90 9 ls st h Q else xe_P d 90 4 ls st h Q) := xe_P_if (ins := .ifCond .lt 8) (len := 3) (off := 8) (by decide +kernel) (by decide) rfl rfl rfl
theorem xs_90_4 : xe_P d 90 4 [l0, .int x, l2] st h Q = xe_P d 90 5 [l0, .int x, l2] (.int x :: st) h Q := xe_P_lo (ins := .iload_n 1) (len := 1) (by decide +kernel) rfl rfl
theorem xs_90_5 : xe_P d 90 5 ls st h Q = xe_P d 90 6 ls (.int 2 :: st) h Q := xe_P_ar (ins := .iconst 2) (len := 1) (by decide +kernel) rfl
theorem xs_90_6 : xe_P d 90 6 ls (.int v :: .int x :: st) h Q = (if x ≤ v then xe_P d 90 11 ls st h Q else xe_P d 90 9 ls st h Q) := xe_P_if (ins := .if_icmp .le 5) (len := 3) (off := 5) (by decide +kernel) (by decide) rfl rfl rfl
theorem xs_90_9 : xe_P d 90 9 ls st h Q = xe_P d 90 10 ls (.int (-1) :: st) h Q := xe_P_ar (ins := .iconst (-1)) (len := 1) (by decide +kernel) rfl
theorem xs_90_10 : xe_P d 90 10 ls [.int x] h Q = Q (some (.int x)) h := xe_P_ireturn (by decide +kernel) rfl
theorem xs_90_11 : xe_P d 90 11 [.ref a, l1, l2] st h Q = xe_P d 90 12 [.ref a, l1, l2] (.ref a :: st) h Q := xe_P_lo (ins := .aload_n 0) (len := 1) (by decide +kernel) rfl rfl
theorem xs_90_12 : xe_P d 90 12 ls (.ref a :: st) h Q = (xe_ob h a 6 ∧ xe_P d 90 15 ls (va_rf (xe_R h a 0) :: st) h Q) := xe_P_getR (i := 10) (by decide +kernel) (by decide +kernel) (by decide) rfl
theorem xs_90_15 : xe_P d 90 15 ls (.ref a :: st) h Q = (xe_ob h a 3 ∧ xe_P d 90 18 ls (.int (xe_I h a 3) :: st) h Q) := xe_P_getI (i := 97) (by decide +kernel) (by decide +kernel) (by decide) rfl
theorem xs_90_18 : xe_P d 90 18 [l0, l1, l2] (.int x :: st) h Q = xe_P d 90 19 [l0, xe_cut l1, .int x] st h Q := xe_P_lo (ins := .istore_n 2) (len := 1) (by decide +kernel) rfl rfl
theorem xs_90_19 : xe_P d 90 19 [.ref a, l1, l2] st h Q = xe_P d 90 20 [.ref a, l1, l2] (.ref a :: st) h Q := xe_P_lo (ins := .aload_n 0) (len := 1) (by decide +kernel) rfl rfl
theorem xs_90_20 : xe_P d 90 20 ls (.ref a :: st) h Q = (xe_ob h a 6 ∧ xe_P d 90 23 ls (va_rf (xe_R h a 0) :: st) h Q) := xe_P_getR (i := 10) (by decide +kernel) (by decide +kernel) (by decide) rfl
theorem xs_90_23 : xe_P d 90 23 [l0, .int x, l2] st h Q = xe_P d 90 24 [l0, .int x, l2] (.int x :: st) h Q := xe_P_lo (ins := .iload_n 1) (len := 1) (by decide +kernel) rfl rfl
theorem xs_90_24 : xe_P d 90 24 ls (.int v :: .ref a :: st) h Q = (xe_ob h a 3 ∧ xe_P d 90 27 ls st (xe_sI h a 3 v) Q) := xe_P_putI (i := 97) (by decide +kernel) (by decide +kernel) (by decide) (by decide +kernel) rfl
theorem xs_90_27 : xe_P d 90 27 [l0, l1, .int x] st h Q = xe_P d 90 28 [l0, l1, .int x] (.int x :: st) h Q := xe_P_lo (ins := .iload_n 2) (len := 1) (by decide +kernel) rfl rfl
theorem xs_90_28 : xe_P d 90 28 ls [.int x] h Q = Q (some (.int x)) h := xe_P_ireturn (by decide +kernel) rfl
theorem xs_90 : xe_C (d + 1) 90 [.ref a, .int x0] h Q = xe_P d 90 0 [.ref a, .int x0, .retAddr 0] [] h Q := xe_C_at (Nat.le_of_ble_eq_true rfl) rfl
theorem xs_91_0 : xe_P d 91 0 [l0, .int x, l2] st h Q = xe_P d 91 1 [l0, .int x, l2] (.int x :: st) h Q := xe_P_lo (ins := .iload_n 1) (len := 1) (by decide +kernel) rfl rfl
theorem xs_91_1 : xe_P d 91 1 ls st h Q = xe_P d 91 2 ls (.int 1 :: st) h Q := xe_P_ar (ins := .iconst 1) (len := 1) (by decide +kernel) rfl
theorem xs_91_2 : xe_P d 91 2 ls (.int v :: .int x :: st) h Q = (if x < v then xe_P d 91 10 ls st h Q else xe_P d 91 5 ls st h Q) := xe_P_if (ins := .if_icmp .lt 8) (len := 3) (off := 8) (by decide +kernel) (by decide) rfl rfl rfl
theorem xs_91_5 : xe_P d 91 5 [l0, .int x, l2] st h Q = xe_P d 91 6 [l0, .int x, l2] (.int x :: st) h Q := xe_P_lo (ins := .iload_n 1) (len := 1) (by decide +kernel) rfl rfl
theorem xs_91_6 : xe_P d 91 6 ls st h Q = xe_P d 91 7 ls (.int 3 :: st) h Q := xe_P_ar (ins := .iconst 3) (len := 1) (by decide +kernel) rfl
theorem xs_91_7 : xe_P d 91 7 ls (.int v :: .int x :: st) h Q = (if x ≤ v then xe_P d 91 12 ls st h Q else xe_P d 91 10 ls st h Q) := xe_P_if (ins := .if_icmp .le 5) (len := 3) (off := 5) (by decide +kernel) (by decide) rfl rfl rfl
theorem xs_91_10 : xe_P d 91 10 ls st h Q = xe_P d 91 11 ls (.int (-1) :: st) h Q := xe_P_ar (ins := .iconst (-1)) (len := 1) (by decide +kernel) rfl
theorem xs_91_11 : xe_P d 91 11 ls [.int x] h Q = Q (some (.int x)) h := xe_P_ireturn (by decide +kernel) rfl
theorem xs_91_12 : xe_P d 91 12 [.ref a, l1, l2] st h Q = xe_P d 91 13 [.ref a, l1, l2] (.ref a :: st) h Q := xe_P_lo (ins := .aload_n 0) (len := 1) (by decide +kernel) rfl rfl
theorem xs_91_13 : xe_P d 91 13 ls (.ref a :: st) h Q = (xe_ob h a 6 ∧ xe_P d 91 16 ls (va_rf (xe_R h a 0) :: st) h Q) := xe_P_getR (i := 10) (by decide +kernel) (by decide +kernel) (by decide) rfl
theorem xs_91_16 : xe_P d 91 16 ls (.ref a :: st) h Q = (xe_ob h a 3 ∧ xe_P d 91 19 ls (.int (xe_I h a 4) :: st) h Q) := xe_P_getI (i := 100) (by decide +kernel) (by decide +kernel) (by decide) rfl
theorem xs_91_19 : xe_P d 91 19 [l0, l1, l2] (.int x :: st) h Q = xe_P d 91 20 [l0, xe_cut l1, .int x] st h Q := xe_P_lo (ins := .istore_n 2) (len := 1) (by decide +kernel) rfl rfl
theorem xs_91_20 : xe_P d 91 20 [.ref a, l1, l2] st h Q = xe_P d 91 21 [.ref a, l1, l2] (.ref a :: st) h Q := xe_P_lo (ins := .aload_n 0) (len := 1) (by decide +kernel) rfl rfl
theorem xs_91_21 : xe_P d 91 21 ls (.ref a :: st) h Q = (xe_ob h a 6 ∧ xe_P d 91 24 ls (va_rf (xe_R h a 0) :: st) h Q) := xe_P_getR (i := 10) (by decide +kernel) (by decide +kernel) (by decide) rfl
theorem xs_91_24 : xe_P d 91 24 [l0, .int x, l2] st h Q = xe_P d 91 25 [l0, .int x, l2] (.int x :: st) h Q := xe_P_lo (ins := .iload_n 1) (len := 1) (by decide +kernel) rfl rfl
theorem xs_91_25 : xe_P d 91 25 ls (.int v :: .ref a :: st) h Q = (xe_ob h a 3 ∧ xe_P d 91 28 ls st (xe_sI h a 4 v) Q) := xe_P_putI (i := 100) (by decide +kernel) (by decide +kernel) (by decide) (by decide +kernel) rfl
theorem xs_91_28 : xe_P d 91 28 [l0, l1, .int x] st h Q = xe_P d 91 29 [l0, l1, .int x] (.int x :: st) h Q := xe_P_lo (ins := .iload_n 2) (len := 1) (by decide +kernel) rfl rfl
theorem xs_91_29 : xe_P d 91 29 ls [.int x] h Q = Q (some (.int x)) h := xe_P_ireturn (by decide +kernel) rfl
theorem xs_91 : xe_C (d + 1) 91 [.ref a, .int x0] h Q = xe_P d 91 0 [.ref a, .int x0, .retAddr 0] [] h Q := xe_C_at (Nat.le_of_ble_eq_true rfl) rfl
theorem xs_92_0 : xe_P d 92 0 [.ref a, l1, l2, l3] st h Q = xe_P d 92 1 [.ref a, l1, l2, l3] (.ref a :: st) h Q := xe_P_lo (ins := .aload_n 0) (len := 1) (by decide +kernel) rfl rfl
theorem xs_92_1 : xe_P d 92 1 ls (.ref a :: st) h Q = (xe_ob h a 6 ∧ xe_P d 92 4 ls (va_rf (xe_R h a 0) :: st) h Q) := xe_P_getR (i := 10) (by decide +kernel) (by decide +kernel) (by decide) rfl
theorem xs_92_4 : xe_P d 92 4 [l0, .int x, l2, l3] st h Q = xe_P d 92 5 [l0, .int x, l2, l3] (.int x :: st) h Q := xe_P_lo (ins := .iload_n 1) (len := 1) (by decide +kernel) rfl rfl
theorem xs_92_5 : xe_P d 92 5 ls (v0 :: .ref a :: st) h Q = ((xe_w st ≤ 8 ∧ xe_ob h a 3) ∧ xe_C d 41 [.ref a, v0] h (fun r h' => xe_P d 92 8 ls (r.toList ++ st) h' Q)) := xe_P_ivv (y := 92) (pc := 5) (z := 41) (i := 106) (vs := [v0]) (by decide +kernel) (by decide +kernel) rfl (by decide +kernel)
theorem xs_92_8 : xe_P d 92 8 ls (.int x :: st) h Q = (if x = 0 then xe_P d 92 33 ls st h Q else xe_P d 92 11 ls st h Q) := xe_P_if (ins := .ifCond .eq 25) (len := 3) (off := 25) (by decide +kernel) (by decide) rfl rfl rfl
theorem xs_92_11 : xe_P d 92 11 [l0, l1, .int x, l3] st h Q = xe_P d 92 12 [l0, l1, .int x, l3] (.int x :: st) h Q := xe_P_lo (ins := .iload_n 2) (len := 1) (by decide +kernel) rfl rfl
theorem xs_92_12 : xe_P d 92 12 [l0, .int x, l2, l3] st h Q = xe_P d 92 13 [l0, .int x, l2, l3] (.int x :: st) h Q := xe_P_lo (ins := .iload_n 1) (len := 1) (by decide +kernel) rfl rfl
theorem xs_92_13 : xe_P d 92 13 ls (.int v :: .int x :: st) h Q = (if x = v then xe_P d 92 33 ls st h Q else xe_P d 92 16 ls st h Q) := xe_P_if (ins := .if_icmp .eq 20) (len := 3) (off := 20) (by decide +kernel) (by decide) rfl rfl rfl
theorem xs_92_16 : xe_P d 92 16 [l0, l1, .int x, l3] st h Q = xe_P d 92 17 [l0, l1, .int x, l3] (.int x :: st) h Q := xe_P_lo (ins := .iload_n 2) (len := 1) (by decide +kernel) rfl rfl
theorem xs_92_17 : xe_P d 92 17 ls st h Q = xe_P d 92 19 ls (.int (-4) :: st) h Q := xe_P_ar (ins := .bipush (-4)) (len := 2) (by decide +kernel) rfl
theorem xs_92_19 : xe_P d 92 19 ls (.int v :: .int x :: st) h Q = (if x = v then xe_P d 92 35 ls st h Q else xe_P d 92 22 ls st h Q) := xe_P_if (ins := .if_icmp .eq 16) (len := 3) (off := 16) (by decide +kernel) (by decide) rfl rfl rfl
theorem xs_92_22 : xe_P d 92 22 [.ref a, l1, l2, l3] st h Q = xe_P d 92 23 [.ref a, l1, l2, l3] (.ref a :: st) h Q := xe_P_lo (ins := .aload_n 0) (len := 1) (by decide +kernel) rfl rfl
theorem xs_92_23 : xe_P d 92 23 ls (.ref a :: st) h Q = (xe_ob h a 6 ∧ xe_P d 92 26 ls (va_rf (xe_R h a 0) :: st) h Q) := xe_P_getR (i := 10) (by decide +kernel) (by decide +kernel) (by decide) rfl
theorem xs_92_26 : xe_P d 92 26 [l0, l1, .int x, l3] st h Q = xe_P d 92 27 [l0, l1, .int x, l3] (.int x :: st) h Q := xe_P_lo (ins := .iload_n 2) (len := 1) (by decide +kernel) rfl rfl
theorem xs_92_27 : xe_P d 92 27 ls (v0 :: .ref a :: st) h Q = ((xe_w st ≤ 8 ∧ xe_ob h a 3) ∧ xe_C d 41 [.ref a, v0] h (fun r h' => xe_P d 92 30 ls (r.toList ++ st) h' Q)) := xe_P_ivv (y := 92) (pc := 27) (z := 41) (i := 106) (vs := [v0]) (by decide +kernel) (by decide +kernel) rfl (by decide +kernel)
theorem xs_92_30 : xe_P d 92 30 ls (.int x :: st) h Q = (if x = 0 then xe_P d 92 33 ls st h Q else xe_P d 92 35 ls st h Q) := xe_P_ifn (ins := .ifCond .ne 5) (len := 3) (off := 5) (by decide +kernel) (by decide) rfl rfl rfl
theorem xs_92_33 : xe_P d 92 33 ls st h Q = xe_P d 92 34 ls (.int (-1) :: st) h Q := xe_P_ar (ins := .iconst (-1)) (len := 1) (by decide +kernel) rfl
theorem xs_92_34 : xe_P d 92 34 ls [.int x] h Q = Q (some (.int x)) h := xe_P_ireturn (by decide +kernel) rfl
theorem xs_92_35 : xe_P d 92 35 [.ref a, l1, l2, l3] st h Q = xe_P d 92 36 [.ref a, l1, l2, l3] (.ref a :: st) h Q := xe_P_lo (ins := .aload_n 0) (len := 1) (by decide +kernel) rfl rfl
theorem xs_92_36 : xe_P d 92 36 ls (.ref a :: st) h Q = (xe_ob h a 6 ∧ xe_P d 92 39 ls (va_rf (xe_R h a 0) :: st) h Q) := xe_P_getR (i := 10) (by decide +kernel) (by decide +kernel) (by decide) rfl
theorem xs_92_39 : xe_P d 92 39 ls (.ref a :: st) h Q = (xe_ob h a 3 ∧ xe_P d 92 42 ls (va_rf (xe_R h a 9) :: st) h Q) := xe_P_getR (i := 117) (by decide +kernel) (by decide +kernel) (by decide) rfl
theorem xs_92_42 : xe_P d 92 42 [l0, .int x, l2, l3] st h Q = xe_P d 92 43 [l0, .int x, l2, l3] (.int x :: st) h Q := xe_P_lo (ins := .iload_n 1) (len := 1) (by decide +kernel) rfl rfl
theorem xs_92_43 : xe_P d 92 43 ls (.int v :: .ref a :: st) h Q = ((xe_ia h a ∧ xe_ix h a v) ∧ xe_P d 92 44 ls (.int (xe_I h a v.toNatClampNeg) :: st) h Q) := xe_P_iald (by decide +kernel)
theorem xs_92_44 : xe_P d 92 44 [l0, l1, l2, l3] (.int x :: st) h Q = xe_P d 92 45 [l0, l1, xe_cut l2, .int x] st h Q := xe_P_lo (ins := .istore_n 3) (len := 1) (by decide +kernel) rfl rfl
theorem xs_92_45 : xe_P d 92 45 [.ref a, l1, l2, l3] st h Q = xe_P d 92 46 [.ref a, l1, l2, l3] (.ref a :: st) h Q := xe_P_lo (ins := .aload_n 0) (len := 1) (by decide +kernel) rfl rfl
theorem xs_92_46 : xe_P d 92 46 ls (.ref a :: st) h Q = (xe_ob h a 6 ∧ xe_P d 92 49 ls (va_rf (xe_R h a 0) :: st) h Q) := xe_P_getR (i := 10) (by decide +kernel) (by decide +kernel) (by decide) rfl
theorem xs_92_49 : xe_P d 92 49 ls (.ref a :: st) h Q = (xe_ob h a 3 ∧ xe_P d 92 52 ls (va_rf (xe_R h a 9) :: st) h Q) := xe_P_getR (i := 117) (by decide +kernel) (by decide +kernel) (by decide) rfl
theorem xs_92_52 : xe_P d 92 52 [l0, .int x, l2, l3] st h Q = xe_P d 92 53 [l0, .int x, l2, l3] (.int x :: st) h Q := xe_P_lo (ins := .iload_n 1) (len := 1) (by decide +kernel) rfl rfl
theorem xs_92_53 : xe_P d 92 53 [l0, l1, .int x, l3] st h Q = xe_P d 92 54 [l0, l1, .int x, l3] (.int x :: st) h Q := xe_P_lo (ins := .iload_n 2) (len := 1) (by decide +kernel) rfl rfl
theorem xs_92_54 : xe_P d 92 54 ls st h Q = xe_P d 92 56 ls (.int (-4) :: st) h Q := xe_P_ar (ins := .bipush (-4)) (len := 2) (by decide +kernel) rfl
theorem xs_92_56 : xe_P d 92 56 ls (.int v :: .int x :: st) h Q = (if x = v then xe_P d 92 59 ls st h Q else xe_P d 92 64 ls st h Q) := xe_P_ifn (ins := .if_icmp .ne 8) (len := 3) (off := 8) (by decide +kernel) (by decide) rfl rfl rfl
theorem xs_92_59 : xe_P d 92 59 ls st h Q = xe_P d 92 61 ls (.int 6 :: st) h Q := xe_P_ar (ins := .bipush 6) (len := 2) (by decide +kernel) rfl
theorem xs_92_61 : xe_P d 92 61 ls st h Q = xe_P d 92 65 ls st h Q := xe_P_go (len := 3) (off := 4) (by decide +kernel) (by decide)
theorem xs_92_64 : xe_P d 92 64 [l0, l1, .int x, l3] st h Q = xe_P d 92 65 [l0, l1, .int x, l3] (.int x :: st) h Q := xe_P_lo (ins := .iload_n 2) (len := 1) (by decide +kernel) rfl rfl
theorem xs_92_65 : xe_P d 92 65 ls (.int x :: .int v :: .ref a :: st) h Q = ((xe_ob h a 8 ∧ xe_ix h a v) ∧ xe_P d 92 66 ls st (xe_sI h a v.toNatClampNeg x) Q) := xe_P_iast (by decide +kernel)
theorem xs_92_66 : xe_P d 92 66 [l0, l1, l2, .int x] st h Q = xe_P d 92 67 [l0, l1, l2, .int x] (.int x :: st) h Q := xe_P_lo (ins := .iload_n 3) (len := 1) (by decide +kernel) rfl rfl
theorem xs_92_67 : xe_P d 92 67 ls (v0 :: st) h Q = (xe_w st ≤ 8 ∧ xe_C d 116 [v0] h (fun r h' => xe_P d 92 70 ls (r.toList ++ st) h' Q)) := xe_P_ivs (y := 92) (pc := 67) (z := 116) (i := 120) (vs := [v0]) (by decide +kernel) (by decide +kernel) rfl
theorem xs_92_70 : xe_P d 92 70 ls [.int x] h Q = Q (some (.int x)) h := xe_P_ireturn (by decide +kernel) rfl
theorem xs_92 : xe_C (d + 1) 92 [.ref a, .int x0, .int x1] h Q = xe_P d 92 0 [.ref a, .int x0, .int x1, .retAddr 0] [] h Q := xe_C_at (Nat.le_of_ble_eq_true rfl) rfl
theorem xs_93_0 : xe_P d 93 0 [.ref a, l1, l2, l3] st h Q = xe_P d 93 1 [.ref a, l1, l2, l3] (.ref a :: st) h Q := xe_P_lo (ins := .aload_n 0) (len := 1) (by decide +kernel) rfl rfl
theorem xs_93_1 : xe_P d 93 1 ls (.ref a :: st) h Q = (xe_ob h a 6 ∧ xe_P d 93 4 ls (va_rf (xe_R h a 0) :: st) h Q) := xe_P_getR (i := 10) (by decide +kernel) (by decide +kernel) (by decide) rfl
theorem xs_93_4 : xe_P d 93 4 [l0, .int x, l2, l3] st h Q = xe_P d 93 5 [l0, .int x, l2, l3] (.int x :: st) h Q := xe_P_lo (ins := .iload_n 1) (len := 1) (by decide +kernel) rfl rfl
theorem xs_93_5 : xe_P d 93 5 ls (v0 :: .ref a :: st) h Q = ((xe_w st ≤ 8 ∧ xe_ob h a 3) ∧ xe_C d 41 [.ref a, v0] h (fun r h' => xe_P d 93 8 ls (r.toList ++ st) h' Q)) := xe_P_ivv (y := 93) (pc := 5) (z := 41) (i := 106) (vs := [v0]) (by decide +kernel) (by decide +kernel) rfl (by decide +kernel)
theorem xs_93_8 : xe_P d 93 8 ls (.int x :: st) h Q = (if x = 0 then xe_P d 93 20 ls st h Q else xe_P d 93 11 ls st h Q) := xe_P_if (ins := .ifCond .eq 12) (len := 3) (off := 12) (by decide +kernel) (by decide) rfl rfl rfl
theorem xs_93_11 : xe_P d 93 11 [l0, l1, .int x, l3] st h Q = xe_P d 93 12 [l0, l1, .int x, l3] (.int x :: st) h Q := xe_P_lo (ins := .iload_n 2) (len := 1) (by decide +kernel) rfl rfl
theorem xs_93_12 : xe_P d 93 12 ls (.int x :: st) h Q = (if x < 0 then xe_P d 93 20 ls st h Q else xe_P d 93 15 ls st h Q) := xe_P_if (ins := .ifCond .lt 8) (len := 3) (off := 8) (by decide +kernel) (by decide) rfl rfl rfl
theorem xs_93_15 : xe_P d 93 15 [l0, l1, .int x, l3] st h Q = xe_P d 93 16 [l0, l1, .int x, l3] (.int x :: st) h Q := xe_P_lo (ins := .iload_n 2) (len := 1) (by decide +kernel) rfl rfl
theorem xs_93_16 : xe_P d 93 16 ls st h Q = xe_P d 93 17 ls (.int 3 :: st) h Q := xe_P_ar (ins := .iconst 3) (len := 1) (by decide +kernel) rfl
theorem xs_93_17 : xe_P d 93 17 ls (.int v :: .int x :: st) h Q = (if x ≤ v then xe_P d 93 22 ls st h Q else xe_P d 93 20 ls st h Q) := xe_P_if (ins := .if_icmp .le 5) (len := 3) (off := 5) (by decide +kernel) (by decide) rfl rfl rfl
theorem xs_93_20 : xe_P d 93 20 ls st h Q = xe_P d 93 21 ls (.int (-1) :: st) h Q := xe_P_ar (ins := .iconst (-1)) (len := 1) (by decide +kernel) rfl
theorem xs_93_21 : xe_P d 93 21 ls [.int x] h Q = Q (some (.int x)) h := xe_P_ireturn (by decide +kernel) rfl
theorem xs_93_22 : xe_P d 93 22 [.ref a, l1, l2, l3] st h Q = xe_P d 93 23 [.ref a, l1, l2, l3] (.ref a :: st) h Q := xe_P_lo (ins := .aload_n 0) (len := 1) (by decide +kernel) rfl rfl
theorem xs_93_23 : xe_P d 93 23 ls (.ref a :: st) h Q = (xe_ob h a 6 ∧ xe_P d 93 26 ls (va_rf (xe_R h a 0) :: st) h Q) := xe_P_getR (i := 10) (by decide +kernel) (by decide +kernel) (by decide) rfl
theorem xs_93_26 : xe_P d 93 26 ls (.ref a :: st) h Q = (xe_ob h a 3 ∧ xe_P d 93 29 ls (.int (xe_I h a 6) :: st) h Q) := xe_P_getI (i := 123) (by decide +kernel) (by decide +kernel) (by decide) rfl
theorem xs_93_29 : xe_P d 93 29 [l0, .int x, l2, l3] st h Q = xe_P d 93 30 [l0, .int x, l2, l3] (.int x :: st) h Q := xe_P_lo (ins := .iload_n 1) (len := 1) (by decide +kernel) rfl rfl
theorem xs_93_30 : xe_P d 93 30 ls (v1 :: v0 :: st) h Q = (xe_w st ≤ 8 ∧ xe_C d 43 [v0, v1] h (fun r h' => xe_P d 93 33 ls (r.toList ++ st) h' Q)) := xe_P_ivs (y := 93) (pc := 30) (z := 43) (i := 126) (vs := [v1, v0]) (by decide +kernel) (by decide +kernel) rfl
theorem xs_93_33 : xe_P d 93 33 [l0, l1, l2, l3] (.int x :: st) h Q = xe_P d 93 34 [l0, l1, xe_cut l2, .int x] st h Q := xe_P_lo (ins := .istore_n 3) (len := 1) (by decide +kernel) rfl rfl
theorem xs_93_34 : xe_P d 93 34 [.ref a, l1, l2, l3] st h Q = xe_P d 93 35 [.ref a, l1, l2, l3] (.ref a :: st) h Q := xe_P_lo (ins := .aload_n 0) (len := 1) (by decide +kernel) rfl rfl
theorem xs_93_35 : xe_P d 93 35 ls (.ref a :: st) h Q = (xe_ob h a 6 ∧ xe_P d 93 38 ls (va_rf (xe_R h a 0) :: st) h Q) := xe_P_getR (i := 10) (by decide +kernel) (by decide +kernel) (by decide) rfl
theorem xs_93_38 : xe_P d 93 38 [.ref a, l1, l2, l3] st h Q = xe_P d 93 39 [.ref a, l1, l2, l3] (.ref a :: st) h Q := xe_P_lo (ins := .aload_n 0) (len := 1) (by decide +kernel) rfl rfl
theorem xs_93_39 : xe_P d 93 39 ls (.ref a :: st) h Q = (xe_ob h a 6 ∧ xe_P d 93 42 ls (va_rf (xe_R h a 0) :: st) h Q) := xe_P_getR (i := 10) (by decide +kernel) (by decide +kernel) (by decide) rfl
theorem xs_93_42 : xe_P d 93 42 ls (.ref a :: st) h Q = (xe_ob h a 3 ∧ xe_P d 93 45 ls (.int (xe_I h a 6) :: st) h Q) := xe_P_getI (i := 123) (by decide +kernel) (by decide +kernel) (by decide) rfl
theorem xs_93_45 : xe_P d 93 45 [l0, .int x, l2, l3] st h Q = xe_P d 93 46 [l0, .int x, l2, l3] (.int x :: st) h Q := xe_P_lo (ins := .iload_n 1) (len := 1) (by decide +kernel) rfl rfl
theorem xs_93_46 : xe_P d 93 46 [l0, l1, .int x, l3] st h Q = xe_P d 93 47 [l0, l1, .int x, l3] (.int x :: st) h Q := xe_P_lo (ins := .iload_n 2) (len := 1) (by decide +kernel) rfl rfl
theorem xs_93_47 : xe_P d 93 47 ls (v2 :: v1 :: v0 :: st) h Q = (xe_w st ≤ 8 ∧ xe_C d 44 [v0, v1, v2] h (fun r h' => xe_P d 93 50 ls (r.toList ++ st) h' Q)) := xe_P_ivs (y := 93) (pc := 47) (z := 44) (i := 142) (vs := [v2, v1, v0]) (by decide +kernel) (by decide +kernel) rfl
theorem xs_93_50 : xe_P d 93 50 ls (.int v :: .ref a :: st) h Q = (xe_ob h a 3 ∧ xe_P d 93 53 ls st (xe_sI h a 6 v) Q) := xe_P_putI (i := 123) (by decide +kernel) (by decide +kernel) (by decide) (by decide +kernel) rfl
theorem xs_93_53 : xe_P d 93 53 [l0, l1, l2, .int x] st h Q = xe_P d 93 54 [l0, l1, l2, .int x] (.int x :: st) h Q := xe_P_lo (ins := .iload_n 3) (len := 1) (by decide +kernel) rfl rfl
theorem xs_93_54 : xe_P d 93 54 ls [.int x] h Q = Q (some (.int x)) h := xe_P_ireturn (by decide +kernel) rfl
theorem xs_93 : xe_C (d + 1) 93 [.ref a, .int x0, .int x1] h Q = xe_P d 93 0 [.ref a, .int x0, .int x1, .retAddr 0] [] h Q := xe_C_at (Nat.le_of_ble_eq_true rfl) rfl
theorem xs_94_0 : xe_P d 94 0 [.ref a, l1, l2, l3, l4] st h Q = xe_P d 94 1 [.ref a, l1, l2, l3, l4] (.ref a :: st) h Q := xe_P_lo (ins := .aload_n 0) (len := 1) (by decide +kernel) rfl rfl
theorem xs_94_1 : xe_P d 94 1 ls (.ref a :: st) h Q = (xe_ob h a 6 ∧ xe_P d 94 4 ls (va_rf (xe_R h a 0) :: st) h Q) := xe_P_getR (i := 10) (by decide +kernel) (by decide +kernel) (by decide) rfl
theorem xs_94_4 : xe_P d 94 4 [l0, .int x, l2, l3, l4] st h Q = xe_P d 94 5 [l0, .int x, l2, l3, l4] (.int x :: st) h Q := xe_P_lo (ins := .iload_n 1) (len := 1) (by decide +kernel) rfl rfl
theorem xs_94_5 : xe_P d 94 5 ls (v0 :: .ref a :: st) h Q = ((xe_w st ≤ 8 ∧ xe_ob h a 3) ∧ xe_C d 42 [.ref a, v0] h (fun r h' => xe_P d 94 8 ls (r.toList ++ st) h' Q)) := xe_P_ivv (y := 94) (pc := 5) (z := 42) (i := 130) (vs := [v0]) (by decide +kernel) (by decide +kernel) rfl (by decide +kernel)
theorem xs_94_8 : xe_P d 94 8 ls (.int x :: st) h Q = (if x = 0 then xe_P d 94 33 ls st h Q else xe_P d 94 11 ls st h Q) := xe_P_if (ins := .ifCond .eq 25) (len := 3) (off := 25) (by decide +kernel) (by decide) rfl rfl rfl
theorem xs_94_11 : xe_P d 94 11 [.ref a, l1, l2, l3, l4] st h Q = xe_P d 94 12 [.ref a, l1, l2, l3, l4] (.ref a :: st) h Q := xe_P_lo (ins := .aload_n 0) (len := 1) (by decide +kernel) rfl rfl
theorem xs_94_12 : xe_P d 94 12 ls (.ref a :: st) h Q = (xe_ob h a 6 ∧ xe_P d 94 15 ls (va_rf (xe_R h a 0) :: st) h Q) := xe_P_getR (i := 10) (by decide +kernel) (by decide +kernel) (by decide) rfl
theorem xs_94_15 : xe_P d 94 15 [l0, l1, .int x, l3, l4] st h Q = xe_P d 94 16 [l0, l1, .int x, l3, l4] (.int x :: st) h Q := xe_P_lo (ins := .iload_n 2) (len := 1) (by decide +kernel) rfl rfl
theorem xs_94_16 : xe_P d 94 16 ls (v0 :: .ref a :: st) h Q = ((xe_w st ≤ 8 ∧ xe_ob h a 3) ∧ xe_C d 40 [.ref a, v0] h (fun r h' => xe_P d 94 19 ls (r.toList ++ st) h' Q)) := xe_P_ivv (y := 94) (pc := 16) (z := 40) (i := 146) (vs := [v0]) (by decide +kernel) (by decide +kernel) rfl (by decide +kernel)
theorem xs_94_19 : xe_P d 94 19 ls (.int x :: st) h Q = (if x = 0 then xe_P d 94 33 ls st h Q else xe_P d 94 22 ls st h Q) := xe_P_if (ins := .ifCond .eq 14) (len := 3) (off := 14) (by decide +kernel) (by decide) rfl rfl rfl
theorem xs_94_22 : xe_P d 94 22 [.ref a, l1, l2, l3, l4] st h Q = xe_P d 94 23 [.ref a, l1, l2, l3, l4] (.ref a :: st) h Q := xe_P_lo (ins := .aload_n 0) (len := 1) (by decide +kernel) rfl rfl
theorem xs_94_23 : xe_P d 94 23 ls (.ref a :: st) h Q = (xe_ob h a 6 ∧ xe_P d 94 26 ls (va_rf (xe_R h a 0) :: st) h Q) := xe_P_getR (i := 10) (by decide +kernel) (by decide +kernel) (by decide) rfl
theorem xs_94_26 : xe_P d 94 26 [l0, l1, l2, .int x, l4] st h Q = xe_P d 94 27 [l0, l1, l2, .int x, l4] (.int x :: st) h Q := xe_P_lo (ins := .iload_n 3) (len := 1) (by decide +kernel) rfl rfl
theorem xs_94_27 : xe_P d 94 27 ls (v0 :: .ref a :: st) h Q = ((xe_w st ≤ 8 ∧ xe_ob h a 3) ∧ xe_C d 40 [.ref a, v0] h (fun r h' => xe_P d 94 30 ls (r.toList ++ st) h' Q)) := xe_P_ivv (y := 94) (pc := 27) (z := 40) (i := 146) (vs := [v0]) (by decide +kernel) (by decide +kernel) rfl (by decide +kernel)
theorem xs_94_30 : xe_P d 94 30 ls (.int x :: st) h Q = (if x = 0 then xe_P d 94 33 ls st h Q else xe_P d 94 35 ls st h Q) := xe_P_ifn (ins := .ifCond .ne 5) (len := 3) (off := 5) (by decide +kernel) (by decide) rfl rfl rfl
theorem xs_94_33 : xe_P d 94 33 ls st h Q = xe_P d 94 34 ls (.int (-1) :: st) h Q := xe_P_ar (ins := .iconst (-1)) (len := 1) (by decide +kernel) rfl
theorem xs_94_34 : xe_P d 94 34 ls [.int x] h Q = Q (some (.int x)) h := xe_P_ireturn (by decide +kernel) rfl
theorem xs_94_35 : xe_P d 94 35 [.ref a, l1, l2, l3, l4] st h Q = xe_P d 94 36 [.ref a, l1, l2, l3, l4] (.ref a :: st) h Q := xe_P_lo (ins := .aload_n 0) (len := 1) (by decide +kernel) rfl rfl
theorem xs_94_36 : xe_P d 94 36 ls (.ref a :: st) h Q = (xe_ob h a 6 ∧ xe_P d 94 39 ls (va_rf (xe_R h a 0) :: st) h Q) := xe_P_getR (i := 10) (by decide +kernel) (by decide +kernel) (by decide) rfl
theorem xs_94_39 : xe_P d 94 39 ls (.ref a :: st) h Q = (xe_ob h a 3 ∧ xe_P d 94 42 ls (va_rf (xe_R h a 10) :: st) h Q) := xe_P_getR (i := 133) (by decide +kernel) (by decide +kernel) (by decide) rfl
theorem xs_94_42 : xe_P d 94 42 [l0, .int x, l2, l3, l4] st h Q = xe_P d 94 43 [l0, .int x, l2, l3, l4] (.int x :: st) h Q := xe_P_lo (ins := .iload_n 1) (len := 1) (by decide +kernel) rfl rfl
theorem xs_94_43 : xe_P d 94 43 ls (.int v :: .ref a :: st) h Q = ((xe_ia h a ∧ xe_ix h a v) ∧ xe_P d 94 44 ls (.int (xe_I h a v.toNatClampNeg) :: st) h Q) := xe_P_iald (by decide +kernel)
theorem xs_94_44 : xe_P d 94 44 [l0, l1, l2, l3, l4] (.int x :: st) h Q = xe_P d 94 46 [l0, l1, l2, xe_cut l3, .int x] st h Q := xe_P_lo (ins := .istore 4) (len := 2) (by decide +kernel) rfl rfl
theorem xs_94_46 : xe_P d 94 46 [.ref a, l1, l2, l3, l4] st h Q = xe_P d 94 47 [.ref a, l1, l2, l3, l4] (.ref a :: st) h Q := xe_P_lo (ins := .aload_n 0) (len := 1) (by decide +kernel) rfl rfl
theorem xs_94_47 : xe_P d 94 47 ls (.ref a :: st) h Q = (xe_ob h a 6 ∧ xe_P d 94 50 ls (va_rf (xe_R h a 0) :: st) h Q) := xe_P_getR (i := 10) (by decide +kernel) (by decide +kernel) (by decide) rfl
theorem xs_94_50 : xe_P d 94 50 ls (.ref a :: st) h Q = (xe_ob h a 3 ∧ xe_P d 94 53 ls (va_rf (xe_R h a 10) :: st) h Q) := xe_P_getR (i := 133) (by decide +kernel) (by decide +kernel) (by decide) rfl
theorem xs_94_53 : xe_P d 94 53 [l0, .int x, l2, l3, l4] st h Q = xe_P d 94 54 [l0, .int x, l2, l3, l4] (.int x :: st) h Q := xe_P_lo (ins := .iload_n 1) (len := 1) (by decide +kernel) rfl rfl
theorem xs_94_54 : xe_P d 94 54 [l0, l1, .int x, l3, l4] st h Q = xe_P d 94 55 [l0, l1, .int x, l3, l4] (.int x :: st) h Q := xe_P_lo (ins := .iload_n 2) (len := 1) (by decide +kernel) rfl rfl
theorem xs_94_55 : xe_P d 94 55 ls (.int x :: .int v :: .ref a :: st) h Q = ((xe_ob h a 8 ∧ xe_ix h a v) ∧ xe_P d 94 56 ls st (xe_sI h a v.toNatClampNeg x) Q) := xe_P_iast (by decide +kernel)
theorem xs_94_56 : xe_P d 94 56 [.ref a, l1, l2, l3, l4] st h Q = xe_P d 94 57 [.ref a, l1, l2, l3, l4] (.ref a :: st) h Q := xe_P_lo (ins := .aload_n 0) (len := 1) (by decide +kernel) rfl rfl
theorem xs_94_57 : xe_P d 94 57 ls (.ref a :: st) h Q = (xe_ob h a 6 ∧ xe_P d 94 60 ls (va_rf (xe_R h a 0) :: st) h Q) := xe_P_getR (i := 10) (by decide +kernel) (by decide +kernel) (by decide) rfl
theorem xs_94_60 : xe_P d 94 60 ls (.ref a :: st) h Q = (xe_ob h a 3 ∧ xe_P d 94 63 ls (va_rf (xe_R h a 11) :: st) h Q) := xe_P_getR (i := 136) (by decide +kernel) (by decide +kernel) (by decide) rfl
theorem xs_94_63 : xe_P d 94 63 [l0, .int x, l2, l3, l4] st h Q = xe_P d 94 64 [l0, .int x, l2, l3, l4] (.int x :: st) h Q := xe_P_lo (ins := .iload_n 1) (len := 1) (by decide +kernel) rfl rfl
theorem xs_94_64 : xe_P d 94 64 [l0, l1, l2, .int x, l4] st h Q = xe_P d 94 65 [l0, l1, l2, .int x, l4] (.int x :: st) h Q := xe_P_lo (ins := .iload_n 3) (len := 1) (by decide +kernel) rfl rfl
theorem xs_94_65 : xe_P d 94 65 ls (.int x :: .int v :: .ref a :: st) h Q = ((xe_ob h a 8 ∧ xe_ix h a v) ∧ xe_P d 94 66 ls st (xe_sI h a v.toNatClampNeg x) Q) := xe_P_iast (by decide +kernel)
theorem xs_94_66 : xe_P d 94 66 [l0, l1, l2, l3, .int x] st h Q = xe_P d 94 68 [l0, l1, l2, l3, .int x] (.int x :: st) h Q := xe_P_lo (ins := .iload 4) (len := 2) (by decide +kernel) rfl rfl
theorem xs_94_68 : xe_P d 94 68 ls [.int x] h Q = Q (some (.int x)) h := xe_P_ireturn (by decide +kernel) rfl
theorem xs_94 : xe_C (d + 1) 94 [.ref a, .int x0, .int x1, .int x2] h Q = xe_P d 94 0 [.ref a, .int x0, .int x1, .int x2, .retAddr 0] [] h Q := xe_C_at (Nat.le_of_ble_eq_true rfl) rfl
theorem xs_95_0 : xe_P d 95 0 [.ref a, l1] st h Q = xe_P d 95 1 [.ref a, l1] (.ref a :: st) h Q := xe_P_lo (ins := .aload_n 0) (len := 1) (by decide +kernel) rfl rfl
theorem xs_95_1 : xe_P d 95 1 ls (.ref a :: st) h Q = (xe_ob h a 6 ∧ xe_P d 95 4 ls (va_rf (xe_R h a 0) :: st) h Q) := xe_P_getR (i := 10) (by decide +kernel) (by decide +kernel) (by decide) rfl
theorem xs_95_4 : xe_P d 95 4 [l0, .int x] st h Q = xe_P d 95 5 [l0, .int x] (.int x :: st) h Q := xe_P_lo (ins := .iload_n 1) (len := 1) (by decide +kernel) rfl rfl
theorem xs_95_5 : xe_P d 95 5 ls (v0 :: .ref a :: st) h Q = ((xe_w st ≤ 8 ∧ xe_ob h a 3) ∧ xe_C d 53 [.ref a, v0] h (fun r h' => xe_P d 95 8 ls (r.toList ++ st) h' Q)) := xe_P_ivv (y := 95) (pc := 5) (z := 53) (i := 149) (vs := [v0]) (by decide +kernel) (by decide +kernel) rfl (by decide +kernel)
theorem xs_95_8 : xe_P d 95 8 ls [.int x] h Q = Q (some (.int x)) h := xe_P_ireturn (by decide +kernel) rfl
theorem xs_95 : xe_C (d + 1) 95 [.ref a, .int x0] h Q = xe_P d 95 0 [.ref a, .int x0] [] h Q := xe_C_at (Nat.le_of_ble_eq_true rfl) rfl
theorem xs_96_0 : xe_P d 96 0 [.ref a, l1, l2] st h Q = xe_P d 96 1 [.ref a, l1, l2] (.ref a :: st) h Q := xe_P_lo (ins := .aload_n 0) (len := 1) (by decide +kernel) rfl rfl
theorem xs_96_1 : xe_P d 96 1 ls (.ref a :: st) h Q = (xe_ob h a 6 ∧ xe_P d 96 4 ls (va_rf (xe_R h a 0) :: st) h Q) := xe_P_getR (i := 10) (by decide +kernel) (by decide +kernel) (by decide) rfl
theorem xs_96_4 : xe_P d 96 4 [l0, .int x, l2] st h Q = xe_P d 96 5 [l0, .int x, l2] (.int x :: st) h Q := xe_P_lo (ins := .iload_n 1) (len := 1) (by decide +kernel) rfl rfl
theorem xs_96_5 : xe_P d 96 5 ls (v0 :: .ref a :: st) h Q = ((xe_w st ≤ 8 ∧ xe_ob h a 3) ∧ xe_C d 42 [.ref a, v0] h (fun r h' => xe_P d 96 8 ls (r.toList ++ st) h' Q)) := xe_P_ivv (y := 96) (pc := 5) (z := 42) (i := 130) (vs := [v0]) (by decide +kernel) (by decide +kernel) rfl (by decide +kernel)
theorem xs_96_8 : xe_P d 96 8 ls (.int x :: st) h Q = (if x = 0 then xe_P d 96 18 ls st h Q else xe_P d 96 11 ls st h Q) := xe_P_if (ins := .ifCond .eq 10) (len := 3) (off := 10) (by decide +kernel) (by decide) rfl rfl rfl
theorem xs_96_11 : xe_P d 96 11 [l0, l1, .int x] st h Q = xe_P d 96 12 [l0, l1, .int x] (.int x :: st) h Q := xe_P_lo (ins := .iload_n 2) (len := 1) (by decide +kernel) rfl rfl
theorem xs_96_12 : xe_P d 96 12 ls (v0 :: st) h Q = (xe_w st ≤ 8 ∧ xe_C d 117 [v0] h (fun r h' => xe_P d 96 15 ls (r.toList ++ st) h' Q)) := xe_P_ivs (y := 96) (pc := 12) (z := 117) (i := 152) (vs := [v0]) (by decide +kernel) (by decide +kernel) rfl
theorem xs_96_15 : xe_P d 96 15 ls (.int x :: st) h Q = (if x = 0 then xe_P d 96 18 ls st h Q else xe_P d 96 20 ls st h Q) := xe_P_ifn (ins := .ifCond .ne 5) (len := 3) (off := 5) (by decide +kernel) (by decide) rfl rfl rfl
theorem xs_96_18 : xe_P d 96 18 ls st h Q = xe_P d 96 19 ls (.int (-1) :: st) h Q := xe_P_ar (ins := .iconst (-1)) (len := 1) (by decide +kernel) rfl
theorem xs_96_19 : xe_P d 96 19 ls [.int x] h Q = Q (some (.int x)) h := xe_P_ireturn (by decide +kernel) rfl
theorem xs_96_20 : xe_P d 96 20 [.ref a, l1, l2] st h Q = xe_P d 96 21 [.ref a, l1, l2] (.ref a :: st) h Q := xe_P_lo (ins := .aload_n 0) (len := 1) (by decide +kernel) rfl rfl
theorem xs_96_21 : xe_P d 96 21 ls (.ref a :: st) h Q = (xe_ob h a 6 ∧ xe_P d 96 24 ls (va_rf (xe_R h a 5) :: st) h Q) := xe_P_getR (i := 37) (by decide +kernel) (by decide +kernel) (by decide) rfl
theorem xs_96_24 : xe_P d 96 24 [.ref a, l1, l2] st h Q = xe_P d 96 25 [.ref a, l1, l2] (.ref a :: st) h Q := xe_P_lo (ins := .aload_n 0) (len := 1) (by decide +kernel) rfl rfl
theorem xs_96_25 : xe_P d 96 25 ls (.ref a :: st) h Q = (xe_ob h a 6 ∧ xe_P d 96 28 ls (va_rf (xe_R h a 0) :: st) h Q) := xe_P_getR (i := 10) (by decide +kernel) (by decide +kernel) (by decide) rfl
theorem xs_96_28 : xe_P d 96 28 [l0, .int x, l2] st h Q = xe_P d 96 29 [l0, .int x, l2] (.int x :: st) h Q := xe_P_lo (ins := .iload_n 1) (len := 1) (by decide +kernel) rfl rfl
theorem xs_96_29 : xe_P d 96 29 ls st h Q = xe_P d 96 30 ls (.int (-1) :: st) h Q := xe_P_ar (ins := .iconst (-1)) (len := 1) (by decide +kernel) rfl
theorem xs_96_30 : xe_P d 96 30 ls st h Q = xe_P d 96 32 ls (.int 1000000 :: st) h Q := xe_P_ldc (j := 155) (by decide +kernel) (by decide +kernel)
theorem xs_96_32 : xe_P d 96 32 ls (v3 :: v2 :: v1 :: v0 :: .ref a :: st) h Q = ((xe_w st ≤ 8 ∧ xe_ob h a 5) ∧ xe_C d 71 [.ref a, v0, v1, v2, v3] h (fun r h' => xe_P d 96 35 ls (r.toList ++ st) h' Q)) := xe_P_ivv (y := 96) (pc := 32) (z := 71) (i := 156) (vs := [v3, v2, v1, v0]) (by decide +kernel) (by decide +kernel) rfl (by decide +kernel)
theorem xs_96_35 : xe_P d 96 35 [.ref a, l1, l2] st h Q = xe_P d 96 36 [.ref a, l1, l2] (.ref a :: st) h Q := xe_P_lo (ins := .aload_n 0) (len := 1) (by decide +kernel) rfl rfl
theorem xs_96_36 : xe_P d 96 36 ls (.ref a :: st) h Q = (xe_ob h a 6 ∧ xe_P d 96 39 ls (va_rf (xe_R h a 5) :: st) h Q) := xe_P_getR (i := 37) (by decide +kernel) (by decide +kernel) (by decide) rfl
theorem xs_96_39 : xe_P d 96 39 [l0, l1, .int x] st h Q = xe_P d 96 40 [l0, l1, .int x] (.int x :: st) h Q := xe_P_lo (ins := .iload_n 2) (len := 1) (by decide +kernel) rfl rfl
theorem xs_96_40 : xe_P d 96 40 ls (v0 :: .ref a :: st) h Q = ((xe_w st ≤ 8 ∧ xe_ob h a 5) ∧ xe_C d 72 [.ref a, v0] h (fun r h' => xe_P d 96 43 ls (r.toList ++ st) h' Q)) := xe_P_ivv (y := 96) (pc := 40) (z := 72) (i := 160) (vs := [v0]) (by decide +kernel) (by decide +kernel) rfl (by decide +kernel)
theorem xs_96_43 : xe_P d 96 43 ls [.int x] h Q = Q (some (.int x)) h := xe_P_ireturn (by decide +kernel) rfl
theorem xs_96 : xe_C (d + 1) 96 [.ref a, .int x0, .int x1] h Q = xe_P d 96 0 [.ref a, .int x0, .int x1] [] h Q := xe_C_at (Nat.le_of_ble_eq_true rfl) rfl
theorem xs_97_0 : xe_P d 97 0 [.ref a, l1] st h Q = xe_P d 97 1 [.ref a, l1] (.ref a :: st) h Q := xe_P_lo (ins := .aload_n 0) (len := 1) (by decide +kernel) rfl rfl
theorem xs_97_1 : xe_P d 97 1 ls (.ref a :: st) h Q = (xe_ob h a 6 ∧ xe_P d 97 4 ls (va_rf (xe_R h a 0) :: st) h Q) := xe_P_getR (i := 10) (by decide +kernel) (by decide +kernel) (by decide) rfl
theorem xs_97_4 : xe_P d 97 4 [l0, .int x] st h Q = xe_P d 97 5 [l0, .int x] (.int x :: st) h Q := xe_P_lo (ins := .iload_n 1) (len := 1) (by decide +kernel) rfl rfl
theorem xs_97_5 : xe_P d 97 5 ls (v0 :: .ref a :: st) h Q = ((xe_w st ≤ 8 ∧ xe_ob h a 3) ∧ xe_C d 42 [.ref a, v0] h (fun r h' => xe_P d 97 8 ls (r.toList ++ st) h' Q)) := xe_P_ivv (y := 97) (pc := 5) (z := 42) (i := 130) (vs := [v0]) (by decide +kernel) (by decide +kernel) rfl (by decide +kernel)
theorem xs_97_8 : xe_P d 97 8 ls (.int x :: st) h Q = (if x = 0 then xe_P d 97 11 ls st h Q else xe_P d 97 13 ls st h Q) := xe_P_ifn (ins := .ifCond .ne 5) (len := 3) (off := 5) (by decide +kernel) (by decide) rfl rfl rfl
theorem xs_97_11 : xe_P d 97 11 ls st h Q = xe_P d 97 12 ls (.int (-1) :: st) h Q := xe_P_ar (ins := .iconst (-1)) (len := 1) (by decide +kernel) rfl
theorem xs_97_12 : xe_P d 97 12 ls [.int x] h Q = Q (some (.int x)) h := xe_P_ireturn (by decide +kernel) rfl
theorem xs_97_13 : xe_P d 97 13 [.ref a, l1] st h Q = xe_P d 97 14 [.ref a, l1] (.ref a :: st) h Q := xe_P_lo (ins := .aload_n 0) (len := 1) (by decide +kernel) rfl rfl
theorem xs_97_14 : xe_P d 97 14 ls (.ref a :: st) h Q = (xe_ob h a 6 ∧ xe_P d 97 17 ls (va_rf (xe_R h a 5) :: st) h Q) := xe_P_getR (i := 37) (by decide +kernel) (by decide +kernel) (by decide) rfl
theorem xs_97_17 : xe_P d 97 17 [.ref a, l1] st h Q = xe_P d 97 18 [.ref a, l1] (.ref a :: st) h Q := xe_P_lo (ins := .aload_n 0) (len := 1) (by decide +kernel) rfl rfl
theorem xs_97_18 : xe_P d 97 18 ls (.ref a :: st) h Q = (xe_ob h a 6 ∧ xe_P d 97 21 ls (va_rf (xe_R h a 0) :: st) h Q) := xe_P_getR (i := 10) (by decide +kernel) (by decide +kernel) (by decide) rfl
theorem xs_97_21 : xe_P d 97 21 [l0, .int x] st h Q = xe_P d 97 22 [l0, .int x] (.int x :: st) h Q := xe_P_lo (ins := .iload_n 1) (len := 1) (by decide +kernel) rfl rfl
theorem xs_97_22 : xe_P d 97 22 ls (v1 :: v0 :: .ref a :: st) h Q = ((xe_w st ≤ 8 ∧ xe_ob h a 5) ∧ xe_C d 73 [.ref a, v0, v1] h (fun r h' => xe_P d 97 25 ls (r.toList ++ st) h' Q)) := xe_P_ivv (y := 97) (pc := 22) (z := 73) (i := 163) (vs := [v1, v0]) (by decide +kernel) (by decide +kernel) rfl (by decide +kernel)
theorem xs_97_25 : xe_P d 97 25 ls [.int x] h Q = Q (some (.int x)) h := xe_P_ireturn (by decide +kernel) rfl
theorem xs_97 : xe_C (d + 1) 97 [.ref a, .int x0] h Q = xe_P d 97 0 [.ref a, .int x0] [] h Q := xe_C_at (Nat.le_of_ble_eq_true rfl) rfl
theorem xs_98_0 : xe_P d 98 0 [.ref a, l1, l2, l3] st h Q = xe_P d 98 1 [.ref a, l1, l2, l3] (.ref a :: st) h Q := xe_P_lo (ins := .aload_n 0) (len := 1) (by decide +kernel) rfl rfl
theorem xs_98_1 : xe_P d 98 1 ls (.ref a :: st) h Q = (xe_ob h a 6 ∧ xe_P d 98 4 ls (va_rf (xe_R h a 0) :: st) h Q) := xe_P_getR (i := 10) (by decide +kernel) (by decide +kernel) (by decide) rfl
theorem xs_98_4 : xe_P d 98 4 [l0, .int x, l2, l3] st h Q = xe_P d 98 5 [l0, .int x, l2, l3] (.int x :: st) h Q := xe_P_lo (ins := .iload_n 1) (len := 1) (by decide +kernel) rfl rfl
theorem xs_98_5 : xe_P d 98 5 ls (v0 :: .ref a :: st) h Q = ((xe_w st ≤ 8 ∧ xe_ob h a 3) ∧ xe_C d 42 [.ref a, v0] h (fun r h' => xe_P d 98 8 ls (r.toList ++ st) h' Q)) := xe_P_ivv (y := 98) (pc := 5) (z := 42) (i := 130) (vs := [v0]) (by decide +kernel) (by decide +kernel) rfl (by decide +kernel)
theorem xs_98_8 : xe_P d 98 8 ls (.int x :: st) h Q = (if x = 0 then xe_P d 98 34 ls st h Q else xe_P d 98 11 ls st h Q) := xe_P_if (ins := .ifCond .eq 26) (len := 3) (off := 26) (by decide +kernel) (by decide) rfl rfl rfl
theorem xs_98_11 : xe_P d 98 11 [.ref a, l1, l2, l3] st h Q = xe_P d 98 12 [.ref a, l1, l2, l3] (.ref a :: st) h Q := xe_P_lo (ins := .aload_n 0) (len := 1) (by decide +kernel) rfl rfl
theorem xs_98_12 : xe_P d 98 12 ls (.ref a :: st) h Q = (xe_ob h a 6 ∧ xe_P d 98 15 ls (va_rf (xe_R h a 0) :: st) h Q) := xe_P_getR (i := 10) (by decide +kernel) (by decide +kernel) (by decide) rfl
theorem xs_98_15 : xe_P d 98 15 [l0, l1, .int x, l3] st h Q = xe_P d 98 16 [l0, l1, .int x, l3] (.int x :: st) h Q := xe_P_lo (ins := .iload_n 2) (len := 1) (by decide +kernel) rfl rfl
theorem xs_98_16 : xe_P d 98 16 ls (v0 :: .ref a :: st) h Q = ((xe_w st ≤ 8 ∧ xe_ob h a 3) ∧ xe_C d 42 [.ref a, v0] h (fun r h' => xe_P d 98 19 ls (r.toList ++ st) h' Q)) := xe_P_ivv (y := 98) (pc := 16) (z := 42) (i := 130) (vs := [v0]) (by decide +kernel) (by decide +kernel) rfl (by decide +kernel)
theorem xs_98_19 : xe_P d 98 19 ls (.int x :: st) h Q = (if x = 0 then xe_P d 98 34 ls st h Q else xe_P d 98 22 ls st h Q) := xe_P_if (ins := .ifCond .eq 15) (len := 3) (off := 15) (by decide +kernel) (by decide) rfl rfl rfl
theorem xs_98_22 : xe_P d 98 22 [l0, .int x, l2, l3] st h Q = xe_P d 98 23 [l0, .int x, l2, l3] (.int x :: st) h Q := xe_P_lo (ins := .iload_n 1) (len := 1) (by decide +kernel) rfl rfl
theorem xs_98_23 : xe_P d 98 23 [l0, l1, .int x, l3] st h Q = xe_P d 98 24 [l0, l1, .int x, l3] (.int x :: st) h Q := xe_P_lo (ins := .iload_n 2) (len := 1) (by decide +kernel) rfl rfl
theorem xs_98_24 : xe_P d 98 24 ls (.int v :: .int x :: st) h Q = (if x = v then xe_P d 98 34 ls st h Q else xe_P d 98 27 ls st h Q) := xe_P_if (ins := .if_icmp .eq 10) (len := 3) (off := 10) (by decide +kernel) (by decide) rfl rfl rfl
theorem xs_98_27 : xe_P d 98 27 [l0, l1, l2, .int x] st h Q = xe_P d 98 28 [l0, l1, l2, .int x] (.int x :: st) h Q := xe_P_lo (ins := .iload_n 3) (len := 1) (by decide +kernel) rfl rfl
theorem xs_98_28 : xe_P d 98 28 ls (v0 :: st) h Q = (xe_w st ≤ 8 ∧ xe_C d 117 [v0] h (fun r h' => xe_P d 98 31 ls (r.toList ++ st) h' Q)) := xe_P_ivs (y := 98) (pc := 28) (z := 117) (i := 152) (vs := [v0]) (by decide +kernel) (by decide +kernel) rfl
theorem xs_98_31 : xe_P d 98 31 ls (.int x :: st) h Q = (if x = 0 then xe_P d 98 34 ls st h Q else xe_P d 98 36 ls st h Q) := xe_P_ifn (ins := .ifCond .ne 5) (len := 3) (off := 5) (by decide +kernel) (by decide) rfl rfl rfl
theorem xs_98_34 : xe_P d 98 34 ls st h Q = xe_P d 98 35 ls (.int (-1) :: st) h Q := xe_P_ar (ins := .iconst (-1)) (len := 1) (by decide +kernel) rfl
theorem xs_98_35 : xe_P d 98 35 ls [.int x] h Q = Q (some (.int x)) h := xe_P_ireturn (by decide +kernel) rfl
theorem xs_98_36 : xe_P d 98 36 [.ref a, l1, l2, l3] st h Q = xe_P d 98 37 [.ref a, l1, l2, l3] (.ref a :: st) h Q := xe_P_lo (ins := .aload_n 0) (len := 1) (by decide +kernel) rfl rfl
theorem xs_98_37 : xe_P d 98 37 ls (.ref a :: st) h Q = (xe_ob h a 6 ∧ xe_P d 98 40 ls (va_rf (xe_R h a 5) :: st) h Q) := xe_P_getR (i := 37) (by decide +kernel) (by decide +kernel) (by decide) rfl
theorem xs_98_40 : xe_P d 98 40 [.ref a, l1, l2, l3] st h Q = xe_P d 98 41 [.ref a, l1, l2, l3] (.ref a :: st) h Q := xe_P_lo (ins := .aload_n 0) (len := 1) (by decide +kernel) rfl rfl
theorem xs_98_41 : xe_P d 98 41 ls (.ref a :: st) h Q = (xe_ob h a 6 ∧ xe_P d 98 44 ls (va_rf (xe_R h a 0) :: st) h Q) := xe_P_getR (i := 10) (by decide +kernel) (by decide +kernel) (by decide) rfl
theorem xs_98_44 : xe_P d 98 44 [l0, .int x, l2, l3] st h Q = xe_P d 98 45 [l0, .int x, l2, l3] (.int x :: st) h Q := xe_P_lo (ins := .iload_n 1) (len := 1) (by decide +kernel) rfl rfl
theorem xs_98_45 : xe_P d 98 45 [l0, l1, .int x, l3] st h Q = xe_P d 98 46 [l0, l1, .int x, l3] (.int x :: st) h Q := xe_P_lo (ins := .iload_n 2) (len := 1) (by decide +kernel) rfl rfl
theorem xs_98_46 : xe_P d 98 46 ls (.int v :: .int x :: st) h Q = (xe_w st ≤ 8 ∧ xe_P d 98 49 ls (.int (if v < x then v else x) :: st) h Q) := xe_P_min (i := 167) (by decide +kernel) (by decide +kernel)
theorem xs_98_49 : xe_P d 98 49 [l0, .int x, l2, l3] st h Q = xe_P d 98 50 [l0, .int x, l2, l3] (.int x :: st) h Q := xe_P_lo (ins := .iload_n 1) (len := 1) (by decide +kernel) rfl rfl
theorem xs_98_50 : xe_P d 98 50 [l0, l1, .int x, l3] st h Q = xe_P d 98 51 [l0, l1, .int x, l3] (.int x :: st) h Q := xe_P_lo (ins := .iload_n 2) (len := 1) (by decide +kernel) rfl rfl
theorem xs_98_51 : xe_P d 98 51 ls (.int v :: .int x :: st) h Q = (xe_w st ≤ 8 ∧ xe_P d 98 54 ls (.int (if x < v then v else x) :: st) h Q) := xe_P_max (i := 172) (by decide +kernel) (by decide +kernel)
theorem xs_98_54 : xe_P d 98 54 ls st h Q = xe_P d 98 56 ls (.int 1000000 :: st) h Q := xe_P_ldc (j := 155) (by decide +kernel) (by decide +kernel)
theorem xs_98_56 : xe_P d 98 56 ls (v3 :: v2 :: v1 :: v0 :: .ref a :: st) h Q = ((xe_w st ≤ 8 ∧ xe_ob h a 5) ∧ xe_C d 71 [.ref a, v0, v1, v2, v3] h (fun r h' => xe_P d 98 59 ls (r.toList ++ st) h' Q)) := xe_P_ivv (y := 98) (pc := 56) (z := 71) (i := 156) (vs := [v3, v2, v1, v0]) (by decide +kernel) (by decide +kernel) rfl (by decide +kernel)
theorem xs_98_59 : xe_P d 98 59 [.ref a, l1, l2, l3] st h Q = xe_P d 98 60 [.ref a, l1, l2, l3] (.ref a :: st) h Q := xe_P_lo (ins := .aload_n 0) (len := 1) (by decide +kernel) rfl rfl
theorem xs_98_60 : xe_P d 98 60 ls (.ref a :: st) h Q = (xe_ob h a 6 ∧ xe_P d 98 63 ls (va_rf (xe_R h a 5) :: st) h Q) := xe_P_getR (i := 37) (by decide +kernel) (by decide +kernel) (by decide) rfl
theorem xs_98_63 : xe_P d 98 63 [l0, l1, l2, .int x] st h Q = xe_P d 98 64 [l0, l1, l2, .int x] (.int x :: st) h Q := xe_P_lo (ins := .iload_n 3) (len := 1) (by decide +kernel) rfl rfl
theorem xs_98_64 : xe_P d 98 64 ls (v0 :: .ref a :: st) h Q = ((xe_w st ≤ 8 ∧ xe_ob h a 5) ∧ xe_C d 72 [.ref a, v0] h (fun r h' => xe_P d 98 67 ls (r.toList ++ st) h' Q)) := xe_P_ivv (y := 98) (pc := 64) (z := 72) (i := 160) (vs := [v0]) (by decide +kernel) (by decide +kernel) rfl (by decide +kernel)
theorem xs_98_67 : xe_P d 98 67 ls [.int x] h Q = Q (some (.int x)) h := xe_P_ireturn (by decide +kernel) rfl
theorem xs_98 : xe_C (d + 1) 98 [.ref a, .int x0, .int x1, .int x2] h Q = xe_P d 98 0 [.ref a, .int x0, .int x1, .int x2] [] h Q := xe_C_at (Nat.le_of_ble_eq_true rfl) rfl
theorem xs_99_0 : xe_P d 99 0 ls st h Q = xe_P d 99 1 ls (.int 0 :: st) h Q := xe_P_ar (ins := .iconst 0) (len := 1) (by decide +kernel) rfl
theorem xs_99_1 : xe_P d 99 1 [l0, l1, l2] (.int x :: st) h Q = xe_P d 99 2 [xe_cut l0, .int x, l2] st h Q := xe_P_lo (ins := .istore_n 1) (len := 1) (by decide +kernel) rfl rfl
theorem xs_99_2 : xe_P d 99 2 ls st h Q = xe_P d 99 3 ls (.int 0 :: st) h Q := xe_P_ar (ins := .iconst 0) (len := 1) (by decide +kernel) rfl
theorem xs_99_3 : xe_P d 99 3 [l0, l1, l2] (.int x :: st) h Q = xe_P d 99 4 [l0, xe_cut l1, .int x] st h Q := xe_P_lo (ins := .istore_n 2) (len := 1) (by decide +kernel) rfl rfl
theorem xs_99_4 : xe_P d 99 4 [l0, l1, .int x] st h Q = xe_P d 99 5 [l0, l1, .int x] (.int x :: st) h Q := xe_P_lo (ins := .iload_n 2) (len := 1) (by decide +kernel) rfl rfl
theorem xs_99_5 : xe_P d 99 5 [.ref a, l1, l2] st h Q = xe_P d 99 6 [.ref a, l1, l2] (.ref a :: st) h Q := xe_P_lo (ins := .aload_n 0) (len := 1) (by decide +kernel) rfl rfl
theorem xs_99_6 : xe_P d 99 6 ls (.ref a :: st) h Q = (xe_ob h a 6 ∧ xe_P d 99 9 ls (va_rf (xe_R h a 0) :: st) h Q) := xe_P_getR (i := 10) (by decide +kernel) (by decide +kernel) (by decide) rfl
theorem xs_99_9 : xe_P d 99 9 ls (.ref a :: st) h Q = (xe_ob h a 3 ∧ xe_P d 99 12 ls (.int (xe_I h a 1) :: st) h Q) := xe_P_getI (i := 91) (by decide +kernel) (by decide +kernel) (by decide) rfl
theorem xs_99_12 : xe_P d 99 12 ls (.int v :: .int x :: st) h Q = (if v ≤ x then xe_P d 99 38 ls st h Q else xe_P d 99 15 ls st h Q) := xe_P_if (ins := .if_icmp .ge 26) (len := 3) (off := 26) (by decide +kernel) (by decide) rfl rfl rfl
theorem xs_99_15 : xe_P d 99 15 [.ref a, l1, l2] st h Q = xe_P d 99 16 [.ref a, l1, l2] (.ref a :: st) h Q := xe_P_lo (ins := .aload_n 0) (len := 1) (by decide +kernel) rfl rfl
theorem xs_99_16 : xe_P d 99 16 ls (.ref a :: st) h Q = (xe_ob h a 6 ∧ xe_P d 99 19 ls (va_rf (xe_R h a 0) :: st) h Q) := xe_P_getR (i := 10) (by decide +kernel) (by decide +kernel) (by decide) rfl
theorem xs_99_19 : xe_P d 99 19 [l0, l1, .int x] st h Q = xe_P d 99 20 [l0, l1, .int x] (.int x :: st) h Q := xe_P_lo (ins := .iload_n 2) (len := 1) (by decide +kernel) rfl rfl
theorem xs_99_20 : xe_P d 99 20 ls (v0 :: .ref a :: st) h Q = ((xe_w st ≤ 8 ∧ xe_ob h a 3) ∧ xe_C d 55 [.ref a, v0] h (fun r h' => xe_P d 99 23 ls (r.toList ++ st) h' Q)) := xe_P_ivv (y := 99) (pc := 20) (z := 55) (i := 175) (vs := [v0]) (by decide +kernel) (by decide +kernel) rfl (by decide +kernel)
theorem xs_99_23 : xe_P d 99 23 ls (.int x :: st) h Q = (if x = 0 then xe_P d 99 32 ls st h Q else xe_P d 99 26 ls st h Q) := xe_P_if (ins := .ifCond .eq 9) (len := 3) (off := 9) (by decide +kernel) (by decide) rfl rfl rfl
theorem xs_99_26 : xe_P d 99 26 [l0, .int x, l2] st h Q = xe_P d 99 27 [l0, .int x, l2] (.int x :: st) h Q := xe_P_lo (ins := .iload_n 1) (len := 1) (by decide +kernel) rfl rfl
theorem xs_99_27 : xe_P d 99 27 ls st h Q = xe_P d 99 28 ls (.int 1 :: st) h Q := xe_P_ar (ins := .iconst 1) (len := 1) (by decide +kernel) rfl
theorem xs_99_28 : xe_P d 99 28 [l0, l1, .int x] st h Q = xe_P d 99 29 [l0, l1, .int x] (.int x :: st) h Q := xe_P_lo (ins := .iload_n 2) (len := 1) (by decide +kernel) rfl rfl
theorem xs_99_29 : xe_P d 99 29 ls (.int v :: .int x :: st) h Q = xe_P d 99 30 ls (.int (x <<< (v &&& 31)) :: st) h Q := xe_P_ar (ins := .ishl) (len := 1) (by decide +kernel) rfl
theorem xs_99_30 : xe_P d 99 30 ls (.int v :: .int x :: st) h Q = xe_P d 99 31 ls (.int (x ||| v) :: st) h Q := xe_P_ar (ins := .ior) (len := 1) (by decide +kernel) rfl
theorem xs_99_31 : xe_P d 99 31 [l0, l1, l2] (.int x :: st) h Q = xe_P d 99 32 [xe_cut l0, .int x, l2] st h Q := xe_P_lo (ins := .istore_n 1) (len := 1) (by decide +kernel) rfl rfl
theorem xs_99_32 : xe_P d 99 32 [l0, l1, .int x] st h Q = xe_P d 99 35 [l0, xe_cut l1, .int (x + 1)] st h Q := xe_P_lo (ins := .iinc 2 1) (len := 3) (by decide +kernel) rfl rfl
theorem xs_99_35 : xe_P d 99 35 ls st h Q = xe_P d 99 4 ls st h Q := xe_P_go (len := 3) (off := (-31)) (by decide +kernel) (by decide)
theorem xs_99_38 : xe_P d 99 38 [l0, .int x, l2] st h Q = xe_P d 99 39 [l0, .int x, l2] (.int x :: st) h Q := xe_P_lo (ins := .iload_n 1) (len := 1) (by decide +kernel) rfl rfl
theorem xs_99_39 : xe_P d 99 39 ls [.int x] h Q = Q (some (.int x)) h := xe_P_ireturn (by decide +kernel) rfl
theorem xs_99 : xe_C (d + 1) 99 [.ref a] h Q = xe_P d 99 0 [.ref a, .retAddr 0, .retAddr 0] [] h Q := xe_C_at (Nat.le_of_ble_eq_true rfl) rfl
theorem xs_100_0 : xe_P d 100 0 [.ref a, l1, l2, l3, l4] st h Q = xe_P d 100 1 [.ref a, l1, l2, l3, l4] (.ref a :: st) h Q := xe_P_lo (ins := .aload_n 0) (len := 1) (by decide +kernel) rfl rfl
theorem xs_100_1 : xe_P d 100 1 ls (.ref a :: st) h Q = (xe_ob h a 6 ∧ xe_P d 100 4 ls (va_rf (xe_R h a 0) :: st) h Q) := xe_P_getR (i := 10) (by decide +kernel) (by decide +kernel) (by decide) rfl
theorem xs_100_4 : xe_P d 100 4 [l0, .int x, l2, l3, l4] st h Q = xe_P d 100 5 [l0, .int x, l2, l3, l4] (.int x :: st) h Q := xe_P_lo (ins := .iload_n 1) (len := 1) (by decide +kernel) rfl rfl
theorem xs_100_5 : xe_P d 100 5 ls (v0 :: .ref a :: st) h Q = ((xe_w st ≤ 8 ∧ xe_ob h a 3) ∧ xe_C d 42 [.ref a, v0] h (fun r h' => xe_P d 100 8 ls (r.toList ++ st) h' Q)) := xe_P_ivv (y := 100) (pc := 5) (z := 42) (i := 130) (vs := [v0]) (by decide +kernel) (by decide +kernel) rfl (by decide +kernel)
theorem xs_100_8 : xe_P d 100 8 ls (.int x :: st) h Q = (if x = 0 then xe_P d 100 41 ls st h Q else xe_P d 100 11 ls st h Q) := xe_P_if (ins := .ifCond .eq 33) (len := 3) (off := 33) (by decide +kernel) (by decide) rfl rfl rfl
theorem xs_100_11 : xe_P d 100 11 [.ref a, l1, l2, l3, l4] st h Q = xe_P d 100 12 [.ref a, l1, l2, l3, l4] (.ref a :: st) h Q := xe_P_lo (ins := .aload_n 0) (len := 1) (by decide +kernel) rfl rfl
theorem xs_100_12 : xe_P d 100 12 ls (.ref a :: st) h Q = (xe_ob h a 6 ∧ xe_P d 100 15 ls (va_rf (xe_R h a 0) :: st) h Q) := xe_P_getR (i := 10) (by decide +kernel) (by decide +kernel) (by decide) rfl
theorem xs_100_15 : xe_P d 100 15 [l0, l1, .int x, l3, l4] st h Q = xe_P d 100 16 [l0, l1, .int x, l3, l4] (.int x :: st) h Q := xe_P_lo (ins := .iload_n 2) (len := 1) (by decide +kernel) rfl rfl
theorem xs_100_16 : xe_P d 100 16 ls (v0 :: .ref a :: st) h Q = ((xe_w st ≤ 8 ∧ xe_ob h a 3) ∧ xe_C d 41 [.ref a, v0] h (fun r h' => xe_P d 100 19 ls (r.toList ++ st) h' Q)) := xe_P_ivv (y := 100) (pc := 16) (z := 41) (i := 106) (vs := [v0]) (by decide +kernel) (by decide +kernel) rfl (by decide +kernel)
theorem xs_100_19 : xe_P d 100 19 ls (.int x :: st) h Q = (if x = 0 then xe_P d 100 41 ls st h Q else xe_P d 100 22 ls st h Q) := xe_P_if (ins := .ifCond .eq 22) (len := 3) (off := 22) (by decide +kernel) (by decide) rfl rfl rfl
theorem xs_100_22 : xe_P d 100 22 [l0, l1, l2, .int x, l4] st h Q = xe_P d 100 23 [l0, l1, l2, .int x, l4] (.int x :: st) h Q := xe_P_lo (ins := .iload_n 3) (len := 1) (by decide +kernel) rfl rfl
theorem xs_100_23 : xe_P d 100 23 ls st h Q = xe_P d 100 24 ls (.int 1 :: st) h Q := xe_P_ar (ins := .iconst 1) (len := 1) (by decide +kernel) rfl
theorem xs_100_24 : xe_P d 100 24 ls (.int v :: .int x :: st) h Q = (if x < v then xe_P d 100 41 ls st h Q else xe_P d 100 27 ls st h Q) := xe_P_if (ins := .if_icmp .lt 17) (len := 3) (off := 17) (by decide +kernel) (by decide) rfl rfl rfl
theorem xs_100_27 : xe_P d 100 27 [l0, l1, l2, .int x, l4] st h Q = xe_P d 100 28 [l0, l1, l2, .int x, l4] (.int x :: st) h Q := xe_P_lo (ins := .iload_n 3) (len := 1) (by decide +kernel) rfl rfl
theorem xs_100_28 : xe_P d 100 28 ls st h Q = xe_P d 100 30 ls (.int 6 :: st) h Q := xe_P_ar (ins := .bipush 6) (len := 2) (by decide +kernel) rfl
theorem xs_100_30 : xe_P d 100 30 ls (.int v :: .int x :: st) h Q = (if v < x then xe_P d 100 41 ls st h Q else xe_P d 100 33 ls st h Q) := xe_P_if (ins := .if_icmp .gt 11) (len := 3) (off := 11) (by decide +kernel) (by decide) rfl rfl rfl
theorem xs_100_33 : xe_P d 100 33 [l0, l1, l2, l3, .int x] st h Q = xe_P d 100 35 [l0, l1, l2, l3, .int x] (.int x :: st) h Q := xe_P_lo (ins := .iload 4) (len := 2) (by decide +kernel) rfl rfl
theorem xs_100_35 : xe_P d 100 35 ls (v0 :: st) h Q = (xe_w st ≤ 8 ∧ xe_C d 117 [v0] h (fun r h' => xe_P d 100 38 ls (r.toList ++ st) h' Q)) := xe_P_ivs (y := 100) (pc := 35) (z := 117) (i := 152) (vs := [v0]) (by decide +kernel) (by decide +kernel) rfl
theorem xs_100_38 : xe_P d 100 38 ls (.int x :: st) h Q = (if x = 0 then xe_P d 100 41 ls st h Q else xe_P d 100 43 ls st h Q) := xe_P_ifn (ins := .ifCond .ne 5) (len := 3) (off := 5) (by decide +kernel) (by decide) rfl rfl rfl
theorem xs_100_41 : xe_P d 100 41 ls st h Q = xe_P d 100 42 ls (.int (-1) :: st) h Q := xe_P_ar (ins := .iconst (-1)) (len := 1) (by decide +kernel) rfl
theorem xs_100_42 : xe_P d 100 42 ls [.int x] h Q = Q (some (.int x)) h := xe_P_ireturn (by decide +kernel) rfl
theorem xs_100_43 : xe_P d 100 43 [.ref a, l1, l2, l3, l4] st h Q = xe_P d 100 44 [.ref a, l1, l2, l3, l4] (.ref a :: st) h Q := xe_P_lo (ins := .aload_n 0) (len := 1) (by decide +kernel) rfl rfl
theorem xs_100_44 : xe_P d 100 44 ls (.ref a :: st) h Q = (xe_ob h a 6 ∧ xe_P d 100 47 ls (va_rf (xe_R h a 6) :: st) h Q) := xe_P_getR (i := 44) (by decide +kernel) (by decide +kernel) (by decide) rfl
theorem xs_100_47 : xe_P d 100 47 [.ref a, l1, l2, l3, l4] st h Q = xe_P d 100 48 [.ref a, l1, l2, l3, l4] (.ref a :: st) h Q := xe_P_lo (ins := .aload_n 0) (len := 1) (by decide +kernel) rfl rfl
theorem xs_100_48 : xe_P d 100 48 ls (.ref a :: st) h Q = (xe_ob h a 6 ∧ xe_P d 100 51 ls (va_rf (xe_R h a 0) :: st) h Q) := xe_P_getR (i := 10) (by decide +kernel) (by decide +kernel) (by decide) rfl
theorem xs_100_51 : xe_P d 100 51 [l0, .int x, l2, l3, l4] st h Q = xe_P d 100 52 [l0, .int x, l2, l3, l4] (.int x :: st) h Q := xe_P_lo (ins := .iload_n 1) (len := 1) (by decide +kernel) rfl rfl
theorem xs_100_52 : xe_P d 100 52 [l0, l1, .int x, l3, l4] st h Q = xe_P d 100 53 [l0, l1, .int x, l3, l4] (.int x :: st) h Q := xe_P_lo (ins := .iload_n 2) (len := 1) (by decide +kernel) rfl rfl
theorem xs_100_53 : xe_P d 100 53 [l0, l1, l2, .int x, l4] st h Q = xe_P d 100 54 [l0, l1, l2, .int x, l4] (.int x :: st) h Q := xe_P_lo (ins := .iload_n 3) (len := 1) (by decide +kernel) rfl rfl
theorem xs_100_54 : xe_P d 100 54 [l0, l1, l2, l3, .int x] st h Q = xe_P d 100 56 [l0, l1, l2, l3, .int x] (.int x :: st) h Q := xe_P_lo (ins := .iload 4) (len := 2) (by decide +kernel) rfl rfl
theorem xs_100_56 : xe_P d 100 56 ls (v4 :: v3 :: v2 :: v1 :: v0 :: .ref a :: st) h Q = ((xe_w st ≤ 8 ∧ xe_ob h a 0) ∧ xe_C d 1 [.ref a, v0, v1, v2, v3, v4] h (fun r h' => xe_P d 100 59 ls (r.toList ++ st) h' Q)) := xe_P_ivv (y := 100) (pc := 56) (z := 1) (i := 178) (vs := [v4, v3, v2, v1, v0]) (by decide +kernel) (by decide +kernel) rfl (by decide +kernel)
theorem xs_100_59 : xe_P d 100 59 ls [.int x] h Q = Q (some (.int x)) h := xe_P_ireturn (by decide +kernel) rfl
theorem xs_100 : xe_C (d + 1) 100 [.ref a, .int x0, .int x1, .int x2, .int x3] h Q = xe_P d 100 0 [.ref a, .int x0, .int x1, .int x2, .int x3] [] h Q := xe_C_at (Nat.le_of_ble_eq_true rfl) rfl
theorem xs_101_0 : xe_P d 101 0 [.ref a, l1, l2, l3, l4] st h Q = xe_P d 101 1 [.ref a, l1, l2, l3, l4] (.ref a :: st) h Q := xe_P_lo (ins := .aload_n 0) (len := 1) (by decide +kernel) rfl rfl
theorem xs_101_1 : xe_P d 101 1 ls (.ref a :: st) h Q = (xe_ob h a 6 ∧ xe_P d 101 4 ls (va_rf (xe_R h a 0) :: st) h Q) := xe_P_getR (i := 10) (by decide +kernel) (by decide +kernel) (by decide) rfl
theorem xs_101_4 : xe_P d 101 4 [l0, .int x, l2, l3, l4] st h Q = xe_P d 101 5 [l0, .int x, l2, l3, l4] (.int x :: st) h Q := xe_P_lo (ins := .iload_n 1) (len := 1) (by decide +kernel) rfl rfl
theorem xs_101_5 : xe_P d 101 5 ls (v0 :: .ref a :: st) h Q = ((xe_w st ≤ 8 ∧ xe_ob h a 3) ∧ xe_C d 42 [.ref a, v0] h (fun r h' => xe_P d 101 8 ls (r.toList ++ st) h' Q)) := xe_P_ivv (y := 101) (pc := 5) (z := 42) (i := 130) (vs := [v0]) (by decide +kernel) (by decide +kernel) rfl (by decide +kernel)
theorem xs_101_8 : xe_P d 101 8 ls (.int x :: st) h Q = (if x = 0 then xe_P d 101 44 ls st h Q else xe_P d 101 11 ls st h Q) := xe_P_if (ins := .ifCond .eq 36) (len := 3) (off := 36) (by decide +kernel) (by decide) rfl rfl rfl
theorem xs_101_11 : xe_P d 101 11 [.ref a, l1, l2, l3, l4] st h Q = xe_P d 101 12 [.ref a, l1, l2, l3, l4] (.ref a :: st) h Q := xe_P_lo (ins := .aload_n 0) (len := 1) (by decide +kernel) rfl rfl
theorem xs_101_12 : xe_P d 101 12 ls (.ref a :: st) h Q = (xe_ob h a 6 ∧ xe_P d 101 15 ls (va_rf (xe_R h a 0) :: st) h Q) := xe_P_getR (i := 10) (by decide +kernel) (by decide +kernel) (by decide) rfl
theorem xs_101_15 : xe_P d 101 15 [l0, l1, .int x, l3, l4] st h Q = xe_P d 101 16 [l0, l1, .int x, l3, l4] (.int x :: st) h Q := xe_P_lo (ins := .iload_n 2) (len := 1) (by decide +kernel) rfl rfl
theorem xs_101_16 : xe_P d 101 16 ls (v0 :: .ref a :: st) h Q = ((xe_w st ≤ 8 ∧ xe_ob h a 3) ∧ xe_C d 42 [.ref a, v0] h (fun r h' => xe_P d 101 19 ls (r.toList ++ st) h' Q)) := xe_P_ivv (y := 101) (pc := 16) (z := 42) (i := 130) (vs := [v0]) (by decide +kernel) (by decide +kernel) rfl (by decide +kernel)
theorem xs_101_19 : xe_P d 101 19 ls (.int x :: st) h Q = (if x = 0 then xe_P d 101 44 ls st h Q else xe_P d 101 22 ls st h Q) := xe_P_if (ins := .ifCond .eq 25) (len := 3) (off := 25) (by decide +kernel) (by decide) rfl rfl rfl
theorem xs_101_22 : xe_P d 101 22 [l0, .int x, l2, l3, l4] st h Q = xe_P d 101 23 [l0, .int x, l2, l3, l4] (.int x :: st) h Q := xe_P_lo (ins := .iload_n 1) (len := 1) (by decide +kernel) rfl rfl
theorem xs_101_23 : xe_P d 101 23 [l0, l1, .int x, l3, l4] st h Q = xe_P d 101 24 [l0, l1, .int x, l3, l4] (.int x :: st) h Q := xe_P_lo (ins := .iload_n 2) (len := 1) (by decide +kernel) rfl rfl
theorem xs_101_24 : xe_P d 101 24 ls (.int v :: .int x :: st) h Q = (if x = v then xe_P d 101 44 ls st h Q else xe_P d 101 27 ls st h Q) := xe_P_if (ins := .if_icmp .eq 20) (len := 3) (off := 20) (by decide +kernel) (by decide) rfl rfl rfl
theorem xs_101_27 : xe_P d 101 27 [l0, l1, l2, .int x, l4] st h Q = xe_P d 101 28 [l0, l1, l2, .int x, l4] (.int x :: st) h Q := xe_P_lo (ins := .iload_n 3) (len := 1) (by decide +kernel) rfl rfl
theorem xs_101_28 : xe_P d 101 28 ls (.int x :: st) h Q = (if x < 0 then xe_P d 101 44 ls st h Q else xe_P d 101 31 ls st h Q) := xe_P_if (ins := .ifCond .lt 16) (len := 3) (off := 16) (by decide +kernel) (by decide) rfl rfl rfl
theorem xs_101_31 : xe_P d 101 31 [l0, l1, l2, .int x, l4] st h Q = xe_P d 101 32 [l0, l1, l2, .int x, l4] (.int x :: st) h Q := xe_P_lo (ins := .iload_n 3) (len := 1) (by decide +kernel) rfl rfl
theorem xs_101_32 : xe_P d 101 32 ls st h Q = xe_P d 101 33 ls (.int 3 :: st) h Q := xe_P_ar (ins := .iconst 3) (len := 1) (by decide +kernel) rfl
theorem xs_101_33 : xe_P d 101 33 ls (.int v :: .int x :: st) h Q = (if v < x then xe_P d 101 44 ls st h Q else xe_P d 101 36 ls st h Q) := xe_P_if (ins := .if_icmp .gt 11) (len := 3) (off := 11) (by decide +kernel) (by decide) rfl rfl rfl
theorem xs_101_36 : xe_P d 101 36 [l0, l1, l2, l3, .int x] st h Q = xe_P d 101 38 [l0, l1, l2, l3, .int x] (.int x :: st) h Q := xe_P_lo (ins := .iload 4) (len := 2) (by decide +kernel) rfl rfl
theorem xs_101_38 : xe_P d 101 38 ls (v0 :: st) h Q = (xe_w st ≤ 8 ∧ xe_C d 118 [v0] h (fun r h' => xe_P d 101 41 ls (r.toList ++ st) h' Q)) := xe_P_ivs (y := 101) (pc := 38) (z := 118) (i := 182) (vs := [v0]) (by decide +kernel) (by decide +kernel) rfl
theorem xs_101_41 : xe_P d 101 41 ls (.int x :: st) h Q = (if x = 0 then xe_P d 101 44 ls st h Q else xe_P d 101 46 ls st h Q) := xe_P_ifn (ins := .ifCond .ne 5) (len := 3) (off := 5) (by decide +kernel) (by decide) rfl rfl rfl
theorem xs_101_44 : xe_P d 101 44 ls st h Q = xe_P d 101 45 ls (.int (-1) :: st) h Q := xe_P_ar (ins := .iconst (-1)) (len := 1) (by decide +kernel) rfl
theorem xs_101_45 : xe_P d 101 45 ls [.int x] h Q = Q (some (.int x)) h := xe_P_ireturn (by decide +kernel) rfl
theorem xs_101_46 : xe_P d 101 46 [.ref a, l1, l2, l3, l4] st h Q = xe_P d 101 47 [.ref a, l1, l2, l3, l4] (.ref a :: st) h Q := xe_P_lo (ins := .aload_n 0) (len := 1) (by decide +kernel) rfl rfl
theorem xs_101_47 : xe_P d 101 47 ls (.ref a :: st) h Q = (xe_ob h a 6 ∧ xe_P d 101 50 ls (va_rf (xe_R h a 6) :: st) h Q) := xe_P_getR (i := 44) (by decide +kernel) (by decide +kernel) (by decide) rfl
theorem xs_101_50 : xe_P d 101 50 [.ref a, l1, l2, l3, l4] st h Q = xe_P d 101 51 [.ref a, l1, l2, l3, l4] (.ref a :: st) h Q := xe_P_lo (ins := .aload_n 0) (len := 1) (by decide +kernel) rfl rfl
theorem xs_101_51 : xe_P d 101 51 ls (.ref a :: st) h Q = (xe_ob h a 6 ∧ xe_P d 101 54 ls (va_rf (xe_R h a 0) :: st) h Q) := xe_P_getR (i := 10) (by decide +kernel) (by decide +kernel) (by decide) rfl
theorem xs_101_54 : xe_P d 101 54 [l0, .int x, l2, l3, l4] st h Q = xe_P d 101 55 [l0, .int x, l2, l3, l4] (.int x :: st) h Q := xe_P_lo (ins := .iload_n 1) (len := 1) (by decide +kernel) rfl rfl
theorem xs_101_55 : xe_P d 101 55 [l0, l1, .int x, l3, l4] st h Q = xe_P d 101 56 [l0, l1, .int x, l3, l4] (.int x :: st) h Q := xe_P_lo (ins := .iload_n 2) (len := 1) (by decide +kernel) rfl rfl
theorem xs_101_56 : xe_P d 101 56 [l0, l1, l2, .int x, l4] st h Q = xe_P d 101 57 [l0, l1, l2, .int x, l4] (.int x :: st) h Q := xe_P_lo (ins := .iload_n 3) (len := 1) (by decide +kernel) rfl rfl
theorem xs_101_57 : xe_P d 101 57 [l0, l1, l2, l3, .int x] st h Q = xe_P d 101 59 [l0, l1, l2, l3, .int x] (.int x :: st) h Q := xe_P_lo (ins := .iload 4) (len := 2) (by decide +kernel) rfl rfl
theorem xs_101_59 : xe_P d 101 59 ls (v4 :: v3 :: v2 :: v1 :: v0 :: .ref a :: st) h Q = ((xe_w st ≤ 8 ∧ xe_ob h a 0) ∧ xe_C d 3 [.ref a, v0, v1, v2, v3, v4] h (fun r h' => xe_P d 101 62 ls (r.toList ++ st) h' Q)) := xe_P_ivv (y := 101) (pc := 59) (z := 3) (i := 185) (vs := [v4, v3, v2, v1, v0]) (by decide +kernel) (by decide +kernel) rfl (by decide +kernel)
theorem xs_101_62 : xe_P d 101 62 ls [.int x] h Q = Q (some (.int x)) h := xe_P_ireturn (by decide +kernel) rfl
theorem xs_101 : xe_C (d + 1) 101 [.ref a, .int x0, .int x1, .int x2, .int x3] h Q = xe_P d 101 0 [.ref a, .int x0, .int x1, .int x2, .int x3] [] h Q := xe_C_at (Nat.le_of_ble_eq_true rfl) rfl
theorem xs_102_0 : xe_P d 102 0 [.ref a, l1, l2] st h Q = xe_P d 102 1 [.ref a, l1, l2] (.ref a :: st) h Q := xe_P_lo (ins := .aload_n 0) (len := 1) (by decide +kernel) rfl rfl
theorem xs_102_1 : xe_P d 102 1 ls (.ref a :: st) h Q = (xe_ob h a 6 ∧ xe_P d 102 4 ls (va_rf (xe_R h a 0) :: st) h Q) := xe_P_getR (i := 10) (by decide +kernel) (by decide +kernel) (by decide) rfl
theorem xs_102_4 : xe_P d 102 4 [l0, .int x, l2] st h Q = xe_P d 102 5 [l0, .int x, l2] (.int x :: st) h Q := xe_P_lo (ins := .iload_n 1) (len := 1) (by decide +kernel) rfl rfl
theorem xs_102_5 : xe_P d 102 5 ls (v0 :: .ref a :: st) h Q = ((xe_w st ≤ 8 ∧ xe_ob h a 3) ∧ xe_C d 42 [.ref a, v0] h (fun r h' => xe_P d 102 8 ls (r.toList ++ st) h' Q)) := xe_P_ivv (y := 102) (pc := 5) (z := 42) (i := 130) (vs := [v0]) (by decide +kernel) (by decide +kernel) rfl (by decide +kernel)
theorem xs_102_8 : xe_P d 102 8 ls (.int x :: st) h Q = (if x = 0 then xe_P d 102 18 ls st h Q else xe_P d 102 11 ls st h Q) := xe_P_if (ins := .ifCond .eq 10) (len := 3) (off := 10) (by decide +kernel) (by decide) rfl rfl rfl
theorem xs_102_11 : xe_P d 102 11 [l0, l1, .int x] st h Q = xe_P d 102 12 [l0, l1, .int x] (.int x :: st) h Q := xe_P_lo (ins := .iload_n 2) (len := 1) (by decide +kernel) rfl rfl
theorem xs_102_12 : xe_P d 102 12 ls (v0 :: st) h Q = (xe_w st ≤ 8 ∧ xe_C d 118 [v0] h (fun r h' => xe_P d 102 15 ls (r.toList ++ st) h' Q)) := xe_P_ivs (y := 102) (pc := 12) (z := 118) (i := 182) (vs := [v0]) (by decide +kernel) (by decide +kernel) rfl
theorem xs_102_15 : xe_P d 102 15 ls (.int x :: st) h Q = (if x = 0 then xe_P d 102 18 ls st h Q else xe_P d 102 20 ls st h Q) := xe_P_ifn (ins := .ifCond .ne 5) (len := 3) (off := 5) (by decide +kernel) (by decide) rfl rfl rfl
theorem xs_102_18 : xe_P d 102 18 ls st h Q = xe_P d 102 19 ls (.int (-1) :: st) h Q := xe_P_ar (ins := .iconst (-1)) (len := 1) (by decide +kernel) rfl
theorem xs_102_19 : xe_P d 102 19 ls [.int x] h Q = Q (some (.int x)) h := xe_P_ireturn (by decide +kernel) rfl
theorem xs_102_20 : xe_P d 102 20 [.ref a, l1, l2] st h Q = xe_P d 102 21 [.ref a, l1, l2] (.ref a :: st) h Q := xe_P_lo (ins := .aload_n 0) (len := 1) (by decide +kernel) rfl rfl
theorem xs_102_21 : xe_P d 102 21 ls (.ref a :: st) h Q = (xe_ob h a 6 ∧ xe_P d 102 24 ls (va_rf (xe_R h a 5) :: st) h Q) := xe_P_getR (i := 37) (by decide +kernel) (by decide +kernel) (by decide) rfl
theorem xs_102_24 : xe_P d 102 24 [.ref a, l1, l2] st h Q = xe_P d 102 25 [.ref a, l1, l2] (.ref a :: st) h Q := xe_P_lo (ins := .aload_n 0) (len := 1) (by decide +kernel) rfl rfl
theorem xs_102_25 : xe_P d 102 25 ls (.ref a :: st) h Q = (xe_ob h a 6 ∧ xe_P d 102 28 ls (va_rf (xe_R h a 0) :: st) h Q) := xe_P_getR (i := 10) (by decide +kernel) (by decide +kernel) (by decide) rfl
theorem xs_102_28 : xe_P d 102 28 [l0, .int x, l2] st h Q = xe_P d 102 29 [l0, .int x, l2] (.int x :: st) h Q := xe_P_lo (ins := .iload_n 1) (len := 1) (by decide +kernel) rfl rfl
theorem xs_102_29 : xe_P d 102 29 [l0, l1, .int x] st h Q = xe_P d 102 30 [l0, l1, .int x] (.int x :: st) h Q := xe_P_lo (ins := .iload_n 2) (len := 1) (by decide +kernel) rfl rfl
theorem xs_102_30 : xe_P d 102 30 ls (v2 :: v1 :: v0 :: .ref a :: st) h Q = ((xe_w st ≤ 8 ∧ xe_ob h a 5) ∧ xe_C d 74 [.ref a, v0, v1, v2] h (fun r h' => xe_P d 102 33 ls (r.toList ++ st) h' Q)) := xe_P_ivv (y := 102) (pc := 30) (z := 74) (i := 188) (vs := [v2, v1, v0]) (by decide +kernel) (by decide +kernel) rfl (by decide +kernel)
theorem xs_102_33 : xe_P d 102 33 ls [.int x] h Q = Q (some (.int x)) h := xe_P_ireturn (by decide +kernel) rfl
theorem xs_102 : xe_C (d + 1) 102 [.ref a, .int x0, .int x1] h Q = xe_P d 102 0 [.ref a, .int x0, .int x1] [] h Q := xe_C_at (Nat.le_of_ble_eq_true rfl) rfl
theorem xs_103_0 : xe_P d 103 0 [.ref a, l1, l2, l3] st h Q = xe_P d 103 1 [.ref a, l1, l2, l3] (.ref a :: st) h Q := xe_P_lo (ins := .aload_n 0) (len := 1) (by decide +kernel) rfl rfl
theorem xs_103_1 : xe_P d 103 1 ls (.ref a :: st) h Q = (xe_ob h a 6 ∧ xe_P d 103 4 ls (va_rf (xe_R h a 0) :: st) h Q) := xe_P_getR (i := 10) (by decide +kernel) (by decide +kernel) (by decide) rfl
theorem xs_103_4 : xe_P d 103 4 [l0, .int x, l2, l3] st h Q = xe_P d 103 5 [l0, .int x, l2, l3] (.int x :: st) h Q := xe_P_lo (ins := .iload_n 1) (len := 1) (by decide +kernel) rfl rfl
theorem xs_103_5 : xe_P d 103 5 ls (v0 :: .ref a :: st) h Q = ((xe_w st ≤ 8 ∧ xe_ob h a 3) ∧ xe_C d 42 [.ref a, v0] h (fun r h' => xe_P d 103 8 ls (r.toList ++ st) h' Q)) := xe_P_ivv (y := 103) (pc := 5) (z := 42) (i := 130) (vs := [v0]) (by decide +kernel) (by decide +kernel) rfl (by decide +kernel)
theorem xs_103_8 : xe_P d 103 8 ls (.int x :: st) h Q = (if x = 0 then xe_P d 103 27 ls st h Q else xe_P d 103 11 ls st h Q) := xe_P_if (ins := .ifCond .eq 19) (len := 3) (off := 19) (by decide +kernel) (by decide) rfl rfl rfl
theorem xs_103_11 : xe_P d 103 11 [l0, l1, .int x, l3] st h Q = xe_P d 103 12 [l0, l1, .int x, l3] (.int x :: st) h Q := xe_P_lo (ins := .iload_n 2) (len := 1) (by decide +kernel) rfl rfl
theorem xs_103_12 : xe_P d 103 12 ls (.int x :: st) h Q = (if x < 0 then xe_P d 103 27 ls st h Q else xe_P d 103 15 ls st h Q) := xe_P_if (ins := .ifCond .lt 15) (len := 3) (off := 15) (by decide +kernel) (by decide) rfl rfl rfl
theorem xs_103_15 : xe_P d 103 15 [l0, l1, .int x, l3] st h Q = xe_P d 103 16 [l0, l1, .int x, l3] (.int x :: st) h Q := xe_P_lo (ins := .iload_n 2) (len := 1) (by decide +kernel) rfl rfl
theorem xs_103_16 : xe_P d 103 16 ls st h Q = xe_P d 103 17 ls (.int 5 :: st) h Q := xe_P_ar (ins := .iconst 5) (len := 1) (by decide +kernel) rfl
theorem xs_103_17 : xe_P d 103 17 ls (.int v :: .int x :: st) h Q = (if v < x then xe_P d 103 27 ls st h Q else xe_P d 103 20 ls st h Q) := xe_P_if (ins := .if_icmp .gt 10) (len := 3) (off := 10) (by decide +kernel) (by decide) rfl rfl rfl
theorem xs_103_20 : xe_P d 103 20 [l0, l1, l2, .int x] st h Q = xe_P d 103 21 [l0, l1, l2, .int x] (.int x :: st) h Q := xe_P_lo (ins := .iload_n 3) (len := 1) (by decide +kernel) rfl rfl
theorem xs_103_21 : xe_P d 103 21 ls (v0 :: st) h Q = (xe_w st ≤ 8 ∧ xe_C d 118 [v0] h (fun r h' => xe_P d 103 24 ls (r.toList ++ st) h' Q)) := xe_P_ivs (y := 103) (pc := 21) (z := 118) (i := 182) (vs := [v0]) (by decide +kernel) (by decide +kernel) rfl
theorem xs_103_24 : xe_P d 103 24 ls (.int x :: st) h Q = (if x = 0 then xe_P d 103 27 ls st h Q else xe_P d 103 31 ls st h Q) := xe_P_ifn (ins := .ifCond .ne 7) (len := 3) (off := 7) (by decide +kernel) (by decide) rfl rfl rfl
theorem xs_103_27 : xe_P d 103 27 ls st h Q = xe_P d 103 30 ls (.long (-1) :: st) h Q := xe_P_ldc2 (j := 192) (by decide +kernel) (by decide +kernel)
theorem xs_103_30 : xe_P d 103 30 ls [.long w] h Q = Q (some (.long w)) h := xe_P_lreturn (by decide +kernel) rfl
theorem xs_103_31 : xe_P d 103 31 [.ref a, l1, l2, l3] st h Q = xe_P d 103 32 [.ref a, l1, l2, l3] (.ref a :: st) h Q := xe_P_lo (ins := .aload_n 0) (len := 1) (by decide +kernel) rfl rfl
theorem xs_103_32 : xe_P d 103 32 ls (.ref a :: st) h Q = (xe_ob h a 6 ∧ xe_P d 103 35 ls (va_rf (xe_R h a 6) :: st) h Q) := xe_P_getR (i := 44) (by decide +kernel) (by decide +kernel) (by decide) rfl
theorem xs_103_35 : xe_P d 103 35 [.ref a, l1, l2, l3] st h Q = xe_P d 103 36 [.ref a, l1, l2, l3] (.ref a :: st) h Q := xe_P_lo (ins := .aload_n 0) (len := 1) (by decide +kernel) rfl rfl
theorem xs_103_36 : xe_P d 103 36 ls (.ref a :: st) h Q = (xe_ob h a 6 ∧ xe_P d 103 39 ls (va_rf (xe_R h a 0) :: st) h Q) := xe_P_getR (i := 10) (by decide +kernel) (by decide +kernel) (by decide) rfl
theorem xs_103_39 : xe_P d 103 39 [l0, .int x, l2, l3] st h Q = xe_P d 103 40 [l0, .int x, l2, l3] (.int x :: st) h Q := xe_P_lo (ins := .iload_n 1) (len := 1) (by decide +kernel) rfl rfl
theorem xs_103_40 : xe_P d 103 40 [l0, l1, .int x, l3] st h Q = xe_P d 103 41 [l0, l1, .int x, l3] (.int x :: st) h Q := xe_P_lo (ins := .iload_n 2) (len := 1) (by decide +kernel) rfl rfl
theorem xs_103_41 : xe_P d 103 41 [l0, l1, l2, .int x] st h Q = xe_P d 103 42 [l0, l1, l2, .int x] (.int x :: st) h Q := xe_P_lo (ins := .iload_n 3) (len := 1) (by decide +kernel) rfl rfl
theorem xs_103_42 : xe_P d 103 42 ls (v3 :: v2 :: v1 :: v0 :: .ref a :: st) h Q = ((xe_w st ≤ 8 ∧ xe_ob h a 0) ∧ xe_C d 6 [.ref a, v0, v1, v2, v3] h (fun r h' => xe_P d 103 45 ls (r.toList ++ st) h' Q)) := xe_P_ivv (y := 103) (pc := 42) (z := 6) (i := 194) (vs := [v3, v2, v1, v0]) (by decide +kernel) (by decide +kernel) rfl (by decide +kernel)
theorem xs_103_45 : xe_P d 103 45 ls [.long w] h Q = Q (some (.long w)) h := xe_P_lreturn (by decide +kernel) rfl
theorem xs_103 : xe_C (d + 1) 103 [.ref a, .int x0, .int x1, .int x2] h Q = xe_P d 103 0 [.ref a, .int x0, .int x1, .int x2] [] h Q := xe_C_at (Nat.le_of_ble_eq_true rfl) rfl
theorem xs_104_0 : xe_P d 104 0 [l0, .int x, l2, l3] st h Q = xe_P d 104 1 [l0, .int x, l2, l3] (.int x :: st) h Q := xe_P_lo (ins := .iload_n 1) (len := 1) (by decide +kernel) rfl rfl
theorem xs_104_1 : xe_P d 104 1 ls st h Q = xe_P d 104 3 ls (.int (-4) :: st) h Q := xe_P_ar (ins := .bipush (-4)) (len := 2) (by decide +kernel) rfl
theorem xs_104_3 : xe_P d 104 3 ls (.int v :: .int x :: st) h Q = (if x = v then xe_P d 104 17 ls st h Q else xe_P d 104 6 ls st h Q) := xe_P_if (ins := .if_icmp .eq 14) (len := 3) (off := 14) (by decide +kernel) (by decide) rfl rfl rfl
theorem xs_104_6 : xe_P d 104 6 [.ref a, l1, l2, l3] st h Q = xe_P d 104 7 [.ref a, l1, l2, l3] (.ref a :: st) h Q := xe_P_lo (ins := .aload_n 0) (len := 1) (by decide +kernel) rfl rfl
theorem xs_104_7 : xe_P d 104 7 ls (.ref a :: st) h Q = (xe_ob h a 6 ∧ xe_P d 104 10 ls (va_rf (xe_R h a 0) :: st) h Q) := xe_P_getR (i := 10) (by decide +kernel) (by decide +kernel) (by decide) rfl
theorem xs_104_10 : xe_P d 104 10 [l0, .int x, l2, l3] st h Q = xe_P d 104 11 [l0, .int x, l2, l3] (.int x :: st) h Q := xe_P_lo (ins := .iload_n 1) (len := 1) (by decide +kernel) rfl rfl
theorem xs_104_11 : xe_P d 104 11 ls (v0 :: .ref a :: st) h Q = ((xe_w st ≤ 8 ∧ xe_ob h a 3) ∧ xe_C d 41 [.ref a, v0] h (fun r h' => xe_P d 104 14 ls (r.toList ++ st) h' Q)) := xe_P_ivv (y := 104) (pc := 11) (z := 41) (i := 106) (vs := [v0]) (by decide +kernel) (by decide +kernel) rfl (by decide +kernel)
theorem xs_104_14 : xe_P d 104 14 ls (.int x :: st) h Q = (if x = 0 then xe_P d 104 28 ls st h Q else xe_P d 104 17 ls st h Q) := xe_P_if (ins := .ifCond .eq 14) (len := 3) (off := 14) (by decide +kernel) (by decide) rfl rfl rfl
theorem xs_104_17 : xe_P d 104 17 [.ref a, l1, l2, l3] st h Q = xe_P d 104 18 [.ref a, l1, l2, l3] (.ref a :: st) h Q := xe_P_lo (ins := .aload_n 0) (len := 1) (by decide +kernel) rfl rfl
theorem xs_104_18 : xe_P d 104 18 ls (.ref a :: st) h Q = (xe_ob h a 6 ∧ xe_P d 104 21 ls (va_rf (xe_R h a 0) :: st) h Q) := xe_P_getR (i := 10) (by decide +kernel) (by decide +kernel) (by decide) rfl
theorem xs_104_21 : xe_P d 104 21 [l0, l1, .int x, l3] st h Q = xe_P d 104 22 [l0, l1, .int x, l3] (.int x :: st) h Q := xe_P_lo (ins := .iload_n 2) (len := 1) (by decide +kernel) rfl rfl
theorem xs_104_22 : xe_P d 104 22 ls (v0 :: .ref a :: st) h Q = ((xe_w st ≤ 8 ∧ xe_ob h a 3) ∧ xe_C d 41 [.ref a, v0] h (fun r h' => xe_P d 104 25 ls (r.toList ++ st) h' Q)) := xe_P_ivv (y := 104) (pc := 22) (z := 41) (i := 106) (vs := [v0]) (by decide +kernel) (by decide +kernel) rfl (by decide +kernel)
theorem xs_104_25 : xe_P d 104 25 ls (.int x :: st) h Q = (if x = 0 then xe_P d 104 28 ls st h Q else xe_P d 104 30 ls st h Q) := xe_P_ifn (ins := .ifCond .ne 5) (len := 3) (off := 5) (by decide +kernel) (by decide) rfl rfl rfl
theorem xs_104_28 : xe_P d 104 28 ls st h Q = xe_P d 104 29 ls (.int (-1) :: st) h Q := xe_P_ar (ins := .iconst (-1)) (len := 1) (by decide +kernel) rfl
theorem xs_104_29 : xe_P d 104 29 ls [.int x] h Q = Q (some (.int x)) h := xe_P_ireturn (by decide +kernel) rfl
theorem xs_104_30 : xe_P d 104 30 [.ref a, l1, l2, l3] st h Q = xe_P d 104 31 [.ref a, l1, l2, l3] (.ref a :: st) h Q := xe_P_lo (ins := .aload_n 0) (len := 1) (by decide +kernel) rfl rfl
theorem xs_104_31 : xe_P d 104 31 ls (.ref a :: st) h Q = (xe_ob h a 6 ∧ xe_P d 104 34 ls (va_rf (xe_R h a 7) :: st) h Q) := xe_P_getR (i := 51) (by decide +kernel) (by decide +kernel) (by decide) rfl
theorem xs_104_34 : xe_P d 104 34 [l0, .int x, l2, l3] st h Q = xe_P d 104 35 [l0, .int x, l2, l3] (.int x :: st) h Q := xe_P_lo (ins := .iload_n 1) (len := 1) (by decide +kernel) rfl rfl
theorem xs_104_35 : xe_P d 104 35 ls st h Q = xe_P d 104 37 ls (.int (-4) :: st) h Q := xe_P_ar (ins := .bipush (-4)) (len := 2) (by decide +kernel) rfl
theorem xs_104_37 : xe_P d 104 37 ls (.int v :: .int x :: st) h Q = (if x = v then xe_P d 104 40 ls st h Q else xe_P d 104 45 ls st h Q) := xe_P_ifn (ins := .if_icmp .ne 8) (len := 3) (off := 8) (by decide +kernel) (by decide) rfl rfl rfl
theorem xs_104_40 : xe_P d 104 40 ls st h Q = xe_P d 104 42 ls (.int 6 :: st) h Q := xe_P_ar (ins := .bipush 6) (len := 2) (by decide +kernel) rfl
theorem xs_104_42 : xe_P d 104 42 ls st h Q = xe_P d 104 46 ls st h Q := xe_P_go (len := 3) (off := 4) (by decide +kernel) (by decide)
theorem xs_104_45 : xe_P d 104 45 [l0, .int x, l2, l3] st h Q = xe_P d 104 46 [l0, .int x, l2, l3] (.int x :: st) h Q := xe_P_lo (ins := .iload_n 1) (len := 1) (by decide +kernel) rfl rfl
theorem xs_104_46 : xe_P d 104 46 [l0, l1, .int x, l3] st h Q = xe_P d 104 47 [l0, l1, .int x, l3] (.int x :: st) h Q := xe_P_lo (ins := .iload_n 2) (len := 1) (by decide +kernel) rfl rfl
theorem xs_104_47 : xe_P d 104 47 [l0, l1, l2, .int x] st h Q = xe_P d 104 48 [l0, l1, l2, .int x] (.int x :: st) h Q := xe_P_lo (ins := .iload_n 3) (len := 1) (by decide +kernel) rfl rfl
theorem xs_104_48 : xe_P d 104 48 ls (v2 :: v1 :: v0 :: .ref a :: st) h Q = ((xe_w st ≤ 8 ∧ xe_ob h a 4) ∧ xe_C d 59 [.ref a, v0, v1, v2] h (fun r h' => xe_P d 104 51 ls (r.toList ++ st) h' Q)) := xe_P_ivv (y := 104) (pc := 48) (z := 59) (i := 198) (vs := [v2, v1, v0]) (by decide +kernel) (by decide +kernel) rfl (by decide +kernel)
theorem xs_104_51 : xe_P d 104 51 ls [.int x] h Q = Q (some (.int x)) h := xe_P_ireturn (by decide +kernel) rfl
theorem xs_104 : xe_C (d + 1) 104 [.ref a, .int x0, .int x1, .int x2] h Q = xe_P d 104 0 [.ref a, .int x0, .int x1, .int x2] [] h Q := xe_C_at (Nat.le_of_ble_eq_true rfl) rfl
theorem xs_105_0 : xe_P d 105 0 [l0, .int x, l2] st h Q = xe_P d 105 1 [l0, .int x, l2] (.int x :: st) h Q := xe_P_lo (ins := .iload_n 1) (len := 1) (by decide +kernel) rfl rfl
theorem xs_105_1 : xe_P d 105 1 ls (.int x :: st) h Q = (if x < 0 then xe_P d 105 15 ls st h Q else xe_P d 105 4 ls st h Q) := xe_P_if (ins := .ifCond .lt 14) (len := 3) (off := 14) (by decide +kernel) (by decide) rfl rfl rfl
theorem xs_105_4 : xe_P d 105 4 [l0, .int x, l2] st h Q = xe_P d 105 5 [l0, .int x, l2] (.int x :: st) h Q := xe_P_lo (ins := .iload_n 1) (len := 1) (by decide +kernel) rfl rfl
theorem xs_105_5 : xe_P d 105 5 [.ref a, l1, l2] st h Q = xe_P d 105 6 [.ref a, l1, l2] (.ref a :: st) h Q := xe_P_lo (ins := .aload_n 0) (len := 1) (by decide +kernel) rfl rfl
theorem xs_105_6 : xe_P d 105 6 ls (.ref a :: st) h Q = (xe_ob h a 6 ∧ xe_P d 105 9 ls (va_rf (xe_R h a 7) :: st) h Q) := xe_P_getR (i := 51) (by decide +kernel) (by decide +kernel) (by decide) rfl
theorem xs_105_9 : xe_P d 105 9 ls (.ref a :: st) h Q = (xe_ob h a 4 ∧ xe_P d 105 12 ls (.int (xe_I h a 0) :: st) h Q) := xe_P_getI (i := 82) (by decide +kernel) (by decide +kernel) (by decide) rfl
theorem xs_105_12 : xe_P d 105 12 ls (.int v :: .int x :: st) h Q = (if x ≤ v then xe_P d 105 17 ls st h Q else xe_P d 105 15 ls st h Q) := xe_P_if (ins := .if_icmp .le 5) (len := 3) (off := 5) (by decide +kernel) (by decide) rfl rfl rfl
theorem xs_105_15 : xe_P d 105 15 ls st h Q = xe_P d 105 16 ls (.int (-1) :: st) h Q := xe_P_ar (ins := .iconst (-1)) (len := 1) (by decide +kernel) rfl
theorem xs_105_16 : xe_P d 105 16 ls [.int x] h Q = Q (some (.int x)) h := xe_P_ireturn (by decide +kernel) rfl
theorem xs_105_17 : xe_P d 105 17 [.ref a, l1, l2] st h Q = xe_P d 105 18 [.ref a, l1, l2] (.ref a :: st) h Q := xe_P_lo (ins := .aload_n 0) (len := 1) (by decide +kernel) rfl rfl
theorem xs_105_18 : xe_P d 105 18 ls (.ref a :: st) h Q = (xe_ob h a 6 ∧ xe_P d 105 21 ls (va_rf (xe_R h a 7) :: st) h Q) := xe_P_getR (i := 51) (by decide +kernel) (by decide +kernel) (by decide) rfl
theorem xs_105_21 : xe_P d 105 21 ls (.ref a :: st) h Q = (xe_ob h a 4 ∧ xe_P d 105 24 ls (.int (xe_I h a 0) :: st) h Q) := xe_P_getI (i := 82) (by decide +kernel) (by decide +kernel) (by decide) rfl
theorem xs_105_24 : xe_P d 105 24 [l0, l1, l2] (.int x :: st) h Q = xe_P d 105 25 [l0, xe_cut l1, .int x] st h Q := xe_P_lo (ins := .istore_n 2) (len := 1) (by decide +kernel) rfl rfl
theorem xs_105_25 : xe_P d 105 25 [.ref a, l1, l2] st h Q = xe_P d 105 26 [.ref a, l1, l2] (.ref a :: st) h Q := xe_P_lo (ins := .aload_n 0) (len := 1) (by decide +kernel) rfl rfl
theorem xs_105_26 : xe_P d 105 26 ls (.ref a :: st) h Q = (xe_ob h a 6 ∧ xe_P d 105 29 ls (va_rf (xe_R h a 7) :: st) h Q) := xe_P_getR (i := 51) (by decide +kernel) (by decide +kernel) (by decide) rfl
theorem xs_105_29 : xe_P d 105 29 [l0, .int x, l2] st h Q = xe_P d 105 30 [l0, .int x, l2] (.int x :: st) h Q := xe_P_lo (ins := .iload_n 1) (len := 1) (by decide +kernel) rfl rfl
theorem xs_105_30 : xe_P d 105 30 ls (.int v :: .ref a :: st) h Q = (xe_ob h a 4 ∧ xe_P d 105 33 ls st (xe_sI h a 0 v) Q) := xe_P_putI (i := 82) (by decide +kernel) (by decide +kernel) (by decide) (by decide +kernel) rfl
theorem xs_105_33 : xe_P d 105 33 [l0, l1, .int x] st h Q = xe_P d 105 34 [l0, l1, .int x] (.int x :: st) h Q := xe_P_lo (ins := .iload_n 2) (len := 1) (by decide +kernel) rfl rfl
theorem xs_105_34 : xe_P d 105 34 ls [.int x] h Q = Q (some (.int x)) h := xe_P_ireturn (by decide +kernel) rfl
theorem xs_105 : xe_C (d + 1) 105 [.ref a, .int x0] h Q = xe_P d 105 0 [.ref a, .int x0, .retAddr 0] [] h Q := xe_C_at (Nat.le_of_ble_eq_true rfl) rfl
theorem xs_106_0 : xe_P d 106 0 [l0, .int x] st h Q = xe_P d 106 1 [l0, .int x] (.int x :: st) h Q := xe_P_lo (ins := .iload_n 1) (len := 1) (by decide +kernel) rfl rfl
theorem xs_106_1 : xe_P d 106 1 ls (.int x :: st) h Q = (if x = 0 then xe_P d 106 26 ls st h Q else xe_P d 106 4 ls st h Q) := xe_P_if (ins := .ifCond .eq 25) (len := 3) (off := 25) (by decide +kernel) (by decide) rfl rfl rfl
theorem xs_106_4 : xe_P d 106 4 [l0, .int x] st h Q = xe_P d 106 5 [l0, .int x] (.int x :: st) h Q := xe_P_lo (ins := .iload_n 1) (len := 1) (by decide +kernel) rfl rfl
theorem xs_106_5 : xe_P d 106 5 ls st h Q = xe_P d 106 7 ls (.int 10 :: st) h Q := xe_P_ar (ins := .bipush 10) (len := 2) (by decide +kernel) rfl
theorem xs_106_7 : xe_P d 106 7 ls (.int v :: .int x :: st) h Q = (if x < v then xe_P d 106 24 ls st h Q else xe_P d 106 10 ls st h Q) := xe_P_if (ins := .if_icmp .lt 17) (len := 3) (off := 17) (by decide +kernel) (by decide) rfl rfl rfl
theorem xs_106_10 : xe_P d 106 10 [.ref a, l1] st h Q = xe_P d 106 11 [.ref a, l1] (.ref a :: st) h Q := xe_P_lo (ins := .aload_n 0) (len := 1) (by decide +kernel) rfl rfl
theorem xs_106_11 : xe_P d 106 11 ls (.ref a :: st) h Q = (xe_ob h a 6 ∧ xe_P d 106 14 ls (va_rf (xe_R h a 0) :: st) h Q) := xe_P_getR (i := 10) (by decide +kernel) (by decide +kernel) (by decide) rfl
theorem xs_106_14 : xe_P d 106 14 [l0, .int x] st h Q = xe_P d 106 15 [l0, .int x] (.int x :: st) h Q := xe_P_lo (ins := .iload_n 1) (len := 1) (by decide +kernel) rfl rfl
theorem xs_106_15 : xe_P d 106 15 ls st h Q = xe_P d 106 17 ls (.int 10 :: st) h Q := xe_P_ar (ins := .bipush 10) (len := 2) (by decide +kernel) rfl
theorem xs_106_17 : xe_P d 106 17 ls (.int v :: .int x :: st) h Q = xe_P d 106 18 ls (.int (x - v) :: st) h Q := xe_P_ar (ins := .isub) (len := 1) (by decide +kernel) rfl
theorem xs_106_18 : xe_P d 106 18 ls (v0 :: .ref a :: st) h Q = ((xe_w st ≤ 8 ∧ xe_ob h a 3) ∧ xe_C d 41 [.ref a, v0] h (fun r h' => xe_P d 106 21 ls (r.toList ++ st) h' Q)) := xe_P_ivv (y := 106) (pc := 18) (z := 41) (i := 106) (vs := [v0]) (by decide +kernel) (by decide +kernel) rfl (by decide +kernel)
theorem xs_106_21 : xe_P d 106 21 ls (.int x :: st) h Q = (if x = 0 then xe_P d 106 24 ls st h Q else xe_P d 106 26 ls st h Q) := xe_P_ifn (ins := .ifCond .ne 5) (len := 3) (off := 5) (by decide +kernel) (by decide) rfl rfl rfl
theorem xs_106_24 : xe_P d 106 24 ls st h Q = xe_P d 106 25 ls (.int (-1) :: st) h Q := xe_P_ar (ins := .iconst (-1)) (len := 1) (by decide +kernel) rfl
theorem xs_106_25 : xe_P d 106 25 ls [.int x] h Q = Q (some (.int x)) h := xe_P_ireturn (by decide +kernel) rfl
theorem xs_106_26 : xe_P d 106 26 [.ref a, l1] st h Q = xe_P d 106 27 [.ref a, l1] (.ref a :: st) h Q := xe_P_lo (ins := .aload_n 0) (len := 1) (by decide +kernel) rfl rfl
theorem xs_106_27 : xe_P d 106 27 ls (.ref a :: st) h Q = (xe_ob h a 6 ∧ xe_P d 106 30 ls (va_rf (xe_R h a 7) :: st) h Q) := xe_P_getR (i := 51) (by decide +kernel) (by decide +kernel) (by decide) rfl
theorem xs_106_30 : xe_P d 106 30 [.ref a, l1] st h Q = xe_P d 106 31 [.ref a, l1] (.ref a :: st) h Q := xe_P_lo (ins := .aload_n 0) (len := 1) (by decide +kernel) rfl rfl
theorem xs_106_31 : xe_P d 106 31 ls (.ref a :: st) h Q = (xe_ob h a 6 ∧ xe_P d 106 34 ls (va_rf (xe_R h a 0) :: st) h Q) := xe_P_getR (i := 10) (by decide +kernel) (by decide +kernel) (by decide) rfl
theorem xs_106_34 : xe_P d 106 34 ls st h Q = xe_P d 106 35 ls (.int 0 :: st) h Q := xe_P_ar (ins := .iconst 0) (len := 1) (by decide +kernel) rfl
theorem xs_106_35 : xe_P d 106 35 ls (v1 :: v0 :: .ref a :: st) h Q = ((xe_w st ≤ 8 ∧ xe_ob h a 4) ∧ xe_C d 60 [.ref a, v0, v1] h (fun r h' => xe_P d 106 38 ls (r.toList ++ st) h' Q)) := xe_P_ivv (y := 106) (pc := 35) (z := 60) (i := 202) (vs := [v1, v0]) (by decide +kernel) (by decide +kernel) rfl (by decide +kernel)
theorem xs_106_38 : xe_P d 106 38 [l0, .int x] st h Q = xe_P d 106 39 [l0, .int x] (.int x :: st) h Q := xe_P_lo (ins := .iload_n 1) (len := 1) (by decide +kernel) rfl rfl
theorem xs_106_39 : xe_P d 106 39 ls (.int x :: st) h Q = (if x = 0 then xe_P d 106 42 ls st h Q else xe_P d 106 50 ls st h Q) := xe_P_ifn (ins := .ifCond .ne 11) (len := 3) (off := 11) (by decide +kernel) (by decide) rfl rfl rfl
theorem xs_106_42 : xe_P d 106 42 [.ref a, l1] st h Q = xe_P d 106 43 [.ref a, l1] (.ref a :: st) h Q := xe_P_lo (ins := .aload_n 0) (len := 1) (by decide +kernel) rfl rfl
theorem xs_106_43 : xe_P d 106 43 ls (.ref a :: st) h Q = (xe_ob h a 6 ∧ xe_P d 106 46 ls (va_rf (xe_R h a 7) :: st) h Q) := xe_P_getR (i := 51) (by decide +kernel) (by decide +kernel) (by decide) rfl
theorem xs_106_46 : xe_P d 106 46 ls (.ref a :: st) h Q = (xe_ob h a 4 ∧ xe_P d 106 49 ls (.int (xe_I h a 1) :: st) h Q) := xe_P_getI (i := 206) (by decide +kernel) (by decide +kernel) (by decide) rfl
theorem xs_106_49 : xe_P d 106 49 ls [.int x] h Q = Q (some (.int x)) h := xe_P_ireturn (by decide +kernel) rfl
theorem xs_106_50 : xe_P d 106 50 [.ref a, l1] st h Q = xe_P d 106 51 [.ref a, l1] (.ref a :: st) h Q := xe_P_lo (ins := .aload_n 0) (len := 1) (by decide +kernel) rfl rfl
theorem xs_106_51 : xe_P d 106 51 ls (.ref a :: st) h Q = (xe_ob h a 6 ∧ xe_P d 106 54 ls (va_rf (xe_R h a 7) :: st) h Q) := xe_P_getR (i := 51) (by decide +kernel) (by decide +kernel) (by decide) rfl
theorem xs_106_54 : xe_P d 106 54 ls (.ref a :: st) h Q = (xe_ob h a 4 ∧ xe_P d 106 57 ls (.int (xe_I h a 1) :: st) h Q) := xe_P_getI (i := 206) (by decide +kernel) (by decide +kernel) (by decide) rfl
theorem xs_106_57 : xe_P d 106 57 ls (.int x :: st) h Q = (if x = 0 then xe_P d 106 60 ls st h Q else xe_P d 106 65 ls st h Q) := xe_P_ifn (ins := .ifCond .ne 8) (len := 3) (off := 8) (by decide +kernel) (by decide) rfl rfl rfl
theorem xs_106_60 : xe_P d 106 60 ls st h Q = xe_P d 106 62 ls (.int (-4) :: st) h Q := xe_P_ar (ins := .bipush (-4)) (len := 2) (by decide +kernel) rfl
theorem xs_106_62 : xe_P d 106 62 ls st h Q = xe_P d 106 79 ls st h Q := xe_P_go (len := 3) (off := 17) (by decide +kernel) (by decide)
theorem xs_106_65 : xe_P d 106 65 [.ref a, l1] st h Q = xe_P d 106 66 [.ref a, l1] (.ref a :: st) h Q := xe_P_lo (ins := .aload_n 0) (len := 1) (by decide +kernel) rfl rfl
theorem xs_106_66 : xe_P d 106 66 ls (.ref a :: st) h Q = (xe_ob h a 6 ∧ xe_P d 106 69 ls (va_rf (xe_R h a 7) :: st) h Q) := xe_P_getR (i := 51) (by decide +kernel) (by decide +kernel) (by decide) rfl
theorem xs_106_69 : xe_P d 106 69 [l0, .int x] st h Q = xe_P d 106 70 [l0, .int x] (.int x :: st) h Q := xe_P_lo (ins := .iload_n 1) (len := 1) (by decide +kernel) rfl rfl
theorem xs_106_70 : xe_P d 106 70 ls st h Q = xe_P d 106 72 ls (.int 10 :: st) h Q := xe_P_ar (ins := .bipush 10) (len := 2) (by decide +kernel) rfl
theorem xs_106_72 : xe_P d 106 72 ls (.int v :: .int x :: st) h Q = xe_P d 106 73 ls (.int (x - v) :: st) h Q := xe_P_ar (ins := .isub) (len := 1) (by decide +kernel) rfl
theorem xs_106_73 : xe_P d 106 73 ls (v0 :: .ref a :: st) h Q = ((xe_w st ≤ 8 ∧ xe_ob h a 4) ∧ xe_C d 66 [.ref a, v0] h (fun r h' => xe_P d 106 76 ls (r.toList ++ st) h' Q)) := xe_P_ivv (y := 106) (pc := 73) (z := 66) (i := 209) (vs := [v0]) (by decide +kernel) (by decide +kernel) rfl (by decide +kernel)
theorem xs_106_76 : xe_P d 106 76 ls (v0 :: st) h Q = (xe_w st ≤ 8 ∧ xe_C d 116 [v0] h (fun r h' => xe_P d 106 79 ls (r.toList ++ st) h' Q)) := xe_P_ivs (y := 106) (pc := 76) (z := 116) (i := 120) (vs := [v0]) (by decide +kernel) (by decide +kernel) rfl
theorem xs_106_79 : xe_P d 106 79 ls [.int x] h Q = Q (some (.int x)) h := xe_P_ireturn (by decide +kernel) rfl
theorem xs_106 : xe_C (d + 1) 106 [.ref a, .int x0] h Q = xe_P d 106 0 [.ref a, .int x0] [] h Q := xe_C_at (Nat.le_of_ble_eq_true rfl) rfl
theorem xs_107_0 : xe_P d 107 0 [.ref a, l1] st h Q = xe_P d 107 1 [.ref a, l1] (.ref a :: st) h Q := xe_P_lo (ins := .aload_n 0) (len := 1) (by decide +kernel) rfl rfl
theorem xs_107_1 : xe_P d 107 1 ls (.ref a :: st) h Q = (xe_ob h a 6 ∧ xe_P d 107 4 ls (va_rf (xe_R h a 0) :: st) h Q) := xe_P_getR (i := 10) (by decide +kernel) (by decide +kernel) (by decide) rfl
theorem xs_107_4 : xe_P d 107 4 [l0, .int x] st h Q = xe_P d 107 5 [l0, .int x] (.int x :: st) h Q := xe_P_lo (ins := .iload_n 1) (len := 1) (by decide +kernel) rfl rfl
theorem xs_107_5 : xe_P d 107 5 ls (v0 :: .ref a :: st) h Q = ((xe_w st ≤ 8 ∧ xe_ob h a 3) ∧ xe_C d 41 [.ref a, v0] h (fun r h' => xe_P d 107 8 ls (r.toList ++ st) h' Q)) := xe_P_ivv (y := 107) (pc := 5) (z := 41) (i := 106) (vs := [v0]) (by decide +kernel) (by decide +kernel) rfl (by decide +kernel)
theorem xs_107_8 : xe_P d 107 8 ls (.int x :: st) h Q = (if x = 0 then xe_P d 107 11 ls st h Q else xe_P d 107 13 ls st h Q) := xe_P_ifn (ins := .ifCond .ne 5) (len := 3) (off := 5) (by decide +kernel) (by decide) rfl rfl rfl
theorem xs_107_11 : xe_P d 107 11 ls st h Q = xe_P d 107 12 ls (.int (-1) :: st) h Q := xe_P_ar (ins := .iconst (-1)) (len := 1) (by decide +kernel) rfl
theorem xs_107_12 : xe_P d 107 12 ls [.int x] h Q = Q (some (.int x)) h := xe_P_ireturn (by decide +kernel) rfl
theorem xs_107_13 : xe_P d 107 13 [.ref a, l1] st h Q = xe_P d 107 14 [.ref a, l1] (.ref a :: st) h Q := xe_P_lo (ins := .aload_n 0) (len := 1) (by decide +kernel) rfl rfl
theorem xs_107_14 : xe_P d 107 14 ls (.ref a :: st) h Q = (xe_ob h a 6 ∧ xe_P d 107 17 ls (va_rf (xe_R h a 7) :: st) h Q) := xe_P_getR (i := 51) (by decide +kernel) (by decide +kernel) (by decide) rfl
theorem xs_107_17 : xe_P d 107 17 [.ref a, l1] st h Q = xe_P d 107 18 [.ref a, l1] (.ref a :: st) h Q := xe_P_lo (ins := .aload_n 0) (len := 1) (by decide +kernel) rfl rfl
theorem xs_107_18 : xe_P d 107 18 ls (.ref a :: st) h Q = (xe_ob h a 6 ∧ xe_P d 107 21 ls (va_rf (xe_R h a 0) :: st) h Q) := xe_P_getR (i := 10) (by decide +kernel) (by decide +kernel) (by decide) rfl
theorem xs_107_21 : xe_P d 107 21 ls st h Q = xe_P d 107 22 ls (.int 0 :: st) h Q := xe_P_ar (ins := .iconst 0) (len := 1) (by decide +kernel) rfl
theorem xs_107_22 : xe_P d 107 22 ls (v1 :: v0 :: .ref a :: st) h Q = ((xe_w st ≤ 8 ∧ xe_ob h a 4) ∧ xe_C d 60 [.ref a, v0, v1] h (fun r h' => xe_P d 107 25 ls (r.toList ++ st) h' Q)) := xe_P_ivv (y := 107) (pc := 22) (z := 60) (i := 202) (vs := [v1, v0]) (by decide +kernel) (by decide +kernel) rfl (by decide +kernel)
theorem xs_107_25 : xe_P d 107 25 [.ref a, l1] st h Q = xe_P d 107 26 [.ref a, l1] (.ref a :: st) h Q := xe_P_lo (ins := .aload_n 0) (len := 1) (by decide +kernel) rfl rfl
theorem xs_107_26 : xe_P d 107 26 ls (.ref a :: st) h Q = (xe_ob h a 6 ∧ xe_P d 107 29 ls (va_rf (xe_R h a 7) :: st) h Q) := xe_P_getR (i := 51) (by decide +kernel) (by decide +kernel) (by decide) rfl
theorem xs_107_29 : xe_P d 107 29 ls (.ref a :: st) h Q = (xe_ob h a 4 ∧ xe_P d 107 32 ls (va_rf (xe_R h a 2) :: st) h Q) := xe_P_getR (i := 212) (by decide +kernel) (by decide +kernel) (by decide) rfl
theorem xs_107_32 : xe_P d 107 32 [l0, .int x] st h Q = xe_P d 107 33 [l0, .int x] (.int x :: st) h Q := xe_P_lo (ins := .iload_n 1) (len := 1) (by decide +kernel) rfl rfl
theorem xs_107_33 : xe_P d 107 33 ls (.int v :: .ref a :: st) h Q = ((xe_ia h a ∧ xe_ix h a v) ∧ xe_P d 107 34 ls (.int (xe_I h a v.toNatClampNeg) :: st) h Q) := xe_P_iald (by decide +kernel)
theorem xs_107_34 : xe_P d 107 34 ls [.int x] h Q = Q (some (.int x)) h := xe_P_ireturn (by decide +kernel) rfl
theorem xs_107 : xe_C (d + 1) 107 [.ref a, .int x0] h Q = xe_P d 107 0 [.ref a, .int x0] [] h Q := xe_C_at (Nat.le_of_ble_eq_true rfl) rfl
theorem xs_108_0 : xe_P d 108 0 [l0, .int x] st h Q = xe_P d 108 1 [l0, .int x] (.int x :: st) h Q := xe_P_lo (ins := .iload_n 1) (len := 1) (by decide +kernel) rfl rfl
theorem xs_108_1 : xe_P d 108 1 ls (v0 :: st) h Q = (xe_w st ≤ 8 ∧ xe_C d 118 [v0] h (fun r h' => xe_P d 108 4 ls (r.toList ++ st) h' Q)) := xe_P_ivs (y := 108) (pc := 1) (z := 118) (i := 182) (vs := [v0]) (by decide +kernel) (by decide +kernel) rfl
theorem xs_108_4 : xe_P d 108 4 ls (.int x :: st) h Q = (if x = 0 then xe_P d 108 7 ls st h Q else xe_P d 108 9 ls st h Q) := xe_P_ifn (ins := .ifCond .ne 5) (len := 3) (off := 5) (by decide +kernel) (by decide) rfl rfl rfl
theorem xs_108_7 : xe_P d 108 7 ls st h Q = xe_P d 108 8 ls (.int (-1) :: st) h Q := xe_P_ar (ins := .iconst (-1)) (len := 1) (by decide +kernel) rfl
theorem xs_108_8 : xe_P d 108 8 ls [.int x] h Q = Q (some (.int x)) h := xe_P_ireturn (by decide +kernel) rfl
theorem xs_108_9 : xe_P d 108 9 [.ref a, l1] st h Q = xe_P d 108 10 [.ref a, l1] (.ref a :: st) h Q := xe_P_lo (ins := .aload_n 0) (len := 1) (by decide +kernel) rfl rfl
theorem xs_108_10 : xe_P d 108 10 ls (.ref a :: st) h Q = (xe_ob h a 6 ∧ xe_P d 108 13 ls (va_rf (xe_R h a 7) :: st) h Q) := xe_P_getR (i := 51) (by decide +kernel) (by decide +kernel) (by decide) rfl
theorem xs_108_13 : xe_P d 108 13 [.ref a, l1] st h Q = xe_P d 108 14 [.ref a, l1] (.ref a :: st) h Q := xe_P_lo (ins := .aload_n 0) (len := 1) (by decide +kernel) rfl rfl
theorem xs_108_14 : xe_P d 108 14 ls (.ref a :: st) h Q = (xe_ob h a 6 ∧ xe_P d 108 17 ls (va_rf (xe_R h a 0) :: st) h Q) := xe_P_getR (i := 10) (by decide +kernel) (by decide +kernel) (by decide) rfl
theorem xs_108_17 : xe_P d 108 17 ls st h Q = xe_P d 108 18 ls (.int 1 :: st) h Q := xe_P_ar (ins := .iconst 1) (len := 1) (by decide +kernel) rfl
theorem xs_108_18 : xe_P d 108 18 ls (v1 :: v0 :: .ref a :: st) h Q = ((xe_w st ≤ 8 ∧ xe_ob h a 4) ∧ xe_C d 60 [.ref a, v0, v1] h (fun r h' => xe_P d 108 21 ls (r.toList ++ st) h' Q)) := xe_P_ivv (y := 108) (pc := 18) (z := 60) (i := 202) (vs := [v1, v0]) (by decide +kernel) (by decide +kernel) rfl (by decide +kernel)
theorem xs_108_21 : xe_P d 108 21 [.ref a, l1] st h Q = xe_P d 108 22 [.ref a, l1] (.ref a :: st) h Q := xe_P_lo (ins := .aload_n 0) (len := 1) (by decide +kernel) rfl rfl
theorem xs_108_22 : xe_P d 108 22 ls (.ref a :: st) h Q = (xe_ob h a 6 ∧ xe_P d 108 25 ls (va_rf (xe_R h a 7) :: st) h Q) := xe_P_getR (i := 51) (by decide +kernel) (by decide +kernel) (by decide) rfl
theorem xs_108_25 : xe_P d 108 25 [l0, .int x] st h Q = xe_P d 108 26 [l0, .int x] (.int x :: st) h Q := xe_P_lo (ins := .iload_n 1) (len := 1) (by decide +kernel) rfl rfl
theorem xs_108_26 : xe_P d 108 26 ls (v0 :: .ref a :: st) h Q = ((xe_w st ≤ 8 ∧ xe_ob h a 4) ∧ xe_C d 69 [.ref a, v0] h (fun r h' => xe_P d 108 29 ls (r.toList ++ st) h' Q)) := xe_P_ivv (y := 108) (pc := 26) (z := 69) (i := 215) (vs := [v0]) (by decide +kernel) (by decide +kernel) rfl (by decide +kernel)
theorem xs_108_29 : xe_P d 108 29 ls [.int x] h Q = Q (some (.int x)) h := xe_P_ireturn (by decide +kernel) rfl
theorem xs_108 : xe_C (d + 1) 108 [.ref a, .int x0] h Q = xe_P d 108 0 [.ref a, .int x0] [] h Q := xe_C_at (Nat.le_of_ble_eq_true rfl) rfl
theorem xs_109_0 : xe_P d 109 0 [l0, .int x, l2] st h Q = xe_P d 109 1 [l0, .int x, l2] (.int x :: st) h Q := xe_P_lo (ins := .iload_n 1) (len := 1) (by decide +kernel) rfl rfl
theorem xs_109_1 : xe_P d 109 1 ls (.int x :: st) h Q = (if x < 0 then xe_P d 109 9 ls st h Q else xe_P d 109 4 ls st h Q) := xe_P_if (ins := .ifCond .lt 8) (len := 3) (off := 8) (by decide +kernel) (by decide) rfl rfl rfl
theorem xs_109_4 : xe_P d 109 4 [l0, .int x, l2] st h Q = xe_P d 109 5 [l0, .int x, l2] (.int x :: st) h Q := xe_P_lo (ins := .iload_n 1) (len := 1) (by decide +kernel) rfl rfl
theorem xs_109_5 : xe_P d 109 5 ls st h Q = xe_P d 109 6 ls (.int 2 :: st) h Q := xe_P_ar (ins := .iconst 2) (len := 1) (by decide +kernel) rfl
theorem xs_109_6 : xe_P d 109 6 ls (.int v :: .int x :: st) h Q = (if x < v then xe_P d 109 11 ls st h Q else xe_P d 109 9 ls st h Q) := xe_P_if (ins := .if_icmp .lt 5) (len := 3) (off := 5) (by decide +kernel) (by decide) rfl rfl rfl
theorem xs_109_9 : xe_P d 109 9 ls st h Q = xe_P d 109 10 ls (.int (-1) :: st) h Q := xe_P_ar (ins := .iconst (-1)) (len := 1) (by decide +kernel) rfl
theorem xs_109_10 : xe_P d 109 10 ls [.int x] h Q = Q (some (.int x)) h := xe_P_ireturn (by decide +kernel) rfl
theorem xs_109_11 : xe_P d 109 11 [.ref a, l1, l2] st h Q = xe_P d 109 12 [.ref a, l1, l2] (.ref a :: st) h Q := xe_P_lo (ins := .aload_n 0) (len := 1) (by decide +kernel) rfl rfl
theorem xs_109_12 : xe_P d 109 12 ls (.ref a :: st) h Q = (xe_ob h a 6 ∧ xe_P d 109 15 ls (va_rf (xe_R h a 3) :: st) h Q) := xe_P_getR (i := 23) (by decide +kernel) (by decide +kernel) (by decide) rfl
theorem xs_109_15 : xe_P d 109 15 [l0, .int x, l2] st h Q = xe_P d 109 16 [l0, .int x, l2] (.int x :: st) h Q := xe_P_lo (ins := .iload_n 1) (len := 1) (by decide +kernel) rfl rfl
theorem xs_109_16 : xe_P d 109 16 ls (.int v :: .ref a :: st) h Q = ((xe_ba h a ∧ xe_ix h a v) ∧ xe_P d 109 17 ls (.int (xe_I h a v.toNatClampNeg) :: st) h Q) := xe_P_bald (by decide +kernel)
theorem xs_109_17 : xe_P d 109 17 ls (.int x :: st) h Q = (if x = 0 then xe_P d 109 24 ls st h Q else xe_P d 109 20 ls st h Q) := xe_P_if (ins := .ifCond .eq 7) (len := 3) (off := 7) (by decide +kernel) (by decide) rfl rfl rfl
theorem xs_109_20 : xe_P d 109 20 ls st h Q = xe_P d 109 21 ls (.int 1 :: st) h Q := xe_P_ar (ins := .iconst 1) (len := 1) (by decide +kernel) rfl
theorem xs_109_21 : xe_P d 109 21 ls st h Q = xe_P d 109 25 ls st h Q := xe_P_go (len := 3) (off := 4) (by decide +kernel) (by decide)
theorem xs_109_24 : xe_P d 109 24 ls st h Q = xe_P d 109 25 ls (.int 0 :: st) h Q := xe_P_ar (ins := .iconst 0) (len := 1) (by decide +kernel) rfl
theorem xs_109_25 : xe_P d 109 25 [l0, l1, l2] (.int x :: st) h Q = xe_P d 109 26 [l0, xe_cut l1, .int x] st h Q := xe_P_lo (ins := .istore_n 2) (len := 1) (by decide +kernel) rfl rfl
theorem xs_109_26 : xe_P d 109 26 [.ref a, l1, l2] st h Q = xe_P d 109 27 [.ref a, l1, l2] (.ref a :: st) h Q := xe_P_lo (ins := .aload_n 0) (len := 1) (by decide +kernel) rfl rfl
theorem xs_109_27 : xe_P d 109 27 ls (.ref a :: st) h Q = (xe_ob h a 6 ∧ xe_P d 109 30 ls (va_rf (xe_R h a 2) :: st) h Q) := xe_P_getR (i := 19) (by decide +kernel) (by decide +kernel) (by decide) rfl
theorem xs_109_30 : xe_P d 109 30 [l0, .int x, l2] st h Q = xe_P d 109 31 [l0, .int x, l2] (.int x :: st) h Q := xe_P_lo (ins := .iload_n 1) (len := 1) (by decide +kernel) rfl rfl
theorem xs_109_31 (hb : xe_R h a v.toNatClampNeg = some b) (hS : b < xe_S) : xe_P d 109 31 ls (.int v :: .ref a :: st) h Q = ((xe_ob h a 12 ∧ xe_ix h a v) ∧ xe_P d 109 32 ls (.ref b :: st) h Q) := xe_P_aald (by decide +kernel) hb hS
theorem xs_109_32 : xe_P d 109 32 [.ref a, l1, l2] st h Q = xe_P d 109 33 [.ref a, l1, l2] (.ref a :: st) h Q := xe_P_lo (ins := .aload_n 0) (len := 1) (by decide +kernel) rfl rfl
theorem xs_109_33 : xe_P d 109 33 ls (.ref a :: st) h Q = (xe_ob h a 6 ∧ xe_P d 109 36 ls (va_rf (xe_R h a 0) :: st) h Q) := xe_P_getR (i := 10) (by decide +kernel) (by decide +kernel) (by decide) rfl
theorem xs_109_36 : xe_P d 109 36 ls (v0 :: .ref a :: st) h Q = ((xe_w st ≤ 8 ∧ xe_ob h a 3) ∧ xe_C d 39 [.ref a, v0] h (fun r h' => xe_P d 109 39 ls (r.toList ++ st) h' Q)) := xe_P_ivv (y := 109) (pc := 36) (z := 39) (i := 78) (vs := [v0]) (by decide +kernel) (by decide +kernel) rfl (by decide +kernel)
theorem xs_109_39 : xe_P d 109 39 [.ref a, l1, l2] st h Q = xe_P d 109 40 [.ref a, l1, l2] (.ref a :: st) h Q := xe_P_lo (ins := .aload_n 0) (len := 1) (by decide +kernel) rfl rfl
theorem xs_109_40 : xe_P d 109 40 ls (.ref a :: st) h Q = (xe_ob h a 6 ∧ xe_P d 109 43 ls (va_rf (xe_R h a 3) :: st) h Q) := xe_P_getR (i := 23) (by decide +kernel) (by decide +kernel) (by decide) rfl
theorem xs_109_43 : xe_P d 109 43 [l0, .int x, l2] st h Q = xe_P d 109 44 [l0, .int x, l2] (.int x :: st) h Q := xe_P_lo (ins := .iload_n 1) (len := 1) (by decide +kernel) rfl rfl
theorem xs_109_44 : xe_P d 109 44 ls st h Q = xe_P d 109 45 ls (.int 1 :: st) h Q := xe_P_ar (ins := .iconst 1) (len := 1) (by decide +kernel) rfl
theorem xs_109_45 (hT : xe_T h a = 10) : xe_P d 109 45 ls (.int x :: .int v :: .ref a :: st) h Q = ((xe_ob h a 10 ∧ xe_ix h a v) ∧ xe_P d 109 46 ls st (xe_sI h a v.toNatClampNeg x.toInt8.toInt32) Q) := xe_P_bastB (by decide +kernel) hT
theorem xs_109_45z (hT : xe_T h a = 11) : xe_P d 109 45 ls (.int x :: .int v :: .ref a :: st) h Q = ((xe_ob h a 11 ∧ xe_ix h a v ∧ (x = 0 ∨ x = 1)) ∧ xe_P d 109 46 ls st (xe_sI h a v.toNatClampNeg x) Q) := xe_P_bastZ (by decide +kernel) hT
theorem xs_109_46 : xe_P d 109 46 [l0, l1, .int x] st h Q = xe_P d 109 47 [l0, l1, .int x] (.int x :: st) h Q := xe_P_lo (ins := .iload_n 2) (len := 1) (by decide +kernel) rfl rfl
theorem xs_109_47 : xe_P d 109 47 ls [.int x] h Q = Q (some (.int x)) h := xe_P_ireturn (by decide +kernel) rfl
theorem xs_109 : xe_C (d + 1) 109 [.ref a, .int x0] h Q = xe_P d 109 0 [.ref a, .int x0, .retAddr 0] [] h Q := xe_C_at (Nat.le_of_ble_eq_true rfl) rfl
theorem xs_110_0 : xe_P d 110 0 [l0, .int x] st h Q = xe_P d 110 1 [l0, .int x] (.int x :: st) h Q := xe_P_lo (ins := .iload_n 1) (len := 1) (by decide +kernel) rfl rfl
theorem xs_110_1 : xe_P d 110 1 ls (.int x :: st) h Q = (if x < 0 then xe_P d 110 9 ls st h Q else xe_P d 110 4 ls st h Q) := xe_P_if (ins := .ifCond .lt 8) (len := 3) (off := 8) (by decide +kernel) (by decide) rfl rfl rfl
theorem xs_110_4 : xe_P d 110 4 [l0, .int x] st h Q = xe_P d 110 5 [l0, .int x] (.int x :: st) h Q := xe_P_lo (ins := .iload_n 1) (len := 1) (by decide +kernel) rfl rfl
theorem xs_110_5 : xe_P d 110 5 ls st h Q = xe_P d 110 6 ls (.int 2 :: st) h Q := xe_P_ar (ins := .iconst 2) (len := 1) (by decide +kernel) rfl
theorem xs_110_6 : xe_P d 110 6 ls (.int v :: .int x :: st) h Q = (if x < v then xe_P d 110 11 ls st h Q else xe_P d 110 9 ls st h Q) := xe_P_if (ins := .if_icmp .lt 5) (len := 3) (off := 5) (by decide +kernel) (by decide) rfl rfl rfl
theorem xs_110_9 : xe_P d 110 9 ls st h Q = xe_P d 110 10 ls (.int (-1) :: st) h Q := xe_P_ar (ins := .iconst (-1)) (len := 1) (by decide +kernel) rfl
theorem xs_110_10 : xe_P d 110 10 ls [.int x] h Q = Q (some (.int x)) h := xe_P_ireturn (by decide +kernel) rfl
theorem xs_110_11 : xe_P d 110 11 [.ref a, l1] st h Q = xe_P d 110 12 [.ref a, l1] (.ref a :: st) h Q := xe_P_lo (ins := .aload_n 0) (len := 1) (by decide +kernel) rfl rfl
theorem xs_110_12 : xe_P d 110 12 ls (.ref a :: st) h Q = (xe_ob h a 6 ∧ xe_P d 110 15 ls (va_rf (xe_R h a 3) :: st) h Q) := xe_P_getR (i := 23) (by decide +kernel) (by decide +kernel) (by decide) rfl
theorem xs_110_15 : xe_P d 110 15 [l0, .int x] st h Q = xe_P d 110 16 [l0, .int x] (.int x :: st) h Q := xe_P_lo (ins := .iload_n 1) (len := 1) (by decide +kernel) rfl rfl
theorem xs_110_16 : xe_P d 110 16 ls (.int v :: .ref a :: st) h Q = ((xe_ba h a ∧ xe_ix h a v) ∧ xe_P d 110 17 ls (.int (xe_I h a v.toNatClampNeg) :: st) h Q) := xe_P_bald (by decide +kernel)
theorem xs_110_17 : xe_P d 110 17 ls (.int x :: st) h Q = (if x = 0 then xe_P d 110 20 ls st h Q else xe_P d 110 23 ls st h Q) := xe_P_ifn (ins := .ifCond .ne 6) (len := 3) (off := 6) (by decide +kernel) (by decide) rfl rfl rfl
theorem xs_110_20 : xe_P d 110 20 ls st h Q = xe_P d 110 22 ls (.int (-2) :: st) h Q := xe_P_ar (ins := .bipush (-2)) (len := 2) (by decide +kernel) rfl
theorem xs_110_22 : xe_P d 110 22 ls [.int x] h Q = Q (some (.int x)) h := xe_P_ireturn (by decide +kernel) rfl
theorem xs_110_23 : xe_P d 110 23 [.ref a, l1] st h Q = xe_P d 110 24 [.ref a, l1] (.ref a :: st) h Q := xe_P_lo (ins := .aload_n 0) (len := 1) (by decide +kernel) rfl rfl
theorem xs_110_24 : xe_P d 110 24 ls (.ref a :: st) h Q = (xe_ob h a 6 ∧ xe_P d 110 27 ls (va_rf (xe_R h a 0) :: st) h Q) := xe_P_getR (i := 10) (by decide +kernel) (by decide +kernel) (by decide) rfl
theorem xs_110_27 : xe_P d 110 27 [.ref a, l1] st h Q = xe_P d 110 28 [.ref a, l1] (.ref a :: st) h Q := xe_P_lo (ins := .aload_n 0) (len := 1) (by decide +kernel) rfl rfl
theorem xs_110_28 : xe_P d 110 28 ls (.ref a :: st) h Q = (xe_ob h a 6 ∧ xe_P d 110 31 ls (va_rf (xe_R h a 2) :: st) h Q) := xe_P_getR (i := 19) (by decide +kernel) (by decide +kernel) (by decide) rfl
theorem xs_110_31 : xe_P d 110 31 [l0, .int x] st h Q = xe_P d 110 32 [l0, .int x] (.int x :: st) h Q := xe_P_lo (ins := .iload_n 1) (len := 1) (by decide +kernel) rfl rfl
theorem xs_110_32 (hb : xe_R h a v.toNatClampNeg = some b) (hS : b < xe_S) : xe_P d 110 32 ls (.int v :: .ref a :: st) h Q = ((xe_ob h a 12 ∧ xe_ix h a v) ∧ xe_P d 110 33 ls (.ref b :: st) h Q) := xe_P_aald (by decide +kernel) hb hS
theorem xs_110_33 : xe_P d 110 33 ls (v0 :: .ref a :: st) h Q = ((xe_w st ≤ 8 ∧ xe_ob h a 3) ∧ xe_C d 39 [.ref a, v0] h (fun r h' => xe_P d 110 36 ls (r.toList ++ st) h' Q)) := xe_P_ivv (y := 110) (pc := 33) (z := 39) (i := 78) (vs := [v0]) (by decide +kernel) (by decide +kernel) rfl (by decide +kernel)
theorem xs_110_36 : xe_P d 110 36 [.ref a, l1] st h Q = xe_P d 110 37 [.ref a, l1] (.ref a :: st) h Q := xe_P_lo (ins := .aload_n 0) (len := 1) (by decide +kernel) rfl rfl
theorem xs_110_37 : xe_P d 110 37 ls (.ref a :: st) h Q = (xe_ob h a 6 ∧ xe_P d 110 40 ls (va_rf (xe_R h a 0) :: st) h Q) := xe_P_getR (i := 10) (by decide +kernel) (by decide +kernel) (by decide) rfl
theorem xs_110_40 : xe_P d 110 40 ls (.ref a :: st) h Q = (xe_ob h a 3 ∧ xe_P d 110 43 ls (.int (xe_I h a 5) :: st) h Q) := xe_P_getI (i := 103) (by decide +kernel) (by decide +kernel) (by decide) rfl
theorem xs_110_43 : xe_P d 110 43 ls [.int x] h Q = Q (some (.int x)) h := xe_P_ireturn (by decide +kernel) rfl
theorem xs_110 : xe_C (d + 1) 110 [.ref a, .int x0] h Q = xe_P d 110 0 [.ref a, .int x0] [] h Q := xe_C_at (Nat.le_of_ble_eq_true rfl) rfl
theorem xs_111_0 : xe_P d 111 0 [l0, .int x, l2, l3] st h Q = xe_P d 111 1 [l0, .int x, l2, l3] (.int x :: st) h Q := xe_P_lo (ins := .iload_n 1) (len := 1) (by decide +kernel) rfl rfl
theorem xs_111_1 : xe_P d 111 1 ls (v0 :: st) h Q = (xe_w st ≤ 8 ∧ xe_C d 12 [v0] h (fun r h' => xe_P d 111 4 ls (r.toList ++ st) h' Q)) := xe_P_ivs (y := 111) (pc := 1) (z := 12) (i := 218) (vs := [v0]) (by decide +kernel) (by decide +kernel) rfl
theorem xs_111_4 : xe_P d 111 4 ls (.int x :: st) h Q = (if x = 0 then xe_P d 111 20 ls st h Q else xe_P d 111 7 ls st h Q) := xe_P_if (ins := .ifCond .eq 16) (len := 3) (off := 16) (by decide +kernel) (by decide) rfl rfl rfl
theorem xs_111_7 : xe_P d 111 7 [l0, l1, .int x, l3] st h Q = xe_P d 111 8 [l0, l1, .int x, l3] (.int x :: st) h Q := xe_P_lo (ins := .iload_n 2) (len := 1) (by decide +kernel) rfl rfl
theorem xs_111_8 : xe_P d 111 8 ls (v0 :: st) h Q = (xe_w st ≤ 8 ∧ xe_C d 13 [v0] h (fun r h' => xe_P d 111 11 ls (r.toList ++ st) h' Q)) := xe_P_ivs (y := 111) (pc := 8) (z := 13) (i := 221) (vs := [v0]) (by decide +kernel) (by decide +kernel) rfl
theorem xs_111_11 : xe_P d 111 11 ls (.int x :: st) h Q = (if x = 0 then xe_P d 111 20 ls st h Q else xe_P d 111 14 ls st h Q) := xe_P_if (ins := .ifCond .eq 9) (len := 3) (off := 9) (by decide +kernel) (by decide) rfl rfl rfl
theorem xs_111_14 : xe_P d 111 14 [l0, l1, l2, .int x] st h Q = xe_P d 111 15 [l0, l1, l2, .int x] (.int x :: st) h Q := xe_P_lo (ins := .iload_n 3) (len := 1) (by decide +kernel) rfl rfl
theorem xs_111_15 : xe_P d 111 15 ls st h Q = xe_P d 111 17 ls (.int 40 :: st) h Q := xe_P_ar (ins := .bipush 40) (len := 2) (by decide +kernel) rfl
theorem xs_111_17 : xe_P d 111 17 ls (.int v :: .int x :: st) h Q = (if x ≤ v then xe_P d 111 22 ls st h Q else xe_P d 111 20 ls st h Q) := xe_P_if (ins := .if_icmp .le 5) (len := 3) (off := 5) (by decide +kernel) (by decide) rfl rfl rfl
theorem xs_111_20 : xe_P d 111 20 ls st h Q = xe_P d 111 21 ls (.int (-1) :: st) h Q := xe_P_ar (ins := .iconst (-1)) (len := 1) (by decide +kernel) rfl
theorem xs_111_21 : xe_P d 111 21 ls [.int x] h Q = Q (some (.int x)) h := xe_P_ireturn (by decide +kernel) rfl
theorem xs_111_22 : xe_P d 111 22 [l0, l1, l2, .int x] st h Q = xe_P d 111 23 [l0, l1, l2, .int x] (.int x :: st) h Q := xe_P_lo (ins := .iload_n 3) (len := 1) (by decide +kernel) rfl rfl
theorem xs_111_23 : xe_P d 111 23 ls (.int x :: st) h Q = (if 0 ≤ x then xe_P d 111 29 ls st h Q else xe_P d 111 26 ls st h Q) := xe_P_if (ins := .ifCond .ge 6) (len := 3) (off := 6) (by decide +kernel) (by decide) rfl rfl rfl
theorem xs_111_26 : xe_P d 111 26 ls st h Q = xe_P d 111 28 ls (.int (-14) :: st) h Q := xe_P_ar (ins := .bipush (-14)) (len := 2) (by decide +kernel) rfl
theorem xs_111_28 : xe_P d 111 28 ls [.int x] h Q = Q (some (.int x)) h := xe_P_ireturn (by decide +kernel) rfl
theorem xs_111_29 : xe_P d 111 29 [.ref a, l1, l2, l3] st h Q = xe_P d 111 30 [.ref a, l1, l2, l3] (.ref a :: st) h Q := xe_P_lo (ins := .aload_n 0) (len := 1) (by decide +kernel) rfl rfl
theorem xs_111_30 : xe_P d 111 30 ls (.ref a :: st) h Q = (xe_ob h a 6 ∧ xe_P d 111 33 ls (va_rf (xe_R h a 8) :: st) h Q) := xe_P_getR (i := 58) (by decide +kernel) (by decide +kernel) (by decide) rfl
theorem xs_111_33 : xe_P d 111 33 [l0, .int x, l2, l3] st h Q = xe_P d 111 34 [l0, .int x, l2, l3] (.int x :: st) h Q := xe_P_lo (ins := .iload_n 1) (len := 1) (by decide +kernel) rfl rfl
theorem xs_111_34 : xe_P d 111 34 [l0, l1, .int x, l3] st h Q = xe_P d 111 35 [l0, l1, .int x, l3] (.int x :: st) h Q := xe_P_lo (ins := .iload_n 2) (len := 1) (by decide +kernel) rfl rfl
theorem xs_111_35 : xe_P d 111 35 [l0, l1, l2, .int x] st h Q = xe_P d 111 36 [l0, l1, l2, .int x] (.int x :: st) h Q := xe_P_lo (ins := .iload_n 3) (len := 1) (by decide +kernel) rfl rfl
theorem xs_111_36 : xe_P d 111 36 ls (v2 :: v1 :: v0 :: .ref a :: st) h Q = ((xe_w st ≤ 8 ∧ xe_ob h a 1) ∧ xe_C d 14 [.ref a, v0, v1, v2] h (fun r h' => xe_P d 111 39 ls (r.toList ++ st) h' Q)) := xe_P_ivv (y := 111) (pc := 36) (z := 14) (i := 224) (vs := [v2, v1, v0]) (by decide +kernel) (by decide +kernel) rfl (by decide +kernel)
theorem xs_111_39 : xe_P d 111 39 ls st h Q = xe_P d 111 40 ls (.int 1 :: st) h Q := xe_P_ar (ins := .iconst 1) (len := 1) (by decide +kernel) rfl
theorem xs_111_40 : xe_P d 111 40 ls [.int x] h Q = Q (some (.int x)) h := xe_P_ireturn (by decide +kernel) rfl
theorem xs_111 : xe_C (d + 1) 111 [.ref a, .int x0, .int x1, .int x2] h Q = xe_P d 111 0 [.ref a, .int x0, .int x1, .int x2] [] h Q := xe_C_at (Nat.le_of_ble_eq_true rfl) rfl
theorem xs_112_0 : xe_P d 112 0 [l0, .int x, l2, l3, l4] st h Q = xe_P d 112 1 [l0, .int x, l2, l3, l4] (.int x :: st) h Q := xe_P_lo (ins := .iload_n 1) (len := 1) (by decide +kernel) rfl rfl
theorem xs_112_1 : xe_P d 112 1 ls (v0 :: st) h Q = (xe_w st ≤ 8 ∧ xe_C d 12 [v0] h (fun r h' => xe_P d 112 4 ls (r.toList ++ st) h' Q)) := xe_P_ivs (y := 112) (pc := 1) (z := 12) (i := 218) (vs := [v0]) (by decide +kernel) (by decide +kernel) rfl
theorem xs_112_4 : xe_P d 112 4 ls (.int x :: st) h Q = (if x = 0 then xe_P d 112 7 ls st h Q else xe_P d 112 9 ls st h Q) := xe_P_ifn (ins := .ifCond .ne 5) (len := 3) (off := 5) (by decide +kernel) (by decide) rfl rfl rfl
theorem xs_112_7 : xe_P d 112 7 ls st h Q = xe_P d 112 8 ls (.int (-1) :: st) h Q := xe_P_ar (ins := .iconst (-1)) (len := 1) (by decide +kernel) rfl
theorem xs_112_8 : xe_P d 112 8 ls [.int x] h Q = Q (some (.int x)) h := xe_P_ireturn (by decide +kernel) rfl
theorem xs_112_9 : xe_P d 112 9 [.ref a, l1, l2, l3, l4] st h Q = xe_P d 112 10 [.ref a, l1, l2, l3, l4] (.ref a :: st) h Q := xe_P_lo (ins := .aload_n 0) (len := 1) (by decide +kernel) rfl rfl
theorem xs_112_10 : xe_P d 112 10 ls (.ref a :: st) h Q = (xe_ob h a 6 ∧ xe_P d 112 13 ls (va_rf (xe_R h a 8) :: st) h Q) := xe_P_getR (i := 58) (by decide +kernel) (by decide +kernel) (by decide) rfl
theorem xs_112_13 : xe_P d 112 13 [l0, .int x, l2, l3, l4] st h Q = xe_P d 112 14 [l0, .int x, l2, l3, l4] (.int x :: st) h Q := xe_P_lo (ins := .iload_n 1) (len := 1) (by decide +kernel) rfl rfl
theorem xs_112_14 : xe_P d 112 14 [l0, l1, .int x, l3, l4] st h Q = xe_P d 112 15 [l0, l1, .int x, l3, l4] (.int x :: st) h Q := xe_P_lo (ins := .iload_n 2) (len := 1) (by decide +kernel) rfl rfl
theorem xs_112_15 : xe_P d 112 15 ls (v1 :: v0 :: .ref a :: st) h Q = ((xe_w st ≤ 8 ∧ xe_ob h a 1) ∧ xe_C d 15 [.ref a, v0, v1] h (fun r h' => xe_P d 112 18 ls (r.toList ++ st) h' Q)) := xe_P_ivv (y := 112) (pc := 15) (z := 15) (i := 228) (vs := [v1, v0]) (by decide +kernel) (by decide +kernel) rfl (by decide +kernel)
theorem xs_112_18 : xe_P d 112 18 [l0, l1, l2, l3, l4] (.int x :: st) h Q = xe_P d 112 20 [l0, l1, l2, xe_cut l3, .int x] st h Q := xe_P_lo (ins := .istore 4) (len := 2) (by decide +kernel) rfl rfl
theorem xs_112_20 : xe_P d 112 20 [l0, l1, l2, l3, .int x] st h Q = xe_P d 112 22 [l0, l1, l2, l3, .int x] (.int x :: st) h Q := xe_P_lo (ins := .iload 4) (len := 2) (by decide +kernel) rfl rfl
theorem xs_112_22 : xe_P d 112 22 ls (.int x :: st) h Q = (if x = 0 then xe_P d 112 31 ls st h Q else xe_P d 112 25 ls st h Q) := xe_P_if (ins := .ifCond .eq 9) (len := 3) (off := 9) (by decide +kernel) (by decide) rfl rfl rfl
theorem xs_112_25 : xe_P d 112 25 ls st h Q = xe_P d 112 27 ls (.int (-10) :: st) h Q := xe_P_ar (ins := .bipush (-10)) (len := 2) (by decide +kernel) rfl
theorem xs_112_27 : xe_P d 112 27 [l0, l1, l2, l3, .int x] st h Q = xe_P d 112 29 [l0, l1, l2, l3, .int x] (.int x :: st) h Q := xe_P_lo (ins := .iload 4) (len := 2) (by decide +kernel) rfl rfl
theorem xs_112_29 : xe_P d 112 29 ls (.int v :: .int x :: st) h Q = xe_P d 112 30 ls (.int (x - v) :: st) h Q := xe_P_ar (ins := .isub) (len := 1) (by decide +kernel) rfl
theorem xs_112_30 : xe_P d 112 30 ls [.int x] h Q = Q (some (.int x)) h := xe_P_ireturn (by decide +kernel) rfl
theorem xs_112_31 : xe_P d 112 31 [.ref a, l1, l2, l3, l4] st h Q = xe_P d 112 32 [.ref a, l1, l2, l3, l4] (.ref a :: st) h Q := xe_P_lo (ins := .aload_n 0) (len := 1) (by decide +kernel) rfl rfl
theorem xs_112_32 : xe_P d 112 32 ls (.ref a :: st) h Q = (xe_ob h a 6 ∧ xe_P d 112 35 ls (va_rf (xe_R h a 8) :: st) h Q) := xe_P_getR (i := 58) (by decide +kernel) (by decide +kernel) (by decide) rfl
theorem xs_112_35 : xe_P d 112 35 [l0, .int x, l2, l3, l4] st h Q = xe_P d 112 36 [l0, .int x, l2, l3, l4] (.int x :: st) h Q := xe_P_lo (ins := .iload_n 1) (len := 1) (by decide +kernel) rfl rfl
theorem xs_112_36 : xe_P d 112 36 [l0, l1, .int x, l3, l4] st h Q = xe_P d 112 37 [l0, l1, .int x, l3, l4] (.int x :: st) h Q := xe_P_lo (ins := .iload_n 2) (len := 1) (by decide +kernel) rfl rfl
theorem xs_112_37 : xe_P d 112 37 [l0, l1, l2, .int x, l4] st h Q = xe_P d 112 38 [l0, l1, l2, .int x, l4] (.int x :: st) h Q := xe_P_lo (ins := .iload_n 3) (len := 1) (by decide +kernel) rfl rfl
theorem xs_112_38 : xe_P d 112 38 ls (v2 :: v1 :: v0 :: .ref a :: st) h Q = ((xe_w st ≤ 8 ∧ xe_ob h a 1) ∧ xe_C d 17 [.ref a, v0, v1, v2] h (fun r h' => xe_P d 112 41 ls (r.toList ++ st) h' Q)) := xe_P_ivv (y := 112) (pc := 38) (z := 17) (i := 231) (vs := [v2, v1, v0]) (by decide +kernel) (by decide +kernel) rfl (by decide +kernel)
theorem xs_112_41 : xe_P d 112 41 ls st h Q = xe_P d 112 42 ls (.int 1 :: st) h Q := xe_P_ar (ins := .iconst 1) (len := 1) (by decide +kernel) rfl
theorem xs_112_42 : xe_P d 112 42 ls [.int x] h Q = Q (some (.int x)) h := xe_P_ireturn (by decide +kernel) rfl
theorem xs_112 : xe_C (d + 1) 112 [.ref a, .int x0, .int x1, .int x2] h Q = xe_P d 112 0 [.ref a, .int x0, .int x1, .int x2, .retAddr 0] [] h Q := xe_C_at (Nat.le_of_ble_eq_true rfl) rfl
theorem xs_113_0 : xe_P d 113 0 [l0, .int x, l2, l3, l4, l5, l6, l7] st h Q = xe_P d 113 1 [l0, .int x, l2, l3, l4, l5, l6, l7] (.int x :: st) h Q := xe_P_lo (ins := .iload_n 1) (len := 1) (by decide +kernel) rfl rfl
theorem xs_113_1 : xe_P d 113 1 ls (v0 :: st) h Q = (xe_w st ≤ 8 ∧ xe_C d 12 [v0] h (fun r h' => xe_P d 113 4 ls (r.toList ++ st) h' Q)) := xe_P_ivs (y := 113) (pc := 1) (z := 12) (i := 218) (vs := [v0]) (by decide +kernel) (by decide +kernel) rfl
theorem xs_113_4 : xe_P d 113 4 ls (.int x :: st) h Q = (if x = 0 then xe_P d 113 26 ls st h Q else xe_P d 113 7 ls st h Q) := xe_P_if (ins := .ifCond .eq 22) (len := 3) (off := 22) (by decide +kernel) (by decide) rfl rfl rfl
theorem xs_113_7 : xe_P d 113 7 [l0, l1, .int x, l3, l4, l5, l6, l7] st h Q = xe_P d 113 8 [l0, l1, .int x, l3, l4, l5, l6, l7] (.int x :: st) h Q := xe_P_lo (ins := .iload_n 2) (len := 1) (by decide +kernel) rfl rfl
theorem xs_113_8 : xe_P d 113 8 ls (v0 :: st) h Q = (xe_w st ≤ 8 ∧ xe_C d 13 [v0] h (fun r h' => xe_P d 113 11 ls (r.toList ++ st) h' Q)) := xe_P_ivs (y := 113) (pc := 8) (z := 13) (i := 221) (vs := [v0]) (by decide +kernel) (by decide +kernel) rfl
theorem xs_113_11 : xe_P d 113 11 ls (.int x :: st) h Q = (if x = 0 then xe_P d 113 26 ls st h Q else xe_P d 113 14 ls st h Q) := xe_P_if (ins := .ifCond .eq 15) (len := 3) (off := 15) (by decide +kernel) (by decide) rfl rfl rfl
theorem xs_113_14 : xe_P d 113 14 [l0, l1, l2, l3, .int x, l5, l6, l7] st h Q = xe_P d 113 16 [l0, l1, l2, l3, .int x, l5, l6, l7] (.int x :: st) h Q := xe_P_lo (ins := .iload 4) (len := 2) (by decide +kernel) rfl rfl
theorem xs_113_16 : xe_P d 113 16 ls (.int x :: st) h Q = (if x < 0 then xe_P d 113 26 ls st h Q else xe_P d 113 19 ls st h Q) := xe_P_if (ins := .ifCond .lt 10) (len := 3) (off := 10) (by decide +kernel) (by decide) rfl rfl rfl
theorem xs_113_19 : xe_P d 113 19 [l0, l1, l2, l3, .int x, l5, l6, l7] st h Q = xe_P d 113 21 [l0, l1, l2, l3, .int x, l5, l6, l7] (.int x :: st) h Q := xe_P_lo (ins := .iload 4) (len := 2) (by decide +kernel) rfl rfl
theorem xs_113_21 : xe_P d 113 21 ls st h Q = xe_P d 113 23 ls (.int 20 :: st) h Q := xe_P_ar (ins := .bipush 20) (len := 2) (by decide +kernel) rfl
theorem xs_113_23 : xe_P d 113 23 ls (.int v :: .int x :: st) h Q = (if x ≤ v then xe_P d 113 28 ls st h Q else xe_P d 113 26 ls st h Q) := xe_P_if (ins := .if_icmp .le 5) (len := 3) (off := 5) (by decide +kernel) (by decide) rfl rfl rfl
theorem xs_113_26 : xe_P d 113 26 ls st h Q = xe_P d 113 27 ls (.int (-1) :: st) h Q := xe_P_ar (ins := .iconst (-1)) (len := 1) (by decide +kernel) rfl
theorem xs_113_27 : xe_P d 113 27 ls [.int x] h Q = Q (some (.int x)) h := xe_P_ireturn (by decide +kernel) rfl
theorem xs_113_28 : xe_P d 113 28 [.ref a, l1, l2, l3, l4, l5, l6, l7] st h Q = xe_P d 113 29 [.ref a, l1, l2, l3, l4, l5, l6, l7] (.ref a :: st) h Q := xe_P_lo (ins := .aload_n 0) (len := 1) (by decide +kernel) rfl rfl
theorem xs_113_29 : xe_P d 113 29 ls (.ref a :: st) h Q = (xe_ob h a 6 ∧ xe_P d 113 32 ls (va_rf (xe_R h a 1) :: st) h Q) := xe_P_getR (i := 16) (by decide +kernel) (by decide +kernel) (by decide) rfl
theorem xs_113_32 : xe_P d 113 32 [.ref a, l1, l2, l3, l4, l5, l6, l7] st h Q = xe_P d 113 33 [.ref a, l1, l2, l3, l4, l5, l6, l7] (.ref a :: st) h Q := xe_P_lo (ins := .aload_n 0) (len := 1) (by decide +kernel) rfl rfl
theorem xs_113_33 : xe_P d 113 33 ls (.ref a :: st) h Q = (xe_ob h a 6 ∧ xe_P d 113 36 ls (va_rf (xe_R h a 0) :: st) h Q) := xe_P_getR (i := 10) (by decide +kernel) (by decide +kernel) (by decide) rfl
theorem xs_113_36 : xe_P d 113 36 ls (v0 :: .ref a :: st) h Q = ((xe_w st ≤ 8 ∧ xe_ob h a 3) ∧ xe_C d 39 [.ref a, v0] h (fun r h' => xe_P d 113 39 ls (r.toList ++ st) h' Q)) := xe_P_ivv (y := 113) (pc := 36) (z := 39) (i := 78) (vs := [v0]) (by decide +kernel) (by decide +kernel) rfl (by decide +kernel)
theorem xs_113_39 : xe_P d 113 39 ls st h Q = xe_P d 113 40 ls (.int 0 :: st) h Q := xe_P_ar (ins := .iconst 0) (len := 1) (by decide +kernel) rfl
theorem xs_113_40 : xe_P d 113 40 [l0, l1, l2, l3, l4, l5, l6, l7] (.int x :: st) h Q = xe_P d 113 42 [l0, l1, l2, l3, xe_cut l4, .int x, l6, l7] st h Q := xe_P_lo (ins := .istore 5) (len := 2) (by decide +kernel) rfl rfl
theorem xs_113_42 : xe_P d 113 42 ls st h Q = xe_P d 113 43 ls (.int 0 :: st) h Q := xe_P_ar (ins := .iconst 0) (len := 1) (by decide +kernel) rfl
theorem xs_113_43 : xe_P d 113 43 [l0, l1, l2, l3, l4, l5, l6, l7] (.int x :: st) h Q = xe_P d 113 45 [l0, l1, l2, l3, l4, xe_cut l5, .int x, l7] st h Q := xe_P_lo (ins := .istore 6) (len := 2) (by decide +kernel) rfl rfl
theorem xs_113_45 : xe_P d 113 45 ls st h Q = xe_P d 113 46 ls (.int 0 :: st) h Q := xe_P_ar (ins := .iconst 0) (len := 1) (by decide +kernel) rfl
theorem xs_113_46 : xe_P d 113 46 [l0, l1, l2, l3, l4, l5, l6, l7] (.int x :: st) h Q = xe_P d 113 48 [l0, l1, l2, l3, l4, l5, xe_cut l6, .int x] st h Q := xe_P_lo (ins := .istore 7) (len := 2) (by decide +kernel) rfl rfl
theorem xs_113_48 : xe_P d 113 48 [l0, l1, l2, l3, l4, l5, l6, .int x] st h Q = xe_P d 113 50 [l0, l1, l2, l3, l4, l5, l6, .int x] (.int x :: st) h Q := xe_P_lo (ins := .iload 7) (len := 2) (by decide +kernel) rfl rfl
theorem xs_113_50 : xe_P d 113 50 [l0, l1, l2, l3, .int x, l5, l6, l7] st h Q = xe_P d 113 52 [l0, l1, l2, l3, .int x, l5, l6, l7] (.int x :: st) h Q := xe_P_lo (ins := .iload 4) (len := 2) (by decide +kernel) rfl rfl
theorem xs_113_52 : xe_P d 113 52 ls (.int v :: .int x :: st) h Q = (if v ≤ x then xe_P d 113 117 ls st h Q else xe_P d 113 55 ls st h Q) := xe_P_if (ins := .if_icmp .ge 65) (len := 3) (off := 65) (by decide +kernel) (by decide) rfl rfl rfl
theorem xs_113_55 : xe_P d 113 55 [l0, l1, l2, l3, l4, .int x, l6, l7] st h Q = xe_P d 113 57 [l0, l1, l2, l3, l4, .int x, l6, l7] (.int x :: st) h Q := xe_P_lo (ins := .iload 5) (len := 2) (by decide +kernel) rfl rfl
theorem xs_113_57 : xe_P d 113 57 ls (.int x :: st) h Q = (if x = 0 then xe_P d 113 60 ls st h Q else xe_P d 113 117 ls st h Q) := xe_P_ifn (ins := .ifCond .ne 60) (len := 3) (off := 60) (by decide +kernel) (by decide) rfl rfl rfl
theorem xs_113_60 : xe_P d 113 60 [.ref a, l1, l2, l3, l4, l5, l6, l7] st h Q = xe_P d 113 61 [.ref a, l1, l2, l3, l4, l5, l6, l7] (.ref a :: st) h Q := xe_P_lo (ins := .aload_n 0) (len := 1) (by decide +kernel) rfl rfl
theorem xs_113_61 : xe_P d 113 61 ls (.ref a :: st) h Q = (xe_ob h a 6 ∧ xe_P d 113 64 ls (va_rf (xe_R h a 8) :: st) h Q) := xe_P_getR (i := 58) (by decide +kernel) (by decide +kernel) (by decide) rfl
theorem xs_113_64 : xe_P d 113 64 [l0, .int x, l2, l3, l4, l5, l6, l7] st h Q = xe_P d 113 65 [l0, .int x, l2, l3, l4, l5, l6, l7] (.int x :: st) h Q := xe_P_lo (ins := .iload_n 1) (len := 1) (by decide +kernel) rfl rfl
theorem xs_113_65 : xe_P d 113 65 [l0, l1, .int x, l3, l4, l5, l6, l7] st h Q = xe_P d 113 66 [l0, l1, .int x, l3, l4, l5, l6, l7] (.int x :: st) h Q := xe_P_lo (ins := .iload_n 2) (len := 1) (by decide +kernel) rfl rfl
theorem xs_113_66 : xe_P d 113 66 [l0, l1, l2, .int x, l4, l5, l6, l7] st h Q = xe_P d 113 67 [l0, l1, l2, .int x, l4, l5, l6, l7] (.int x :: st) h Q := xe_P_lo (ins := .iload_n 3) (len := 1) (by decide +kernel) rfl rfl
theorem xs_113_67 : xe_P d 113 67 [l0, l1, l2, l3, l4, l5, l6, .int x] st h Q = xe_P d 113 69 [l0, l1, l2, l3, l4, l5, l6, .int x] (.int x :: st) h Q := xe_P_lo (ins := .iload 7) (len := 2) (by decide +kernel) rfl rfl
theorem xs_113_69 : xe_P d 113 69 ls (.int v :: .int x :: st) h Q = xe_P d 113 70 ls (.int (x + v) :: st) h Q := xe_P_ar (ins := .iadd) (len := 1) (by decide +kernel) rfl
theorem xs_113_70 : xe_P d 113 70 ls (v2 :: v1 :: v0 :: .ref a :: st) h Q = ((xe_w st ≤ 8 ∧ xe_ob h a 1) ∧ xe_C d 16 [.ref a, v0, v1, v2] h (fun r h' => xe_P d 113 73 ls (r.toList ++ st) h' Q)) := xe_P_ivv (y := 113) (pc := 70) (z := 16) (i := 234) (vs := [v2, v1, v0]) (by decide +kernel) (by decide +kernel) rfl (by decide +kernel)
theorem xs_113_73 : xe_P d 113 73 [l0, l1, l2, l3, l4, l5, l6, l7] (.int x :: st) h Q = xe_P d 113 75 [l0, l1, l2, l3, xe_cut l4, .int x, l6, l7] st h Q := xe_P_lo (ins := .istore 5) (len := 2) (by decide +kernel) rfl rfl
theorem xs_113_75 : xe_P d 113 75 [l0, l1, l2, l3, l4, .int x, l6, l7] st h Q = xe_P d 113 77 [l0, l1, l2, l3, l4, .int x, l6, l7] (.int x :: st) h Q := xe_P_lo (ins := .iload 5) (len := 2) (by decide +kernel) rfl rfl
theorem xs_113_77 : xe_P d 113 77 ls (.int x :: st) h Q = (if x = 0 then xe_P d 113 80 ls st h Q else xe_P d 113 111 ls st h Q) := xe_P_ifn (ins := .ifCond .ne 34) (len := 3) (off := 34) (by decide +kernel) (by decide) rfl rfl rfl
theorem xs_113_80 : xe_P d 113 80 [.ref a, l1, l2, l3, l4, l5, l6, l7] st h Q = xe_P d 113 81 [.ref a, l1, l2, l3, l4, l5, l6, l7] (.ref a :: st) h Q := xe_P_lo (ins := .aload_n 0) (len := 1) (by decide +kernel) rfl rfl
theorem xs_113_81 : xe_P d 113 81 ls (.ref a :: st) h Q = (xe_ob h a 6 ∧ xe_P d 113 84 ls (va_rf (xe_R h a 1) :: st) h Q) := xe_P_getR (i := 16) (by decide +kernel) (by decide +kernel) (by decide) rfl
theorem xs_113_84 : xe_P d 113 84 [.ref a, l1, l2, l3, l4, l5, l6, l7] st h Q = xe_P d 113 85 [.ref a, l1, l2, l3, l4, l5, l6, l7] (.ref a :: st) h Q := xe_P_lo (ins := .aload_n 0) (len := 1) (by decide +kernel) rfl rfl
theorem xs_113_85 : xe_P d 113 85 ls (.ref a :: st) h Q = (xe_ob h a 6 ∧ xe_P d 113 88 ls (va_rf (xe_R h a 8) :: st) h Q) := xe_P_getR (i := 58) (by decide +kernel) (by decide +kernel) (by decide) rfl
theorem xs_113_88 : xe_P d 113 88 [l0, .int x, l2, l3, l4, l5, l6, l7] st h Q = xe_P d 113 89 [l0, .int x, l2, l3, l4, l5, l6, l7] (.int x :: st) h Q := xe_P_lo (ins := .iload_n 1) (len := 1) (by decide +kernel) rfl rfl
theorem xs_113_89 : xe_P d 113 89 [l0, l1, l2, .int x, l4, l5, l6, l7] st h Q = xe_P d 113 90 [l0, l1, l2, .int x, l4, l5, l6, l7] (.int x :: st) h Q := xe_P_lo (ins := .iload_n 3) (len := 1) (by decide +kernel) rfl rfl
theorem xs_113_90 : xe_P d 113 90 [l0, l1, l2, l3, l4, l5, l6, .int x] st h Q = xe_P d 113 92 [l0, l1, l2, l3, l4, l5, l6, .int x] (.int x :: st) h Q := xe_P_lo (ins := .iload 7) (len := 2) (by decide +kernel) rfl rfl
theorem xs_113_92 : xe_P d 113 92 ls (.int v :: .int x :: st) h Q = xe_P d 113 93 ls (.int (x + v) :: st) h Q := xe_P_ar (ins := .iadd) (len := 1) (by decide +kernel) rfl
theorem xs_113_93 : xe_P d 113 93 ls (v1 :: v0 :: .ref a :: st) h Q = ((xe_w st ≤ 8 ∧ xe_ob h a 1) ∧ xe_C d 18 [.ref a, v0, v1] h (fun r h' => xe_P d 113 96 ls (r.toList ++ st) h' Q)) := xe_P_ivv (y := 113) (pc := 93) (z := 18) (i := 237) (vs := [v1, v0]) (by decide +kernel) (by decide +kernel) rfl (by decide +kernel)
theorem xs_113_96 : xe_P d 113 96 ls (v0 :: .ref a :: st) h Q = ((xe_w st ≤ 8 ∧ xe_ob h a 3) ∧ xe_C d 53 [.ref a, v0] h (fun r h' => xe_P d 113 99 ls (r.toList ++ st) h' Q)) := xe_P_ivv (y := 113) (pc := 96) (z := 53) (i := 149) (vs := [v0]) (by decide +kernel) (by decide +kernel) rfl (by decide +kernel)
theorem xs_113_99 : xe_P d 113 99 ls (.int x :: st) h Q = (if x = 0 then xe_P d 113 108 ls st h Q else xe_P d 113 102 ls st h Q) := xe_P_if (ins := .ifCond .eq 9) (len := 3) (off := 9) (by decide +kernel) (by decide) rfl rfl rfl
theorem xs_113_102 : xe_P d 113 102 ls st h Q = xe_P d 113 104 ls (.int (-20) :: st) h Q := xe_P_ar (ins := .bipush (-20)) (len := 2) (by decide +kernel) rfl
theorem xs_113_104 : xe_P d 113 104 [l0, l1, l2, l3, l4, l5, l6, .int x] st h Q = xe_P d 113 106 [l0, l1, l2, l3, l4, l5, l6, .int x] (.int x :: st) h Q := xe_P_lo (ins := .iload 7) (len := 2) (by decide +kernel) rfl rfl
theorem xs_113_106 : xe_P d 113 106 ls (.int v :: .int x :: st) h Q = xe_P d 113 107 ls (.int (x - v) :: st) h Q := xe_P_ar (ins := .isub) (len := 1) (by decide +kernel) rfl
theorem xs_113_107 : xe_P d 113 107 ls [.int x] h Q = Q (some (.int x)) h := xe_P_ireturn (by decide +kernel) rfl
theorem xs_113_108 : xe_P d 113 108 [l0, l1, l2, l3, l4, l5, .int x, l7] st h Q = xe_P d 113 111 [l0, l1, l2, l3, l4, xe_cut l5, .int (x + 1), l7] st h Q := xe_P_lo (ins := .iinc 6 1) (len := 3) (by decide +kernel) rfl rfl
theorem xs_113_111 : xe_P d 113 111 [l0, l1, l2, l3, l4, l5, l6, .int x] st h Q = xe_P d 113 114 [l0, l1, l2, l3, l4, l5, xe_cut l6, .int (x + 1)] st h Q := xe_P_lo (ins := .iinc 7 1) (len := 3) (by decide +kernel) rfl rfl
theorem xs_113_114 : xe_P d 113 114 ls st h Q = xe_P d 113 48 ls st h Q := xe_P_go (len := 3) (off := (-66)) (by decide +kernel) (by decide)
theorem xs_113_117 : xe_P d 113 117 [.ref a, l1, l2, l3, l4, l5, l6, l7] st h Q = xe_P d 113 118 [.ref a, l1, l2, l3, l4, l5, l6, l7] (.ref a :: st) h Q := xe_P_lo (ins := .aload_n 0) (len := 1) (by decide +kernel) rfl rfl
theorem xs_113_118 : xe_P d 113 118 ls (.ref a :: st) h Q = (xe_ob h a 6 ∧ xe_P d 113 121 ls (va_rf (xe_R h a 0) :: st) h Q) := xe_P_getR (i := 10) (by decide +kernel) (by decide +kernel) (by decide) rfl
theorem xs_113_121 : xe_P d 113 121 [.ref a, l1, l2, l3, l4, l5, l6, l7] st h Q = xe_P d 113 122 [.ref a, l1, l2, l3, l4, l5, l6, l7] (.ref a :: st) h Q := xe_P_lo (ins := .aload_n 0) (len := 1) (by decide +kernel) rfl rfl
theorem xs_113_122 : xe_P d 113 122 ls (.ref a :: st) h Q = (xe_ob h a 6 ∧ xe_P d 113 125 ls (va_rf (xe_R h a 1) :: st) h Q) := xe_P_getR (i := 16) (by decide +kernel) (by decide +kernel) (by decide) rfl
theorem xs_113_125 : xe_P d 113 125 ls (v0 :: .ref a :: st) h Q = ((xe_w st ≤ 8 ∧ xe_ob h a 3) ∧ xe_C d 39 [.ref a, v0] h (fun r h' => xe_P d 113 128 ls (r.toList ++ st) h' Q)) := xe_P_ivv (y := 113) (pc := 125) (z := 39) (i := 78) (vs := [v0]) (by decide +kernel) (by decide +kernel) rfl (by decide +kernel)
theorem xs_113_128 : xe_P d 113 128 [.ref a, l1, l2, l3, l4, l5, l6, l7] st h Q = xe_P d 113 129 [.ref a, l1, l2, l3, l4, l5, l6, l7] (.ref a :: st) h Q := xe_P_lo (ins := .aload_n 0) (len := 1) (by decide +kernel) rfl rfl
theorem xs_113_129 : xe_P d 113 129 [l0, l1, l2, l3, l4, .int x, l6, l7] st h Q = xe_P d 113 131 [l0, l1, l2, l3, l4, .int x, l6, l7] (.int x :: st) h Q := xe_P_lo (ins := .iload 5) (len := 2) (by decide +kernel) rfl rfl
theorem xs_113_131 : xe_P d 113 131 ls (.int v :: .ref a :: st) h Q = (xe_ob h a 6 ∧ xe_P d 113 134 ls st (xe_sI h a 9 v) Q) := xe_P_putI (i := 62) (by decide +kernel) (by decide +kernel) (by decide) (by decide +kernel) rfl
theorem xs_113_134 : xe_P d 113 134 [l0, l1, l2, l3, l4, l5, .int x, l7] st h Q = xe_P d 113 136 [l0, l1, l2, l3, l4, l5, .int x, l7] (.int x :: st) h Q := xe_P_lo (ins := .iload 6) (len := 2) (by decide +kernel) rfl rfl
theorem xs_113_136 : xe_P d 113 136 ls [.int x] h Q = Q (some (.int x)) h := xe_P_ireturn (by decide +kernel) rfl
theorem xs_113 : xe_C (d + 1) 113 [.ref a, .int x0, .int x1, .int x2, .int x3] h Q = xe_P d 113 0 [.ref a, .int x0, .int x1, .int x2, .int x3, .retAddr 0, .retAddr 0, .retAddr 0] [] h Q := xe_C_at (Nat.le_of_ble_eq_true rfl) rfl
theorem xs_114_0 : xe_P d 114 0 [.ref a] st h Q = xe_P d 114 1 [.ref a] (.ref a :: st) h Q := xe_P_lo (ins := .aload_n 0) (len := 1) (by decide +kernel) rfl rfl
theorem xs_114_1 : xe_P d 114 1 ls (.ref a :: st) h Q = (xe_ob h a 6 ∧ xe_P d 114 4 ls (.int (xe_I h a 9) :: st) h Q) := xe_P_getI (i := 62) (by decide +kernel) (by decide +kernel) (by decide) rfl
theorem xs_114_4 : xe_P d 114 4 ls [.int x] h Q = Q (some (.int x)) h := xe_P_ireturn (by decide +kernel) rfl
theorem xs_114 : xe_C (d + 1) 114 [.ref a] h Q = xe_P d 114 0 [.ref a] [] h Q := xe_C_at (Nat.le_of_ble_eq_true rfl) rfl
theorem xs_115_0 : xe_P d 115 0 [l0, .int x] st h Q = xe_P d 115 1 [l0, .int x] (.int x :: st) h Q := xe_P_lo (ins := .iload_n 1) (len := 1) (by decide +kernel) rfl rfl
theorem xs_115_1 : xe_P d 115 1 ls (.int x :: st) h Q = (if x = 0 then xe_P d 115 40 ls st h Q else (if x = 1 then xe_P d 115 48 ls st h Q else (if x = 2 then xe_P d 115 56 ls st h Q else (if x = 3 then xe_P d 115 64 ls st h Q else (if x = 4 then xe_P d 115 94 ls st h Q else (if x = 5 then xe_P d 115 102 ls st h Q else xe_P d 115 111 ls st h Q)))))) := (xe_P_sw (dflt := 110) (hi := 5) (offs := #[39, 47, 55, 63, 93, 101]) (len := 39) (by decide +kernel) (by decide) (by decide)).trans rfl
theorem xs_115_40 : xe_P d 115 40 [.ref a, l1] st h Q = xe_P d 115 41 [.ref a, l1] (.ref a :: st) h Q := xe_P_lo (ins := .aload_n 0) (len := 1) (by decide +kernel) rfl rfl
theorem xs_115_41 : xe_P d 115 41 ls (.ref a :: st) h Q = (xe_ob h a 6 ∧ xe_P d 115 44 ls (va_rf (xe_R h a 0) :: st) h Q) := xe_P_getR (i := 10) (by decide +kernel) (by decide +kernel) (by decide) rfl
theorem xs_115_44 : xe_P d 115 44 ls (.ref a :: st) h Q = ((xe_w st ≤ 8 ∧ xe_ob h a 3) ∧ xe_C d 56 [.ref a] h (fun r h' => xe_P d 115 47 ls (r.toList ++ st) h' Q)) := xe_P_ivv (y := 115) (pc := 44) (z := 56) (i := 240) (vs := []) (by decide +kernel) (by decide +kernel) rfl (by decide +kernel)
theorem xs_115_47 : xe_P d 115 47 ls [.int x] h Q = Q (some (.int x)) h := xe_P_ireturn (by decide +kernel) rfl
theorem xs_115_48 : xe_P d 115 48 [.ref a, l1] st h Q = xe_P d 115 49 [.ref a, l1] (.ref a :: st) h Q := xe_P_lo (ins := .aload_n 0) (len := 1) (by decide +kernel) rfl rfl
theorem xs_115_49 : xe_P d 115 49 ls (.ref a :: st) h Q = (xe_ob h a 6 ∧ xe_P d 115 52 ls (va_rf (xe_R h a 0) :: st) h Q) := xe_P_getR (i := 10) (by decide +kernel) (by decide +kernel) (by decide) rfl
theorem xs_115_52 : xe_P d 115 52 ls (.ref a :: st) h Q = ((xe_w st ≤ 8 ∧ xe_ob h a 3) ∧ xe_C d 57 [.ref a] h (fun r h' => xe_P d 115 55 ls (r.toList ++ st) h' Q)) := xe_P_ivv (y := 115) (pc := 52) (z := 57) (i := 244) (vs := []) (by decide +kernel) (by decide +kernel) rfl (by decide +kernel)
theorem xs_115_55 : xe_P d 115 55 ls [.int x] h Q = Q (some (.int x)) h := xe_P_ireturn (by decide +kernel) rfl
theorem xs_115_56 : xe_P d 115 56 [.ref a, l1] st h Q = xe_P d 115 57 [.ref a, l1] (.ref a :: st) h Q := xe_P_lo (ins := .aload_n 0) (len := 1) (by decide +kernel) rfl rfl
theorem xs_115_57 : xe_P d 115 57 ls (.ref a :: st) h Q = (xe_ob h a 6 ∧ xe_P d 115 60 ls (va_rf (xe_R h a 7) :: st) h Q) := xe_P_getR (i := 51) (by decide +kernel) (by decide +kernel) (by decide) rfl
theorem xs_115_60 : xe_P d 115 60 ls (.ref a :: st) h Q = (xe_ob h a 4 ∧ xe_P d 115 63 ls (.int (xe_I h a 0) :: st) h Q) := xe_P_getI (i := 82) (by decide +kernel) (by decide +kernel) (by decide) rfl
theorem xs_115_63 : xe_P d 115 63 ls [.int x] h Q = Q (some (.int x)) h := xe_P_ireturn (by decide +kernel) rfl
theorem xs_115_64 : xe_P d 115 64 [.ref a, l1] st h Q = xe_P d 115 65 [.ref a, l1] (.ref a :: st) h Q := xe_P_lo (ins := .aload_n 0) (len := 1) (by decide +kernel) rfl rfl
theorem xs_115_65 : xe_P d 115 65 ls (.ref a :: st) h Q = (xe_ob h a 6 ∧ xe_P d 115 68 ls (va_rf (xe_R h a 3) :: st) h Q) := xe_P_getR (i := 23) (by decide +kernel) (by decide +kernel) (by decide) rfl
theorem xs_115_68 : xe_P d 115 68 ls st h Q = xe_P d 115 69 ls (.int 0 :: st) h Q := xe_P_ar (ins := .iconst 0) (len := 1) (by decide +kernel) rfl
theorem xs_115_69 : xe_P d 115 69 ls (.int v :: .ref a :: st) h Q = ((xe_ba h a ∧ xe_ix h a v) ∧ xe_P d 115 70 ls (.int (xe_I h a v.toNatClampNeg) :: st) h Q) := xe_P_bald (by decide +kernel)
theorem xs_115_70 : xe_P d 115 70 ls (.int x :: st) h Q = (if x = 0 then xe_P d 115 77 ls st h Q else xe_P d 115 73 ls st h Q) := xe_P_if (ins := .ifCond .eq 7) (len := 3) (off := 7) (by decide +kernel) (by decide) rfl rfl rfl
theorem xs_115_73 : xe_P d 115 73 ls st h Q = xe_P d 115 74 ls (.int 1 :: st) h Q := xe_P_ar (ins := .iconst 1) (len := 1) (by decide +kernel) rfl
theorem xs_115_74 : xe_P d 115 74 ls st h Q = xe_P d 115 78 ls st h Q := xe_P_go (len := 3) (off := 4) (by decide +kernel) (by decide)
theorem xs_115_77 : xe_P d 115 77 ls st h Q = xe_P d 115 78 ls (.int 0 :: st) h Q := xe_P_ar (ins := .iconst 0) (len := 1) (by decide +kernel) rfl
theorem xs_115_78 : xe_P d 115 78 [.ref a, l1] st h Q = xe_P d 115 79 [.ref a, l1] (.ref a :: st) h Q := xe_P_lo (ins := .aload_n 0) (len := 1) (by decide +kernel) rfl rfl
theorem xs_115_79 : xe_P d 115 79 ls (.ref a :: st) h Q = (xe_ob h a 6 ∧ xe_P d 115 82 ls (va_rf (xe_R h a 3) :: st) h Q) := xe_P_getR (i := 23) (by decide +kernel) (by decide +kernel) (by decide) rfl
theorem xs_115_82 : xe_P d 115 82 ls st h Q = xe_P d 115 83 ls (.int 1 :: st) h Q := xe_P_ar (ins := .iconst 1) (len := 1) (by decide +kernel) rfl
theorem xs_115_83 : xe_P d 115 83 ls (.int v :: .ref a :: st) h Q = ((xe_ba h a ∧ xe_ix h a v) ∧ xe_P d 115 84 ls (.int (xe_I h a v.toNatClampNeg) :: st) h Q) := xe_P_bald (by decide +kernel)
theorem xs_115_84 : xe_P d 115 84 ls (.int x :: st) h Q = (if x = 0 then xe_P d 115 91 ls st h Q else xe_P d 115 87 ls st h Q) := xe_P_if (ins := .ifCond .eq 7) (len := 3) (off := 7) (by decide +kernel) (by decide) rfl rfl rfl
theorem xs_115_87 : xe_P d 115 87 ls st h Q = xe_P d 115 88 ls (.int 1 :: st) h Q := xe_P_ar (ins := .iconst 1) (len := 1) (by decide +kernel) rfl
theorem xs_115_88 : xe_P d 115 88 ls st h Q = xe_P d 115 92 ls st h Q := xe_P_go (len := 3) (off := 4) (by decide +kernel) (by decide)
theorem xs_115_91 : xe_P d 115 91 ls st h Q = xe_P d 115 92 ls (.int 0 :: st) h Q := xe_P_ar (ins := .iconst 0) (len := 1) (by decide +kernel) rfl
theorem xs_115_92 : xe_P d 115 92 ls (.int v :: .int x :: st) h Q = xe_P d 115 93 ls (.int (x + v) :: st) h Q := xe_P_ar (ins := .iadd) (len := 1) (by decide +kernel) rfl
theorem xs_115_93 : xe_P d 115 93 ls [.int x] h Q = Q (some (.int x)) h := xe_P_ireturn (by decide +kernel) rfl
theorem xs_115_94 : xe_P d 115 94 [.ref a, l1] st h Q = xe_P d 115 95 [.ref a, l1] (.ref a :: st) h Q := xe_P_lo (ins := .aload_n 0) (len := 1) (by decide +kernel) rfl rfl
theorem xs_115_95 : xe_P d 115 95 ls (.ref a :: st) h Q = (xe_ob h a 6 ∧ xe_P d 115 98 ls (va_rf (xe_R h a 4) :: st) h Q) := xe_P_getR (i := 30) (by decide +kernel) (by decide +kernel) (by decide) rfl
theorem xs_115_98 : xe_P d 115 98 ls (.ref a :: st) h Q = (xe_ob h a 2 ∧ xe_P d 115 101 ls (.int (xe_I h a 1) :: st) h Q) := xe_P_getI (i := 247) (by decide +kernel) (by decide +kernel) (by decide) rfl
theorem xs_115_101 : xe_P d 115 101 ls [.int x] h Q = Q (some (.int x)) h := xe_P_ireturn (by decide +kernel) rfl
theorem xs_115_102 : xe_P d 115 102 [.ref a, l1] st h Q = xe_P d 115 103 [.ref a, l1] (.ref a :: st) h Q := xe_P_lo (ins := .aload_n 0) (len := 1) (by decide +kernel) rfl rfl
theorem xs_115_103 : xe_P d 115 103 ls (.ref a :: st) h Q = (xe_ob h a 6 ∧ xe_P d 115 106 ls (va_rf (xe_R h a 8) :: st) h Q) := xe_P_getR (i := 58) (by decide +kernel) (by decide +kernel) (by decide) rfl
theorem xs_115_106 : xe_P d 115 106 ls st h Q = xe_P d 115 107 ls (.int 0 :: st) h Q := xe_P_ar (ins := .iconst 0) (len := 1) (by decide +kernel) rfl
theorem xs_115_107 : xe_P d 115 107 ls (v0 :: .ref a :: st) h Q = ((xe_w st ≤ 8 ∧ xe_ob h a 1) ∧ xe_C d 19 [.ref a, v0] h (fun r h' => xe_P d 115 110 ls (r.toList ++ st) h' Q)) := xe_P_ivv (y := 115) (pc := 107) (z := 19) (i := 250) (vs := [v0]) (by decide +kernel) (by decide +kernel) rfl (by decide +kernel)
theorem xs_115_110 : xe_P d 115 110 ls [.int x] h Q = Q (some (.int x)) h := xe_P_ireturn (by decide +kernel) rfl
theorem xs_115_111 : xe_P d 115 111 ls st h Q = xe_P d 115 112 ls (.int (-1) :: st) h Q := xe_P_ar (ins := .iconst (-1)) (len := 1) (by decide +kernel) rfl
theorem xs_115_112 : xe_P d 115 112 ls [.int x] h Q = Q (some (.int x)) h := xe_P_ireturn (by decide +kernel) rfl
theorem xs_115 : xe_C (d + 1) 115 [.ref a, .int x0] h Q = xe_P d 115 0 [.ref a, .int x0] [] h Q := xe_C_at (Nat.le_of_ble_eq_true rfl) rfl
theorem xs_116_0 : xe_P d 116 0 [.int x] st h Q = xe_P d 116 1 [.int x] (.int x :: st) h Q := xe_P_lo (ins := .iload_n 0) (len := 1) (by decide +kernel) rfl rfl
theorem xs_116_1 : xe_P d 116 1 ls st h Q = xe_P d 116 3 ls (.int 6 :: st) h Q := xe_P_ar (ins := .bipush 6) (len := 2) (by decide +kernel) rfl
theorem xs_116_3 : xe_P d 116 3 ls (.int v :: .int x :: st) h Q = (if x = v then xe_P d 116 6 ls st h Q else xe_P d 116 11 ls st h Q) := xe_P_ifn (ins := .if_icmp .ne 8) (len := 3) (off := 8) (by decide +kernel) (by decide) rfl rfl rfl
theorem xs_116_6 : xe_P d 116 6 ls st h Q = xe_P d 116 8 ls (.int (-4) :: st) h Q := xe_P_ar (ins := .bipush (-4)) (len := 2) (by decide +kernel) rfl
theorem xs_116_8 : xe_P d 116 8 ls st h Q = xe_P d 116 12 ls st h Q := xe_P_go (len := 3) (off := 4) (by decide +kernel) (by decide)
theorem xs_116_11 : xe_P d 116 11 [.int x] st h Q = xe_P d 116 12 [.int x] (.int x :: st) h Q := xe_P_lo (ins := .iload_n 0) (len := 1) (by decide +kernel) rfl rfl
theorem xs_116_12 : xe_P d 116 12 ls [.int x] h Q = Q (some (.int x)) h := xe_P_ireturn (by decide +kernel) rfl
theorem xs_116 : xe_C (d + 1) 116 [.int x0] h Q = xe_P d 116 0 [.int x0] [] h Q := xe_C_at (Nat.le_of_ble_eq_true rfl) rfl
theorem xs_117_0 : xe_P d 117 0 [.int x] st h Q = xe_P d 117 1 [.int x] (.int x :: st) h Q := xe_P_lo (ins := .iload_n 0) (len := 1) (by decide +kernel) rfl rfl
theorem xs_117_1 : xe_P d 117 1 ls (.int x :: st) h Q = (if x = 0 then xe_P d 117 10 ls st h Q else xe_P d 117 4 ls st h Q) := xe_P_if (ins := .ifCond .eq 9) (len := 3) (off := 9) (by decide +kernel) (by decide) rfl rfl rfl
theorem xs_117_4 : xe_P d 117 4 [.int x] st h Q = xe_P d 117 5 [.int x] (.int x :: st) h Q := xe_P_lo (ins := .iload_n 0) (len := 1) (by decide +kernel) rfl rfl
theorem xs_117_5 : xe_P d 117 5 ls st h Q = xe_P d 117 7 ls (.int 10 :: st) h Q := xe_P_ar (ins := .bipush 10) (len := 2) (by decide +kernel) rfl
theorem xs_117_7 : xe_P d 117 7 ls (.int v :: .int x :: st) h Q = (if x < v then xe_P d 117 14 ls st h Q else xe_P d 117 10 ls st h Q) := xe_P_if (ins := .if_icmp .lt 7) (len := 3) (off := 7) (by decide +kernel) (by decide) rfl rfl rfl
theorem xs_117_10 : xe_P d 117 10 ls st h Q = xe_P d 117 11 ls (.int 1 :: st) h Q := xe_P_ar (ins := .iconst 1) (len := 1) (by decide +kernel) rfl
theorem xs_117_11 : xe_P d 117 11 ls st h Q = xe_P d 117 15 ls st h Q := xe_P_go (len := 3) (off := 4) (by decide +kernel) (by decide)
theorem xs_117_14 : xe_P d 117 14 ls st h Q = xe_P d 117 15 ls (.int 0 :: st) h Q := xe_P_ar (ins := .iconst 0) (len := 1) (by decide +kernel) rfl
theorem xs_117_15 : xe_P d 117 15 ls [.int x] h Q = ((x = 0 ∨ x = 1) ∧ Q (some (.int x)) h) := xe_P_zreturn (by decide +kernel) rfl
theorem xs_117 : xe_C (d + 1) 117 [.int x0] h Q = xe_P d 117 0 [.int x0] [] h Q := xe_C_at (Nat.le_of_ble_eq_true rfl) rfl
theorem xs_118_0 : xe_P d 118 0 [.int x] st h Q = xe_P d 118 1 [.int x] (.int x :: st) h Q := xe_P_lo (ins := .iload_n 0) (len := 1) (by decide +kernel) rfl rfl
theorem xs_118_1 : xe_P d 118 1 ls (.int x :: st) h Q = (if x = 0 then xe_P d 118 9 ls st h Q else xe_P d 118 4 ls st h Q) := xe_P_if (ins := .ifCond .eq 8) (len := 3) (off := 8) (by decide +kernel) (by decide) rfl rfl rfl
theorem xs_118_4 : xe_P d 118 4 [.int x] st h Q = xe_P d 118 5 [.int x] (.int x :: st) h Q := xe_P_lo (ins := .iload_n 0) (len := 1) (by decide +kernel) rfl rfl
theorem xs_118_5 : xe_P d 118 5 ls st h Q = xe_P d 118 6 ls (.int 1 :: st) h Q := xe_P_ar (ins := .iconst 1) (len := 1) (by decide +kernel) rfl
theorem xs_118_6 : xe_P d 118 6 ls (.int v :: .int x :: st) h Q = (if x = v then xe_P d 118 9 ls st h Q else xe_P d 118 13 ls st h Q) := xe_P_ifn (ins := .if_icmp .ne 7) (len := 3) (off := 7) (by decide +kernel) (by decide) rfl rfl rfl
theorem xs_118_9 : xe_P d 118 9 ls st h Q = xe_P d 118 10 ls (.int 1 :: st) h Q := xe_P_ar (ins := .iconst 1) (len := 1) (by decide +kernel) rfl
theorem xs_118_10 : xe_P d 118 10 ls st h Q = xe_P d 118 14 ls st h Q := xe_P_go (len := 3) (off := 4) (by decide +kernel) (by decide)
theorem xs_118_13 : xe_P d 118 13 ls st h Q = xe_P d 118 14 ls (.int 0 :: st) h Q := xe_P_ar (ins := .iconst 0) (len := 1) (by decide +kernel) rfl
theorem xs_118_14 : xe_P d 118 14 ls [.int x] h Q = ((x = 0 ∨ x = 1) ∧ Q (some (.int x)) h) := xe_P_zreturn (by decide +kernel) rfl
theorem xs_118 : xe_C (d + 1) 118 [.int x0] h Q = xe_P d 118 0 [.int x0] [] h Q := xe_C_at (Nat.le_of_ble_eq_true rfl) rfl
end XSX6
