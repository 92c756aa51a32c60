section XSX7c
variable {d : Nat} {l0 l1 l2 l3 l4 l5 l6 l7 l8 l9 l10 l11 v0 v1 v2 v3 v4 v5 : Value} {x v n x0 x1 x2 x3 x4 x5 : Int32} {w u w0 w1 w2 w3 : Int64} {a b a0 a1 a2 : Nat} {ls st : List Value} {h : xe_H} {Q : Option Value → xe_H → Prop}
theorem xs_153_0 : xe_P d 153 0 [.ref a, l1, l2, l3, l4] st h Q = xe_P d 153 1 [.ref a, l1, l2, l3, l4] (.ref a :: st) h Q := xe_P_lo (ins := .aload_n 0) (len := 1) (by decide +kernel) rfl rfl
theorem xs_153_1 : xe_P d 153 1 [l0, .int x, l2, l3, l4] st h Q = xe_P d 153 2 [l0, .int x, l2, l3, l4] (.int x :: st) h Q := xe_P_lo (ins := .iload_n 1) (len := 1) (by decide +kernel) rfl rfl
theorem xs_153_2 : xe_P d 153 2 ls (v0 :: .ref a :: st) h Q = ((xe_w st ≤ 8 ∧ xe_ob h a 7) ∧ xe_C d 138 [.ref a, v0] h (fun r h' => xe_P d 153 5 ls (r.toList ++ st) h' Q)) := xe_P_ivv (y := 153) (pc := 2) (z := 138) (i := 184) (vs := [v0]) (by decide +kernel) (by decide +kernel) rfl (by decide +kernel)
theorem xs_153_5 : xe_P d 153 5 ls (.int x :: st) h Q = (if x = 0 then xe_P d 153 20 ls st h Q else xe_P d 153 8 ls st h Q) := xe_P_if (ins := .ifCond .eq 15) (len := 3) (off := 15) (by decide +kernel) (by decide) rfl rfl rfl
theorem xs_153_8 : xe_P d 153 8 [l0, l1, .int x, l3, l4] st h Q = xe_P d 153 9 [l0, l1, .int x, l3, l4] (.int x :: st) h Q := xe_P_lo (ins := .iload_n 2) (len := 1) (by decide +kernel) rfl rfl
theorem xs_153_9 : xe_P d 153 9 ls (.int x :: st) h Q = xe_P d 153 10 ls (.long x.toInt64 :: st) h Q := xe_P_ar (ins := .i2l) (len := 1) (by decide +kernel) rfl
theorem xs_153_10 : xe_P d 153 10 ls st h Q = xe_P d 153 11 ls (.long 0 :: st) h Q := xe_P_ar (ins := .lconst 0) (len := 1) (by decide +kernel) rfl
theorem xs_153_11 : xe_P d 153 11 ls st h Q = xe_P d 153 14 ls (.long 2 :: st) h Q := xe_P_ldc2 (j := 207) (by decide +kernel) (by decide +kernel)
theorem xs_153_14 : xe_P d 153 14 ls (v2 :: v1 :: v0 :: st) h Q = (xe_w st ≤ 8 ∧ xe_C d 120 [v0, v1, v2] h (fun r h' => xe_P d 153 17 ls (r.toList ++ st) h' Q)) := xe_P_ivs (y := 153) (pc := 14) (z := 120) (i := 88) (vs := [v2, v1, v0]) (by decide +kernel) (by decide +kernel) rfl
theorem xs_153_17 : xe_P d 153 17 ls (.int x :: st) h Q = (if x = 0 then xe_P d 153 20 ls st h Q else xe_P d 153 22 ls st h Q) := xe_P_ifn (ins := .ifCond .ne 5) (len := 3) (off := 5) (by decide +kernel) (by decide) rfl rfl rfl
theorem xs_153_20 : xe_P d 153 20 ls st h Q = xe_P d 153 21 ls (.int (-1) :: st) h Q := xe_P_ar (ins := .iconst (-1)) (len := 1) (by decide +kernel) rfl
theorem xs_153_21 : xe_P d 153 21 ls [.int x] h Q = Q (some (.int x)) h := xe_P_ireturn (by decide +kernel) rfl
theorem xs_153_22 : xe_P d 153 22 [.ref a, l1, l2, l3, l4] st h Q = xe_P d 153 23 [.ref a, l1, l2, l3, l4] (.ref a :: st) h Q := xe_P_lo (ins := .aload_n 0) (len := 1) (by decide +kernel) rfl rfl
theorem xs_153_23 : xe_P d 153 23 ls (.ref a :: st) h Q = ((xe_w st ≤ 8 ∧ xe_ob h a 7) ∧ xe_C d 145 [.ref a] h (fun r h' => xe_P d 153 26 ls (r.toList ++ st) h' Q)) := xe_P_ivv (y := 153) (pc := 23) (z := 145) (i := 209) (vs := []) (by decide +kernel) (by decide +kernel) rfl (by decide +kernel)
theorem xs_153_26 : xe_P d 153 26 ls st h Q = xe_P d 153 27 ls (.int 0 :: st) h Q := xe_P_ar (ins := .iconst 0) (len := 1) (by decide +kernel) rfl
theorem xs_153_27 : xe_P d 153 27 [l0, l1, l2, l3, l4] (.int x :: st) h Q = xe_P d 153 28 [l0, l1, xe_cut l2, .int x, l4] st h Q := xe_P_lo (ins := .istore_n 3) (len := 1) (by decide +kernel) rfl rfl
theorem xs_153_28 : xe_P d 153 28 ls st h Q = xe_P d 153 29 ls (.int 0 :: st) h Q := xe_P_ar (ins := .iconst 0) (len := 1) (by decide +kernel) rfl
theorem xs_153_29 : xe_P d 153 29 [l0, l1, l2, l3, l4] (.int x :: st) h Q = xe_P d 153 31 [l0, l1, l2, xe_cut l3, .int x] st h Q := xe_P_lo (ins := .istore 4) (len := 2) (by decide +kernel) rfl rfl
theorem xs_153_31 : xe_P d 153 31 [l0, l1, l2, l3, .int x] st h Q = xe_P d 153 33 [l0, l1, l2, l3, .int x] (.int x :: st) h Q := xe_P_lo (ins := .iload 4) (len := 2) (by decide +kernel) rfl rfl
theorem xs_153_33 : xe_P d 153 33 [.ref a, l1, l2, l3, l4] st h Q = xe_P d 153 34 [.ref a, l1, l2, l3, l4] (.ref a :: st) h Q := xe_P_lo (ins := .aload_n 0) (len := 1) (by decide +kernel) rfl rfl
theorem xs_153_34 : xe_P d 153 34 ls (.ref a :: st) h Q = ((xe_w st ≤ 8 ∧ xe_ob h a 7) ∧ xe_C d 136 [.ref a] h (fun r h' => xe_P d 153 37 ls (r.toList ++ st) h' Q)) := xe_P_ivv (y := 153) (pc := 34) (z := 136) (i := 181) (vs := []) (by decide +kernel) (by decide +kernel) rfl (by decide +kernel)
theorem xs_153_37 : xe_P d 153 37 ls (.int v :: .int x :: st) h Q = (if v ≤ x then xe_P d 153 71 ls st h Q else xe_P d 153 40 ls st h Q) := xe_P_if (ins := .if_icmp .ge 34) (len := 3) (off := 34) (by decide +kernel) (by decide) rfl rfl rfl
theorem xs_153_40 : xe_P d 153 40 [l0, l1, l2, .int x, l4] st h Q = xe_P d 153 41 [l0, l1, l2, .int x, l4] (.int x :: st) h Q := xe_P_lo (ins := .iload_n 3) (len := 1) (by decide +kernel) rfl rfl
theorem xs_153_41 : xe_P d 153 41 [.ref a, l1, l2, l3, l4] st h Q = xe_P d 153 42 [.ref a, l1, l2, l3, l4] (.ref a :: st) h Q := xe_P_lo (ins := .aload_n 0) (len := 1) (by decide +kernel) rfl rfl
theorem xs_153_42 : xe_P d 153 42 [l0, l1, l2, l3, .int x] st h Q = xe_P d 153 44 [l0, l1, l2, l3, .int x] (.int x :: st) h Q := xe_P_lo (ins := .iload 4) (len := 2) (by decide +kernel) rfl rfl
theorem xs_153_44 : xe_P d 153 44 [.ref a, l1, l2, l3, l4] st h Q = xe_P d 153 45 [.ref a, l1, l2, l3, l4] (.ref a :: st) h Q := xe_P_lo (ins := .aload_n 0) (len := 1) (by decide +kernel) rfl rfl
theorem xs_153_45 : xe_P d 153 45 [l0, .int x, l2, l3, l4] st h Q = xe_P d 153 46 [l0, .int x, l2, l3, l4] (.int x :: st) h Q := xe_P_lo (ins := .iload_n 1) (len := 1) (by decide +kernel) rfl rfl
theorem xs_153_46 : xe_P d 153 46 ls (v0 :: .ref a :: st) h Q = ((xe_w st ≤ 8 ∧ xe_ob h a 7) ∧ xe_C d 140 [.ref a, v0] h (fun r h' => xe_P d 153 49 ls (r.toList ++ st) h' Q)) := xe_P_ivv (y := 153) (pc := 46) (z := 140) (i := 212) (vs := [v0]) (by decide +kernel) (by decide +kernel) rfl (by decide +kernel)
theorem xs_153_49 : xe_P d 153 49 ls (v1 :: v0 :: .ref a :: st) h Q = ((xe_w st ≤ 8 ∧ xe_ob h a 7) ∧ xe_C d 148 [.ref a, v0, v1] h (fun r h' => xe_P d 153 52 ls (r.toList ++ st) h' Q)) := xe_P_ivv (y := 153) (pc := 49) (z := 148) (i := 199) (vs := [v1, v0]) (by decide +kernel) (by decide +kernel) rfl (by decide +kernel)
theorem xs_153_52 : xe_P d 153 52 ls (.int x :: st) h Q = (if x = 0 then xe_P d 153 62 ls st h Q else xe_P d 153 55 ls st h Q) := xe_P_if (ins := .ifCond .eq 10) (len := 3) (off := 10) (by decide +kernel) (by decide) rfl rfl rfl
theorem xs_153_55 : xe_P d 153 55 ls st h Q = xe_P d 153 56 ls (.int 1 :: st) h Q := xe_P_ar (ins := .iconst 1) (len := 1) (by decide +kernel) rfl
theorem xs_153_56 : xe_P d 153 56 [l0, l1, l2, l3, .int x] st h Q = xe_P d 153 58 [l0, l1, l2, l3, .int x] (.int x :: st) h Q := xe_P_lo (ins := .iload 4) (len := 2) (by decide +kernel) rfl rfl
theorem xs_153_58 : xe_P d 153 58 ls (.int v :: .int x :: st) h Q = xe_P d 153 59 ls (.int (x <<< (v &&& 31)) :: st) h Q := xe_P_ar (ins := .ishl) (len := 1) (by decide +kernel) rfl
theorem xs_153_59 : xe_P d 153 59 ls st h Q = xe_P d 153 63 ls st h Q := xe_P_go (len := 3) (off := 4) (by decide +kernel) (by decide)
theorem xs_153_62 : xe_P d 153 62 ls st h Q = xe_P d 153 63 ls (.int 0 :: st) h Q := xe_P_ar (ins := .iconst 0) (len := 1) (by decide +kernel) rfl
theorem xs_153_63 : xe_P d 153 63 ls (.int v :: .int x :: st) h Q = xe_P d 153 64 ls (.int (x ||| v) :: st) h Q := xe_P_ar (ins := .ior) (len := 1) (by decide +kernel) rfl
theorem xs_153_64 : xe_P d 153 64 [l0, l1, l2, l3, l4] (.int x :: st) h Q = xe_P d 153 65 [l0, l1, xe_cut l2, .int x, l4] st h Q := xe_P_lo (ins := .istore_n 3) (len := 1) (by decide +kernel) rfl rfl
theorem xs_153_65 : xe_P d 153 65 [l0, l1, l2, l3, .int x] st h Q = xe_P d 153 68 [l0, l1, l2, xe_cut l3, .int (x + 1)] st h Q := xe_P_lo (ins := .iinc 4 1) (len := 3) (by decide +kernel) rfl rfl
theorem xs_153_68 : xe_P d 153 68 ls st h Q = xe_P d 153 31 ls st h Q := xe_P_go (len := 3) (off := (-37)) (by decide +kernel) (by decide)
theorem xs_153_71 : xe_P d 153 71 [l0, l1, .int x, l3, l4] st h Q = xe_P d 153 72 [l0, l1, .int x, l3, l4] (.int x :: st) h Q := xe_P_lo (ins := .iload_n 2) (len := 1) (by decide +kernel) rfl rfl
theorem xs_153_72 : xe_P d 153 72 ls (.int x :: st) h Q = (if x = 0 then xe_P d 153 75 ls st h Q else xe_P d 153 83 ls st h Q) := xe_P_ifn (ins := .ifCond .ne 11) (len := 3) (off := 11) (by decide +kernel) (by decide) rfl rfl rfl
theorem xs_153_75 : xe_P d 153 75 [.ref a, l1, l2, l3, l4] st h Q = xe_P d 153 76 [.ref a, l1, l2, l3, l4] (.ref a :: st) h Q := xe_P_lo (ins := .aload_n 0) (len := 1) (by decide +kernel) rfl rfl
theorem xs_153_76 : xe_P d 153 76 [l0, .int x, l2, l3, l4] st h Q = xe_P d 153 77 [l0, .int x, l2, l3, l4] (.int x :: st) h Q := xe_P_lo (ins := .iload_n 1) (len := 1) (by decide +kernel) rfl rfl
theorem xs_153_77 : xe_P d 153 77 ls (v0 :: .ref a :: st) h Q = ((xe_w st ≤ 8 ∧ xe_ob h a 7) ∧ xe_C d 140 [.ref a, v0] h (fun r h' => xe_P d 153 80 ls (r.toList ++ st) h' Q)) := xe_P_ivv (y := 153) (pc := 77) (z := 140) (i := 212) (vs := [v0]) (by decide +kernel) (by decide +kernel) rfl (by decide +kernel)
theorem xs_153_80 : xe_P d 153 80 ls st h Q = xe_P d 153 97 ls st h Q := xe_P_go (len := 3) (off := 17) (by decide +kernel) (by decide)
theorem xs_153_83 : xe_P d 153 83 [l0, l1, .int x, l3, l4] st h Q = xe_P d 153 84 [l0, l1, .int x, l3, l4] (.int x :: st) h Q := xe_P_lo (ins := .iload_n 2) (len := 1) (by decide +kernel) rfl rfl
theorem xs_153_84 : xe_P d 153 84 ls st h Q = xe_P d 153 85 ls (.int 1 :: st) h Q := xe_P_ar (ins := .iconst 1) (len := 1) (by decide +kernel) rfl
theorem xs_153_85 : xe_P d 153 85 ls (.int v :: .int x :: st) h Q = (if x = v then xe_P d 153 88 ls st h Q else xe_P d 153 96 ls st h Q) := xe_P_ifn (ins := .if_icmp .ne 11) (len := 3) (off := 11) (by decide +kernel) (by decide) rfl rfl rfl
theorem xs_153_88 : xe_P d 153 88 [.ref a, l1, l2, l3, l4] st h Q = xe_P d 153 89 [.ref a, l1, l2, l3, l4] (.ref a :: st) h Q := xe_P_lo (ins := .aload_n 0) (len := 1) (by decide +kernel) rfl rfl
theorem xs_153_89 : xe_P d 153 89 [l0, .int x, l2, l3, l4] st h Q = xe_P d 153 90 [l0, .int x, l2, l3, l4] (.int x :: st) h Q := xe_P_lo (ins := .iload_n 1) (len := 1) (by decide +kernel) rfl rfl
theorem xs_153_90 : xe_P d 153 90 ls (v0 :: .ref a :: st) h Q = ((xe_w st ≤ 8 ∧ xe_ob h a 7) ∧ xe_C d 141 [.ref a, v0] h (fun r h' => xe_P d 153 93 ls (r.toList ++ st) h' Q)) := xe_P_ivv (y := 153) (pc := 90) (z := 141) (i := 215) (vs := [v0]) (by decide +kernel) (by decide +kernel) rfl (by decide +kernel)
theorem xs_153_93 : xe_P d 153 93 ls st h Q = xe_P d 153 97 ls st h Q := xe_P_go (len := 3) (off := 4) (by decide +kernel) (by decide)
theorem xs_153_96 : xe_P d 153 96 [l0, l1, l2, .int x, l4] st h Q = xe_P d 153 97 [l0, l1, l2, .int x, l4] (.int x :: st) h Q := xe_P_lo (ins := .iload_n 3) (len := 1) (by decide +kernel) rfl rfl
theorem xs_153_97 : xe_P d 153 97 ls [.int x] h Q = Q (some (.int x)) h := xe_P_ireturn (by decide +kernel) rfl
theorem xs_153 : xe_C (d + 1) 153 [.ref a, .int x0, .int x1] h Q = xe_P d 153 0 [.ref a, .int x0, .int x1, .retAddr 0, .retAddr 0] [] h Q := xe_C_at (Nat.le_of_ble_eq_true rfl) rfl
theorem xs_154_0 : xe_P d 154 0 [l0, .int x, l2] st h Q = xe_P d 154 1 [l0, .int x, l2] (.int x :: st) h Q := xe_P_lo (ins := .iload_n 1) (len := 1) (by decide +kernel) rfl rfl
theorem xs_154_1 : xe_P d 154 1 ls (.int x :: st) h Q = xe_P d 154 2 ls (.long x.toInt64 :: st) h Q := xe_P_ar (ins := .i2l) (len := 1) (by decide +kernel) rfl
theorem xs_154_2 : xe_P d 154 2 ls st h Q = xe_P d 154 3 ls (.long 0 :: st) h Q := xe_P_ar (ins := .lconst 0) (len := 1) (by decide +kernel) rfl
theorem xs_154_3 : xe_P d 154 3 ls st h Q = xe_P d 154 6 ls (.long 2 :: st) h Q := xe_P_ldc2 (j := 207) (by decide +kernel) (by decide +kernel)
theorem xs_154_6 : xe_P d 154 6 ls (v2 :: v1 :: v0 :: st) h Q = (xe_w st ≤ 8 ∧ xe_C d 120 [v0, v1, v2] h (fun r h' => xe_P d 154 9 ls (r.toList ++ st) h' Q)) := xe_P_ivs (y := 154) (pc := 6) (z := 120) (i := 88) (vs := [v2, v1, v0]) (by decide +kernel) (by decide +kernel) rfl
theorem xs_154_9 : xe_P d 154 9 ls (.int x :: st) h Q = (if x = 0 then xe_P d 154 12 ls st h Q else xe_P d 154 14 ls st h Q) := xe_P_ifn (ins := .ifCond .ne 5) (len := 3) (off := 5) (by decide +kernel) (by decide) rfl rfl rfl
theorem xs_154_12 : xe_P d 154 12 ls st h Q = xe_P d 154 13 ls (.int (-1) :: st) h Q := xe_P_ar (ins := .iconst (-1)) (len := 1) (by decide +kernel) rfl
theorem xs_154_13 : xe_P d 154 13 ls [.int x] h Q = Q (some (.int x)) h := xe_P_ireturn (by decide +kernel) rfl
theorem xs_154_14 : xe_P d 154 14 [.ref a, l1, l2] st h Q = xe_P d 154 15 [.ref a, l1, l2] (.ref a :: st) h Q := xe_P_lo (ins := .aload_n 0) (len := 1) (by decide +kernel) rfl rfl
theorem xs_154_15 : xe_P d 154 15 ls (.ref a :: st) h Q = (xe_ob h a 7 ∧ xe_P d 154 18 ls (va_rf (xe_R h a 0) :: st) h Q) := xe_P_getR (i := 7) (by decide +kernel) (by decide +kernel) (by decide) rfl
theorem xs_154_18 : xe_P d 154 18 ls st h Q = xe_P d 154 20 ls (.int 32 :: st) h Q := xe_P_ar (ins := .bipush 32) (len := 2) (by decide +kernel) rfl
theorem xs_154_20 : xe_P d 154 20 ls (.int v :: .ref a :: st) h Q = ((xe_ia h a ∧ xe_ix h a v) ∧ xe_P d 154 21 ls (.int (xe_I h a v.toNatClampNeg) :: st) h Q) := xe_P_iald (by decide +kernel)
theorem xs_154_21 : xe_P d 154 21 [l0, l1, l2] (.int x :: st) h Q = xe_P d 154 22 [l0, xe_cut l1, .int x] st h Q := xe_P_lo (ins := .istore_n 2) (len := 1) (by decide +kernel) rfl rfl
theorem xs_154_22 : xe_P d 154 22 [.ref a, l1, l2] st h Q = xe_P d 154 23 [.ref a, l1, l2] (.ref a :: st) h Q := xe_P_lo (ins := .aload_n 0) (len := 1) (by decide +kernel) rfl rfl
theorem xs_154_23 : xe_P d 154 23 ls (.ref a :: st) h Q = (xe_ob h a 7 ∧ xe_P d 154 26 ls (va_rf (xe_R h a 0) :: st) h Q) := xe_P_getR (i := 7) (by decide +kernel) (by decide +kernel) (by decide) rfl
theorem xs_154_26 : xe_P d 154 26 ls st h Q = xe_P d 154 28 ls (.int 32 :: st) h Q := xe_P_ar (ins := .bipush 32) (len := 2) (by decide +kernel) rfl
theorem xs_154_28 : xe_P d 154 28 [l0, .int x, l2] st h Q = xe_P d 154 29 [l0, .int x, l2] (.int x :: st) h Q := xe_P_lo (ins := .iload_n 1) (len := 1) (by decide +kernel) rfl rfl
theorem xs_154_29 : xe_P d 154 29 ls (.int x :: .int v :: .ref a :: st) h Q = ((xe_ob h a 8 ∧ xe_ix h a v) ∧ xe_P d 154 30 ls st (xe_sI h a v.toNatClampNeg x) Q) := xe_P_iast (by decide +kernel)
theorem xs_154_30 : xe_P d 154 30 [l0, l1, .int x] st h Q = xe_P d 154 31 [l0, l1, .int x] (.int x :: st) h Q := xe_P_lo (ins := .iload_n 2) (len := 1) (by decide +kernel) rfl rfl
theorem xs_154_31 : xe_P d 154 31 ls [.int x] h Q = Q (some (.int x)) h := xe_P_ireturn (by decide +kernel) rfl
theorem xs_154 : xe_C (d + 1) 154 [.ref a, .int x0] h Q = xe_P d 154 0 [.ref a, .int x0, .retAddr 0] [] h Q := xe_C_at (Nat.le_of_ble_eq_true rfl) rfl
theorem xs_155_0 : xe_P d 155 0 [l0, .int x, l2] st h Q = xe_P d 155 1 [l0, .int x, l2] (.int x :: st) h Q := xe_P_lo (ins := .iload_n 1) (len := 1) (by decide +kernel) rfl rfl
theorem xs_155_1 : xe_P d 155 1 ls (.int x :: st) h Q = xe_P d 155 2 ls (.long x.toInt64 :: st) h Q := xe_P_ar (ins := .i2l) (len := 1) (by decide +kernel) rfl
theorem xs_155_2 : xe_P d 155 2 ls st h Q = xe_P d 155 3 ls (.long 1 :: st) h Q := xe_P_ar (ins := .lconst 1) (len := 1) (by decide +kernel) rfl
theorem xs_155_3 : xe_P d 155 3 ls st h Q = xe_P d 155 6 ls (.long 3 :: st) h Q := xe_P_ldc2 (j := 194) (by decide +kernel) (by decide +kernel)
theorem xs_155_6 : xe_P d 155 6 ls (v2 :: v1 :: v0 :: st) h Q = (xe_w st ≤ 8 ∧ xe_C d 120 [v0, v1, v2] h (fun r h' => xe_P d 155 9 ls (r.toList ++ st) h' Q)) := xe_P_ivs (y := 155) (pc := 6) (z := 120) (i := 88) (vs := [v2, v1, v0]) (by decide +kernel) (by decide +kernel) rfl
theorem xs_155_9 : xe_P d 155 9 ls (.int x :: st) h Q = (if x = 0 then xe_P d 155 12 ls st h Q else xe_P d 155 14 ls st h Q) := xe_P_ifn (ins := .ifCond .ne 5) (len := 3) (off := 5) (by decide +kernel) (by decide) rfl rfl rfl
theorem xs_155_12 : xe_P d 155 12 ls st h Q = xe_P d 155 13 ls (.int (-1) :: st) h Q := xe_P_ar (ins := .iconst (-1)) (len := 1) (by decide +kernel) rfl
theorem xs_155_13 : xe_P d 155 13 ls [.int x] h Q = Q (some (.int x)) h := xe_P_ireturn (by decide +kernel) rfl
theorem xs_155_14 : xe_P d 155 14 [.ref a, l1, l2] st h Q = xe_P d 155 15 [.ref a, l1, l2] (.ref a :: st) h Q := xe_P_lo (ins := .aload_n 0) (len := 1) (by decide +kernel) rfl rfl
theorem xs_155_15 : xe_P d 155 15 ls (.ref a :: st) h Q = ((xe_w st ≤ 8 ∧ xe_ob h a 7) ∧ xe_C d 142 [.ref a] h (fun r h' => xe_P d 155 18 ls (r.toList ++ st) h' Q)) := xe_P_ivv (y := 155) (pc := 15) (z := 142) (i := 188) (vs := []) (by decide +kernel) (by decide +kernel) rfl (by decide +kernel)
theorem xs_155_18 : xe_P d 155 18 [l0, l1, l2] (.int x :: st) h Q = xe_P d 155 19 [l0, xe_cut l1, .int x] st h Q := xe_P_lo (ins := .istore_n 2) (len := 1) (by decide +kernel) rfl rfl
theorem xs_155_19 : xe_P d 155 19 [.ref a, l1, l2] st h Q = xe_P d 155 20 [.ref a, l1, l2] (.ref a :: st) h Q := xe_P_lo (ins := .aload_n 0) (len := 1) (by decide +kernel) rfl rfl
theorem xs_155_20 : xe_P d 155 20 ls (.ref a :: st) h Q = (xe_ob h a 7 ∧ xe_P d 155 23 ls (va_rf (xe_R h a 0) :: st) h Q) := xe_P_getR (i := 7) (by decide +kernel) (by decide +kernel) (by decide) rfl
theorem xs_155_23 : xe_P d 155 23 ls st h Q = xe_P d 155 25 ls (.int 33 :: st) h Q := xe_P_ar (ins := .bipush 33) (len := 2) (by decide +kernel) rfl
theorem xs_155_25 : xe_P d 155 25 [l0, .int x, l2] st h Q = xe_P d 155 26 [l0, .int x, l2] (.int x :: st) h Q := xe_P_lo (ins := .iload_n 1) (len := 1) (by decide +kernel) rfl rfl
theorem xs_155_26 : xe_P d 155 26 ls st h Q = xe_P d 155 27 ls (.int 2 :: st) h Q := xe_P_ar (ins := .iconst 2) (len := 1) (by decide +kernel) rfl
theorem xs_155_27 : xe_P d 155 27 ls (.int v :: .int x :: st) h Q = xe_P d 155 28 ls (.int (x - v) :: st) h Q := xe_P_ar (ins := .isub) (len := 1) (by decide +kernel) rfl
theorem xs_155_28 : xe_P d 155 28 ls (.int x :: .int v :: .ref a :: st) h Q = ((xe_ob h a 8 ∧ xe_ix h a v) ∧ xe_P d 155 29 ls st (xe_sI h a v.toNatClampNeg x) Q) := xe_P_iast (by decide +kernel)
theorem xs_155_29 : xe_P d 155 29 [l0, l1, .int x] st h Q = xe_P d 155 30 [l0, l1, .int x] (.int x :: st) h Q := xe_P_lo (ins := .iload_n 2) (len := 1) (by decide +kernel) rfl rfl
theorem xs_155_30 : xe_P d 155 30 ls [.int x] h Q = Q (some (.int x)) h := xe_P_ireturn (by decide +kernel) rfl
theorem xs_155 : xe_C (d + 1) 155 [.ref a, .int x0] h Q = xe_P d 155 0 [.ref a, .int x0, .retAddr 0] [] h Q := xe_C_at (Nat.le_of_ble_eq_true rfl) rfl
theorem xs_156_0 : xe_P d 156 0 [.ref a, l1, l2, l3] st h Q = xe_P d 156 1 [.ref a, l1, l2, l3] (.ref a :: st) h Q := xe_P_lo (ins := .aload_n 0) (len := 1) (by decide +kernel) rfl rfl
theorem xs_156_1 : xe_P d 156 1 [l0, .int x, l2, l3] st h Q = xe_P d 156 2 [l0, .int x, l2, l3] (.int x :: st) h Q := xe_P_lo (ins := .iload_n 1) (len := 1) (by decide +kernel) rfl rfl
theorem xs_156_2 : xe_P d 156 2 ls (v0 :: .ref a :: st) h Q = ((xe_w st ≤ 8 ∧ xe_ob h a 7) ∧ xe_C d 137 [.ref a, v0] h (fun r h' => xe_P d 156 5 ls (r.toList ++ st) h' Q)) := xe_P_ivv (y := 156) (pc := 2) (z := 137) (i := 191) (vs := [v0]) (by decide +kernel) (by decide +kernel) rfl (by decide +kernel)
theorem xs_156_5 : xe_P d 156 5 ls (.int x :: st) h Q = (if x = 0 then xe_P d 156 27 ls st h Q else xe_P d 156 8 ls st h Q) := xe_P_if (ins := .ifCond .eq 22) (len := 3) (off := 22) (by decide +kernel) (by decide) rfl rfl rfl
theorem xs_156_8 : xe_P d 156 8 [l0, l1, .int x, l3] st h Q = xe_P d 156 9 [l0, l1, .int x, l3] (.int x :: st) h Q := xe_P_lo (ins := .iload_n 2) (len := 1) (by decide +kernel) rfl rfl
theorem xs_156_9 : xe_P d 156 9 ls st h Q = xe_P d 156 11 ls (.int (-4) :: st) h Q := xe_P_ar (ins := .bipush (-4)) (len := 2) (by decide +kernel) rfl
theorem xs_156_11 : xe_P d 156 11 ls (.int v :: .int x :: st) h Q = (if x = v then xe_P d 156 29 ls st h Q else xe_P d 156 14 ls st h Q) := xe_P_if (ins := .if_icmp .eq 18) (len := 3) (off := 18) (by decide +kernel) (by decide) rfl rfl rfl
theorem xs_156_14 : xe_P d 156 14 [.ref a, l1, l2, l3] st h Q = xe_P d 156 15 [.ref a, l1, l2, l3] (.ref a :: st) h Q := xe_P_lo (ins := .aload_n 0) (len := 1) (by decide +kernel) rfl rfl
theorem xs_156_15 : xe_P d 156 15 [l0, l1, .int x, l3] st h Q = xe_P d 156 16 [l0, l1, .int x, l3] (.int x :: st) h Q := xe_P_lo (ins := .iload_n 2) (len := 1) (by decide +kernel) rfl rfl
theorem xs_156_16 : xe_P d 156 16 ls (v0 :: .ref a :: st) h Q = ((xe_w st ≤ 8 ∧ xe_ob h a 7) ∧ xe_C d 137 [.ref a, v0] h (fun r h' => xe_P d 156 19 ls (r.toList ++ st) h' Q)) := xe_P_ivv (y := 156) (pc := 16) (z := 137) (i := 191) (vs := [v0]) (by decide +kernel) (by decide +kernel) rfl (by decide +kernel)
theorem xs_156_19 : xe_P d 156 19 ls (.int x :: st) h Q = (if x = 0 then xe_P d 156 27 ls st h Q else xe_P d 156 22 ls st h Q) := xe_P_if (ins := .ifCond .eq 8) (len := 3) (off := 8) (by decide +kernel) (by decide) rfl rfl rfl
theorem xs_156_22 : xe_P d 156 22 [l0, l1, .int x, l3] st h Q = xe_P d 156 23 [l0, l1, .int x, l3] (.int x :: st) h Q := xe_P_lo (ins := .iload_n 2) (len := 1) (by decide +kernel) rfl rfl
theorem xs_156_23 : xe_P d 156 23 [l0, .int x, l2, l3] st h Q = xe_P d 156 24 [l0, .int x, l2, l3] (.int x :: st) h Q := xe_P_lo (ins := .iload_n 1) (len := 1) (by decide +kernel) rfl rfl
theorem xs_156_24 : xe_P d 156 24 ls (.int v :: .int x :: st) h Q = (if x = v then xe_P d 156 27 ls st h Q else xe_P d 156 29 ls st h Q) := xe_P_ifn (ins := .if_icmp .ne 5) (len := 3) (off := 5) (by decide +kernel) (by decide) rfl rfl rfl
theorem xs_156_27 : xe_P d 156 27 ls st h Q = xe_P d 156 28 ls (.int (-1) :: st) h Q := xe_P_ar (ins := .iconst (-1)) (len := 1) (by decide +kernel) rfl
theorem xs_156_28 : xe_P d 156 28 ls [.int x] h Q = Q (some (.int x)) h := xe_P_ireturn (by decide +kernel) rfl
theorem xs_156_29 : xe_P d 156 29 [.ref a, l1, l2, l3] st h Q = xe_P d 156 30 [.ref a, l1, l2, l3] (.ref a :: st) h Q := xe_P_lo (ins := .aload_n 0) (len := 1) (by decide +kernel) rfl rfl
theorem xs_156_30 : xe_P d 156 30 ls (.ref a :: st) h Q = (xe_ob h a 7 ∧ xe_P d 156 33 ls (va_rf (xe_R h a 0) :: st) h Q) := xe_P_getR (i := 7) (by decide +kernel) (by decide +kernel) (by decide) rfl
theorem xs_156_33 : xe_P d 156 33 ls st h Q = xe_P d 156 34 ls (.int 4 :: st) h Q := xe_P_ar (ins := .iconst 4) (len := 1) (by decide +kernel) rfl
theorem xs_156_34 : xe_P d 156 34 [l0, .int x, l2, l3] st h Q = xe_P d 156 35 [l0, .int x, l2, l3] (.int x :: st) h Q := xe_P_lo (ins := .iload_n 1) (len := 1) (by decide +kernel) rfl rfl
theorem xs_156_35 : xe_P d 156 35 ls (.int v :: .int x :: st) h Q = xe_P d 156 36 ls (.int (x * v) :: st) h Q := xe_P_ar (ins := .imul) (len := 1) (by decide +kernel) rfl
theorem xs_156_36 : xe_P d 156 36 ls st h Q = xe_P d 156 37 ls (.int 2 :: st) h Q := xe_P_ar (ins := .iconst 2) (len := 1) (by decide +kernel) rfl
theorem xs_156_37 : xe_P d 156 37 ls (.int v :: .int x :: st) h Q = xe_P d 156 38 ls (.int (x + v) :: st) h Q := xe_P_ar (ins := .iadd) (len := 1) (by decide +kernel) rfl
theorem xs_156_38 : xe_P d 156 38 ls (.int v :: .ref a :: st) h Q = ((xe_ia h a ∧ xe_ix h a v) ∧ xe_P d 156 39 ls (.int (xe_I h a v.toNatClampNeg) :: st) h Q) := xe_P_iald (by decide +kernel)
theorem xs_156_39 : xe_P d 156 39 [l0, l1, l2, l3] (.int x :: st) h Q = xe_P d 156 40 [l0, l1, xe_cut l2, .int x] st h Q := xe_P_lo (ins := .istore_n 3) (len := 1) (by decide +kernel) rfl rfl
theorem xs_156_40 : xe_P d 156 40 [.ref a, l1, l2, l3] st h Q = xe_P d 156 41 [.ref a, l1, l2, l3] (.ref a :: st) h Q := xe_P_lo (ins := .aload_n 0) (len := 1) (by decide +kernel) rfl rfl
theorem xs_156_41 : xe_P d 156 41 ls (.ref a :: st) h Q = (xe_ob h a 7 ∧ xe_P d 156 44 ls (va_rf (xe_R h a 0) :: st) h Q) := xe_P_getR (i := 7) (by decide +kernel) (by decide +kernel) (by decide) rfl
theorem xs_156_44 : xe_P d 156 44 ls st h Q = xe_P d 156 45 ls (.int 4 :: st) h Q := xe_P_ar (ins := .iconst 4) (len := 1) (by decide +kernel) rfl
theorem xs_156_45 : xe_P d 156 45 [l0, .int x, l2, l3] st h Q = xe_P d 156 46 [l0, .int x, l2, l3] (.int x :: st) h Q := xe_P_lo (ins := .iload_n 1) (len := 1) (by decide +kernel) rfl rfl
theorem xs_156_46 : xe_P d 156 46 ls (.int v :: .int x :: st) h Q = xe_P d 156 47 ls (.int (x * v) :: st) h Q := xe_P_ar (ins := .imul) (len := 1) (by decide +kernel) rfl
theorem xs_156_47 : xe_P d 156 47 ls st h Q = xe_P d 156 48 ls (.int 2 :: st) h Q := xe_P_ar (ins := .iconst 2) (len := 1) (by decide +kernel) rfl
theorem xs_156_48 : xe_P d 156 48 ls (.int v :: .int x :: st) h Q = xe_P d 156 49 ls (.int (x + v) :: st) h Q := xe_P_ar (ins := .iadd) (len := 1) (by decide +kernel) rfl
theorem xs_156_49 : xe_P d 156 49 [l0, l1, .int x, l3] st h Q = xe_P d 156 50 [l0, l1, .int x, l3] (.int x :: st) h Q := xe_P_lo (ins := .iload_n 2) (len := 1) (by decide +kernel) rfl rfl
theorem xs_156_50 : xe_P d 156 50 ls (.int x :: .int v :: .ref a :: st) h Q = ((xe_ob h a 8 ∧ xe_ix h a v) ∧ xe_P d 156 51 ls st (xe_sI h a v.toNatClampNeg x) Q) := xe_P_iast (by decide +kernel)
theorem xs_156_51 : xe_P d 156 51 [l0, l1, l2, .int x] st h Q = xe_P d 156 52 [l0, l1, l2, .int x] (.int x :: st) h Q := xe_P_lo (ins := .iload_n 3) (len := 1) (by decide +kernel) rfl rfl
theorem xs_156_52 : xe_P d 156 52 ls [.int x] h Q = Q (some (.int x)) h := xe_P_ireturn (by decide +kernel) rfl
theorem xs_156 : xe_C (d + 1) 156 [.ref a, .int x0, .int x1] h Q = xe_P d 156 0 [.ref a, .int x0, .int x1, .retAddr 0] [] h Q := xe_C_at (Nat.le_of_ble_eq_true rfl) rfl
theorem xs_157_0 : xe_P d 157 0 [.ref a, l1, l2, l3] st h Q = xe_P d 157 1 [.ref a, l1, l2, l3] (.ref a :: st) h Q := xe_P_lo (ins := .aload_n 0) (len := 1) (by decide +kernel) rfl rfl
theorem xs_157_1 : xe_P d 157 1 [l0, .int x, l2, l3] st h Q = xe_P d 157 2 [l0, .int x, l2, l3] (.int x :: st) h Q := xe_P_lo (ins := .iload_n 1) (len := 1) (by decide +kernel) rfl rfl
theorem xs_157_2 : xe_P d 157 2 ls (v0 :: .ref a :: st) h Q = ((xe_w st ≤ 8 ∧ xe_ob h a 7) ∧ xe_C d 137 [.ref a, v0] h (fun r h' => xe_P d 157 5 ls (r.toList ++ st) h' Q)) := xe_P_ivv (y := 157) (pc := 2) (z := 137) (i := 191) (vs := [v0]) (by decide +kernel) (by decide +kernel) rfl (by decide +kernel)
theorem xs_157_5 : xe_P d 157 5 ls (.int x :: st) h Q = (if x = 0 then xe_P d 157 20 ls st h Q else xe_P d 157 8 ls st h Q) := xe_P_if (ins := .ifCond .eq 15) (len := 3) (off := 15) (by decide +kernel) (by decide) rfl rfl rfl
theorem xs_157_8 : xe_P d 157 8 [l0, l1, .int x, l3] st h Q = xe_P d 157 9 [l0, l1, .int x, l3] (.int x :: st) h Q := xe_P_lo (ins := .iload_n 2) (len := 1) (by decide +kernel) rfl rfl
theorem xs_157_9 : xe_P d 157 9 ls (.int x :: st) h Q = xe_P d 157 10 ls (.long x.toInt64 :: st) h Q := xe_P_ar (ins := .i2l) (len := 1) (by decide +kernel) rfl
theorem xs_157_10 : xe_P d 157 10 ls st h Q = xe_P d 157 11 ls (.long 0 :: st) h Q := xe_P_ar (ins := .lconst 0) (len := 1) (by decide +kernel) rfl
theorem xs_157_11 : xe_P d 157 11 ls st h Q = xe_P d 157 14 ls (.long 3 :: st) h Q := xe_P_ldc2 (j := 194) (by decide +kernel) (by decide +kernel)
theorem xs_157_14 : xe_P d 157 14 ls (v2 :: v1 :: v0 :: st) h Q = (xe_w st ≤ 8 ∧ xe_C d 120 [v0, v1, v2] h (fun r h' => xe_P d 157 17 ls (r.toList ++ st) h' Q)) := xe_P_ivs (y := 157) (pc := 14) (z := 120) (i := 88) (vs := [v2, v1, v0]) (by decide +kernel) (by decide +kernel) rfl
theorem xs_157_17 : xe_P d 157 17 ls (.int x :: st) h Q = (if x = 0 then xe_P d 157 20 ls st h Q else xe_P d 157 22 ls st h Q) := xe_P_ifn (ins := .ifCond .ne 5) (len := 3) (off := 5) (by decide +kernel) (by decide) rfl rfl rfl
theorem xs_157_20 : xe_P d 157 20 ls st h Q = xe_P d 157 21 ls (.int (-1) :: st) h Q := xe_P_ar (ins := .iconst (-1)) (len := 1) (by decide +kernel) rfl
theorem xs_157_21 : xe_P d 157 21 ls [.int x] h Q = Q (some (.int x)) h := xe_P_ireturn (by decide +kernel) rfl
theorem xs_157_22 : xe_P d 157 22 [.ref a, l1, l2, l3] st h Q = xe_P d 157 23 [.ref a, l1, l2, l3] (.ref a :: st) h Q := xe_P_lo (ins := .aload_n 0) (len := 1) (by decide +kernel) rfl rfl
theorem xs_157_23 : xe_P d 157 23 ls (.ref a :: st) h Q = (xe_ob h a 7 ∧ xe_P d 157 26 ls (va_rf (xe_R h a 0) :: st) h Q) := xe_P_getR (i := 7) (by decide +kernel) (by decide +kernel) (by decide) rfl
theorem xs_157_26 : xe_P d 157 26 ls st h Q = xe_P d 157 27 ls (.int 4 :: st) h Q := xe_P_ar (ins := .iconst 4) (len := 1) (by decide +kernel) rfl
theorem xs_157_27 : xe_P d 157 27 [l0, .int x, l2, l3] st h Q = xe_P d 157 28 [l0, .int x, l2, l3] (.int x :: st) h Q := xe_P_lo (ins := .iload_n 1) (len := 1) (by decide +kernel) rfl rfl
theorem xs_157_28 : xe_P d 157 28 ls (.int v :: .int x :: st) h Q = xe_P d 157 29 ls (.int (x * v) :: st) h Q := xe_P_ar (ins := .imul) (len := 1) (by decide +kernel) rfl
theorem xs_157_29 : xe_P d 157 29 ls st h Q = xe_P d 157 30 ls (.int 3 :: st) h Q := xe_P_ar (ins := .iconst 3) (len := 1) (by decide +kernel) rfl
theorem xs_157_30 : xe_P d 157 30 ls (.int v :: .int x :: st) h Q = xe_P d 157 31 ls (.int (x + v) :: st) h Q := xe_P_ar (ins := .iadd) (len := 1) (by decide +kernel) rfl
theorem xs_157_31 : xe_P d 157 31 ls (.int v :: .ref a :: st) h Q = ((xe_ia h a ∧ xe_ix h a v) ∧ xe_P d 157 32 ls (.int (xe_I h a v.toNatClampNeg) :: st) h Q) := xe_P_iald (by decide +kernel)
theorem xs_157_32 : xe_P d 157 32 [l0, l1, l2, l3] (.int x :: st) h Q = xe_P d 157 33 [l0, l1, xe_cut l2, .int x] st h Q := xe_P_lo (ins := .istore_n 3) (len := 1) (by decide +kernel) rfl rfl
theorem xs_157_33 : xe_P d 157 33 [.ref a, l1, l2, l3] st h Q = xe_P d 157 34 [.ref a, l1, l2, l3] (.ref a :: st) h Q := xe_P_lo (ins := .aload_n 0) (len := 1) (by decide +kernel) rfl rfl
theorem xs_157_34 : xe_P d 157 34 ls (.ref a :: st) h Q = (xe_ob h a 7 ∧ xe_P d 157 37 ls (va_rf (xe_R h a 0) :: st) h Q) := xe_P_getR (i := 7) (by decide +kernel) (by decide +kernel) (by decide) rfl
theorem xs_157_37 : xe_P d 157 37 ls st h Q = xe_P d 157 38 ls (.int 4 :: st) h Q := xe_P_ar (ins := .iconst 4) (len := 1) (by decide +kernel) rfl
theorem xs_157_38 : xe_P d 157 38 [l0, .int x, l2, l3] st h Q = xe_P d 157 39 [l0, .int x, l2, l3] (.int x :: st) h Q := xe_P_lo (ins := .iload_n 1) (len := 1) (by decide +kernel) rfl rfl
theorem xs_157_39 : xe_P d 157 39 ls (.int v :: .int x :: st) h Q = xe_P d 157 40 ls (.int (x * v) :: st) h Q := xe_P_ar (ins := .imul) (len := 1) (by decide +kernel) rfl
theorem xs_157_40 : xe_P d 157 40 ls st h Q = xe_P d 157 41 ls (.int 3 :: st) h Q := xe_P_ar (ins := .iconst 3) (len := 1) (by decide +kernel) rfl
theorem xs_157_41 : xe_P d 157 41 ls (.int v :: .int x :: st) h Q = xe_P d 157 42 ls (.int (x + v) :: st) h Q := xe_P_ar (ins := .iadd) (len := 1) (by decide +kernel) rfl
theorem xs_157_42 : xe_P d 157 42 [l0, l1, .int x, l3] st h Q = xe_P d 157 43 [l0, l1, .int x, l3] (.int x :: st) h Q := xe_P_lo (ins := .iload_n 2) (len := 1) (by decide +kernel) rfl rfl
theorem xs_157_43 : xe_P d 157 43 ls (.int x :: .int v :: .ref a :: st) h Q = ((xe_ob h a 8 ∧ xe_ix h a v) ∧ xe_P d 157 44 ls st (xe_sI h a v.toNatClampNeg x) Q) := xe_P_iast (by decide +kernel)
theorem xs_157_44 : xe_P d 157 44 [l0, l1, l2, .int x] st h Q = xe_P d 157 45 [l0, l1, l2, .int x] (.int x :: st) h Q := xe_P_lo (ins := .iload_n 3) (len := 1) (by decide +kernel) rfl rfl
theorem xs_157_45 : xe_P d 157 45 ls [.int x] h Q = Q (some (.int x)) h := xe_P_ireturn (by decide +kernel) rfl
theorem xs_157 : xe_C (d + 1) 157 [.ref a, .int x0, .int x1] h Q = xe_P d 157 0 [.ref a, .int x0, .int x1, .retAddr 0] [] h Q := xe_C_at (Nat.le_of_ble_eq_true rfl) rfl
theorem xs_158_0 : xe_P d 158 0 [.ref a, l1, l2, l3, l4] st h Q = xe_P d 158 1 [.ref a, l1, l2, l3, l4] (.ref a :: st) h Q := xe_P_lo (ins := .aload_n 0) (len := 1) (by decide +kernel) rfl rfl
theorem xs_158_1 : xe_P d 158 1 [l0, .int x, l2, l3, l4] st h Q = xe_P d 158 2 [l0, .int x, l2, l3, l4] (.int x :: st) h Q := xe_P_lo (ins := .iload_n 1) (len := 1) (by decide +kernel) rfl rfl
theorem xs_158_2 : xe_P d 158 2 ls (v0 :: .ref a :: st) h Q = ((xe_w st ≤ 8 ∧ xe_ob h a 7) ∧ xe_C d 138 [.ref a, v0] h (fun r h' => xe_P d 158 5 ls (r.toList ++ st) h' Q)) := xe_P_ivv (y := 158) (pc := 2) (z := 138) (i := 184) (vs := [v0]) (by decide +kernel) (by decide +kernel) rfl (by decide +kernel)
theorem xs_158_5 : xe_P d 158 5 ls (.int x :: st) h Q = (if x = 0 then xe_P d 158 40 ls st h Q else xe_P d 158 8 ls st h Q) := xe_P_if (ins := .ifCond .eq 35) (len := 3) (off := 35) (by decide +kernel) (by decide) rfl rfl rfl
theorem xs_158_8 : xe_P d 158 8 [l0, l1, .int x, l3, l4] st h Q = xe_P d 158 9 [l0, l1, .int x, l3, l4] (.int x :: st) h Q := xe_P_lo (ins := .iload_n 2) (len := 1) (by decide +kernel) rfl rfl
theorem xs_158_9 : xe_P d 158 9 ls (.int x :: st) h Q = xe_P d 158 10 ls (.long x.toInt64 :: st) h Q := xe_P_ar (ins := .i2l) (len := 1) (by decide +kernel) rfl
theorem xs_158_10 : xe_P d 158 10 ls st h Q = xe_P d 158 11 ls (.long 0 :: st) h Q := xe_P_ar (ins := .lconst 0) (len := 1) (by decide +kernel) rfl
theorem xs_158_11 : xe_P d 158 11 [.ref a, l1, l2, l3, l4] st h Q = xe_P d 158 12 [.ref a, l1, l2, l3, l4] (.ref a :: st) h Q := xe_P_lo (ins := .aload_n 0) (len := 1) (by decide +kernel) rfl rfl
theorem xs_158_12 : xe_P d 158 12 ls (.ref a :: st) h Q = (xe_ob h a 7 ∧ xe_P d 158 15 ls (.int (xe_I h a 1) :: st) h Q) := xe_P_getI (i := 13) (by decide +kernel) (by decide +kernel) (by decide) rfl
theorem xs_158_15 : xe_P d 158 15 ls st h Q = xe_P d 158 16 ls (.int 1 :: st) h Q := xe_P_ar (ins := .iconst 1) (len := 1) (by decide +kernel) rfl
theorem xs_158_16 : xe_P d 158 16 ls (.int v :: .int x :: st) h Q = xe_P d 158 17 ls (.int (x - v) :: st) h Q := xe_P_ar (ins := .isub) (len := 1) (by decide +kernel) rfl
theorem xs_158_17 : xe_P d 158 17 ls (.int x :: st) h Q = xe_P d 158 18 ls (.long x.toInt64 :: st) h Q := xe_P_ar (ins := .i2l) (len := 1) (by decide +kernel) rfl
theorem xs_158_18 : xe_P d 158 18 ls (v2 :: v1 :: v0 :: st) h Q = (xe_w st ≤ 8 ∧ xe_C d 120 [v0, v1, v2] h (fun r h' => xe_P d 158 21 ls (r.toList ++ st) h' Q)) := xe_P_ivs (y := 158) (pc := 18) (z := 120) (i := 88) (vs := [v2, v1, v0]) (by decide +kernel) (by decide +kernel) rfl
theorem xs_158_21 : xe_P d 158 21 ls (.int x :: st) h Q = (if x = 0 then xe_P d 158 40 ls st h Q else xe_P d 158 24 ls st h Q) := xe_P_if (ins := .ifCond .eq 19) (len := 3) (off := 19) (by decide +kernel) (by decide) rfl rfl rfl
theorem xs_158_24 : xe_P d 158 24 [l0, l1, l2, .int x, l4] st h Q = xe_P d 158 25 [l0, l1, l2, .int x, l4] (.int x :: st) h Q := xe_P_lo (ins := .iload_n 3) (len := 1) (by decide +kernel) rfl rfl
theorem xs_158_25 : xe_P d 158 25 ls (.int x :: st) h Q = xe_P d 158 26 ls (.long x.toInt64 :: st) h Q := xe_P_ar (ins := .i2l) (len := 1) (by decide +kernel) rfl
theorem xs_158_26 : xe_P d 158 26 ls st h Q = xe_P d 158 27 ls (.long 0 :: st) h Q := xe_P_ar (ins := .lconst 0) (len := 1) (by decide +kernel) rfl
theorem xs_158_27 : xe_P d 158 27 [.ref a, l1, l2, l3, l4] st h Q = xe_P d 158 28 [.ref a, l1, l2, l3, l4] (.ref a :: st) h Q := xe_P_lo (ins := .aload_n 0) (len := 1) (by decide +kernel) rfl rfl
theorem xs_158_28 : xe_P d 158 28 ls (.ref a :: st) h Q = (xe_ob h a 7 ∧ xe_P d 158 31 ls (.int (xe_I h a 1) :: st) h Q) := xe_P_getI (i := 13) (by decide +kernel) (by decide +kernel) (by decide) rfl
theorem xs_158_31 : xe_P d 158 31 ls st h Q = xe_P d 158 32 ls (.int 1 :: st) h Q := xe_P_ar (ins := .iconst 1) (len := 1) (by decide +kernel) rfl
theorem xs_158_32 : xe_P d 158 32 ls (.int v :: .int x :: st) h Q = xe_P d 158 33 ls (.int (x - v) :: st) h Q := xe_P_ar (ins := .isub) (len := 1) (by decide +kernel) rfl
theorem xs_158_33 : xe_P d 158 33 ls (.int x :: st) h Q = xe_P d 158 34 ls (.long x.toInt64 :: st) h Q := xe_P_ar (ins := .i2l) (len := 1) (by decide +kernel) rfl
theorem xs_158_34 : xe_P d 158 34 ls (v2 :: v1 :: v0 :: st) h Q = (xe_w st ≤ 8 ∧ xe_C d 120 [v0, v1, v2] h (fun r h' => xe_P d 158 37 ls (r.toList ++ st) h' Q)) := xe_P_ivs (y := 158) (pc := 34) (z := 120) (i := 88) (vs := [v2, v1, v0]) (by decide +kernel) (by decide +kernel) rfl
theorem xs_158_37 : xe_P d 158 37 ls (.int x :: st) h Q = (if x = 0 then xe_P d 158 40 ls st h Q else xe_P d 158 42 ls st h Q) := xe_P_ifn (ins := .ifCond .ne 5) (len := 3) (off := 5) (by decide +kernel) (by decide) rfl rfl rfl
theorem xs_158_40 : xe_P d 158 40 ls st h Q = xe_P d 158 41 ls (.int (-1) :: st) h Q := xe_P_ar (ins := .iconst (-1)) (len := 1) (by decide +kernel) rfl
theorem xs_158_41 : xe_P d 158 41 ls [.int x] h Q = Q (some (.int x)) h := xe_P_ireturn (by decide +kernel) rfl
theorem xs_158_42 : xe_P d 158 42 [.ref a, l1, l2, l3, l4] st h Q = xe_P d 158 43 [.ref a, l1, l2, l3, l4] (.ref a :: st) h Q := xe_P_lo (ins := .aload_n 0) (len := 1) (by decide +kernel) rfl rfl
theorem xs_158_43 : xe_P d 158 43 [l0, .int x, l2, l3, l4] st h Q = xe_P d 158 44 [l0, .int x, l2, l3, l4] (.int x :: st) h Q := xe_P_lo (ins := .iload_n 1) (len := 1) (by decide +kernel) rfl rfl
theorem xs_158_44 : xe_P d 158 44 ls (v0 :: .ref a :: st) h Q = ((xe_w st ≤ 8 ∧ xe_ob h a 7) ∧ xe_C d 140 [.ref a, v0] h (fun r h' => xe_P d 158 47 ls (r.toList ++ st) h' Q)) := xe_P_ivv (y := 158) (pc := 44) (z := 140) (i := 212) (vs := [v0]) (by decide +kernel) (by decide +kernel) rfl (by decide +kernel)
theorem xs_158_47 : xe_P d 158 47 [l0, l1, l2, l3, l4] (.int x :: st) h Q = xe_P d 158 49 [l0, l1, l2, xe_cut l3, .int x] st h Q := xe_P_lo (ins := .istore 4) (len := 2) (by decide +kernel) rfl rfl
theorem xs_158_49 : xe_P d 158 49 [.ref a, l1, l2, l3, l4] st h Q = xe_P d 158 50 [.ref a, l1, l2, l3, l4] (.ref a :: st) h Q := xe_P_lo (ins := .aload_n 0) (len := 1) (by decide +kernel) rfl rfl
theorem xs_158_50 : xe_P d 158 50 ls (.ref a :: st) h Q = (xe_ob h a 7 ∧ xe_P d 158 53 ls (va_rf (xe_R h a 0) :: st) h Q) := xe_P_getR (i := 7) (by decide +kernel) (by decide +kernel) (by decide) rfl
theorem xs_158_53 : xe_P d 158 53 ls st h Q = xe_P d 158 55 ls (.int 25 :: st) h Q := xe_P_ar (ins := .bipush 25) (len := 2) (by decide +kernel) rfl
theorem xs_158_55 : xe_P d 158 55 ls st h Q = xe_P d 158 56 ls (.int 2 :: st) h Q := xe_P_ar (ins := .iconst 2) (len := 1) (by decide +kernel) rfl
theorem xs_158_56 : xe_P d 158 56 [l0, .int x, l2, l3, l4] st h Q = xe_P d 158 57 [l0, .int x, l2, l3, l4] (.int x :: st) h Q := xe_P_lo (ins := .iload_n 1) (len := 1) (by decide +kernel) rfl rfl
theorem xs_158_57 : xe_P d 158 57 ls (.int v :: .int x :: st) h Q = xe_P d 158 58 ls (.int (x * v) :: st) h Q := xe_P_ar (ins := .imul) (len := 1) (by decide +kernel) rfl
theorem xs_158_58 : xe_P d 158 58 ls (.int v :: .int x :: st) h Q = xe_P d 158 59 ls (.int (x + v) :: st) h Q := xe_P_ar (ins := .iadd) (len := 1) (by decide +kernel) rfl
theorem xs_158_59 : xe_P d 158 59 [l0, l1, .int x, l3, l4] st h Q = xe_P d 158 60 [l0, l1, .int x, l3, l4] (.int x :: st) h Q := xe_P_lo (ins := .iload_n 2) (len := 1) (by decide +kernel) rfl rfl
theorem xs_158_60 : xe_P d 158 60 ls (.int x :: .int v :: .ref a :: st) h Q = ((xe_ob h a 8 ∧ xe_ix h a v) ∧ xe_P d 158 61 ls st (xe_sI h a v.toNatClampNeg x) Q) := xe_P_iast (by decide +kernel)
theorem xs_158_61 : xe_P d 158 61 [.ref a, l1, l2, l3, l4] st h Q = xe_P d 158 62 [.ref a, l1, l2, l3, l4] (.ref a :: st) h Q := xe_P_lo (ins := .aload_n 0) (len := 1) (by decide +kernel) rfl rfl
theorem xs_158_62 : xe_P d 158 62 ls (.ref a :: st) h Q = (xe_ob h a 7 ∧ xe_P d 158 65 ls (va_rf (xe_R h a 0) :: st) h Q) := xe_P_getR (i := 7) (by decide +kernel) (by decide +kernel) (by decide) rfl
theorem xs_158_65 : xe_P d 158 65 ls st h Q = xe_P d 158 67 ls (.int 25 :: st) h Q := xe_P_ar (ins := .bipush 25) (len := 2) (by decide +kernel) rfl
theorem xs_158_67 : xe_P d 158 67 ls st h Q = xe_P d 158 68 ls (.int 2 :: st) h Q := xe_P_ar (ins := .iconst 2) (len := 1) (by decide +kernel) rfl
theorem xs_158_68 : xe_P d 158 68 [l0, .int x, l2, l3, l4] st h Q = xe_P d 158 69 [l0, .int x, l2, l3, l4] (.int x :: st) h Q := xe_P_lo (ins := .iload_n 1) (len := 1) (by decide +kernel) rfl rfl
theorem xs_158_69 : xe_P d 158 69 ls (.int v :: .int x :: st) h Q = xe_P d 158 70 ls (.int (x * v) :: st) h Q := xe_P_ar (ins := .imul) (len := 1) (by decide +kernel) rfl
theorem xs_158_70 : xe_P d 158 70 ls (.int v :: .int x :: st) h Q = xe_P d 158 71 ls (.int (x + v) :: st) h Q := xe_P_ar (ins := .iadd) (len := 1) (by decide +kernel) rfl
theorem xs_158_71 : xe_P d 158 71 ls st h Q = xe_P d 158 72 ls (.int 1 :: st) h Q := xe_P_ar (ins := .iconst 1) (len := 1) (by decide +kernel) rfl
theorem xs_158_72 : xe_P d 158 72 ls (.int v :: .int x :: st) h Q = xe_P d 158 73 ls (.int (x + v) :: st) h Q := xe_P_ar (ins := .iadd) (len := 1) (by decide +kernel) rfl
theorem xs_158_73 : xe_P d 158 73 [l0, l1, l2, .int x, l4] st h Q = xe_P d 158 74 [l0, l1, l2, .int x, l4] (.int x :: st) h Q := xe_P_lo (ins := .iload_n 3) (len := 1) (by decide +kernel) rfl rfl
theorem xs_158_74 : xe_P d 158 74 ls (.int x :: .int v :: .ref a :: st) h Q = ((xe_ob h a 8 ∧ xe_ix h a v) ∧ xe_P d 158 75 ls st (xe_sI h a v.toNatClampNeg x) Q) := xe_P_iast (by decide +kernel)
theorem xs_158_75 : xe_P d 158 75 [l0, l1, l2, l3, .int x] st h Q = xe_P d 158 77 [l0, l1, l2, l3, .int x] (.int x :: st) h Q := xe_P_lo (ins := .iload 4) (len := 2) (by decide +kernel) rfl rfl
theorem xs_158_77 : xe_P d 158 77 ls [.int x] h Q = Q (some (.int x)) h := xe_P_ireturn (by decide +kernel) rfl
theorem xs_158 : xe_C (d + 1) 158 [.ref a, .int x0, .int x1, .int x2] h Q = xe_P d 158 0 [.ref a, .int x0, .int x1, .int x2, .retAddr 0] [] h Q := xe_C_at (Nat.le_of_ble_eq_true rfl) rfl
theorem xs_159_0 : xe_P d 159 0 [l0, .int x, l2, l3, l4, l5] st h Q = xe_P d 159 1 [l0, .int x, l2, l3, l4, l5] (.int x :: st) h Q := xe_P_lo (ins := .iload_n 1) (len := 1) (by decide +kernel) rfl rfl
theorem xs_159_1 : xe_P d 159 1 ls (.int x :: st) h Q = xe_P d 159 2 ls (.long x.toInt64 :: st) h Q := xe_P_ar (ins := .i2l) (len := 1) (by decide +kernel) rfl
theorem xs_159_2 : xe_P d 159 2 ls st h Q = xe_P d 159 3 ls (.long 0 :: st) h Q := xe_P_ar (ins := .lconst 0) (len := 1) (by decide +kernel) rfl
theorem xs_159_3 : xe_P d 159 3 ls st h Q = xe_P d 159 6 ls (.long 511 :: st) h Q := xe_P_ldc2 (j := 218) (by decide +kernel) (by decide +kernel)
theorem xs_159_6 : xe_P d 159 6 ls (v2 :: v1 :: v0 :: st) h Q = (xe_w st ≤ 8 ∧ xe_C d 120 [v0, v1, v2] h (fun r h' => xe_P d 159 9 ls (r.toList ++ st) h' Q)) := xe_P_ivs (y := 159) (pc := 6) (z := 120) (i := 88) (vs := [v2, v1, v0]) (by decide +kernel) (by decide +kernel) rfl
theorem xs_159_9 : xe_P d 159 9 [l0, l1, l2, l3, l4, l5] (.int x :: st) h Q = xe_P d 159 10 [l0, xe_cut l1, .int x, l3, l4, l5] st h Q := xe_P_lo (ins := .istore_n 2) (len := 1) (by decide +kernel) rfl rfl
theorem xs_159_10 : xe_P d 159 10 ls st h Q = xe_P d 159 11 ls (.int 0 :: st) h Q := xe_P_ar (ins := .iconst 0) (len := 1) (by decide +kernel) rfl
theorem xs_159_11 : xe_P d 159 11 [l0, l1, l2, l3, l4, l5] (.int x :: st) h Q = xe_P d 159 12 [l0, l1, xe_cut l2, .int x, l4, l5] st h Q := xe_P_lo (ins := .istore_n 3) (len := 1) (by decide +kernel) rfl rfl
theorem xs_159_12 : xe_P d 159 12 [l0, l1, l2, .int x, l4, l5] st h Q = xe_P d 159 13 [l0, l1, l2, .int x, l4, l5] (.int x :: st) h Q := xe_P_lo (ins := .iload_n 3) (len := 1) (by decide +kernel) rfl rfl
theorem xs_159_13 : xe_P d 159 13 ls st h Q = xe_P d 159 14 ls (.int 3 :: st) h Q := xe_P_ar (ins := .iconst 3) (len := 1) (by decide +kernel) rfl
theorem xs_159_14 : xe_P d 159 14 ls (.int v :: .int x :: st) h Q = (if v ≤ x then xe_P d 159 63 ls st h Q else xe_P d 159 17 ls st h Q) := xe_P_if (ins := .if_icmp .ge 49) (len := 3) (off := 49) (by decide +kernel) (by decide) rfl rfl rfl
theorem xs_159_17 : xe_P d 159 17 [l0, l1, .int x, l3, l4, l5] st h Q = xe_P d 159 18 [l0, l1, .int x, l3, l4, l5] (.int x :: st) h Q := xe_P_lo (ins := .iload_n 2) (len := 1) (by decide +kernel) rfl rfl
theorem xs_159_18 : xe_P d 159 18 ls (.int x :: st) h Q = (if x = 0 then xe_P d 159 55 ls st h Q else xe_P d 159 21 ls st h Q) := xe_P_if (ins := .ifCond .eq 37) (len := 3) (off := 37) (by decide +kernel) (by decide) rfl rfl rfl
theorem xs_159_21 : xe_P d 159 21 [l0, .int x, l2, l3, l4, l5] st h Q = xe_P d 159 22 [l0, .int x, l2, l3, l4, l5] (.int x :: st) h Q := xe_P_lo (ins := .iload_n 1) (len := 1) (by decide +kernel) rfl rfl
theorem xs_159_22 : xe_P d 159 22 ls st h Q = xe_P d 159 23 ls (.int 3 :: st) h Q := xe_P_ar (ins := .iconst 3) (len := 1) (by decide +kernel) rfl
theorem xs_159_23 : xe_P d 159 23 [l0, l1, l2, .int x, l4, l5] st h Q = xe_P d 159 24 [l0, l1, l2, .int x, l4, l5] (.int x :: st) h Q := xe_P_lo (ins := .iload_n 3) (len := 1) (by decide +kernel) rfl rfl
theorem xs_159_24 : xe_P d 159 24 ls (.int v :: .int x :: st) h Q = xe_P d 159 25 ls (.int (x * v) :: st) h Q := xe_P_ar (ins := .imul) (len := 1) (by decide +kernel) rfl
theorem xs_159_25 : xe_P d 159 25 ls (.int v :: .int x :: st) h Q = xe_P d 159 26 ls (.int (x >>> (v &&& 31)) :: st) h Q := xe_P_ar (ins := .ishr) (len := 1) (by decide +kernel) rfl
theorem xs_159_26 : xe_P d 159 26 ls st h Q = xe_P d 159 28 ls (.int 7 :: st) h Q := xe_P_ar (ins := .bipush 7) (len := 2) (by decide +kernel) rfl
theorem xs_159_28 : xe_P d 159 28 ls (.int v :: .int x :: st) h Q = xe_P d 159 29 ls (.int (x &&& v) :: st) h Q := xe_P_ar (ins := .iand) (len := 1) (by decide +kernel) rfl
theorem xs_159_29 : xe_P d 159 29 [l0, l1, l2, .int x, l4, l5] st h Q = xe_P d 159 30 [l0, l1, l2, .int x, l4, l5] (.int x :: st) h Q := xe_P_lo (ins := .iload_n 3) (len := 1) (by decide +kernel) rfl rfl
theorem xs_159_30 : xe_P d 159 30 [.ref a, l1, l2, l3, l4, l5] st h Q = xe_P d 159 31 [.ref a, l1, l2, l3, l4, l5] (.ref a :: st) h Q := xe_P_lo (ins := .aload_n 0) (len := 1) (by decide +kernel) rfl rfl
theorem xs_159_31 : xe_P d 159 31 ls (.ref a :: st) h Q = (xe_ob h a 7 ∧ xe_P d 159 34 ls (va_rf (xe_R h a 0) :: st) h Q) := xe_P_getR (i := 7) (by decide +kernel) (by decide +kernel) (by decide) rfl
theorem xs_159_34 : xe_P d 159 34 ls st h Q = xe_P d 159 36 ls (.int 31 :: st) h Q := xe_P_ar (ins := .bipush 31) (len := 2) (by decide +kernel) rfl
theorem xs_159_36 : xe_P d 159 36 ls (.int v :: .ref a :: st) h Q = ((xe_ia h a ∧ xe_ix h a v) ∧ xe_P d 159 37 ls (.int (xe_I h a v.toNatClampNeg) :: st) h Q) := xe_P_iald (by decide +kernel)
theorem xs_159_37 : xe_P d 159 37 ls (.int v :: .int x :: st) h Q = (if v ≤ x then xe_P d 159 47 ls st h Q else xe_P d 159 40 ls st h Q) := xe_P_if (ins := .if_icmp .ge 10) (len := 3) (off := 10) (by decide +kernel) (by decide) rfl rfl rfl
theorem xs_159_40 : xe_P d 159 40 [.ref a, l1, l2, l3, l4, l5] st h Q = xe_P d 159 41 [.ref a, l1, l2, l3, l4, l5] (.ref a :: st) h Q := xe_P_lo (ins := .aload_n 0) (len := 1) (by decide +kernel) rfl rfl
theorem xs_159_41 : xe_P d 159 41 ls (.ref a :: st) h Q = ((xe_w st ≤ 8 ∧ xe_ob h a 7) ∧ xe_C d 136 [.ref a] h (fun r h' => xe_P d 159 44 ls (r.toList ++ st) h' Q)) := xe_P_ivv (y := 159) (pc := 41) (z := 136) (i := 181) (vs := []) (by decide +kernel) (by decide +kernel) rfl (by decide +kernel)
theorem xs_159_44 : xe_P d 159 44 ls st h Q = xe_P d 159 48 ls st h Q := xe_P_go (len := 3) (off := 4) (by decide +kernel) (by decide)
theorem xs_159_47 : xe_P d 159 47 ls st h Q = xe_P d 159 48 ls (.int 0 :: st) h Q := xe_P_ar (ins := .iconst 0) (len := 1) (by decide +kernel) rfl
theorem xs_159_48 : xe_P d 159 48 ls (.int v :: .int x :: st) h Q = (if v < x then xe_P d 159 55 ls st h Q else xe_P d 159 51 ls st h Q) := xe_P_if (ins := .if_icmp .gt 7) (len := 3) (off := 7) (by decide +kernel) (by decide) rfl rfl rfl
theorem xs_159_51 : xe_P d 159 51 ls st h Q = xe_P d 159 52 ls (.int 1 :: st) h Q := xe_P_ar (ins := .iconst 1) (len := 1) (by decide +kernel) rfl
theorem xs_159_52 : xe_P d 159 52 ls st h Q = xe_P d 159 56 ls st h Q := xe_P_go (len := 3) (off := 4) (by decide +kernel) (by decide)
theorem xs_159_55 : xe_P d 159 55 ls st h Q = xe_P d 159 56 ls (.int 0 :: st) h Q := xe_P_ar (ins := .iconst 0) (len := 1) (by decide +kernel) rfl
theorem xs_159_56 : xe_P d 159 56 [l0, l1, l2, l3, l4, l5] (.int x :: st) h Q = xe_P d 159 57 [l0, xe_cut l1, .int x, l3, l4, l5] st h Q := xe_P_lo (ins := .istore_n 2) (len := 1) (by decide +kernel) rfl rfl
theorem xs_159_57 : xe_P d 159 57 [l0, l1, l2, .int x, l4, l5] st h Q = xe_P d 159 60 [l0, l1, xe_cut l2, .int (x + 1), l4, l5] st h Q := xe_P_lo (ins := .iinc 3 1) (len := 3) (by decide +kernel) rfl rfl
theorem xs_159_60 : xe_P d 159 60 ls st h Q = xe_P d 159 12 ls st h Q := xe_P_go (len := 3) (off := (-48)) (by decide +kernel) (by decide)
theorem xs_159_63 : xe_P d 159 63 [l0, l1, .int x, l3, l4, l5] st h Q = xe_P d 159 64 [l0, l1, .int x, l3, l4, l5] (.int x :: st) h Q := xe_P_lo (ins := .iload_n 2) (len := 1) (by decide +kernel) rfl rfl
theorem xs_159_64 : xe_P d 159 64 ls (.int x :: st) h Q = (if x = 0 then xe_P d 159 67 ls st h Q else xe_P d 159 69 ls st h Q) := xe_P_ifn (ins := .ifCond .ne 5) (len := 3) (off := 5) (by decide +kernel) (by decide) rfl rfl rfl
theorem xs_159_67 : xe_P d 159 67 ls st h Q = xe_P d 159 68 ls (.int (-1) :: st) h Q := xe_P_ar (ins := .iconst (-1)) (len := 1) (by decide +kernel) rfl
theorem xs_159_68 : xe_P d 159 68 ls [.int x] h Q = Q (some (.int x)) h := xe_P_ireturn (by decide +kernel) rfl
theorem xs_159_69 : xe_P d 159 69 [.ref a, l1, l2, l3, l4, l5] st h Q = xe_P d 159 70 [.ref a, l1, l2, l3, l4, l5] (.ref a :: st) h Q := xe_P_lo (ins := .aload_n 0) (len := 1) (by decide +kernel) rfl rfl
theorem xs_159_70 : xe_P d 159 70 ls (.ref a :: st) h Q = (xe_ob h a 7 ∧ xe_P d 159 73 ls (va_rf (xe_R h a 0) :: st) h Q) := xe_P_getR (i := 7) (by decide +kernel) (by decide +kernel) (by decide) rfl
theorem xs_159_73 : xe_P d 159 73 ls st h Q = xe_P d 159 75 ls (.int 34 :: st) h Q := xe_P_ar (ins := .bipush 34) (len := 2) (by decide +kernel) rfl
theorem xs_159_75 : xe_P d 159 75 ls (.int v :: .ref a :: st) h Q = ((xe_ia h a ∧ xe_ix h a v) ∧ xe_P d 159 76 ls (.int (xe_I h a v.toNatClampNeg) :: st) h Q) := xe_P_iald (by decide +kernel)
theorem xs_159_76 : xe_P d 159 76 ls st h Q = xe_P d 159 79 ls (.int 999 :: st) h Q := xe_P_ar (ins := .sipush 999) (len := 3) (by decide +kernel) rfl
theorem xs_159_79 : xe_P d 159 79 ls (.int v :: .int x :: st) h Q = (if x = v then xe_P d 159 82 ls st h Q else xe_P d 159 85 ls st h Q) := xe_P_ifn (ins := .if_icmp .ne 6) (len := 3) (off := 6) (by decide +kernel) (by decide) rfl rfl rfl
theorem xs_159_82 : xe_P d 159 82 ls st h Q = xe_P d 159 84 ls (.int (-3) :: st) h Q := xe_P_ar (ins := .bipush (-3)) (len := 2) (by decide +kernel) rfl
theorem xs_159_84 : xe_P d 159 84 ls [.int x] h Q = Q (some (.int x)) h := xe_P_ireturn (by decide +kernel) rfl
theorem xs_159_85 : xe_P d 159 85 [.ref a, l1, l2, l3, l4, l5] st h Q = xe_P d 159 86 [.ref a, l1, l2, l3, l4, l5] (.ref a :: st) h Q := xe_P_lo (ins := .aload_n 0) (len := 1) (by decide +kernel) rfl rfl
theorem xs_159_86 : xe_P d 159 86 ls (.ref a :: st) h Q = ((xe_w st ≤ 8 ∧ xe_ob h a 7) ∧ xe_C d 145 [.ref a] h (fun r h' => xe_P d 159 89 ls (r.toList ++ st) h' Q)) := xe_P_ivv (y := 159) (pc := 86) (z := 145) (i := 209) (vs := []) (by decide +kernel) (by decide +kernel) rfl (by decide +kernel)
theorem xs_159_89 : xe_P d 159 89 ls st h Q = xe_P d 159 90 ls (.int 0 :: st) h Q := xe_P_ar (ins := .iconst 0) (len := 1) (by decide +kernel) rfl
theorem xs_159_90 : xe_P d 159 90 [l0, l1, l2, l3, l4, l5] (.int x :: st) h Q = xe_P d 159 91 [l0, l1, xe_cut l2, .int x, l4, l5] st h Q := xe_P_lo (ins := .istore_n 3) (len := 1) (by decide +kernel) rfl rfl
theorem xs_159_91 : xe_P d 159 91 ls st h Q = xe_P d 159 92 ls (.int 0 :: st) h Q := xe_P_ar (ins := .iconst 0) (len := 1) (by decide +kernel) rfl
theorem xs_159_92 : xe_P d 159 92 [l0, l1, l2, l3, l4, l5] (.int x :: st) h Q = xe_P d 159 94 [l0, l1, l2, xe_cut l3, .int x, l5] st h Q := xe_P_lo (ins := .istore 4) (len := 2) (by decide +kernel) rfl rfl
theorem xs_159_94 : xe_P d 159 94 [l0, l1, l2, l3, .int x, l5] st h Q = xe_P d 159 96 [l0, l1, l2, l3, .int x, l5] (.int x :: st) h Q := xe_P_lo (ins := .iload 4) (len := 2) (by decide +kernel) rfl rfl
theorem xs_159_96 : xe_P d 159 96 [.ref a, l1, l2, l3, l4, l5] st h Q = xe_P d 159 97 [.ref a, l1, l2, l3, l4, l5] (.ref a :: st) h Q := xe_P_lo (ins := .aload_n 0) (len := 1) (by decide +kernel) rfl rfl
theorem xs_159_97 : xe_P d 159 97 ls (.ref a :: st) h Q = (xe_ob h a 7 ∧ xe_P d 159 100 ls (va_rf (xe_R h a 0) :: st) h Q) := xe_P_getR (i := 7) (by decide +kernel) (by decide +kernel) (by decide) rfl
theorem xs_159_100 : xe_P d 159 100 ls st h Q = xe_P d 159 102 ls (.int 31 :: st) h Q := xe_P_ar (ins := .bipush 31) (len := 2) (by decide +kernel) rfl
theorem xs_159_102 : xe_P d 159 102 ls (.int v :: .ref a :: st) h Q = ((xe_ia h a ∧ xe_ix h a v) ∧ xe_P d 159 103 ls (.int (xe_I h a v.toNatClampNeg) :: st) h Q) := xe_P_iald (by decide +kernel)
theorem xs_159_103 : xe_P d 159 103 ls (.int v :: .int x :: st) h Q = (if v ≤ x then xe_P d 159 181 ls st h Q else xe_P d 159 106 ls st h Q) := xe_P_if (ins := .if_icmp .ge 78) (len := 3) (off := 78) (by decide +kernel) (by decide) rfl rfl rfl
theorem xs_159_106 : xe_P d 159 106 [.ref a, l1, l2, l3, l4, l5] st h Q = xe_P d 159 107 [.ref a, l1, l2, l3, l4, l5] (.ref a :: st) h Q := xe_P_lo (ins := .aload_n 0) (len := 1) (by decide +kernel) rfl rfl
theorem xs_159_107 : xe_P d 159 107 [l0, .int x, l2, l3, l4, l5] st h Q = xe_P d 159 108 [l0, .int x, l2, l3, l4, l5] (.int x :: st) h Q := xe_P_lo (ins := .iload_n 1) (len := 1) (by decide +kernel) rfl rfl
theorem xs_159_108 : xe_P d 159 108 ls st h Q = xe_P d 159 109 ls (.int 3 :: st) h Q := xe_P_ar (ins := .iconst 3) (len := 1) (by decide +kernel) rfl
theorem xs_159_109 : xe_P d 159 109 [l0, l1, l2, l3, .int x, l5] st h Q = xe_P d 159 111 [l0, l1, l2, l3, .int x, l5] (.int x :: st) h Q := xe_P_lo (ins := .iload 4) (len := 2) (by decide +kernel) rfl rfl
theorem xs_159_111 : xe_P d 159 111 ls (.int v :: .int x :: st) h Q = xe_P d 159 112 ls (.int (x * v) :: st) h Q := xe_P_ar (ins := .imul) (len := 1) (by decide +kernel) rfl
theorem xs_159_112 : xe_P d 159 112 ls (.int v :: .int x :: st) h Q = xe_P d 159 113 ls (.int (x >>> (v &&& 31)) :: st) h Q := xe_P_ar (ins := .ishr) (len := 1) (by decide +kernel) rfl
theorem xs_159_113 : xe_P d 159 113 ls st h Q = xe_P d 159 115 ls (.int 7 :: st) h Q := xe_P_ar (ins := .bipush 7) (len := 2) (by decide +kernel) rfl
theorem xs_159_115 : xe_P d 159 115 ls (.int v :: .int x :: st) h Q = xe_P d 159 116 ls (.int (x &&& v) :: st) h Q := xe_P_ar (ins := .iand) (len := 1) (by decide +kernel) rfl
theorem xs_159_116 : xe_P d 159 116 [.ref a, l1, l2, l3, l4, l5] st h Q = xe_P d 159 117 [.ref a, l1, l2, l3, l4, l5] (.ref a :: st) h Q := xe_P_lo (ins := .aload_n 0) (len := 1) (by decide +kernel) rfl rfl
theorem xs_159_117 : xe_P d 159 117 [l0, l1, l2, l3, .int x, l5] st h Q = xe_P d 159 119 [l0, l1, l2, l3, .int x, l5] (.int x :: st) h Q := xe_P_lo (ins := .iload 4) (len := 2) (by decide +kernel) rfl rfl
theorem xs_159_119 : xe_P d 159 119 ls (v0 :: .ref a :: st) h Q = ((xe_w st ≤ 8 ∧ xe_ob h a 7) ∧ xe_C d 140 [.ref a, v0] h (fun r h' => xe_P d 159 122 ls (r.toList ++ st) h' Q)) := xe_P_ivv (y := 159) (pc := 119) (z := 140) (i := 212) (vs := [v0]) (by decide +kernel) (by decide +kernel) rfl (by decide +kernel)
theorem xs_159_122 : xe_P d 159 122 ls (v1 :: v0 :: .ref a :: st) h Q = ((xe_w st ≤ 8 ∧ xe_ob h a 7) ∧ xe_C d 152 [.ref a, v0, v1] h (fun r h' => xe_P d 159 125 ls (r.toList ++ st) h' Q)) := xe_P_ivv (y := 159) (pc := 122) (z := 152) (i := 220) (vs := [v1, v0]) (by decide +kernel) (by decide +kernel) rfl (by decide +kernel)
theorem xs_159_125 : xe_P d 159 125 [l0, l1, l2, l3, l4, l5] (.int x :: st) h Q = xe_P d 159 127 [l0, l1, l2, l3, xe_cut l4, .int x] st h Q := xe_P_lo (ins := .istore 5) (len := 2) (by decide +kernel) rfl rfl
theorem xs_159_127 : xe_P d 159 127 [l0, l1, l2, .int x, l4, l5] st h Q = xe_P d 159 128 [l0, l1, l2, .int x, l4, l5] (.int x :: st) h Q := xe_P_lo (ins := .iload_n 3) (len := 1) (by decide +kernel) rfl rfl
theorem xs_159_128 : xe_P d 159 128 [l0, l1, l2, l3, l4, .int x] st h Q = xe_P d 159 130 [l0, l1, l2, l3, l4, .int x] (.int x :: st) h Q := xe_P_lo (ins := .iload 5) (len := 2) (by decide +kernel) rfl rfl
theorem xs_159_130 : xe_P d 159 130 ls st h Q = xe_P d 159 132 ls (.int (-4) :: st) h Q := xe_P_ar (ins := .bipush (-4)) (len := 2) (by decide +kernel) rfl
theorem xs_159_132 : xe_P d 159 132 ls (.int v :: .int x :: st) h Q = (if x = v then xe_P d 159 135 ls st h Q else xe_P d 159 142 ls st h Q) := xe_P_ifn (ins := .if_icmp .ne 10) (len := 3) (off := 10) (by decide +kernel) (by decide) rfl rfl rfl
theorem xs_159_135 : xe_P d 159 135 ls st h Q = xe_P d 159 136 ls (.int 1 :: st) h Q := xe_P_ar (ins := .iconst 1) (len := 1) (by decide +kernel) rfl
theorem xs_159_136 : xe_P d 159 136 [l0, l1, l2, l3, .int x, l5] st h Q = xe_P d 159 138 [l0, l1, l2, l3, .int x, l5] (.int x :: st) h Q := xe_P_lo (ins := .iload 4) (len := 2) (by decide +kernel) rfl rfl
theorem xs_159_138 : xe_P d 159 138 ls (.int v :: .int x :: st) h Q = xe_P d 159 139 ls (.int (x <<< (v &&& 31)) :: st) h Q := xe_P_ar (ins := .ishl) (len := 1) (by decide +kernel) rfl
theorem xs_159_139 : xe_P d 159 139 ls st h Q = xe_P d 159 143 ls st h Q := xe_P_go (len := 3) (off := 4) (by decide +kernel) (by decide)
theorem xs_159_142 : xe_P d 159 142 ls st h Q = xe_P d 159 143 ls (.int 0 :: st) h Q := xe_P_ar (ins := .iconst 0) (len := 1) (by decide +kernel) rfl
theorem xs_159_143 : xe_P d 159 143 ls (.int v :: .int x :: st) h Q = xe_P d 159 144 ls (.int (x ||| v) :: st) h Q := xe_P_ar (ins := .ior) (len := 1) (by decide +kernel) rfl
theorem xs_159_144 : xe_P d 159 144 [l0, l1, l2, l3, l4, l5] (.int x :: st) h Q = xe_P d 159 145 [l0, l1, xe_cut l2, .int x, l4, l5] st h Q := xe_P_lo (ins := .istore_n 3) (len := 1) (by decide +kernel) rfl rfl
theorem xs_159_145 : xe_P d 159 145 [.ref a, l1, l2, l3, l4, l5] st h Q = xe_P d 159 146 [.ref a, l1, l2, l3, l4, l5] (.ref a :: st) h Q := xe_P_lo (ins := .aload_n 0) (len := 1) (by decide +kernel) rfl rfl
theorem xs_159_146 : xe_P d 159 146 ls (.ref a :: st) h Q = (xe_ob h a 7 ∧ xe_P d 159 149 ls (va_rf (xe_R h a 0) :: st) h Q) := xe_P_getR (i := 7) (by decide +kernel) (by decide +kernel) (by decide) rfl
theorem xs_159_149 : xe_P d 159 149 ls st h Q = xe_P d 159 151 ls (.int 25 :: st) h Q := xe_P_ar (ins := .bipush 25) (len := 2) (by decide +kernel) rfl
theorem xs_159_151 : xe_P d 159 151 ls st h Q = xe_P d 159 152 ls (.int 2 :: st) h Q := xe_P_ar (ins := .iconst 2) (len := 1) (by decide +kernel) rfl
theorem xs_159_152 : xe_P d 159 152 [l0, l1, l2, l3, .int x, l5] st h Q = xe_P d 159 154 [l0, l1, l2, l3, .int x, l5] (.int x :: st) h Q := xe_P_lo (ins := .iload 4) (len := 2) (by decide +kernel) rfl rfl
theorem xs_159_154 : xe_P d 159 154 ls (.int v :: .int x :: st) h Q = xe_P d 159 155 ls (.int (x * v) :: st) h Q := xe_P_ar (ins := .imul) (len := 1) (by decide +kernel) rfl
theorem xs_159_155 : xe_P d 159 155 ls (.int v :: .int x :: st) h Q = xe_P d 159 156 ls (.int (x + v) :: st) h Q := xe_P_ar (ins := .iadd) (len := 1) (by decide +kernel) rfl
theorem xs_159_156 : xe_P d 159 156 [l0, l1, l2, l3, l4, .int x] st h Q = xe_P d 159 158 [l0, l1, l2, l3, l4, .int x] (.int x :: st) h Q := xe_P_lo (ins := .iload 5) (len := 2) (by decide +kernel) rfl rfl
theorem xs_159_158 : xe_P d 159 158 ls st h Q = xe_P d 159 160 ls (.int (-4) :: st) h Q := xe_P_ar (ins := .bipush (-4)) (len := 2) (by decide +kernel) rfl
theorem xs_159_160 : xe_P d 159 160 ls (.int v :: .int x :: st) h Q = (if x = v then xe_P d 159 163 ls st h Q else xe_P d 159 172 ls st h Q) := xe_P_ifn (ins := .if_icmp .ne 12) (len := 3) (off := 12) (by decide +kernel) (by decide) rfl rfl rfl
theorem xs_159_163 : xe_P d 159 163 [.ref a, l1, l2, l3, l4, l5] st h Q = xe_P d 159 164 [.ref a, l1, l2, l3, l4, l5] (.ref a :: st) h Q := xe_P_lo (ins := .aload_n 0) (len := 1) (by decide +kernel) rfl rfl
theorem xs_159_164 : xe_P d 159 164 [l0, l1, l2, l3, .int x, l5] st h Q = xe_P d 159 166 [l0, l1, l2, l3, .int x, l5] (.int x :: st) h Q := xe_P_lo (ins := .iload 4) (len := 2) (by decide +kernel) rfl rfl
theorem xs_159_166 : xe_P d 159 166 ls (v0 :: .ref a :: st) h Q = ((xe_w st ≤ 8 ∧ xe_ob h a 7) ∧ xe_C d 140 [.ref a, v0] h (fun r h' => xe_P d 159 169 ls (r.toList ++ st) h' Q)) := xe_P_ivv (y := 159) (pc := 166) (z := 140) (i := 212) (vs := [v0]) (by decide +kernel) (by decide +kernel) rfl (by decide +kernel)
theorem xs_159_169 : xe_P d 159 169 ls st h Q = xe_P d 159 174 ls st h Q := xe_P_go (len := 3) (off := 5) (by decide +kernel) (by decide)
theorem xs_159_172 : xe_P d 159 172 [l0, l1, l2, l3, l4, .int x] st h Q = xe_P d 159 174 [l0, l1, l2, l3, l4, .int x] (.int x :: st) h Q := xe_P_lo (ins := .iload 5) (len := 2) (by decide +kernel) rfl rfl
theorem xs_159_174 : xe_P d 159 174 ls (.int x :: .int v :: .ref a :: st) h Q = ((xe_ob h a 8 ∧ xe_ix h a v) ∧ xe_P d 159 175 ls st (xe_sI h a v.toNatClampNeg x) Q) := xe_P_iast (by decide +kernel)
theorem xs_159_175 : xe_P d 159 175 [l0, l1, l2, l3, .int x, l5] st h Q = xe_P d 159 178 [l0, l1, l2, xe_cut l3, .int (x + 1), l5] st h Q := xe_P_lo (ins := .iinc 4 1) (len := 3) (by decide +kernel) rfl rfl
theorem xs_159_178 : xe_P d 159 178 ls st h Q = xe_P d 159 94 ls st h Q := xe_P_go (len := 3) (off := (-84)) (by decide +kernel) (by decide)
theorem xs_159_181 : xe_P d 159 181 [.ref a, l1, l2, l3, l4, l5] st h Q = xe_P d 159 182 [.ref a, l1, l2, l3, l4, l5] (.ref a :: st) h Q := xe_P_lo (ins := .aload_n 0) (len := 1) (by decide +kernel) rfl rfl
theorem xs_159_182 : xe_P d 159 182 ls (.ref a :: st) h Q = ((xe_w st ≤ 8 ∧ xe_ob h a 7) ∧ xe_C d 151 [.ref a] h (fun r h' => xe_P d 159 185 ls (r.toList ++ st) h' Q)) := xe_P_ivv (y := 159) (pc := 182) (z := 151) (i := 223) (vs := []) (by decide +kernel) (by decide +kernel) rfl (by decide +kernel)
theorem xs_159_185 : xe_P d 159 185 ls st h Q = xe_P d 159 186 ls (.int 0 :: st) h Q := xe_P_ar (ins := .iconst 0) (len := 1) (by decide +kernel) rfl
theorem xs_159_186 : xe_P d 159 186 [l0, l1, l2, l3, l4, l5] (.int x :: st) h Q = xe_P d 159 188 [l0, l1, l2, xe_cut l3, .int x, l5] st h Q := xe_P_lo (ins := .istore 4) (len := 2) (by decide +kernel) rfl rfl
theorem xs_159_188 : xe_P d 159 188 [l0, l1, l2, l3, .int x, l5] st h Q = xe_P d 159 190 [l0, l1, l2, l3, .int x, l5] (.int x :: st) h Q := xe_P_lo (ins := .iload 4) (len := 2) (by decide +kernel) rfl rfl
theorem xs_159_190 : xe_P d 159 190 ls st h Q = xe_P d 159 192 ls (.int 6 :: st) h Q := xe_P_ar (ins := .bipush 6) (len := 2) (by decide +kernel) rfl
theorem xs_159_192 : xe_P d 159 192 ls (.int v :: .int x :: st) h Q = (if v ≤ x then xe_P d 159 219 ls st h Q else xe_P d 159 195 ls st h Q) := xe_P_if (ins := .if_icmp .ge 27) (len := 3) (off := 27) (by decide +kernel) (by decide) rfl rfl rfl
theorem xs_159_195 : xe_P d 159 195 [.ref a, l1, l2, l3, l4, l5] st h Q = xe_P d 159 196 [.ref a, l1, l2, l3, l4, l5] (.ref a :: st) h Q := xe_P_lo (ins := .aload_n 0) (len := 1) (by decide +kernel) rfl rfl
theorem xs_159_196 : xe_P d 159 196 ls (.ref a :: st) h Q = (xe_ob h a 7 ∧ xe_P d 159 199 ls (va_rf (xe_R h a 0) :: st) h Q) := xe_P_getR (i := 7) (by decide +kernel) (by decide +kernel) (by decide) rfl
theorem xs_159_199 : xe_P d 159 199 ls st h Q = xe_P d 159 200 ls (.int 4 :: st) h Q := xe_P_ar (ins := .iconst 4) (len := 1) (by decide +kernel) rfl
theorem xs_159_200 : xe_P d 159 200 [l0, l1, l2, l3, .int x, l5] st h Q = xe_P d 159 202 [l0, l1, l2, l3, .int x, l5] (.int x :: st) h Q := xe_P_lo (ins := .iload 4) (len := 2) (by decide +kernel) rfl rfl
theorem xs_159_202 : xe_P d 159 202 ls (.int v :: .int x :: st) h Q = xe_P d 159 203 ls (.int (x * v) :: st) h Q := xe_P_ar (ins := .imul) (len := 1) (by decide +kernel) rfl
theorem xs_159_203 : xe_P d 159 203 ls st h Q = xe_P d 159 204 ls (.int 3 :: st) h Q := xe_P_ar (ins := .iconst 3) (len := 1) (by decide +kernel) rfl
theorem xs_159_204 : xe_P d 159 204 ls (.int v :: .int x :: st) h Q = xe_P d 159 205 ls (.int (x + v) :: st) h Q := xe_P_ar (ins := .iadd) (len := 1) (by decide +kernel) rfl
theorem xs_159_205 : xe_P d 159 205 [.ref a, l1, l2, l3, l4, l5] st h Q = xe_P d 159 206 [.ref a, l1, l2, l3, l4, l5] (.ref a :: st) h Q := xe_P_lo (ins := .aload_n 0) (len := 1) (by decide +kernel) rfl rfl
theorem xs_159_206 : xe_P d 159 206 ls (.ref a :: st) h Q = (xe_ob h a 7 ∧ xe_P d 159 209 ls (va_rf (xe_R h a 22) :: st) h Q) := xe_P_getR (i := 35) (by decide +kernel) (by decide +kernel) (by decide) rfl
theorem xs_159_209 : xe_P d 159 209 [l0, l1, l2, l3, .int x, l5] st h Q = xe_P d 159 211 [l0, l1, l2, l3, .int x, l5] (.int x :: st) h Q := xe_P_lo (ins := .iload 4) (len := 2) (by decide +kernel) rfl rfl
theorem xs_159_211 : xe_P d 159 211 ls (.int v :: .ref a :: st) h Q = ((xe_ia h a ∧ xe_ix h a v) ∧ xe_P d 159 212 ls (.int (xe_I h a v.toNatClampNeg) :: st) h Q) := xe_P_iald (by decide +kernel)
theorem xs_159_212 : xe_P d 159 212 ls (.int x :: .int v :: .ref a :: st) h Q = ((xe_ob h a 8 ∧ xe_ix h a v) ∧ xe_P d 159 213 ls st (xe_sI h a v.toNatClampNeg x) Q) := xe_P_iast (by decide +kernel)
theorem xs_159_213 : xe_P d 159 213 [l0, l1, l2, l3, .int x, l5] st h Q = xe_P d 159 216 [l0, l1, l2, xe_cut l3, .int (x + 1), l5] st h Q := xe_P_lo (ins := .iinc 4 1) (len := 3) (by decide +kernel) rfl rfl
theorem xs_159_216 : xe_P d 159 216 ls st h Q = xe_P d 159 188 ls st h Q := xe_P_go (len := 3) (off := (-28)) (by decide +kernel) (by decide)
theorem xs_159_219 : xe_P d 159 219 [.ref a, l1, l2, l3, l4, l5] st h Q = xe_P d 159 220 [.ref a, l1, l2, l3, l4, l5] (.ref a :: st) h Q := xe_P_lo (ins := .aload_n 0) (len := 1) (by decide +kernel) rfl rfl
theorem xs_159_220 : xe_P d 159 220 ls (.ref a :: st) h Q = (xe_ob h a 7 ∧ xe_P d 159 223 ls (va_rf (xe_R h a 0) :: st) h Q) := xe_P_getR (i := 7) (by decide +kernel) (by decide +kernel) (by decide) rfl
theorem xs_159_223 : xe_P d 159 223 ls st h Q = xe_P d 159 225 ls (.int 34 :: st) h Q := xe_P_ar (ins := .bipush 34) (len := 2) (by decide +kernel) rfl
theorem xs_159_225 : xe_P d 159 225 ls (.int v :: .ref a :: st) h Q = xe_P d 159 226 ls (.int v :: .ref a :: .int v :: .ref a :: st) h Q := xe_P_ar (ins := .dup2) (len := 1) (by decide +kernel) rfl
theorem xs_159_226 : xe_P d 159 226 ls (.int v :: .ref a :: st) h Q = ((xe_ia h a ∧ xe_ix h a v) ∧ xe_P d 159 227 ls (.int (xe_I h a v.toNatClampNeg) :: st) h Q) := xe_P_iald (by decide +kernel)
theorem xs_159_227 : xe_P d 159 227 ls st h Q = xe_P d 159 228 ls (.int 1 :: st) h Q := xe_P_ar (ins := .iconst 1) (len := 1) (by decide +kernel) rfl
theorem xs_159_228 : xe_P d 159 228 ls (.int v :: .int x :: st) h Q = xe_P d 159 229 ls (.int (x + v) :: st) h Q := xe_P_ar (ins := .iadd) (len := 1) (by decide +kernel) rfl
theorem xs_159_229 : xe_P d 159 229 ls (.int x :: .int v :: .ref a :: st) h Q = ((xe_ob h a 8 ∧ xe_ix h a v) ∧ xe_P d 159 230 ls st (xe_sI h a v.toNatClampNeg x) Q) := xe_P_iast (by decide +kernel)
theorem xs_159_230 : xe_P d 159 230 [l0, l1, l2, .int x, l4, l5] st h Q = xe_P d 159 231 [l0, l1, l2, .int x, l4, l5] (.int x :: st) h Q := xe_P_lo (ins := .iload_n 3) (len := 1) (by decide +kernel) rfl rfl
theorem xs_159_231 : xe_P d 159 231 ls [.int x] h Q = Q (some (.int x)) h := xe_P_ireturn (by decide +kernel) rfl
theorem xs_159 : xe_C (d + 1) 159 [.ref a, .int x0] h Q = xe_P d 159 0 [.ref a, .int x0, .retAddr 0, .retAddr 0, .retAddr 0, .retAddr 0] [] h Q := xe_C_at (Nat.le_of_ble_eq_true rfl) rfl
theorem xs_160_0 : xe_P d 160 0 [.ref a, l1] st h Q = xe_P d 160 1 [.ref a, l1] (.ref a :: st) h Q := xe_P_lo (ins := .aload_n 0) (len := 1) (by decide +kernel) rfl rfl
theorem xs_160_1 : xe_P d 160 1 [l0, .int x] st h Q = xe_P d 160 2 [l0, .int x] (.int x :: st) h Q := xe_P_lo (ins := .iload_n 1) (len := 1) (by decide +kernel) rfl rfl
theorem xs_160_2 : xe_P d 160 2 ls (v0 :: .ref a :: st) h Q = ((xe_w st ≤ 8 ∧ xe_ob h a 7) ∧ xe_C d 159 [.ref a, v0] h (fun r h' => xe_P d 160 5 ls (r.toList ++ st) h' Q)) := xe_P_ivv (y := 160) (pc := 2) (z := 159) (i := 226) (vs := [v0]) (by decide +kernel) (by decide +kernel) rfl (by decide +kernel)
theorem xs_160_5 : xe_P d 160 5 ls [.int x] h Q = Q (some (.int x)) h := xe_P_ireturn (by decide +kernel) rfl
theorem xs_160 : xe_C (d + 1) 160 [.ref a, .int x0] h Q = xe_P d 160 0 [.ref a, .int x0] [] h Q := xe_C_at (Nat.le_of_ble_eq_true rfl) rfl
theorem xs_161_0 : xe_P d 161 0 ls st h Q = xe_P d 161 1 ls (.int 0 :: st) h Q := xe_P_ar (ins := .iconst 0) (len := 1) (by decide +kernel) rfl
theorem xs_161_1 : xe_P d 161 1 [l0, l1, l2] (.int x :: st) h Q = xe_P d 161 2 [l0, xe_cut l1, .int x] st h Q := xe_P_lo (ins := .istore_n 2) (len := 1) (by decide +kernel) rfl rfl
theorem xs_161_2 : xe_P d 161 2 [l0, l1, .int x] st h Q = xe_P d 161 3 [l0, l1, .int x] (.int x :: st) h Q := xe_P_lo (ins := .iload_n 2) (len := 1) (by decide +kernel) rfl rfl
theorem xs_161_3 : xe_P d 161 3 ls st h Q = xe_P d 161 5 ls (.int 102400 :: st) h Q := xe_P_ldc (j := 38) (by decide +kernel) (by decide +kernel)
theorem xs_161_5 : xe_P d 161 5 ls (.int v :: .int x :: st) h Q = (if v ≤ x then xe_P d 161 21 ls st h Q else xe_P d 161 8 ls st h Q) := xe_P_if (ins := .if_icmp .ge 16) (len := 3) (off := 16) (by decide +kernel) (by decide) rfl rfl rfl
theorem xs_161_8 : xe_P d 161 8 [.ref a, l1, l2] st h Q = xe_P d 161 9 [.ref a, l1, l2] (.ref a :: st) h Q := xe_P_lo (ins := .aload_n 0) (len := 1) (by decide +kernel) rfl rfl
theorem xs_161_9 : xe_P d 161 9 ls (.ref a :: st) h Q = (xe_ob h a 7 ∧ xe_P d 161 12 ls (va_rf (xe_R h a 23) :: st) h Q) := xe_P_getR (i := 39) (by decide +kernel) (by decide +kernel) (by decide) rfl
theorem xs_161_12 : xe_P d 161 12 [l0, l1, .int x] st h Q = xe_P d 161 13 [l0, l1, .int x] (.int x :: st) h Q := xe_P_lo (ins := .iload_n 2) (len := 1) (by decide +kernel) rfl rfl
theorem xs_161_13 : xe_P d 161 13 ls st h Q = xe_P d 161 14 ls (.int 0 :: st) h Q := xe_P_ar (ins := .iconst 0) (len := 1) (by decide +kernel) rfl
theorem xs_161_14 : xe_P d 161 14 ls (.int x :: .int v :: .ref a :: st) h Q = ((xe_ob h a 8 ∧ xe_ix h a v) ∧ xe_P d 161 15 ls st (xe_sI h a v.toNatClampNeg x) Q) := xe_P_iast (by decide +kernel)
theorem xs_161_15 : xe_P d 161 15 [l0, l1, .int x] st h Q = xe_P d 161 18 [l0, xe_cut l1, .int (x + 1)] st h Q := xe_P_lo (ins := .iinc 2 1) (len := 3) (by decide +kernel) rfl rfl
theorem xs_161_18 : xe_P d 161 18 ls st h Q = xe_P d 161 2 ls st h Q := xe_P_go (len := 3) (off := (-16)) (by decide +kernel) (by decide)
theorem xs_161_21 : xe_P d 161 21 [.ref a, l1, l2] st h Q = xe_P d 161 22 [.ref a, l1, l2] (.ref a :: st) h Q := xe_P_lo (ins := .aload_n 0) (len := 1) (by decide +kernel) rfl rfl
theorem xs_161_22 : xe_P d 161 22 ls st h Q = xe_P d 161 23 ls (.int 1 :: st) h Q := xe_P_ar (ins := .iconst 1) (len := 1) (by decide +kernel) rfl
theorem xs_161_23 : xe_P d 161 23 ls (.int v :: .ref a :: st) h Q = (xe_ob h a 7 ∧ xe_P d 161 26 ls st (xe_sI h a 25 v) Q) := xe_P_putI (i := 229) (by decide +kernel) (by decide +kernel) (by decide) (by decide +kernel) rfl
theorem xs_161_26 : xe_P d 161 26 [.ref a, l1, l2] st h Q = xe_P d 161 27 [.ref a, l1, l2] (.ref a :: st) h Q := xe_P_lo (ins := .aload_n 0) (len := 1) (by decide +kernel) rfl rfl
theorem xs_161_27 : xe_P d 161 27 ls (.ref a :: st) h Q = (xe_ob h a 7 ∧ xe_P d 161 30 ls (va_rf (xe_R h a 24) :: st) h Q) := xe_P_getR (i := 42) (by decide +kernel) (by decide +kernel) (by decide) rfl
theorem xs_161_30 : xe_P d 161 30 ls st h Q = xe_P d 161 31 ls (.int 0 :: st) h Q := xe_P_ar (ins := .iconst 0) (len := 1) (by decide +kernel) rfl
theorem xs_161_31 : xe_P d 161 31 [l0, .int x, l2] st h Q = xe_P d 161 32 [l0, .int x, l2] (.int x :: st) h Q := xe_P_lo (ins := .iload_n 1) (len := 1) (by decide +kernel) rfl rfl
theorem xs_161_32 : xe_P d 161 32 ls (.int x :: .int v :: .ref a :: st) h Q = ((xe_ob h a 8 ∧ xe_ix h a v) ∧ xe_P d 161 33 ls st (xe_sI h a v.toNatClampNeg x) Q) := xe_P_iast (by decide +kernel)
theorem xs_161_33 : xe_P d 161 33 [.ref a, l1, l2] st h Q = xe_P d 161 34 [.ref a, l1, l2] (.ref a :: st) h Q := xe_P_lo (ins := .aload_n 0) (len := 1) (by decide +kernel) rfl rfl
theorem xs_161_34 : xe_P d 161 34 ls (.ref a :: st) h Q = (xe_ob h a 7 ∧ xe_P d 161 37 ls (va_rf (xe_R h a 23) :: st) h Q) := xe_P_getR (i := 39) (by decide +kernel) (by decide +kernel) (by decide) rfl
theorem xs_161_37 : xe_P d 161 37 [l0, .int x, l2] st h Q = xe_P d 161 38 [l0, .int x, l2] (.int x :: st) h Q := xe_P_lo (ins := .iload_n 1) (len := 1) (by decide +kernel) rfl rfl
theorem xs_161_38 : xe_P d 161 38 ls st h Q = xe_P d 161 39 ls (.int (-1) :: st) h Q := xe_P_ar (ins := .iconst (-1)) (len := 1) (by decide +kernel) rfl
theorem xs_161_39 : xe_P d 161 39 ls (.int x :: .int v :: .ref a :: st) h Q = ((xe_ob h a 8 ∧ xe_ix h a v) ∧ xe_P d 161 40 ls st (xe_sI h a v.toNatClampNeg x) Q) := xe_P_iast (by decide +kernel)
theorem xs_161_40 : xe_P d 161 40 ls [] h Q = Q none h := xe_P_vreturn (by decide +kernel) rfl
theorem xs_161 : xe_C (d + 1) 161 [.ref a, .int x0] h Q = xe_P d 161 0 [.ref a, .int x0, .retAddr 0] [] h Q := xe_C_at (Nat.le_of_ble_eq_true rfl) rfl
theorem xs_162_0 : xe_P d 162 0 [.ref a, l1, l2, l3] st h Q = xe_P d 162 1 [.ref a, l1, l2, l3] (.ref a :: st) h Q := xe_P_lo (ins := .aload_n 0) (len := 1) (by decide +kernel) rfl rfl
theorem xs_162_1 : xe_P d 162 1 ls (.ref a :: st) h Q = (xe_ob h a 7 ∧ xe_P d 162 4 ls (va_rf (xe_R h a 23) :: st) h Q) := xe_P_getR (i := 39) (by decide +kernel) (by decide +kernel) (by decide) rfl
theorem xs_162_4 : xe_P d 162 4 [l0, .int x, l2, l3] st h Q = xe_P d 162 5 [l0, .int x, l2, l3] (.int x :: st) h Q := xe_P_lo (ins := .iload_n 1) (len := 1) (by decide +kernel) rfl rfl
theorem xs_162_5 : xe_P d 162 5 ls (.int v :: .ref a :: st) h Q = ((xe_ia h a ∧ xe_ix h a v) ∧ xe_P d 162 6 ls (.int (xe_I h a v.toNatClampNeg) :: st) h Q) := xe_P_iald (by decide +kernel)
theorem xs_162_6 : xe_P d 162 6 ls (.int x :: st) h Q = (if x = 0 then xe_P d 162 9 ls st h Q else xe_P d 162 43 ls st h Q) := xe_P_ifn (ins := .ifCond .ne 37) (len := 3) (off := 37) (by decide +kernel) (by decide) rfl rfl rfl
theorem xs_162_9 : xe_P d 162 9 [.ref a, l1, l2, l3] st h Q = xe_P d 162 10 [.ref a, l1, l2, l3] (.ref a :: st) h Q := xe_P_lo (ins := .aload_n 0) (len := 1) (by decide +kernel) rfl rfl
theorem xs_162_10 : xe_P d 162 10 ls (.ref a :: st) h Q = (xe_ob h a 7 ∧ xe_P d 162 13 ls (va_rf (xe_R h a 23) :: st) h Q) := xe_P_getR (i := 39) (by decide +kernel) (by decide +kernel) (by decide) rfl
theorem xs_162_13 : xe_P d 162 13 [l0, .int x, l2, l3] st h Q = xe_P d 162 14 [l0, .int x, l2, l3] (.int x :: st) h Q := xe_P_lo (ins := .iload_n 1) (len := 1) (by decide +kernel) rfl rfl
theorem xs_162_14 : xe_P d 162 14 ls st h Q = xe_P d 162 16 ls (.int 64 :: st) h Q := xe_P_ar (ins := .bipush 64) (len := 2) (by decide +kernel) rfl
theorem xs_162_16 : xe_P d 162 16 [l0, l1, .int x, l3] st h Q = xe_P d 162 17 [l0, l1, .int x, l3] (.int x :: st) h Q := xe_P_lo (ins := .iload_n 2) (len := 1) (by decide +kernel) rfl rfl
theorem xs_162_17 : xe_P d 162 17 ls (.int v :: .int x :: st) h Q = xe_P d 162 18 ls (.int (x * v) :: st) h Q := xe_P_ar (ins := .imul) (len := 1) (by decide +kernel) rfl
theorem xs_162_18 : xe_P d 162 18 [l0, l1, l2, .int x] st h Q = xe_P d 162 19 [l0, l1, l2, .int x] (.int x :: st) h Q := xe_P_lo (ins := .iload_n 3) (len := 1) (by decide +kernel) rfl rfl
theorem xs_162_19 : xe_P d 162 19 ls (.int v :: .int x :: st) h Q = xe_P d 162 20 ls (.int (x + v) :: st) h Q := xe_P_ar (ins := .iadd) (len := 1) (by decide +kernel) rfl
theorem xs_162_20 : xe_P d 162 20 ls st h Q = xe_P d 162 21 ls (.int 1 :: st) h Q := xe_P_ar (ins := .iconst 1) (len := 1) (by decide +kernel) rfl
theorem xs_162_21 : xe_P d 162 21 ls (.int v :: .int x :: st) h Q = xe_P d 162 22 ls (.int (x + v) :: st) h Q := xe_P_ar (ins := .iadd) (len := 1) (by decide +kernel) rfl
theorem xs_162_22 : xe_P d 162 22 ls (.int x :: .int v :: .ref a :: st) h Q = ((xe_ob h a 8 ∧ xe_ix h a v) ∧ xe_P d 162 23 ls st (xe_sI h a v.toNatClampNeg x) Q) := xe_P_iast (by decide +kernel)
theorem xs_162_23 : xe_P d 162 23 [.ref a, l1, l2, l3] st h Q = xe_P d 162 24 [.ref a, l1, l2, l3] (.ref a :: st) h Q := xe_P_lo (ins := .aload_n 0) (len := 1) (by decide +kernel) rfl rfl
theorem xs_162_24 : xe_P d 162 24 ls (.ref a :: st) h Q = (xe_ob h a 7 ∧ xe_P d 162 27 ls (va_rf (xe_R h a 24) :: st) h Q) := xe_P_getR (i := 42) (by decide +kernel) (by decide +kernel) (by decide) rfl
theorem xs_162_27 : xe_P d 162 27 [.ref a, l1, l2, l3] st h Q = xe_P d 162 28 [.ref a, l1, l2, l3] (.ref a :: st) h Q := xe_P_lo (ins := .aload_n 0) (len := 1) (by decide +kernel) rfl rfl
theorem xs_162_28 : xe_P d 162 28 ls (.ref a :: st) h Q = (xe_ob h a 7 ∧ xe_P d 162 31 ls (.int (xe_I h a 25) :: st) h Q) := xe_P_getI (i := 229) (by decide +kernel) (by decide +kernel) (by decide) rfl
theorem xs_162_31 : xe_P d 162 31 [l0, .int x, l2, l3] st h Q = xe_P d 162 32 [l0, .int x, l2, l3] (.int x :: st) h Q := xe_P_lo (ins := .iload_n 1) (len := 1) (by decide +kernel) rfl rfl
theorem xs_162_32 : xe_P d 162 32 ls (.int x :: .int v :: .ref a :: st) h Q = ((xe_ob h a 8 ∧ xe_ix h a v) ∧ xe_P d 162 33 ls st (xe_sI h a v.toNatClampNeg x) Q) := xe_P_iast (by decide +kernel)
theorem xs_162_33 : xe_P d 162 33 [.ref a, l1, l2, l3] st h Q = xe_P d 162 34 [.ref a, l1, l2, l3] (.ref a :: st) h Q := xe_P_lo (ins := .aload_n 0) (len := 1) (by decide +kernel) rfl rfl
theorem xs_162_34 : xe_P d 162 34 ls (.ref a :: st) h Q = xe_P d 162 35 ls (.ref a :: .ref a :: st) h Q := xe_P_ar (ins := .dup) (len := 1) (by decide +kernel) rfl
theorem xs_162_34i : xe_P d 162 34 ls (.int x :: st) h Q = xe_P d 162 35 ls (.int x :: .int x :: st) h Q := xe_P_ar (ins := .dup) (len := 1) (by decide +kernel) rfl
theorem xs_162_35 : xe_P d 162 35 ls (.ref a :: st) h Q = (xe_ob h a 7 ∧ xe_P d 162 38 ls (.int (xe_I h a 25) :: st) h Q) := xe_P_getI (i := 229) (by decide +kernel) (by decide +kernel) (by decide) rfl
theorem xs_162_38 : xe_P d 162 38 ls st h Q = xe_P d 162 39 ls (.int 1 :: st) h Q := xe_P_ar (ins := .iconst 1) (len := 1) (by decide +kernel) rfl
theorem xs_162_39 : xe_P d 162 39 ls (.int v :: .int x :: st) h Q = xe_P d 162 40 ls (.int (x + v) :: st) h Q := xe_P_ar (ins := .iadd) (len := 1) (by decide +kernel) rfl
theorem xs_162_40 : xe_P d 162 40 ls (.int v :: .ref a :: st) h Q = (xe_ob h a 7 ∧ xe_P d 162 43 ls st (xe_sI h a 25 v) Q) := xe_P_putI (i := 229) (by decide +kernel) (by decide +kernel) (by decide) (by decide +kernel) rfl
theorem xs_162_43 : xe_P d 162 43 ls [] h Q = Q none h := xe_P_vreturn (by decide +kernel) rfl
theorem xs_162 : xe_C (d + 1) 162 [.ref a, .int x0, .int x1, .int x2] h Q = xe_P d 162 0 [.ref a, .int x0, .int x1, .int x2] [] h Q := xe_C_at (Nat.le_of_ble_eq_true rfl) rfl
theorem xs_163_0 : xe_P d 163 0 ls st h Q = xe_P d 163 1 ls (.int 0 :: st) h Q := xe_P_ar (ins := .iconst 0) (len := 1) (by decide +kernel) rfl
theorem xs_163_1 : xe_P d 163 1 [l0, l1, l2, l3, l4] (.int x :: st) h Q = xe_P d 163 2 [l0, xe_cut l1, .int x, l3, l4] st h Q := xe_P_lo (ins := .istore_n 2) (len := 1) (by decide +kernel) rfl rfl
theorem xs_163_2 : xe_P d 163 2 [.ref a, l1, l2, l3, l4] st h Q = xe_P d 163 3 [.ref a, l1, l2, l3, l4] (.ref a :: st) h Q := xe_P_lo (ins := .aload_n 0) (len := 1) (by decide +kernel) rfl rfl
theorem xs_163_3 : xe_P d 163 3 ls (.ref a :: st) h Q = (xe_ob h a 7 ∧ xe_P d 163 6 ls (va_rf (xe_R h a 24) :: st) h Q) := xe_P_getR (i := 42) (by decide +kernel) (by decide +kernel) (by decide) rfl
theorem xs_163_6 : xe_P d 163 6 [l0, .int x, l2, l3, l4] st h Q = xe_P d 163 7 [l0, .int x, l2, l3, l4] (.int x :: st) h Q := xe_P_lo (ins := .iload_n 1) (len := 1) (by decide +kernel) rfl rfl
theorem xs_163_7 : xe_P d 163 7 ls (.int v :: .ref a :: st) h Q = ((xe_ia h a ∧ xe_ix h a v) ∧ xe_P d 163 8 ls (.int (xe_I h a v.toNatClampNeg) :: st) h Q) := xe_P_iald (by decide +kernel)
theorem xs_163_8 : xe_P d 163 8 [l0, l1, l2, l3, l4] (.int x :: st) h Q = xe_P d 163 9 [l0, l1, xe_cut l2, .int x, l4] st h Q := xe_P_lo (ins := .istore_n 3) (len := 1) (by decide +kernel) rfl rfl
theorem xs_163_9 : xe_P d 163 9 [.ref a, l1, l2, l3, l4] st h Q = xe_P d 163 10 [.ref a, l1, l2, l3, l4] (.ref a :: st) h Q := xe_P_lo (ins := .aload_n 0) (len := 1) (by decide +kernel) rfl rfl
theorem xs_163_10 : xe_P d 163 10 ls (.ref a :: st) h Q = (xe_ob h a 7 ∧ xe_P d 163 13 ls (va_rf (xe_R h a 23) :: st) h Q) := xe_P_getR (i := 39) (by decide +kernel) (by decide +kernel) (by decide) rfl
theorem xs_163_13 : xe_P d 163 13 [l0, l1, l2, .int x, l4] st h Q = xe_P d 163 14 [l0, l1, l2, .int x, l4] (.int x :: st) h Q := xe_P_lo (ins := .iload_n 3) (len := 1) (by decide +kernel) rfl rfl
theorem xs_163_14 : xe_P d 163 14 ls (.int v :: .ref a :: st) h Q = ((xe_ia h a ∧ xe_ix h a v) ∧ xe_P d 163 15 ls (.int (xe_I h a v.toNatClampNeg) :: st) h Q) := xe_P_iald (by decide +kernel)
theorem xs_163_15 : xe_P d 163 15 ls st h Q = xe_P d 163 16 ls (.int (-1) :: st) h Q := xe_P_ar (ins := .iconst (-1)) (len := 1) (by decide +kernel) rfl
theorem xs_163_16 : xe_P d 163 16 ls (.int v :: .int x :: st) h Q = (if x = v then xe_P d 163 64 ls st h Q else xe_P d 163 19 ls st h Q) := xe_P_if (ins := .if_icmp .eq 48) (len := 3) (off := 48) (by decide +kernel) (by decide) rfl rfl rfl
theorem xs_163_19 : xe_P d 163 19 [.ref a, l1, l2, l3, l4] st h Q = xe_P d 163 20 [.ref a, l1, l2, l3, l4] (.ref a :: st) h Q := xe_P_lo (ins := .aload_n 0) (len := 1) (by decide +kernel) rfl rfl
theorem xs_163_20 : xe_P d 163 20 ls (.ref a :: st) h Q = (xe_ob h a 7 ∧ xe_P d 163 23 ls (va_rf (xe_R h a 23) :: st) h Q) := xe_P_getR (i := 39) (by decide +kernel) (by decide +kernel) (by decide) rfl
theorem xs_163_23 : xe_P d 163 23 [l0, l1, l2, .int x, l4] st h Q = xe_P d 163 24 [l0, l1, l2, .int x, l4] (.int x :: st) h Q := xe_P_lo (ins := .iload_n 3) (len := 1) (by decide +kernel) rfl rfl
theorem xs_163_24 : xe_P d 163 24 ls (.int v :: .ref a :: st) h Q = ((xe_ia h a ∧ xe_ix h a v) ∧ xe_P d 163 25 ls (.int (xe_I h a v.toNatClampNeg) :: st) h Q) := xe_P_iald (by decide +kernel)
theorem xs_163_25 : xe_P d 163 25 ls st h Q = xe_P d 163 26 ls (.int 1 :: st) h Q := xe_P_ar (ins := .iconst 1) (len := 1) (by decide +kernel) rfl
theorem xs_163_26 : xe_P d 163 26 ls (.int v :: .int x :: st) h Q = xe_P d 163 27 ls (.int (x - v) :: st) h Q := xe_P_ar (ins := .isub) (len := 1) (by decide +kernel) rfl
theorem xs_163_27 : xe_P d 163 27 [l0, l1, l2, l3, l4] (.int x :: st) h Q = xe_P d 163 29 [l0, l1, l2, xe_cut l3, .int x] st h Q := xe_P_lo (ins := .istore 4) (len := 2) (by decide +kernel) rfl rfl
theorem xs_163_29 : xe_P d 163 29 [l0, l1, .int x, l3, l4] st h Q = xe_P d 163 30 [l0, l1, .int x, l3, l4] (.int x :: st) h Q := xe_P_lo (ins := .iload_n 2) (len := 1) (by decide +kernel) rfl rfl
theorem xs_163_30 : xe_P d 163 30 ls st h Q = xe_P d 163 33 ls (.int 1000 :: st) h Q := xe_P_ar (ins := .sipush 1000) (len := 3) (by decide +kernel) rfl
theorem xs_163_33 : xe_P d 163 33 ls (.int v :: .int x :: st) h Q = (if v ≤ x then xe_P d 163 47 ls st h Q else xe_P d 163 36 ls st h Q) := xe_P_if (ins := .if_icmp .ge 14) (len := 3) (off := 14) (by decide +kernel) (by decide) rfl rfl rfl
theorem xs_163_36 : xe_P d 163 36 [.ref a, l1, l2, l3, l4] st h Q = xe_P d 163 37 [.ref a, l1, l2, l3, l4] (.ref a :: st) h Q := xe_P_lo (ins := .aload_n 0) (len := 1) (by decide +kernel) rfl rfl
theorem xs_163_37 : xe_P d 163 37 ls (.ref a :: st) h Q = (xe_ob h a 7 ∧ xe_P d 163 40 ls (va_rf (xe_R h a 26) :: st) h Q) := xe_P_getR (i := 45) (by decide +kernel) (by decide +kernel) (by decide) rfl
theorem xs_163_40 : xe_P d 163 40 [l0, l1, .int x, l3, l4] st h Q = xe_P d 163 41 [l0, l1, .int x, l3, l4] (.int x :: st) h Q := xe_P_lo (ins := .iload_n 2) (len := 1) (by decide +kernel) rfl rfl
theorem xs_163_41 : xe_P d 163 41 [l0, l1, l2, l3, .int x] st h Q = xe_P d 163 43 [l0, l1, l2, l3, .int x] (.int x :: st) h Q := xe_P_lo (ins := .iload 4) (len := 2) (by decide +kernel) rfl rfl
theorem xs_163_43 : xe_P d 163 43 ls st h Q = xe_P d 163 45 ls (.int 64 :: st) h Q := xe_P_ar (ins := .bipush 64) (len := 2) (by decide +kernel) rfl
theorem xs_163_45 : xe_P d 163 45 ls (.int v :: .int x :: st) h Q = (¬ v = 0 ∧ xe_P d 163 46 ls (.int (x - x / v * v) :: st) h Q) := xe_P_rem (by decide +kernel)
theorem xs_163_46 : xe_P d 163 46 ls (.int x :: .int v :: .ref a :: st) h Q = ((xe_ob h a 8 ∧ xe_ix h a v) ∧ xe_P d 163 47 ls st (xe_sI h a v.toNatClampNeg x) Q) := xe_P_iast (by decide +kernel)
theorem xs_163_47 : xe_P d 163 47 [l0, l1, .int x, l3, l4] st h Q = xe_P d 163 50 [l0, xe_cut l1, .int (x + 1), l3, l4] st h Q := xe_P_lo (ins := .iinc 2 1) (len := 3) (by decide +kernel) rfl rfl
theorem xs_163_50 : xe_P d 163 50 [.ref a, l1, l2, l3, l4] st h Q = xe_P d 163 51 [.ref a, l1, l2, l3, l4] (.ref a :: st) h Q := xe_P_lo (ins := .aload_n 0) (len := 1) (by decide +kernel) rfl rfl
theorem xs_163_51 : xe_P d 163 51 ls (.ref a :: st) h Q = (xe_ob h a 7 ∧ xe_P d 163 54 ls (va_rf (xe_R h a 24) :: st) h Q) := xe_P_getR (i := 42) (by decide +kernel) (by decide +kernel) (by decide) rfl
theorem xs_163_54 : xe_P d 163 54 [l0, l1, l2, l3, .int x] st h Q = xe_P d 163 56 [l0, l1, l2, l3, .int x] (.int x :: st) h Q := xe_P_lo (ins := .iload 4) (len := 2) (by decide +kernel) rfl rfl
theorem xs_163_56 : xe_P d 163 56 ls st h Q = xe_P d 163 58 ls (.int 64 :: st) h Q := xe_P_ar (ins := .bipush 64) (len := 2) (by decide +kernel) rfl
theorem xs_163_58 : xe_P d 163 58 ls (.int v :: .int x :: st) h Q = (¬ v = 0 ∧ xe_P d 163 59 ls (.int (x / v) :: st) h Q) := xe_P_div (by decide +kernel)
theorem xs_163_59 : xe_P d 163 59 ls (.int v :: .ref a :: st) h Q = ((xe_ia h a ∧ xe_ix h a v) ∧ xe_P d 163 60 ls (.int (xe_I h a v.toNatClampNeg) :: st) h Q) := xe_P_iald (by decide +kernel)
theorem xs_163_60 : xe_P d 163 60 [l0, l1, l2, l3, l4] (.int x :: st) h Q = xe_P d 163 61 [l0, l1, xe_cut l2, .int x, l4] st h Q := xe_P_lo (ins := .istore_n 3) (len := 1) (by decide +kernel) rfl rfl
theorem xs_163_61 : xe_P d 163 61 ls st h Q = xe_P d 163 9 ls st h Q := xe_P_go (len := 3) (off := (-52)) (by decide +kernel) (by decide)
theorem xs_163_64 : xe_P d 163 64 [l0, l1, .int x, l3, l4] st h Q = xe_P d 163 65 [l0, l1, .int x, l3, l4] (.int x :: st) h Q := xe_P_lo (ins := .iload_n 2) (len := 1) (by decide +kernel) rfl rfl
theorem xs_163_65 : xe_P d 163 65 ls [.int x] h Q = Q (some (.int x)) h := xe_P_ireturn (by decide +kernel) rfl
theorem xs_163 : xe_C (d + 1) 163 [.ref a, .int x0] h Q = xe_P d 163 0 [.ref a, .int x0, .retAddr 0, .retAddr 0, .retAddr 0] [] h Q := xe_C_at (Nat.le_of_ble_eq_true rfl) rfl
theorem xs_164_0 : xe_P d 164 0 [.ref a, l1, l2, l3, l4, l5, l6] st h Q = xe_P d 164 1 [.ref a, l1, l2, l3, l4, l5, l6] (.ref a :: st) h Q := xe_P_lo (ins := .aload_n 0) (len := 1) (by decide +kernel) rfl rfl
theorem xs_164_1 : xe_P d 164 1 ls (.ref a :: st) h Q = ((xe_w st ≤ 8 ∧ xe_ob h a 7) ∧ xe_C d 145 [.ref a] h (fun r h' => xe_P d 164 4 ls (r.toList ++ st) h' Q)) := xe_P_ivv (y := 164) (pc := 1) (z := 145) (i := 209) (vs := []) (by decide +kernel) (by decide +kernel) rfl (by decide +kernel)
theorem xs_164_4 : xe_P d 164 4 [.ref a, l1, l2, l3, l4, l5, l6] st h Q = xe_P d 164 5 [.ref a, l1, l2, l3, l4, l5, l6] (.ref a :: st) h Q := xe_P_lo (ins := .aload_n 0) (len := 1) (by decide +kernel) rfl rfl
theorem xs_164_5 : xe_P d 164 5 ls st h Q = xe_P d 164 8 ls (.int 4096 :: st) h Q := xe_P_ar (ins := .sipush 4096) (len := 3) (by decide +kernel) rfl
theorem xs_164_8 : xe_P d 164 8 [.ref a, l1, l2, l3, l4, l5, l6] st h Q = xe_P d 164 9 [.ref a, l1, l2, l3, l4, l5, l6] (.ref a :: st) h Q := xe_P_lo (ins := .aload_n 0) (len := 1) (by decide +kernel) rfl rfl
theorem xs_164_9 : xe_P d 164 9 [l0, .int x, l2, l3, l4, l5, l6] st h Q = xe_P d 164 10 [l0, .int x, l2, l3, l4, l5, l6] (.int x :: st) h Q := xe_P_lo (ins := .iload_n 1) (len := 1) (by decide +kernel) rfl rfl
theorem xs_164_10 : xe_P d 164 10 ls (v0 :: .ref a :: st) h Q = ((xe_w st ≤ 8 ∧ xe_ob h a 7) ∧ xe_C d 140 [.ref a, v0] h (fun r h' => xe_P d 164 13 ls (r.toList ++ st) h' Q)) := xe_P_ivv (y := 164) (pc := 10) (z := 140) (i := 212) (vs := [v0]) (by decide +kernel) (by decide +kernel) rfl (by decide +kernel)
theorem xs_164_13 : xe_P d 164 13 ls (.int v :: .int x :: st) h Q = xe_P d 164 14 ls (.int (x * v) :: st) h Q := xe_P_ar (ins := .imul) (len := 1) (by decide +kernel) rfl
theorem xs_164_14 : xe_P d 164 14 [.ref a, l1, l2, l3, l4, l5, l6] st h Q = xe_P d 164 15 [.ref a, l1, l2, l3, l4, l5, l6] (.ref a :: st) h Q := xe_P_lo (ins := .aload_n 0) (len := 1) (by decide +kernel) rfl rfl
theorem xs_164_15 : xe_P d 164 15 ls (.ref a :: st) h Q = ((xe_w st ≤ 8 ∧ xe_ob h a 7) ∧ xe_C d 147 [.ref a] h (fun r h' => xe_P d 164 18 ls (r.toList ++ st) h' Q)) := xe_P_ivv (y := 164) (pc := 15) (z := 147) (i := 232) (vs := []) (by decide +kernel) (by decide +kernel) rfl (by decide +kernel)
theorem xs_164_18 : xe_P d 164 18 ls (.int v :: .int x :: st) h Q = xe_P d 164 19 ls (.int (x + v) :: st) h Q := xe_P_ar (ins := .iadd) (len := 1) (by decide +kernel) rfl
theorem xs_164_19 : xe_P d 164 19 ls (v0 :: .ref a :: st) h Q = ((xe_w st ≤ 8 ∧ xe_ob h a 7) ∧ xe_C d 161 [.ref a, v0] h (fun r h' => xe_P d 164 22 ls (r.toList ++ st) h' Q)) := xe_P_ivv (y := 164) (pc := 19) (z := 161) (i := 235) (vs := [v0]) (by decide +kernel) (by decide +kernel) rfl (by decide +kernel)
theorem xs_164_22 : xe_P d 164 22 ls st h Q = xe_P d 164 23 ls (.int 0 :: st) h Q := xe_P_ar (ins := .iconst 0) (len := 1) (by decide +kernel) rfl
theorem xs_164_23 : xe_P d 164 23 [l0, l1, l2, l3, l4, l5, l6] (.int x :: st) h Q = xe_P d 164 24 [l0, l1, xe_cut l2, .int x, l4, l5, l6] st h Q := xe_P_lo (ins := .istore_n 3) (len := 1) (by decide +kernel) rfl rfl
theorem xs_164_24 : xe_P d 164 24 [l0, l1, l2, .int x, l4, l5, l6] st h Q = xe_P d 164 25 [l0, l1, l2, .int x, l4, l5, l6] (.int x :: st) h Q := xe_P_lo (ins := .iload_n 3) (len := 1) (by decide +kernel) rfl rfl
theorem xs_164_25 : xe_P d 164 25 [.ref a, l1, l2, l3, l4, l5, l6] st h Q = xe_P d 164 26 [.ref a, l1, l2, l3, l4, l5, l6] (.ref a :: st) h Q := xe_P_lo (ins := .aload_n 0) (len := 1) (by decide +kernel) rfl rfl
theorem xs_164_26 : xe_P d 164 26 ls (.ref a :: st) h Q = (xe_ob h a 7 ∧ xe_P d 164 29 ls (.int (xe_I h a 25) :: st) h Q) := xe_P_getI (i := 229) (by decide +kernel) (by decide +kernel) (by decide) rfl
theorem xs_164_29 : xe_P d 164 29 ls (.int v :: .int x :: st) h Q = (if v ≤ x then xe_P d 164 129 ls st h Q else xe_P d 164 32 ls st h Q) := xe_P_if (ins := .if_icmp .ge 100) (len := 3) (off := 100) (by decide +kernel) (by decide) rfl rfl rfl
theorem xs_164_32 : xe_P d 164 32 [.ref a, l1, l2, l3, l4, l5, l6] st h Q = xe_P d 164 33 [.ref a, l1, l2, l3, l4, l5, l6] (.ref a :: st) h Q := xe_P_lo (ins := .aload_n 0) (len := 1) (by decide +kernel) rfl rfl
theorem xs_164_33 : xe_P d 164 33 ls (.ref a :: st) h Q = (xe_ob h a 7 ∧ xe_P d 164 36 ls (va_rf (xe_R h a 24) :: st) h Q) := xe_P_getR (i := 42) (by decide +kernel) (by decide +kernel) (by decide) rfl
theorem xs_164_36 : xe_P d 164 36 [l0, l1, l2, .int x, l4, l5, l6] st h Q = xe_P d 164 37 [l0, l1, l2, .int x, l4, l5, l6] (.int x :: st) h Q := xe_P_lo (ins := .iload_n 3) (len := 1) (by decide +kernel) rfl rfl
theorem xs_164_37 : xe_P d 164 37 ls (.int v :: .ref a :: st) h Q = ((xe_ia h a ∧ xe_ix h a v) ∧ xe_P d 164 38 ls (.int (xe_I h a v.toNatClampNeg) :: st) h Q) := xe_P_iald (by decide +kernel)
theorem xs_164_38 : xe_P d 164 38 [l0, l1, l2, l3, l4, l5, l6] (.int x :: st) h Q = xe_P d 164 40 [l0, l1, l2, xe_cut l3, .int x, l5, l6] st h Q := xe_P_lo (ins := .istore 4) (len := 2) (by decide +kernel) rfl rfl
theorem xs_164_40 : xe_P d 164 40 [l0, l1, l2, l3, .int x, l5, l6] st h Q = xe_P d 164 42 [l0, l1, l2, l3, .int x, l5, l6] (.int x :: st) h Q := xe_P_lo (ins := .iload 4) (len := 2) (by decide +kernel) rfl rfl
theorem xs_164_42 : xe_P d 164 42 ls st h Q = xe_P d 164 45 ls (.int 4096 :: st) h Q := xe_P_ar (ins := .sipush 4096) (len := 3) (by decide +kernel) rfl
theorem xs_164_45 : xe_P d 164 45 ls (.int v :: .int x :: st) h Q = (¬ v = 0 ∧ xe_P d 164 46 ls (.int (x / v) :: st) h Q) := xe_P_div (by decide +kernel)
theorem xs_164_46 : xe_P d 164 46 [l0, l1, .int x, l3, l4, l5, l6] st h Q = xe_P d 164 47 [l0, l1, .int x, l3, l4, l5, l6] (.int x :: st) h Q := xe_P_lo (ins := .iload_n 2) (len := 1) (by decide +kernel) rfl rfl
theorem xs_164_47 : xe_P d 164 47 ls (.int v :: .int x :: st) h Q = (if x = v then xe_P d 164 50 ls st h Q else xe_P d 164 52 ls st h Q) := xe_P_ifn (ins := .if_icmp .ne 5) (len := 3) (off := 5) (by decide +kernel) (by decide) rfl rfl rfl
theorem xs_164_50 : xe_P d 164 50 [l0, l1, l2, .int x, l4, l5, l6] st h Q = xe_P d 164 51 [l0, l1, l2, .int x, l4, l5, l6] (.int x :: st) h Q := xe_P_lo (ins := .iload_n 3) (len := 1) (by decide +kernel) rfl rfl
theorem xs_164_51 : xe_P d 164 51 ls [.int x] h Q = Q (some (.int x)) h := xe_P_ireturn (by decide +kernel) rfl
theorem xs_164_52 : xe_P d 164 52 ls st h Q = xe_P d 164 53 ls (.int 0 :: st) h Q := xe_P_ar (ins := .iconst 0) (len := 1) (by decide +kernel) rfl
theorem xs_164_53 : xe_P d 164 53 [l0, l1, l2, l3, l4, l5, l6] (.int x :: st) h Q = xe_P d 164 55 [l0, l1, l2, l3, xe_cut l4, .int x, l6] st h Q := xe_P_lo (ins := .istore 5) (len := 2) (by decide +kernel) rfl rfl
theorem xs_164_55 : xe_P d 164 55 [l0, l1, l2, l3, l4, .int x, l6] st h Q = xe_P d 164 57 [l0, l1, l2, l3, l4, .int x, l6] (.int x :: st) h Q := xe_P_lo (ins := .iload 5) (len := 2) (by decide +kernel) rfl rfl
theorem xs_164_57 : xe_P d 164 57 [.ref a, l1, l2, l3, l4, l5, l6] st h Q = xe_P d 164 58 [.ref a, l1, l2, l3, l4, l5, l6] (.ref a :: st) h Q := xe_P_lo (ins := .aload_n 0) (len := 1) (by decide +kernel) rfl rfl
theorem xs_164_58 : xe_P d 164 58 ls (.ref a :: st) h Q = ((xe_w st ≤ 8 ∧ xe_ob h a 7) ∧ xe_C d 136 [.ref a] h (fun r h' => xe_P d 164 61 ls (r.toList ++ st) h' Q)) := xe_P_ivv (y := 164) (pc := 58) (z := 136) (i := 181) (vs := []) (by decide +kernel) (by decide +kernel) rfl (by decide +kernel)
theorem xs_164_61 : xe_P d 164 61 ls (.int v :: .int x :: st) h Q = (if v < x then xe_P d 164 123 ls st h Q else xe_P d 164 64 ls st h Q) := xe_P_if (ins := .if_icmp .gt 62) (len := 3) (off := 62) (by decide +kernel) (by decide) rfl rfl rfl
theorem xs_164_64 : xe_P d 164 64 [.ref a, l1, l2, l3, l4, l5, l6] st h Q = xe_P d 164 65 [.ref a, l1, l2, l3, l4, l5, l6] (.ref a :: st) h Q := xe_P_lo (ins := .aload_n 0) (len := 1) (by decide +kernel) rfl rfl
theorem xs_164_65 : xe_P d 164 65 [l0, l1, l2, l3, .int x, l5, l6] st h Q = xe_P d 164 67 [l0, l1, l2, l3, .int x, l5, l6] (.int x :: st) h Q := xe_P_lo (ins := .iload 4) (len := 2) (by decide +kernel) rfl rfl
theorem xs_164_67 : xe_P d 164 67 ls st h Q = xe_P d 164 70 ls (.int 4096 :: st) h Q := xe_P_ar (ins := .sipush 4096) (len := 3) (by decide +kernel) rfl
theorem xs_164_70 : xe_P d 164 70 ls (.int v :: .int x :: st) h Q = (¬ v = 0 ∧ xe_P d 164 71 ls (.int (x - x / v * v) :: st) h Q) := xe_P_rem (by decide +kernel)
theorem xs_164_71 : xe_P d 164 71 ls (v0 :: .ref a :: st) h Q = ((xe_w st ≤ 8 ∧ xe_ob h a 7) ∧ xe_C d 146 [.ref a, v0] h (fun r h' => xe_P d 164 74 ls (r.toList ++ st) h' Q)) := xe_P_ivv (y := 164) (pc := 71) (z := 146) (i := 238) (vs := [v0]) (by decide +kernel) (by decide +kernel) rfl (by decide +kernel)
theorem xs_164_74 : xe_P d 164 74 [.ref a, l1, l2, l3, l4, l5, l6] st h Q = xe_P d 164 75 [.ref a, l1, l2, l3, l4, l5, l6] (.ref a :: st) h Q := xe_P_lo (ins := .aload_n 0) (len := 1) (by decide +kernel) rfl rfl
theorem xs_164_75 : xe_P d 164 75 [l0, l1, l2, l3, l4, .int x, l6] st h Q = xe_P d 164 77 [l0, l1, l2, l3, l4, .int x, l6] (.int x :: st) h Q := xe_P_lo (ins := .iload 5) (len := 2) (by decide +kernel) rfl rfl
theorem xs_164_77 : xe_P d 164 77 [l0, l1, l2, l3, .int x, l5, l6] st h Q = xe_P d 164 79 [l0, l1, l2, l3, .int x, l5, l6] (.int x :: st) h Q := xe_P_lo (ins := .iload 4) (len := 2) (by decide +kernel) rfl rfl
theorem xs_164_79 : xe_P d 164 79 ls st h Q = xe_P d 164 82 ls (.int 4096 :: st) h Q := xe_P_ar (ins := .sipush 4096) (len := 3) (by decide +kernel) rfl
theorem xs_164_82 : xe_P d 164 82 ls (.int v :: .int x :: st) h Q = (¬ v = 0 ∧ xe_P d 164 83 ls (.int (x / v) :: st) h Q) := xe_P_div (by decide +kernel)
theorem xs_164_83 : xe_P d 164 83 ls (v1 :: v0 :: .ref a :: st) h Q = ((xe_w st ≤ 8 ∧ xe_ob h a 7) ∧ xe_C d 152 [.ref a, v0, v1] h (fun r h' => xe_P d 164 86 ls (r.toList ++ st) h' Q)) := xe_P_ivv (y := 164) (pc := 83) (z := 152) (i := 220) (vs := [v1, v0]) (by decide +kernel) (by decide +kernel) rfl (by decide +kernel)
theorem xs_164_86 : xe_P d 164 86 [l0, l1, l2, l3, l4, l5, l6] (.int x :: st) h Q = xe_P d 164 88 [l0, l1, l2, l3, l4, xe_cut l5, .int x] st h Q := xe_P_lo (ins := .istore 6) (len := 2) (by decide +kernel) rfl rfl
theorem xs_164_88 : xe_P d 164 88 [l0, l1, l2, l3, l4, l5, .int x] st h Q = xe_P d 164 90 [l0, l1, l2, l3, l4, l5, .int x] (.int x :: st) h Q := xe_P_lo (ins := .iload 6) (len := 2) (by decide +kernel) rfl rfl
theorem xs_164_90 : xe_P d 164 90 ls st h Q = xe_P d 164 92 ls (.int (-4) :: st) h Q := xe_P_ar (ins := .bipush (-4)) (len := 2) (by decide +kernel) rfl
theorem xs_164_92 : xe_P d 164 92 ls (.int v :: .int x :: st) h Q = (if x = v then xe_P d 164 117 ls st h Q else xe_P d 164 95 ls st h Q) := xe_P_if (ins := .if_icmp .eq 25) (len := 3) (off := 25) (by decide +kernel) (by decide) rfl rfl rfl
theorem xs_164_95 : xe_P d 164 95 [.ref a, l1, l2, l3, l4, l5, l6] st h Q = xe_P d 164 96 [.ref a, l1, l2, l3, l4, l5, l6] (.ref a :: st) h Q := xe_P_lo (ins := .aload_n 0) (len := 1) (by decide +kernel) rfl rfl
theorem xs_164_96 : xe_P d 164 96 ls (.ref a :: st) h Q = ((xe_w st ≤ 8 ∧ xe_ob h a 7) ∧ xe_C d 151 [.ref a] h (fun r h' => xe_P d 164 99 ls (r.toList ++ st) h' Q)) := xe_P_ivv (y := 164) (pc := 96) (z := 151) (i := 223) (vs := []) (by decide +kernel) (by decide +kernel) rfl (by decide +kernel)
theorem xs_164_99 : xe_P d 164 99 [.ref a, l1, l2, l3, l4, l5, l6] st h Q = xe_P d 164 100 [.ref a, l1, l2, l3, l4, l5, l6] (.ref a :: st) h Q := xe_P_lo (ins := .aload_n 0) (len := 1) (by decide +kernel) rfl rfl
theorem xs_164_100 : xe_P d 164 100 ls st h Q = xe_P d 164 103 ls (.int 4096 :: st) h Q := xe_P_ar (ins := .sipush 4096) (len := 3) (by decide +kernel) rfl
theorem xs_164_103 : xe_P d 164 103 [l0, l1, l2, l3, l4, l5, .int x] st h Q = xe_P d 164 105 [l0, l1, l2, l3, l4, l5, .int x] (.int x :: st) h Q := xe_P_lo (ins := .iload 6) (len := 2) (by decide +kernel) rfl rfl
theorem xs_164_105 : xe_P d 164 105 ls (.int v :: .int x :: st) h Q = xe_P d 164 106 ls (.int (x * v) :: st) h Q := xe_P_ar (ins := .imul) (len := 1) (by decide +kernel) rfl
theorem xs_164_106 : xe_P d 164 106 [.ref a, l1, l2, l3, l4, l5, l6] st h Q = xe_P d 164 107 [.ref a, l1, l2, l3, l4, l5, l6] (.ref a :: st) h Q := xe_P_lo (ins := .aload_n 0) (len := 1) (by decide +kernel) rfl rfl
theorem xs_164_107 : xe_P d 164 107 ls (.ref a :: st) h Q = ((xe_w st ≤ 8 ∧ xe_ob h a 7) ∧ xe_C d 147 [.ref a] h (fun r h' => xe_P d 164 110 ls (r.toList ++ st) h' Q)) := xe_P_ivv (y := 164) (pc := 107) (z := 147) (i := 232) (vs := []) (by decide +kernel) (by decide +kernel) rfl (by decide +kernel)
theorem xs_164_110 : xe_P d 164 110 ls (.int v :: .int x :: st) h Q = xe_P d 164 111 ls (.int (x + v) :: st) h Q := xe_P_ar (ins := .iadd) (len := 1) (by decide +kernel) rfl
theorem xs_164_111 : xe_P d 164 111 [l0, l1, l2, .int x, l4, l5, l6] st h Q = xe_P d 164 112 [l0, l1, l2, .int x, l4, l5, l6] (.int x :: st) h Q := xe_P_lo (ins := .iload_n 3) (len := 1) (by decide +kernel) rfl rfl
theorem xs_164_112 : xe_P d 164 112 [l0, l1, l2, l3, l4, .int x, l6] st h Q = xe_P d 164 114 [l0, l1, l2, l3, l4, .int x, l6] (.int x :: st) h Q := xe_P_lo (ins := .iload 5) (len := 2) (by decide +kernel) rfl rfl
theorem xs_164_114 : xe_P d 164 114 ls (v2 :: v1 :: v0 :: .ref a :: st) h Q = ((xe_w st ≤ 8 ∧ xe_ob h a 7) ∧ xe_C d 162 [.ref a, v0, v1, v2] h (fun r h' => xe_P d 164 117 ls (r.toList ++ st) h' Q)) := xe_P_ivv (y := 164) (pc := 114) (z := 162) (i := 241) (vs := [v2, v1, v0]) (by decide +kernel) (by decide +kernel) rfl (by decide +kernel)
theorem xs_164_117 : xe_P d 164 117 [l0, l1, l2, l3, l4, .int x, l6] st h Q = xe_P d 164 120 [l0, l1, l2, l3, xe_cut l4, .int (x + 1), l6] st h Q := xe_P_lo (ins := .iinc 5 1) (len := 3) (by decide +kernel) rfl rfl
theorem xs_164_120 : xe_P d 164 120 ls st h Q = xe_P d 164 55 ls st h Q := xe_P_go (len := 3) (off := (-65)) (by decide +kernel) (by decide)
theorem xs_164_123 : xe_P d 164 123 [l0, l1, l2, .int x, l4, l5, l6] st h Q = xe_P d 164 126 [l0, l1, xe_cut l2, .int (x + 1), l4, l5, l6] st h Q := xe_P_lo (ins := .iinc 3 1) (len := 3) (by decide +kernel) rfl rfl
theorem xs_164_126 : xe_P d 164 126 ls st h Q = xe_P d 164 24 ls st h Q := xe_P_go (len := 3) (off := (-102)) (by decide +kernel) (by decide)
theorem xs_164_129 : xe_P d 164 129 ls st h Q = xe_P d 164 131 ls (.int (-4) :: st) h Q := xe_P_ar (ins := .bipush (-4)) (len := 2) (by decide +kernel) rfl
theorem xs_164_131 : xe_P d 164 131 ls [.int x] h Q = Q (some (.int x)) h := xe_P_ireturn (by decide +kernel) rfl
theorem xs_164 : xe_C (d + 1) 164 [.ref a, .int x0, .int x1] h Q = xe_P d 164 0 [.ref a, .int x0, .int x1, .retAddr 0, .retAddr 0, .retAddr 0, .retAddr 0] [] h Q := xe_C_at (Nat.le_of_ble_eq_true rfl) rfl
theorem xs_165_0 : xe_P d 165 0 [l0, .int x, l2, l3] st h Q = xe_P d 165 1 [l0, .int x, l2, l3] (.int x :: st) h Q := xe_P_lo (ins := .iload_n 1) (len := 1) (by decide +kernel) rfl rfl
theorem xs_165_1 : xe_P d 165 1 ls st h Q = xe_P d 165 3 ls (.int (-4) :: st) h Q := xe_P_ar (ins := .bipush (-4)) (len := 2) (by decide +kernel) rfl
theorem xs_165_3 : xe_P d 165 3 ls (.int v :: .int x :: st) h Q = (if x = v then xe_P d 165 6 ls st h Q else xe_P d 165 9 ls st h Q) := xe_P_ifn (ins := .if_icmp .ne 6) (len := 3) (off := 6) (by decide +kernel) (by decide) rfl rfl rfl
theorem xs_165_6 : xe_P d 165 6 ls st h Q = xe_P d 165 8 ls (.int (-4) :: st) h Q := xe_P_ar (ins := .bipush (-4)) (len := 2) (by decide +kernel) rfl
theorem xs_165_8 : xe_P d 165 8 ls [.int x] h Q = Q (some (.int x)) h := xe_P_ireturn (by decide +kernel) rfl
theorem xs_165_9 : xe_P d 165 9 [.ref a, l1, l2, l3] st h Q = xe_P d 165 10 [.ref a, l1, l2, l3] (.ref a :: st) h Q := xe_P_lo (ins := .aload_n 0) (len := 1) (by decide +kernel) rfl rfl
theorem xs_165_10 : xe_P d 165 10 [l0, .int x, l2, l3] st h Q = xe_P d 165 11 [l0, .int x, l2, l3] (.int x :: st) h Q := xe_P_lo (ins := .iload_n 1) (len := 1) (by decide +kernel) rfl rfl
theorem xs_165_11 : xe_P d 165 11 ls (v0 :: .ref a :: st) h Q = ((xe_w st ≤ 8 ∧ xe_ob h a 7) ∧ xe_C d 163 [.ref a, v0] h (fun r h' => xe_P d 165 14 ls (r.toList ++ st) h' Q)) := xe_P_ivv (y := 165) (pc := 11) (z := 163) (i := 245) (vs := [v0]) (by decide +kernel) (by decide +kernel) rfl (by decide +kernel)
theorem xs_165_14 : xe_P d 165 14 [l0, l1, l2, l3] (.int x :: st) h Q = xe_P d 165 15 [l0, l1, xe_cut l2, .int x] st h Q := xe_P_lo (ins := .istore_n 3) (len := 1) (by decide +kernel) rfl rfl
theorem xs_165_15 : xe_P d 165 15 [l0, l1, .int x, l3] st h Q = xe_P d 165 16 [l0, l1, .int x, l3] (.int x :: st) h Q := xe_P_lo (ins := .iload_n 2) (len := 1) (by decide +kernel) rfl rfl
theorem xs_165_16 : xe_P d 165 16 ls (.int x :: st) h Q = (if x = 0 then xe_P d 165 19 ls st h Q else xe_P d 165 23 ls st h Q) := xe_P_ifn (ins := .ifCond .ne 7) (len := 3) (off := 7) (by decide +kernel) (by decide) rfl rfl rfl
theorem xs_165_19 : xe_P d 165 19 [l0, l1, l2, .int x] st h Q = xe_P d 165 20 [l0, l1, l2, .int x] (.int x :: st) h Q := xe_P_lo (ins := .iload_n 3) (len := 1) (by decide +kernel) rfl rfl
theorem xs_165_20 : xe_P d 165 20 ls st h Q = xe_P d 165 49 ls st h Q := xe_P_go (len := 3) (off := 29) (by decide +kernel) (by decide)
theorem xs_165_23 : xe_P d 165 23 [l0, l1, .int x, l3] st h Q = xe_P d 165 24 [l0, l1, .int x, l3] (.int x :: st) h Q := xe_P_lo (ins := .iload_n 2) (len := 1) (by decide +kernel) rfl rfl
theorem xs_165_24 : xe_P d 165 24 ls st h Q = xe_P d 165 26 ls (.int 10 :: st) h Q := xe_P_ar (ins := .bipush 10) (len := 2) (by decide +kernel) rfl
theorem xs_165_26 : xe_P d 165 26 ls (.int v :: .int x :: st) h Q = xe_P d 165 27 ls (.int (x - v) :: st) h Q := xe_P_ar (ins := .isub) (len := 1) (by decide +kernel) rfl
theorem xs_165_27 : xe_P d 165 27 [l0, l1, l2, .int x] st h Q = xe_P d 165 28 [l0, l1, l2, .int x] (.int x :: st) h Q := xe_P_lo (ins := .iload_n 3) (len := 1) (by decide +kernel) rfl rfl
theorem xs_165_28 : xe_P d 165 28 ls (.int v :: .int x :: st) h Q = (if v ≤ x then xe_P d 165 47 ls st h Q else xe_P d 165 31 ls st h Q) := xe_P_if (ins := .if_icmp .ge 19) (len := 3) (off := 19) (by decide +kernel) (by decide) rfl rfl rfl
theorem xs_165_31 : xe_P d 165 31 [.ref a, l1, l2, l3] st h Q = xe_P d 165 32 [.ref a, l1, l2, l3] (.ref a :: st) h Q := xe_P_lo (ins := .aload_n 0) (len := 1) (by decide +kernel) rfl rfl
theorem xs_165_32 : xe_P d 165 32 ls (.ref a :: st) h Q = (xe_ob h a 7 ∧ xe_P d 165 35 ls (va_rf (xe_R h a 26) :: st) h Q) := xe_P_getR (i := 45) (by decide +kernel) (by decide +kernel) (by decide) rfl
theorem xs_165_35 : xe_P d 165 35 [l0, l1, l2, .int x] st h Q = xe_P d 165 36 [l0, l1, l2, .int x] (.int x :: st) h Q := xe_P_lo (ins := .iload_n 3) (len := 1) (by decide +kernel) rfl rfl
theorem xs_165_36 : xe_P d 165 36 ls st h Q = xe_P d 165 37 ls (.int 1 :: st) h Q := xe_P_ar (ins := .iconst 1) (len := 1) (by decide +kernel) rfl
theorem xs_165_37 : xe_P d 165 37 ls (.int v :: .int x :: st) h Q = xe_P d 165 38 ls (.int (x - v) :: st) h Q := xe_P_ar (ins := .isub) (len := 1) (by decide +kernel) rfl
theorem xs_165_38 : xe_P d 165 38 [l0, l1, .int x, l3] st h Q = xe_P d 165 39 [l0, l1, .int x, l3] (.int x :: st) h Q := xe_P_lo (ins := .iload_n 2) (len := 1) (by decide +kernel) rfl rfl
theorem xs_165_39 : xe_P d 165 39 ls st h Q = xe_P d 165 41 ls (.int 10 :: st) h Q := xe_P_ar (ins := .bipush 10) (len := 2) (by decide +kernel) rfl
theorem xs_165_41 : xe_P d 165 41 ls (.int v :: .int x :: st) h Q = xe_P d 165 42 ls (.int (x - v) :: st) h Q := xe_P_ar (ins := .isub) (len := 1) (by decide +kernel) rfl
theorem xs_165_42 : xe_P d 165 42 ls (.int v :: .int x :: st) h Q = xe_P d 165 43 ls (.int (x - v) :: st) h Q := xe_P_ar (ins := .isub) (len := 1) (by decide +kernel) rfl
theorem xs_165_43 : xe_P d 165 43 ls (.int v :: .ref a :: st) h Q = ((xe_ia h a ∧ xe_ix h a v) ∧ xe_P d 165 44 ls (.int (xe_I h a v.toNatClampNeg) :: st) h Q) := xe_P_iald (by decide +kernel)
theorem xs_165_44 : xe_P d 165 44 ls st h Q = xe_P d 165 49 ls st h Q := xe_P_go (len := 3) (off := 5) (by decide +kernel) (by decide)
theorem xs_165_47 : xe_P d 165 47 ls st h Q = xe_P d 165 49 ls (.int (-4) :: st) h Q := xe_P_ar (ins := .bipush (-4)) (len := 2) (by decide +kernel) rfl
theorem xs_165_49 : xe_P d 165 49 ls [.int x] h Q = Q (some (.int x)) h := xe_P_ireturn (by decide +kernel) rfl
theorem xs_165 : xe_C (d + 1) 165 [.ref a, .int x0, .int x1] h Q = xe_P d 165 0 [.ref a, .int x0, .int x1, .retAddr 0] [] h Q := xe_C_at (Nat.le_of_ble_eq_true rfl) rfl
theorem xs_166_0 : xe_P d 166 0 [.ref a, l1, l2] st h Q = xe_P d 166 1 [.ref a, l1, l2] (.ref a :: st) h Q := xe_P_lo (ins := .aload_n 0) (len := 1) (by decide +kernel) rfl rfl
theorem xs_166_1 : xe_P d 166 1 [l0, .int x, l2] st h Q = xe_P d 166 2 [l0, .int x, l2] (.int x :: st) h Q := xe_P_lo (ins := .iload_n 1) (len := 1) (by decide +kernel) rfl rfl
theorem xs_166_2 : xe_P d 166 2 ls (v0 :: .ref a :: st) h Q = ((xe_w st ≤ 8 ∧ xe_ob h a 7) ∧ xe_C d 138 [.ref a, v0] h (fun r h' => xe_P d 166 5 ls (r.toList ++ st) h' Q)) := xe_P_ivv (y := 166) (pc := 2) (z := 138) (i := 184) (vs := [v0]) (by decide +kernel) (by decide +kernel) rfl (by decide +kernel)
theorem xs_166_5 : xe_P d 166 5 ls (.int x :: st) h Q = (if x = 0 then xe_P d 166 18 ls st h Q else xe_P d 166 8 ls st h Q) := xe_P_if (ins := .ifCond .eq 13) (len := 3) (off := 13) (by decide +kernel) (by decide) rfl rfl rfl
theorem xs_166_8 : xe_P d 166 8 [l0, l1, .int x] st h Q = xe_P d 166 9 [l0, l1, .int x] (.int x :: st) h Q := xe_P_lo (ins := .iload_n 2) (len := 1) (by decide +kernel) rfl rfl
theorem xs_166_9 : xe_P d 166 9 ls (.int x :: st) h Q = (if x = 0 then xe_P d 166 20 ls st h Q else xe_P d 166 12 ls st h Q) := xe_P_if (ins := .ifCond .eq 11) (len := 3) (off := 11) (by decide +kernel) (by decide) rfl rfl rfl
theorem xs_166_12 : xe_P d 166 12 [l0, l1, .int x] st h Q = xe_P d 166 13 [l0, l1, .int x] (.int x :: st) h Q := xe_P_lo (ins := .iload_n 2) (len := 1) (by decide +kernel) rfl rfl
theorem xs_166_13 : xe_P d 166 13 ls st h Q = xe_P d 166 15 ls (.int 10 :: st) h Q := xe_P_ar (ins := .bipush 10) (len := 2) (by decide +kernel) rfl
theorem xs_166_15 : xe_P d 166 15 ls (.int v :: .int x :: st) h Q = (if v ≤ x then xe_P d 166 20 ls st h Q else xe_P d 166 18 ls st h Q) := xe_P_if (ins := .if_icmp .ge 5) (len := 3) (off := 5) (by decide +kernel) (by decide) rfl rfl rfl
theorem xs_166_18 : xe_P d 166 18 ls st h Q = xe_P d 166 19 ls (.int (-1) :: st) h Q := xe_P_ar (ins := .iconst (-1)) (len := 1) (by decide +kernel) rfl
theorem xs_166_19 : xe_P d 166 19 ls [.int x] h Q = Q (some (.int x)) h := xe_P_ireturn (by decide +kernel) rfl
theorem xs_166_20 : xe_P d 166 20 [.ref a, l1, l2] st h Q = xe_P d 166 21 [.ref a, l1, l2] (.ref a :: st) h Q := xe_P_lo (ins := .aload_n 0) (len := 1) (by decide +kernel) rfl rfl
theorem xs_166_21 : xe_P d 166 21 [.ref a, l1, l2] st h Q = xe_P d 166 22 [.ref a, l1, l2] (.ref a :: st) h Q := xe_P_lo (ins := .aload_n 0) (len := 1) (by decide +kernel) rfl rfl
theorem xs_166_22 : xe_P d 166 22 [l0, .int x, l2] st h Q = xe_P d 166 23 [l0, .int x, l2] (.int x :: st) h Q := xe_P_lo (ins := .iload_n 1) (len := 1) (by decide +kernel) rfl rfl
theorem xs_166_23 : xe_P d 166 23 [.ref a, l1, l2] st h Q = xe_P d 166 24 [.ref a, l1, l2] (.ref a :: st) h Q := xe_P_lo (ins := .aload_n 0) (len := 1) (by decide +kernel) rfl rfl
theorem xs_166_24 : xe_P d 166 24 [l0, .int x, l2] st h Q = xe_P d 166 25 [l0, .int x, l2] (.int x :: st) h Q := xe_P_lo (ins := .iload_n 1) (len := 1) (by decide +kernel) rfl rfl
theorem xs_166_25 : xe_P d 166 25 ls (v0 :: .ref a :: st) h Q = ((xe_w st ≤ 8 ∧ xe_ob h a 7) ∧ xe_C d 141 [.ref a, v0] h (fun r h' => xe_P d 166 28 ls (r.toList ++ st) h' Q)) := xe_P_ivv (y := 166) (pc := 25) (z := 141) (i := 215) (vs := [v0]) (by decide +kernel) (by decide +kernel) rfl (by decide +kernel)
theorem xs_166_28 : xe_P d 166 28 ls (v1 :: v0 :: .ref a :: st) h Q = ((xe_w st ≤ 8 ∧ xe_ob h a 7) ∧ xe_C d 164 [.ref a, v0, v1] h (fun r h' => xe_P d 166 31 ls (r.toList ++ st) h' Q)) := xe_P_ivv (y := 166) (pc := 28) (z := 164) (i := 248) (vs := [v1, v0]) (by decide +kernel) (by decide +kernel) rfl (by decide +kernel)
theorem xs_166_31 : xe_P d 166 31 [l0, l1, .int x] st h Q = xe_P d 166 32 [l0, l1, .int x] (.int x :: st) h Q := xe_P_lo (ins := .iload_n 2) (len := 1) (by decide +kernel) rfl rfl
theorem xs_166_32 : xe_P d 166 32 ls (v1 :: v0 :: .ref a :: st) h Q = ((xe_w st ≤ 8 ∧ xe_ob h a 7) ∧ xe_C d 165 [.ref a, v0, v1] h (fun r h' => xe_P d 166 35 ls (r.toList ++ st) h' Q)) := xe_P_ivv (y := 166) (pc := 32) (z := 165) (i := 251) (vs := [v1, v0]) (by decide +kernel) (by decide +kernel) rfl (by decide +kernel)
theorem xs_166_35 : xe_P d 166 35 ls [.int x] h Q = Q (some (.int x)) h := xe_P_ireturn (by decide +kernel) rfl
theorem xs_166 : xe_C (d + 1) 166 [.ref a, .int x0, .int x1] h Q = xe_P d 166 0 [.ref a, .int x0, .int x1] [] h Q := xe_C_at (Nat.le_of_ble_eq_true rfl) rfl
theorem xs_167_0 : xe_P d 167 0 [.ref a, l1, l2, l3] st h Q = xe_P d 167 1 [.ref a, l1, l2, l3] (.ref a :: st) h Q := xe_P_lo (ins := .aload_n 0) (len := 1) (by decide +kernel) rfl rfl
theorem xs_167_1 : xe_P d 167 1 [l0, .int x, l2, l3] st h Q = xe_P d 167 2 [l0, .int x, l2, l3] (.int x :: st) h Q := xe_P_lo (ins := .iload_n 1) (len := 1) (by decide +kernel) rfl rfl
theorem xs_167_2 : xe_P d 167 2 ls (v0 :: .ref a :: st) h Q = ((xe_w st ≤ 8 ∧ xe_ob h a 7) ∧ xe_C d 138 [.ref a, v0] h (fun r h' => xe_P d 167 5 ls (r.toList ++ st) h' Q)) := xe_P_ivv (y := 167) (pc := 2) (z := 138) (i := 184) (vs := [v0]) (by decide +kernel) (by decide +kernel) rfl (by decide +kernel)
theorem xs_167_5 : xe_P d 167 5 ls (.int x :: st) h Q = (if x = 0 then xe_P d 167 8 ls st h Q else xe_P d 167 10 ls st h Q) := xe_P_ifn (ins := .ifCond .ne 5) (len := 3) (off := 5) (by decide +kernel) (by decide) rfl rfl rfl
theorem xs_167_8 : xe_P d 167 8 ls st h Q = xe_P d 167 9 ls (.int (-1) :: st) h Q := xe_P_ar (ins := .iconst (-1)) (len := 1) (by decide +kernel) rfl
theorem xs_167_9 : xe_P d 167 9 ls [.int x] h Q = Q (some (.int x)) h := xe_P_ireturn (by decide +kernel) rfl
theorem xs_167_10 : xe_P d 167 10 [.ref a, l1, l2, l3] st h Q = xe_P d 167 11 [.ref a, l1, l2, l3] (.ref a :: st) h Q := xe_P_lo (ins := .aload_n 0) (len := 1) (by decide +kernel) rfl rfl
theorem xs_167_11 : xe_P d 167 11 [l0, .int x, l2, l3] st h Q = xe_P d 167 12 [l0, .int x, l2, l3] (.int x :: st) h Q := xe_P_lo (ins := .iload_n 1) (len := 1) (by decide +kernel) rfl rfl
theorem xs_167_12 : xe_P d 167 12 ls st h Q = xe_P d 167 14 ls (.int (-4) :: st) h Q := xe_P_ar (ins := .bipush (-4)) (len := 2) (by decide +kernel) rfl
theorem xs_167_14 : xe_P d 167 14 ls (v1 :: v0 :: .ref a :: st) h Q = ((xe_w st ≤ 8 ∧ xe_ob h a 7) ∧ xe_C d 164 [.ref a, v0, v1] h (fun r h' => xe_P d 167 17 ls (r.toList ++ st) h' Q)) := xe_P_ivv (y := 167) (pc := 14) (z := 164) (i := 248) (vs := [v1, v0]) (by decide +kernel) (by decide +kernel) rfl (by decide +kernel)
theorem xs_167_17 : xe_P d 167 17 ls (.int x :: st) h Q = xe_P d 167 18 ls st h Q := xe_P_ar (ins := .pop) (len := 1) (by decide +kernel) rfl
theorem xs_167_18 : xe_P d 167 18 ls st h Q = xe_P d 167 19 ls (.int 0 :: st) h Q := xe_P_ar (ins := .iconst 0) (len := 1) (by decide +kernel) rfl
theorem xs_167_19 : xe_P d 167 19 [l0, l1, l2, l3] (.int x :: st) h Q = xe_P d 167 20 [l0, xe_cut l1, .int x, l3] st h Q := xe_P_lo (ins := .istore_n 2) (len := 1) (by decide +kernel) rfl rfl
theorem xs_167_20 : xe_P d 167 20 ls st h Q = xe_P d 167 21 ls (.int 0 :: st) h Q := xe_P_ar (ins := .iconst 0) (len := 1) (by decide +kernel) rfl
theorem xs_167_21 : xe_P d 167 21 [l0, l1, l2, l3] (.int x :: st) h Q = xe_P d 167 22 [l0, l1, xe_cut l2, .int x] st h Q := xe_P_lo (ins := .istore_n 3) (len := 1) (by decide +kernel) rfl rfl
theorem xs_167_22 : xe_P d 167 22 [l0, l1, l2, .int x] st h Q = xe_P d 167 23 [l0, l1, l2, .int x] (.int x :: st) h Q := xe_P_lo (ins := .iload_n 3) (len := 1) (by decide +kernel) rfl rfl
theorem xs_167_23 : xe_P d 167 23 [.ref a, l1, l2, l3] st h Q = xe_P d 167 24 [.ref a, l1, l2, l3] (.ref a :: st) h Q := xe_P_lo (ins := .aload_n 0) (len := 1) (by decide +kernel) rfl rfl
theorem xs_167_24 : xe_P d 167 24 ls (.ref a :: st) h Q = (xe_ob h a 7 ∧ xe_P d 167 27 ls (.int (xe_I h a 25) :: st) h Q) := xe_P_getI (i := 229) (by decide +kernel) (by decide +kernel) (by decide) rfl
theorem xs_167_27 : xe_P d 167 27 ls (.int v :: .int x :: st) h Q = (if v ≤ x then xe_P d 167 51 ls st h Q else xe_P d 167 30 ls st h Q) := xe_P_if (ins := .if_icmp .ge 24) (len := 3) (off := 24) (by decide +kernel) (by decide) rfl rfl rfl
theorem xs_167_30 : xe_P d 167 30 [l0, l1, .int x, l3] st h Q = xe_P d 167 31 [l0, l1, .int x, l3] (.int x :: st) h Q := xe_P_lo (ins := .iload_n 2) (len := 1) (by decide +kernel) rfl rfl
theorem xs_167_31 : xe_P d 167 31 ls st h Q = xe_P d 167 32 ls (.int 1 :: st) h Q := xe_P_ar (ins := .iconst 1) (len := 1) (by decide +kernel) rfl
theorem xs_167_32 : xe_P d 167 32 [.ref a, l1, l2, l3] st h Q = xe_P d 167 33 [.ref a, l1, l2, l3] (.ref a :: st) h Q := xe_P_lo (ins := .aload_n 0) (len := 1) (by decide +kernel) rfl rfl
theorem xs_167_33 : xe_P d 167 33 ls (.ref a :: st) h Q = (xe_ob h a 7 ∧ xe_P d 167 36 ls (va_rf (xe_R h a 24) :: st) h Q) := xe_P_getR (i := 42) (by decide +kernel) (by decide +kernel) (by decide) rfl
theorem xs_167_36 : xe_P d 167 36 [l0, l1, l2, .int x] st h Q = xe_P d 167 37 [l0, l1, l2, .int x] (.int x :: st) h Q := xe_P_lo (ins := .iload_n 3) (len := 1) (by decide +kernel) rfl rfl
theorem xs_167_37 : xe_P d 167 37 ls (.int v :: .ref a :: st) h Q = ((xe_ia h a ∧ xe_ix h a v) ∧ xe_P d 167 38 ls (.int (xe_I h a v.toNatClampNeg) :: st) h Q) := xe_P_iald (by decide +kernel)
theorem xs_167_38 : xe_P d 167 38 ls st h Q = xe_P d 167 41 ls (.int 4096 :: st) h Q := xe_P_ar (ins := .sipush 4096) (len := 3) (by decide +kernel) rfl
theorem xs_167_41 : xe_P d 167 41 ls (.int v :: .int x :: st) h Q = (¬ v = 0 ∧ xe_P d 167 42 ls (.int (x / v) :: st) h Q) := xe_P_div (by decide +kernel)
theorem xs_167_42 : xe_P d 167 42 ls (.int v :: .int x :: st) h Q = xe_P d 167 43 ls (.int (x <<< (v &&& 31)) :: st) h Q := xe_P_ar (ins := .ishl) (len := 1) (by decide +kernel) rfl
theorem xs_167_43 : xe_P d 167 43 ls (.int v :: .int x :: st) h Q = xe_P d 167 44 ls (.int (x ||| v) :: st) h Q := xe_P_ar (ins := .ior) (len := 1) (by decide +kernel) rfl
theorem xs_167_44 : xe_P d 167 44 [l0, l1, l2, l3] (.int x :: st) h Q = xe_P d 167 45 [l0, xe_cut l1, .int x, l3] st h Q := xe_P_lo (ins := .istore_n 2) (len := 1) (by decide +kernel) rfl rfl
theorem xs_167_45 : xe_P d 167 45 [l0, l1, l2, .int x] st h Q = xe_P d 167 48 [l0, l1, xe_cut l2, .int (x + 1)] st h Q := xe_P_lo (ins := .iinc 3 1) (len := 3) (by decide +kernel) rfl rfl
theorem xs_167_48 : xe_P d 167 48 ls st h Q = xe_P d 167 22 ls st h Q := xe_P_go (len := 3) (off := (-26)) (by decide +kernel) (by decide)
theorem xs_167_51 : xe_P d 167 51 [l0, l1, .int x, l3] st h Q = xe_P d 167 52 [l0, l1, .int x, l3] (.int x :: st) h Q := xe_P_lo (ins := .iload_n 2) (len := 1) (by decide +kernel) rfl rfl
theorem xs_167_52 : xe_P d 167 52 ls [.int x] h Q = Q (some (.int x)) h := xe_P_ireturn (by decide +kernel) rfl
theorem xs_167 : xe_C (d + 1) 167 [.ref a, .int x0] h Q = xe_P d 167 0 [.ref a, .int x0, .retAddr 0, .retAddr 0] [] h Q := xe_C_at (Nat.le_of_ble_eq_true rfl) rfl
theorem xs_168_0 : xe_P d 168 0 [.ref a, l1, l2, l3, l4, l5, l6, l7, l8, l9, l10, l11] st h Q = xe_P d 168 1 [.ref a, l1, l2, l3, l4, l5, l6, l7, l8, l9, l10, l11] (.ref a :: st) h Q := xe_P_lo (ins := .aload_n 0) (len := 1) (by decide +kernel) rfl rfl
theorem xs_168_1 : xe_P d 168 1 [l0, .int x, l2, l3, l4, l5, l6, l7, l8, l9, l10, l11] st h Q = xe_P d 168 2 [l0, .int x, l2, l3, l4, l5, l6, l7, l8, l9, l10, l11] (.int x :: st) h Q := xe_P_lo (ins := .iload_n 1) (len := 1) (by decide +kernel) rfl rfl
theorem xs_168_2 : xe_P d 168 2 [l0, l1, .int x, l3, l4, l5, l6, l7, l8, l9, l10, l11] st h Q = xe_P d 168 3 [l0, l1, .int x, l3, l4, l5, l6, l7, l8, l9, l10, l11] (.int x :: st) h Q := xe_P_lo (ins := .iload_n 2) (len := 1) (by decide +kernel) rfl rfl
theorem xs_168_3 : xe_P d 168 3 ls (v1 :: v0 :: .ref a :: st) h Q = ((xe_w st ≤ 8 ∧ xe_ob h a 7) ∧ xe_C d 139 [.ref a, v0, v1] h (fun r h' => xe_P d 168 6 ls (r.toList ++ st) h' Q)) := xe_P_ivv (y := 168) (pc := 3) (z := 139) (i := 254) (vs := [v1, v0]) (by decide +kernel) (by decide +kernel) rfl (by decide +kernel)
theorem xs_168_6 : xe_P d 168 6 ls (.int x :: st) h Q = (if x = 0 then xe_P d 168 19 ls st h Q else xe_P d 168 9 ls st h Q) := xe_P_if (ins := .ifCond .eq 13) (len := 3) (off := 13) (by decide +kernel) (by decide) rfl rfl rfl
theorem xs_168_9 : xe_P d 168 9 [l0, l1, l2, .int x, l4, l5, l6, l7, l8, l9, l10, l11] st h Q = xe_P d 168 10 [l0, l1, l2, .int x, l4, l5, l6, l7, l8, l9, l10, l11] (.int x :: st) h Q := xe_P_lo (ins := .iload_n 3) (len := 1) (by decide +kernel) rfl rfl
theorem xs_168_10 : xe_P d 168 10 ls (.int x :: st) h Q = (if x = 0 then xe_P d 168 21 ls st h Q else xe_P d 168 13 ls st h Q) := xe_P_if (ins := .ifCond .eq 11) (len := 3) (off := 11) (by decide +kernel) (by decide) rfl rfl rfl
theorem xs_168_13 : xe_P d 168 13 [l0, l1, l2, .int x, l4, l5, l6, l7, l8, l9, l10, l11] st h Q = xe_P d 168 14 [l0, l1, l2, .int x, l4, l5, l6, l7, l8, l9, l10, l11] (.int x :: st) h Q := xe_P_lo (ins := .iload_n 3) (len := 1) (by decide +kernel) rfl rfl
theorem xs_168_14 : xe_P d 168 14 ls st h Q = xe_P d 168 16 ls (.int 10 :: st) h Q := xe_P_ar (ins := .bipush 10) (len := 2) (by decide +kernel) rfl
theorem xs_168_16 : xe_P d 168 16 ls (.int v :: .int x :: st) h Q = (if v ≤ x then xe_P d 168 21 ls st h Q else xe_P d 168 19 ls st h Q) := xe_P_if (ins := .if_icmp .ge 5) (len := 3) (off := 5) (by decide +kernel) (by decide) rfl rfl rfl
theorem xs_168_19 : xe_P d 168 19 ls st h Q = xe_P d 168 20 ls (.int (-1) :: st) h Q := xe_P_ar (ins := .iconst (-1)) (len := 1) (by decide +kernel) rfl
theorem xs_168_20 : xe_P d 168 20 ls [.int x] h Q = Q (some (.int x)) h := xe_P_ireturn (by decide +kernel) rfl
theorem xs_168_21 : xe_P d 168 21 [l0, .int x, l2, l3, l4, l5, l6, l7, l8, l9, l10, l11] st h Q = xe_P d 168 22 [l0, .int x, l2, l3, l4, l5, l6, l7, l8, l9, l10, l11] (.int x :: st) h Q := xe_P_lo (ins := .iload_n 1) (len := 1) (by decide +kernel) rfl rfl
theorem xs_168_22 : xe_P d 168 22 [l0, l1, .int x, l3, l4, l5, l6, l7, l8, l9, l10, l11] st h Q = xe_P d 168 23 [l0, l1, .int x, l3, l4, l5, l6, l7, l8, l9, l10, l11] (.int x :: st) h Q := xe_P_lo (ins := .iload_n 2) (len := 1) (by decide +kernel) rfl rfl
theorem xs_168_23 : xe_P d 168 23 ls (.int v :: .int x :: st) h Q = (if v ≤ x then xe_P d 168 30 ls st h Q else xe_P d 168 26 ls st h Q) := xe_P_if (ins := .if_icmp .ge 7) (len := 3) (off := 7) (by decide +kernel) (by decide) rfl rfl rfl
theorem xs_168_26 : xe_P d 168 26 [l0, .int x, l2, l3, l4, l5, l6, l7, l8, l9, l10, l11] st h Q = xe_P d 168 27 [l0, .int x, l2, l3, l4, l5, l6, l7, l8, l9, l10, l11] (.int x :: st) h Q := xe_P_lo (ins := .iload_n 1) (len := 1) (by decide +kernel) rfl rfl
theorem xs_168_27 : xe_P d 168 27 ls st h Q = xe_P d 168 31 ls st h Q := xe_P_go (len := 3) (off := 4) (by decide +kernel) (by decide)
theorem xs_168_30 : xe_P d 168 30 [l0, l1, .int x, l3, l4, l5, l6, l7, l8, l9, l10, l11] st h Q = xe_P d 168 31 [l0, l1, .int x, l3, l4, l5, l6, l7, l8, l9, l10, l11] (.int x :: st) h Q := xe_P_lo (ins := .iload_n 2) (len := 1) (by decide +kernel) rfl rfl
theorem xs_168_31 : xe_P d 168 31 [l0, l1, l2, l3, l4, l5, l6, l7, l8, l9, l10, l11] (.int x :: st) h Q = xe_P d 168 33 [l0, l1, l2, xe_cut l3, .int x, l5, l6, l7, l8, l9, l10, l11] st h Q := xe_P_lo (ins := .istore 4) (len := 2) (by decide +kernel) rfl rfl
theorem xs_168_33 : xe_P d 168 33 [l0, .int x, l2, l3, l4, l5, l6, l7, l8, l9, l10, l11] st h Q = xe_P d 168 34 [l0, .int x, l2, l3, l4, l5, l6, l7, l8, l9, l10, l11] (.int x :: st) h Q := xe_P_lo (ins := .iload_n 1) (len := 1) (by decide +kernel) rfl rfl
theorem xs_168_34 : xe_P d 168 34 [l0, l1, .int x, l3, l4, l5, l6, l7, l8, l9, l10, l11] st h Q = xe_P d 168 35 [l0, l1, .int x, l3, l4, l5, l6, l7, l8, l9, l10, l11] (.int x :: st) h Q := xe_P_lo (ins := .iload_n 2) (len := 1) (by decide +kernel) rfl rfl
theorem xs_168_35 : xe_P d 168 35 ls (.int v :: .int x :: st) h Q = (if v ≤ x then xe_P d 168 42 ls st h Q else xe_P d 168 38 ls st h Q) := xe_P_if (ins := .if_icmp .ge 7) (len := 3) (off := 7) (by decide +kernel) (by decide) rfl rfl rfl
theorem xs_168_38 : xe_P d 168 38 [l0, l1, .int x, l3, l4, l5, l6, l7, l8, l9, l10, l11] st h Q = xe_P d 168 39 [l0, l1, .int x, l3, l4, l5, l6, l7, l8, l9, l10, l11] (.int x :: st) h Q := xe_P_lo (ins := .iload_n 2) (len := 1) (by decide +kernel) rfl rfl
theorem xs_168_39 : xe_P d 168 39 ls st h Q = xe_P d 168 43 ls st h Q := xe_P_go (len := 3) (off := 4) (by decide +kernel) (by decide)
theorem xs_168_42 : xe_P d 168 42 [l0, .int x, l2, l3, l4, l5, l6, l7, l8, l9, l10, l11] st h Q = xe_P d 168 43 [l0, .int x, l2, l3, l4, l5, l6, l7, l8, l9, l10, l11] (.int x :: st) h Q := xe_P_lo (ins := .iload_n 1) (len := 1) (by decide +kernel) rfl rfl
theorem xs_168_43 : xe_P d 168 43 [l0, l1, l2, l3, l4, l5, l6, l7, l8, l9, l10, l11] (.int x :: st) h Q = xe_P d 168 45 [l0, l1, l2, l3, xe_cut l4, .int x, l6, l7, l8, l9, l10, l11] st h Q := xe_P_lo (ins := .istore 5) (len := 2) (by decide +kernel) rfl rfl
theorem xs_168_45 : xe_P d 168 45 [.ref a, l1, l2, l3, l4, l5, l6, l7, l8, l9, l10, l11] st h Q = xe_P d 168 46 [.ref a, l1, l2, l3, l4, l5, l6, l7, l8, l9, l10, l11] (.ref a :: st) h Q := xe_P_lo (ins := .aload_n 0) (len := 1) (by decide +kernel) rfl rfl
theorem xs_168_46 : xe_P d 168 46 ls (.ref a :: st) h Q = ((xe_w st ≤ 8 ∧ xe_ob h a 7) ∧ xe_C d 145 [.ref a] h (fun r h' => xe_P d 168 49 ls (r.toList ++ st) h' Q)) := xe_P_ivv (y := 168) (pc := 46) (z := 145) (i := 209) (vs := []) (by decide +kernel) (by decide +kernel) rfl (by decide +kernel)
theorem xs_168_49 : xe_P d 168 49 [.ref a, l1, l2, l3, l4, l5, l6, l7, l8, l9, l10, l11] st h Q = xe_P d 168 50 [.ref a, l1, l2, l3, l4, l5, l6, l7, l8, l9, l10, l11] (.ref a :: st) h Q := xe_P_lo (ins := .aload_n 0) (len := 1) (by decide +kernel) rfl rfl
theorem xs_168_50 : xe_P d 168 50 ls st h Q = xe_P d 168 53 ls (.int 4096 :: st) h Q := xe_P_ar (ins := .sipush 4096) (len := 3) (by decide +kernel) rfl
theorem xs_168_53 : xe_P d 168 53 ls st h Q = xe_P d 168 54 ls (.int 5 :: st) h Q := xe_P_ar (ins := .iconst 5) (len := 1) (by decide +kernel) rfl
theorem xs_168_54 : xe_P d 168 54 [.ref a, l1, l2, l3, l4, l5, l6, l7, l8, l9, l10, l11] st h Q = xe_P d 168 55 [.ref a, l1, l2, l3, l4, l5, l6, l7, l8, l9, l10, l11] (.ref a :: st) h Q := xe_P_lo (ins := .aload_n 0) (len := 1) (by decide +kernel) rfl rfl
theorem xs_168_55 : xe_P d 168 55 [l0, l1, l2, l3, .int x, l5, l6, l7, l8, l9, l10, l11] st h Q = xe_P d 168 57 [l0, l1, l2, l3, .int x, l5, l6, l7, l8, l9, l10, l11] (.int x :: st) h Q := xe_P_lo (ins := .iload 4) (len := 2) (by decide +kernel) rfl rfl
theorem xs_168_57 : xe_P d 168 57 ls (v0 :: .ref a :: st) h Q = ((xe_w st ≤ 8 ∧ xe_ob h a 7) ∧ xe_C d 140 [.ref a, v0] h (fun r h' => xe_P d 168 60 ls (r.toList ++ st) h' Q)) := xe_P_ivv (y := 168) (pc := 57) (z := 140) (i := 212) (vs := [v0]) (by decide +kernel) (by decide +kernel) rfl (by decide +kernel)
theorem xs_168_60 : xe_P d 168 60 ls (.int v :: .int x :: st) h Q = xe_P d 168 61 ls (.int (x * v) :: st) h Q := xe_P_ar (ins := .imul) (len := 1) (by decide +kernel) rfl
theorem xs_168_61 : xe_P d 168 61 [.ref a, l1, l2, l3, l4, l5, l6, l7, l8, l9, l10, l11] st h Q = xe_P d 168 62 [.ref a, l1, l2, l3, l4, l5, l6, l7, l8, l9, l10, l11] (.ref a :: st) h Q := xe_P_lo (ins := .aload_n 0) (len := 1) (by decide +kernel) rfl rfl
theorem xs_168_62 : xe_P d 168 62 [l0, l1, l2, l3, l4, .int x, l6, l7, l8, l9, l10, l11] st h Q = xe_P d 168 64 [l0, l1, l2, l3, l4, .int x, l6, l7, l8, l9, l10, l11] (.int x :: st) h Q := xe_P_lo (ins := .iload 5) (len := 2) (by decide +kernel) rfl rfl
theorem xs_168_64 : xe_P d 168 64 ls (v0 :: .ref a :: st) h Q = ((xe_w st ≤ 8 ∧ xe_ob h a 7) ∧ xe_C d 140 [.ref a, v0] h (fun r h' => xe_P d 168 67 ls (r.toList ++ st) h' Q)) := xe_P_ivv (y := 168) (pc := 64) (z := 140) (i := 212) (vs := [v0]) (by decide +kernel) (by decide +kernel) rfl (by decide +kernel)
theorem xs_168_67 : xe_P d 168 67 ls (.int v :: .int x :: st) h Q = xe_P d 168 68 ls (.int (x + v) :: st) h Q := xe_P_ar (ins := .iadd) (len := 1) (by decide +kernel) rfl
theorem xs_168_68 : xe_P d 168 68 ls (.int v :: .int x :: st) h Q = xe_P d 168 69 ls (.int (x * v) :: st) h Q := xe_P_ar (ins := .imul) (len := 1) (by decide +kernel) rfl
theorem xs_168_69 : xe_P d 168 69 [.ref a, l1, l2, l3, l4, l5, l6, l7, l8, l9, l10, l11] st h Q = xe_P d 168 70 [.ref a, l1, l2, l3, l4, l5, l6, l7, l8, l9, l10, l11] (.ref a :: st) h Q := xe_P_lo (ins := .aload_n 0) (len := 1) (by decide +kernel) rfl rfl
theorem xs_168_70 : xe_P d 168 70 ls (.ref a :: st) h Q = ((xe_w st ≤ 8 ∧ xe_ob h a 7) ∧ xe_C d 147 [.ref a] h (fun r h' => xe_P d 168 73 ls (r.toList ++ st) h' Q)) := xe_P_ivv (y := 168) (pc := 70) (z := 147) (i := 232) (vs := []) (by decide +kernel) (by decide +kernel) rfl (by decide +kernel)
theorem xs_168_73 : xe_P d 168 73 ls (.int v :: .int x :: st) h Q = xe_P d 168 74 ls (.int (x + v) :: st) h Q := xe_P_ar (ins := .iadd) (len := 1) (by decide +kernel) rfl
theorem xs_168_74 : xe_P d 168 74 ls (v0 :: .ref a :: st) h Q = ((xe_w st ≤ 8 ∧ xe_ob h a 7) ∧ xe_C d 161 [.ref a, v0] h (fun r h' => xe_P d 168 77 ls (r.toList ++ st) h' Q)) := xe_P_ivv (y := 168) (pc := 74) (z := 161) (i := 235) (vs := [v0]) (by decide +kernel) (by decide +kernel) rfl (by decide +kernel)
theorem xs_168_77 : xe_P d 168 77 ls st h Q = xe_P d 168 78 ls (.int 0 :: st) h Q := xe_P_ar (ins := .iconst 0) (len := 1) (by decide +kernel) rfl
theorem xs_168_78 : xe_P d 168 78 [l0, l1, l2, l3, l4, l5, l6, l7, l8, l9, l10, l11] (.int x :: st) h Q = xe_P d 168 80 [l0, l1, l2, l3, l4, xe_cut l5, .int x, l7, l8, l9, l10, l11] st h Q := xe_P_lo (ins := .istore 6) (len := 2) (by decide +kernel) rfl rfl
theorem xs_168_80 : xe_P d 168 80 [l0, l1, l2, l3, l4, l5, .int x, l7, l8, l9, l10, l11] st h Q = xe_P d 168 82 [l0, l1, l2, l3, l4, l5, .int x, l7, l8, l9, l10, l11] (.int x :: st) h Q := xe_P_lo (ins := .iload 6) (len := 2) (by decide +kernel) rfl rfl
theorem xs_168_82 : xe_P d 168 82 [.ref a, l1, l2, l3, l4, l5, l6, l7, l8, l9, l10, l11] st h Q = xe_P d 168 83 [.ref a, l1, l2, l3, l4, l5, l6, l7, l8, l9, l10, l11] (.ref a :: st) h Q := xe_P_lo (ins := .aload_n 0) (len := 1) (by decide +kernel) rfl rfl
theorem xs_168_83 : xe_P d 168 83 ls (.ref a :: st) h Q = (xe_ob h a 7 ∧ xe_P d 168 86 ls (.int (xe_I h a 25) :: st) h Q) := xe_P_getI (i := 229) (by decide +kernel) (by decide +kernel) (by decide) rfl
theorem xs_168_86 : xe_P d 168 86 ls (.int v :: .int x :: st) h Q = (if v ≤ x then xe_P d 168 272 ls st h Q else xe_P d 168 89 ls st h Q) := xe_P_if (ins := .if_icmp .ge 186) (len := 3) (off := 186) (by decide +kernel) (by decide) rfl rfl rfl
theorem xs_168_89 : xe_P d 168 89 [.ref a, l1, l2, l3, l4, l5, l6, l7, l8, l9, l10, l11] st h Q = xe_P d 168 90 [.ref a, l1, l2, l3, l4, l5, l6, l7, l8, l9, l10, l11] (.ref a :: st) h Q := xe_P_lo (ins := .aload_n 0) (len := 1) (by decide +kernel) rfl rfl
theorem xs_168_90 : xe_P d 168 90 ls (.ref a :: st) h Q = (xe_ob h a 7 ∧ xe_P d 168 93 ls (va_rf (xe_R h a 24) :: st) h Q) := xe_P_getR (i := 42) (by decide +kernel) (by decide +kernel) (by decide) rfl
theorem xs_168_93 : xe_P d 168 93 [l0, l1, l2, l3, l4, l5, .int x, l7, l8, l9, l10, l11] st h Q = xe_P d 168 95 [l0, l1, l2, l3, l4, l5, .int x, l7, l8, l9, l10, l11] (.int x :: st) h Q := xe_P_lo (ins := .iload 6) (len := 2) (by decide +kernel) rfl rfl
theorem xs_168_95 : xe_P d 168 95 ls (.int v :: .ref a :: st) h Q = ((xe_ia h a ∧ xe_ix h a v) ∧ xe_P d 168 96 ls (.int (xe_I h a v.toNatClampNeg) :: st) h Q) := xe_P_iald (by decide +kernel)
theorem xs_168_96 : xe_P d 168 96 [l0, l1, l2, l3, l4, l5, l6, l7, l8, l9, l10, l11] (.int x :: st) h Q = xe_P d 168 98 [l0, l1, l2, l3, l4, l5, xe_cut l6, .int x, l8, l9, l10, l11] st h Q := xe_P_lo (ins := .istore 7) (len := 2) (by decide +kernel) rfl rfl
theorem xs_168_98 : xe_P d 168 98 [l0, l1, l2, l3, l4, l5, l6, .int x, l8, l9, l10, l11] st h Q = xe_P d 168 100 [l0, l1, l2, l3, l4, l5, l6, .int x, l8, l9, l10, l11] (.int x :: st) h Q := xe_P_lo (ins := .iload 7) (len := 2) (by decide +kernel) rfl rfl
theorem xs_168_100 : xe_P d 168 100 ls st h Q = xe_P d 168 103 ls (.int 4096 :: st) h Q := xe_P_ar (ins := .sipush 4096) (len := 3) (by decide +kernel) rfl
theorem xs_168_103 : xe_P d 168 103 ls (.int v :: .int x :: st) h Q = (¬ v = 0 ∧ xe_P d 168 104 ls (.int (x / v) :: st) h Q) := xe_P_div (by decide +kernel)
theorem xs_168_104 : xe_P d 168 104 [l0, l1, l2, l3, l4, l5, l6, l7, l8, l9, l10, l11] (.int x :: st) h Q = xe_P d 168 106 [l0, l1, l2, l3, l4, l5, l6, xe_cut l7, .int x, l9, l10, l11] st h Q := xe_P_lo (ins := .istore 8) (len := 2) (by decide +kernel) rfl rfl
theorem xs_168_106 : xe_P d 168 106 [l0, l1, l2, l3, l4, l5, l6, l7, .int x, l9, l10, l11] st h Q = xe_P d 168 108 [l0, l1, l2, l3, l4, l5, l6, l7, .int x, l9, l10, l11] (.int x :: st) h Q := xe_P_lo (ins := .iload 8) (len := 2) (by decide +kernel) rfl rfl
theorem xs_168_108 : xe_P d 168 108 ls st h Q = xe_P d 168 109 ls (.int 5 :: st) h Q := xe_P_ar (ins := .iconst 5) (len := 1) (by decide +kernel) rfl
theorem xs_168_109 : xe_P d 168 109 [.ref a, l1, l2, l3, l4, l5, l6, l7, l8, l9, l10, l11] st h Q = xe_P d 168 110 [.ref a, l1, l2, l3, l4, l5, l6, l7, l8, l9, l10, l11] (.ref a :: st) h Q := xe_P_lo (ins := .aload_n 0) (len := 1) (by decide +kernel) rfl rfl
theorem xs_168_110 : xe_P d 168 110 [l0, l1, l2, l3, .int x, l5, l6, l7, l8, l9, l10, l11] st h Q = xe_P d 168 112 [l0, l1, l2, l3, .int x, l5, l6, l7, l8, l9, l10, l11] (.int x :: st) h Q := xe_P_lo (ins := .iload 4) (len := 2) (by decide +kernel) rfl rfl
theorem xs_168_112 : xe_P d 168 112 ls (v0 :: .ref a :: st) h Q = ((xe_w st ≤ 8 ∧ xe_ob h a 7) ∧ xe_C d 141 [.ref a, v0] h (fun r h' => xe_P d 168 115 ls (r.toList ++ st) h' Q)) := xe_P_ivv (y := 168) (pc := 112) (z := 141) (i := 215) (vs := [v0]) (by decide +kernel) (by decide +kernel) rfl (by decide +kernel)
theorem xs_168_115 : xe_P d 168 115 ls (.int v :: .int x :: st) h Q = xe_P d 168 116 ls (.int (x * v) :: st) h Q := xe_P_ar (ins := .imul) (len := 1) (by decide +kernel) rfl
theorem xs_168_116 : xe_P d 168 116 [.ref a, l1, l2, l3, l4, l5, l6, l7, l8, l9, l10, l11] st h Q = xe_P d 168 117 [.ref a, l1, l2, l3, l4, l5, l6, l7, l8, l9, l10, l11] (.ref a :: st) h Q := xe_P_lo (ins := .aload_n 0) (len := 1) (by decide +kernel) rfl rfl
theorem xs_168_117 : xe_P d 168 117 [l0, l1, l2, l3, l4, .int x, l6, l7, l8, l9, l10, l11] st h Q = xe_P d 168 119 [l0, l1, l2, l3, l4, .int x, l6, l7, l8, l9, l10, l11] (.int x :: st) h Q := xe_P_lo (ins := .iload 5) (len := 2) (by decide +kernel) rfl rfl
theorem xs_168_119 : xe_P d 168 119 ls (v0 :: .ref a :: st) h Q = ((xe_w st ≤ 8 ∧ xe_ob h a 7) ∧ xe_C d 141 [.ref a, v0] h (fun r h' => xe_P d 168 122 ls (r.toList ++ st) h' Q)) := xe_P_ivv (y := 168) (pc := 119) (z := 141) (i := 215) (vs := [v0]) (by decide +kernel) (by decide +kernel) rfl (by decide +kernel)
theorem xs_168_122 : xe_P d 168 122 ls (.int v :: .int x :: st) h Q = xe_P d 168 123 ls (.int (x + v) :: st) h Q := xe_P_ar (ins := .iadd) (len := 1) (by decide +kernel) rfl
theorem xs_168_123 : xe_P d 168 123 ls (.int v :: .int x :: st) h Q = (if x = v then xe_P d 168 126 ls st h Q else xe_P d 168 134 ls st h Q) := xe_P_ifn (ins := .if_icmp .ne 11) (len := 3) (off := 11) (by decide +kernel) (by decide) rfl rfl rfl
theorem xs_168_126 : xe_P d 168 126 [.ref a, l1, l2, l3, l4, l5, l6, l7, l8, l9, l10, l11] st h Q = xe_P d 168 127 [.ref a, l1, l2, l3, l4, l5, l6, l7, l8, l9, l10, l11] (.ref a :: st) h Q := xe_P_lo (ins := .aload_n 0) (len := 1) (by decide +kernel) rfl rfl
theorem xs_168_127 : xe_P d 168 127 [l0, l1, l2, l3, l4, l5, .int x, l7, l8, l9, l10, l11] st h Q = xe_P d 168 129 [l0, l1, l2, l3, l4, l5, .int x, l7, l8, l9, l10, l11] (.int x :: st) h Q := xe_P_lo (ins := .iload 6) (len := 2) (by decide +kernel) rfl rfl
theorem xs_168_129 : xe_P d 168 129 [l0, l1, l2, .int x, l4, l5, l6, l7, l8, l9, l10, l11] st h Q = xe_P d 168 130 [l0, l1, l2, .int x, l4, l5, l6, l7, l8, l9, l10, l11] (.int x :: st) h Q := xe_P_lo (ins := .iload_n 3) (len := 1) (by decide +kernel) rfl rfl
theorem xs_168_130 : xe_P d 168 130 ls (v1 :: v0 :: .ref a :: st) h Q = ((xe_w st ≤ 8 ∧ xe_ob h a 7) ∧ xe_C d 165 [.ref a, v0, v1] h (fun r h' => xe_P d 168 133 ls (r.toList ++ st) h' Q)) := xe_P_ivv (y := 168) (pc := 130) (z := 165) (i := 251) (vs := [v1, v0]) (by decide +kernel) (by decide +kernel) rfl (by decide +kernel)
theorem xs_168_133 : xe_P d 168 133 ls [.int x] h Q = Q (some (.int x)) h := xe_P_ireturn (by decide +kernel) rfl
theorem xs_168_134 : xe_P d 168 134 ls st h Q = xe_P d 168 135 ls (.int 0 :: st) h Q := xe_P_ar (ins := .iconst 0) (len := 1) (by decide +kernel) rfl
theorem xs_168_135 : xe_P d 168 135 [l0, l1, l2, l3, l4, l5, l6, l7, l8, l9, l10, l11] (.int x :: st) h Q = xe_P d 168 137 [l0, l1, l2, l3, l4, l5, l6, l7, xe_cut l8, .int x, l10, l11] st h Q := xe_P_lo (ins := .istore 9) (len := 2) (by decide +kernel) rfl rfl
theorem xs_168_137 : xe_P d 168 137 [l0, l1, l2, l3, l4, l5, l6, l7, l8, .int x, l10, l11] st h Q = xe_P d 168 139 [l0, l1, l2, l3, l4, l5, l6, l7, l8, .int x, l10, l11] (.int x :: st) h Q := xe_P_lo (ins := .iload 9) (len := 2) (by decide +kernel) rfl rfl
theorem xs_168_139 : xe_P d 168 139 ls st h Q = xe_P d 168 141 ls (.int 64 :: st) h Q := xe_P_ar (ins := .bipush 64) (len := 2) (by decide +kernel) rfl
theorem xs_168_141 : xe_P d 168 141 ls (.int v :: .int x :: st) h Q = (if v ≤ x then xe_P d 168 266 ls st h Q else xe_P d 168 144 ls st h Q) := xe_P_if (ins := .if_icmp .ge 125) (len := 3) (off := 125) (by decide +kernel) (by decide) rfl rfl rfl
theorem xs_168_144 : xe_P d 168 144 [.ref a, l1, l2, l3, l4, l5, l6, l7, l8, l9, l10, l11] st h Q = xe_P d 168 145 [.ref a, l1, l2, l3, l4, l5, l6, l7, l8, l9, l10, l11] (.ref a :: st) h Q := xe_P_lo (ins := .aload_n 0) (len := 1) (by decide +kernel) rfl rfl
theorem xs_168_145 : xe_P d 168 145 [l0, l1, l2, l3, l4, l5, l6, .int x, l8, l9, l10, l11] st h Q = xe_P d 168 147 [l0, l1, l2, l3, l4, l5, l6, .int x, l8, l9, l10, l11] (.int x :: st) h Q := xe_P_lo (ins := .iload 7) (len := 2) (by decide +kernel) rfl rfl
theorem xs_168_147 : xe_P d 168 147 ls st h Q = xe_P d 168 150 ls (.int 4096 :: st) h Q := xe_P_ar (ins := .sipush 4096) (len := 3) (by decide +kernel) rfl
theorem xs_168_150 : xe_P d 168 150 ls (.int v :: .int x :: st) h Q = (¬ v = 0 ∧ xe_P d 168 151 ls (.int (x - x / v * v) :: st) h Q) := xe_P_rem (by decide +kernel)
theorem xs_168_151 : xe_P d 168 151 ls (v0 :: .ref a :: st) h Q = ((xe_w st ≤ 8 ∧ xe_ob h a 7) ∧ xe_C d 146 [.ref a, v0] h (fun r h' => xe_P d 168 154 ls (r.toList ++ st) h' Q)) := xe_P_ivv (y := 168) (pc := 151) (z := 146) (i := 238) (vs := [v0]) (by decide +kernel) (by decide +kernel) rfl (by decide +kernel)
theorem xs_168_154 : xe_P d 168 154 [l0, l1, l2, l3, l4, l5, l6, l7, l8, .int x, l10, l11] st h Q = xe_P d 168 156 [l0, l1, l2, l3, l4, l5, l6, l7, l8, .int x, l10, l11] (.int x :: st) h Q := xe_P_lo (ins := .iload 9) (len := 2) (by decide +kernel) rfl rfl
theorem xs_168_156 : xe_P d 168 156 ls st h Q = xe_P d 168 158 ls (.int 8 :: st) h Q := xe_P_ar (ins := .bipush 8) (len := 2) (by decide +kernel) rfl
theorem xs_168_158 : xe_P d 168 158 ls (.int v :: .int x :: st) h Q = (¬ v = 0 ∧ xe_P d 168 159 ls (.int (x - x / v * v) :: st) h Q) := xe_P_rem (by decide +kernel)
theorem xs_168_159 : xe_P d 168 159 [.ref a, l1, l2, l3, l4, l5, l6, l7, l8, l9, l10, l11] st h Q = xe_P d 168 160 [.ref a, l1, l2, l3, l4, l5, l6, l7, l8, l9, l10, l11] (.ref a :: st) h Q := xe_P_lo (ins := .aload_n 0) (len := 1) (by decide +kernel) rfl rfl
theorem xs_168_160 : xe_P d 168 160 ls (.ref a :: st) h Q = ((xe_w st ≤ 8 ∧ xe_ob h a 7) ∧ xe_C d 136 [.ref a] h (fun r h' => xe_P d 168 163 ls (r.toList ++ st) h' Q)) := xe_P_ivv (y := 168) (pc := 160) (z := 136) (i := 181) (vs := []) (by decide +kernel) (by decide +kernel) rfl (by decide +kernel)
theorem xs_168_163 : xe_P d 168 163 ls (.int v :: .int x :: st) h Q = (if x ≤ v then xe_P d 168 171 ls st h Q else xe_P d 168 166 ls st h Q) := xe_P_if (ins := .if_icmp .le 8) (len := 3) (off := 8) (by decide +kernel) (by decide) rfl rfl rfl
theorem xs_168_166 : xe_P d 168 166 ls st h Q = xe_P d 168 168 ls (.int (-4) :: st) h Q := xe_P_ar (ins := .bipush (-4)) (len := 2) (by decide +kernel) rfl
theorem xs_168_168 : xe_P d 168 168 ls st h Q = xe_P d 168 184 ls st h Q := xe_P_go (len := 3) (off := 16) (by decide +kernel) (by decide)
theorem xs_168_171 : xe_P d 168 171 [.ref a, l1, l2, l3, l4, l5, l6, l7, l8, l9, l10, l11] st h Q = xe_P d 168 172 [.ref a, l1, l2, l3, l4, l5, l6, l7, l8, l9, l10, l11] (.ref a :: st) h Q := xe_P_lo (ins := .aload_n 0) (len := 1) (by decide +kernel) rfl rfl
theorem xs_168_172 : xe_P d 168 172 [l0, l1, l2, l3, l4, l5, l6, l7, l8, .int x, l10, l11] st h Q = xe_P d 168 174 [l0, l1, l2, l3, l4, l5, l6, l7, l8, .int x, l10, l11] (.int x :: st) h Q := xe_P_lo (ins := .iload 9) (len := 2) (by decide +kernel) rfl rfl
theorem xs_168_174 : xe_P d 168 174 ls st h Q = xe_P d 168 176 ls (.int 8 :: st) h Q := xe_P_ar (ins := .bipush 8) (len := 2) (by decide +kernel) rfl
theorem xs_168_176 : xe_P d 168 176 ls (.int v :: .int x :: st) h Q = (¬ v = 0 ∧ xe_P d 168 177 ls (.int (x - x / v * v) :: st) h Q) := xe_P_rem (by decide +kernel)
theorem xs_168_177 : xe_P d 168 177 [l0, l1, l2, l3, l4, l5, l6, l7, .int x, l9, l10, l11] st h Q = xe_P d 168 179 [l0, l1, l2, l3, l4, l5, l6, l7, .int x, l9, l10, l11] (.int x :: st) h Q := xe_P_lo (ins := .iload 8) (len := 2) (by decide +kernel) rfl rfl
theorem xs_168_179 : xe_P d 168 179 ls st h Q = xe_P d 168 180 ls (.int 5 :: st) h Q := xe_P_ar (ins := .iconst 5) (len := 1) (by decide +kernel) rfl
theorem xs_168_180 : xe_P d 168 180 ls (.int v :: .int x :: st) h Q = (¬ v = 0 ∧ xe_P d 168 181 ls (.int (x / v) :: st) h Q) := xe_P_div (by decide +kernel)
theorem xs_168_181 : xe_P d 168 181 ls (v1 :: v0 :: .ref a :: st) h Q = ((xe_w st ≤ 8 ∧ xe_ob h a 7) ∧ xe_C d 152 [.ref a, v0, v1] h (fun r h' => xe_P d 168 184 ls (r.toList ++ st) h' Q)) := xe_P_ivv (y := 168) (pc := 181) (z := 152) (i := 220) (vs := [v1, v0]) (by decide +kernel) (by decide +kernel) rfl (by decide +kernel)
theorem xs_168_184 : xe_P d 168 184 [l0, l1, l2, l3, l4, l5, l6, l7, l8, l9, l10, l11] (.int x :: st) h Q = xe_P d 168 186 [l0, l1, l2, l3, l4, l5, l6, l7, l8, xe_cut l9, .int x, l11] st h Q := xe_P_lo (ins := .istore 10) (len := 2) (by decide +kernel) rfl rfl
theorem xs_168_186 : xe_P d 168 186 [l0, l1, l2, l3, l4, l5, l6, l7, l8, l9, .int x, l11] st h Q = xe_P d 168 188 [l0, l1, l2, l3, l4, l5, l6, l7, l8, l9, .int x, l11] (.int x :: st) h Q := xe_P_lo (ins := .iload 10) (len := 2) (by decide +kernel) rfl rfl
theorem xs_168_188 : xe_P d 168 188 ls st h Q = xe_P d 168 190 ls (.int (-4) :: st) h Q := xe_P_ar (ins := .bipush (-4)) (len := 2) (by decide +kernel) rfl
theorem xs_168_190 : xe_P d 168 190 ls (.int v :: .int x :: st) h Q = (if x = v then xe_P d 168 205 ls st h Q else xe_P d 168 193 ls st h Q) := xe_P_if (ins := .if_icmp .eq 15) (len := 3) (off := 15) (by decide +kernel) (by decide) rfl rfl rfl
theorem xs_168_193 : xe_P d 168 193 [l0, l1, l2, l3, l4, l5, l6, l7, l8, .int x, l10, l11] st h Q = xe_P d 168 195 [l0, l1, l2, l3, l4, l5, l6, l7, l8, .int x, l10, l11] (.int x :: st) h Q := xe_P_lo (ins := .iload 9) (len := 2) (by decide +kernel) rfl rfl
theorem xs_168_195 : xe_P d 168 195 ls st h Q = xe_P d 168 197 ls (.int 8 :: st) h Q := xe_P_ar (ins := .bipush 8) (len := 2) (by decide +kernel) rfl
theorem xs_168_197 : xe_P d 168 197 ls (.int v :: .int x :: st) h Q = (¬ v = 0 ∧ xe_P d 168 198 ls (.int (x / v) :: st) h Q) := xe_P_div (by decide +kernel)
theorem xs_168_198 : xe_P d 168 198 [.ref a, l1, l2, l3, l4, l5, l6, l7, l8, l9, l10, l11] st h Q = xe_P d 168 199 [.ref a, l1, l2, l3, l4, l5, l6, l7, l8, l9, l10, l11] (.ref a :: st) h Q := xe_P_lo (ins := .aload_n 0) (len := 1) (by decide +kernel) rfl rfl
theorem xs_168_199 : xe_P d 168 199 ls (.ref a :: st) h Q = ((xe_w st ≤ 8 ∧ xe_ob h a 7) ∧ xe_C d 136 [.ref a] h (fun r h' => xe_P d 168 202 ls (r.toList ++ st) h' Q)) := xe_P_ivv (y := 168) (pc := 199) (z := 136) (i := 181) (vs := []) (by decide +kernel) (by decide +kernel) rfl (by decide +kernel)
theorem xs_168_202 : xe_P d 168 202 ls (.int v :: .int x :: st) h Q = (if x ≤ v then xe_P d 168 210 ls st h Q else xe_P d 168 205 ls st h Q) := xe_P_if (ins := .if_icmp .le 8) (len := 3) (off := 8) (by decide +kernel) (by decide) rfl rfl rfl
theorem xs_168_205 : xe_P d 168 205 ls st h Q = xe_P d 168 207 ls (.int (-4) :: st) h Q := xe_P_ar (ins := .bipush (-4)) (len := 2) (by decide +kernel) rfl
theorem xs_168_207 : xe_P d 168 207 ls st h Q = xe_P d 168 223 ls st h Q := xe_P_go (len := 3) (off := 16) (by decide +kernel) (by decide)
theorem xs_168_210 : xe_P d 168 210 [.ref a, l1, l2, l3, l4, l5, l6, l7, l8, l9, l10, l11] st h Q = xe_P d 168 211 [.ref a, l1, l2, l3, l4, l5, l6, l7, l8, l9, l10, l11] (.ref a :: st) h Q := xe_P_lo (ins := .aload_n 0) (len := 1) (by decide +kernel) rfl rfl
theorem xs_168_211 : xe_P d 168 211 [l0, l1, l2, l3, l4, l5, l6, l7, l8, .int x, l10, l11] st h Q = xe_P d 168 213 [l0, l1, l2, l3, l4, l5, l6, l7, l8, .int x, l10, l11] (.int x :: st) h Q := xe_P_lo (ins := .iload 9) (len := 2) (by decide +kernel) rfl rfl
theorem xs_168_213 : xe_P d 168 213 ls st h Q = xe_P d 168 215 ls (.int 8 :: st) h Q := xe_P_ar (ins := .bipush 8) (len := 2) (by decide +kernel) rfl
theorem xs_168_215 : xe_P d 168 215 ls (.int v :: .int x :: st) h Q = (¬ v = 0 ∧ xe_P d 168 216 ls (.int (x / v) :: st) h Q) := xe_P_div (by decide +kernel)
theorem xs_168_216 : xe_P d 168 216 [l0, l1, l2, l3, l4, l5, l6, l7, .int x, l9, l10, l11] st h Q = xe_P d 168 218 [l0, l1, l2, l3, l4, l5, l6, l7, .int x, l9, l10, l11] (.int x :: st) h Q := xe_P_lo (ins := .iload 8) (len := 2) (by decide +kernel) rfl rfl
theorem xs_168_218 : xe_P d 168 218 ls st h Q = xe_P d 168 219 ls (.int 5 :: st) h Q := xe_P_ar (ins := .iconst 5) (len := 1) (by decide +kernel) rfl
theorem xs_168_219 : xe_P d 168 219 ls (.int v :: .int x :: st) h Q = (¬ v = 0 ∧ xe_P d 168 220 ls (.int (x - x / v * v) :: st) h Q) := xe_P_rem (by decide +kernel)
theorem xs_168_220 : xe_P d 168 220 ls (v1 :: v0 :: .ref a :: st) h Q = ((xe_w st ≤ 8 ∧ xe_ob h a 7) ∧ xe_C d 152 [.ref a, v0, v1] h (fun r h' => xe_P d 168 223 ls (r.toList ++ st) h' Q)) := xe_P_ivv (y := 168) (pc := 220) (z := 152) (i := 220) (vs := [v1, v0]) (by decide +kernel) (by decide +kernel) rfl (by decide +kernel)
theorem xs_168_223 : xe_P d 168 223 [l0, l1, l2, l3, l4, l5, l6, l7, l8, l9, l10, l11] (.int x :: st) h Q = xe_P d 168 225 [l0, l1, l2, l3, l4, l5, l6, l7, l8, l9, xe_cut l10, .int x] st h Q := xe_P_lo (ins := .istore 11) (len := 2) (by decide +kernel) rfl rfl
theorem xs_168_225 : xe_P d 168 225 [l0, l1, l2, l3, l4, l5, l6, l7, l8, l9, l10, .int x] st h Q = xe_P d 168 227 [l0, l1, l2, l3, l4, l5, l6, l7, l8, l9, l10, .int x] (.int x :: st) h Q := xe_P_lo (ins := .iload 11) (len := 2) (by decide +kernel) rfl rfl
theorem xs_168_227 : xe_P d 168 227 ls st h Q = xe_P d 168 229 ls (.int (-4) :: st) h Q := xe_P_ar (ins := .bipush (-4)) (len := 2) (by decide +kernel) rfl
theorem xs_168_229 : xe_P d 168 229 ls (.int v :: .int x :: st) h Q = (if x = v then xe_P d 168 260 ls st h Q else xe_P d 168 232 ls st h Q) := xe_P_if (ins := .if_icmp .eq 31) (len := 3) (off := 31) (by decide +kernel) (by decide) rfl rfl rfl
theorem xs_168_232 : xe_P d 168 232 [.ref a, l1, l2, l3, l4, l5, l6, l7, l8, l9, l10, l11] st h Q = xe_P d 168 233 [.ref a, l1, l2, l3, l4, l5, l6, l7, l8, l9, l10, l11] (.ref a :: st) h Q := xe_P_lo (ins := .aload_n 0) (len := 1) (by decide +kernel) rfl rfl
theorem xs_168_233 : xe_P d 168 233 ls (.ref a :: st) h Q = ((xe_w st ≤ 8 ∧ xe_ob h a 7) ∧ xe_C d 151 [.ref a] h (fun r h' => xe_P d 168 236 ls (r.toList ++ st) h' Q)) := xe_P_ivv (y := 168) (pc := 233) (z := 151) (i := 223) (vs := []) (by decide +kernel) (by decide +kernel) rfl (by decide +kernel)
theorem xs_168_236 : xe_P d 168 236 [.ref a, l1, l2, l3, l4, l5, l6, l7, l8, l9, l10, l11] st h Q = xe_P d 168 237 [.ref a, l1, l2, l3, l4, l5, l6, l7, l8, l9, l10, l11] (.ref a :: st) h Q := xe_P_lo (ins := .aload_n 0) (len := 1) (by decide +kernel) rfl rfl
theorem xs_168_237 : xe_P d 168 237 ls st h Q = xe_P d 168 240 ls (.int 4096 :: st) h Q := xe_P_ar (ins := .sipush 4096) (len := 3) (by decide +kernel) rfl
theorem xs_168_240 : xe_P d 168 240 ls st h Q = xe_P d 168 241 ls (.int 5 :: st) h Q := xe_P_ar (ins := .iconst 5) (len := 1) (by decide +kernel) rfl
theorem xs_168_241 : xe_P d 168 241 [l0, l1, l2, l3, l4, l5, l6, l7, l8, l9, .int x, l11] st h Q = xe_P d 168 243 [l0, l1, l2, l3, l4, l5, l6, l7, l8, l9, .int x, l11] (.int x :: st) h Q := xe_P_lo (ins := .iload 10) (len := 2) (by decide +kernel) rfl rfl
theorem xs_168_243 : xe_P d 168 243 ls (.int v :: .int x :: st) h Q = xe_P d 168 244 ls (.int (x * v) :: st) h Q := xe_P_ar (ins := .imul) (len := 1) (by decide +kernel) rfl
theorem xs_168_244 : xe_P d 168 244 [l0, l1, l2, l3, l4, l5, l6, l7, l8, l9, l10, .int x] st h Q = xe_P d 168 246 [l0, l1, l2, l3, l4, l5, l6, l7, l8, l9, l10, .int x] (.int x :: st) h Q := xe_P_lo (ins := .iload 11) (len := 2) (by decide +kernel) rfl rfl
theorem xs_168_246 : xe_P d 168 246 ls (.int v :: .int x :: st) h Q = xe_P d 168 247 ls (.int (x + v) :: st) h Q := xe_P_ar (ins := .iadd) (len := 1) (by decide +kernel) rfl
theorem xs_168_247 : xe_P d 168 247 ls (.int v :: .int x :: st) h Q = xe_P d 168 248 ls (.int (x * v) :: st) h Q := xe_P_ar (ins := .imul) (len := 1) (by decide +kernel) rfl
theorem xs_168_248 : xe_P d 168 248 [.ref a, l1, l2, l3, l4, l5, l6, l7, l8, l9, l10, l11] st h Q = xe_P d 168 249 [.ref a, l1, l2, l3, l4, l5, l6, l7, l8, l9, l10, l11] (.ref a :: st) h Q := xe_P_lo (ins := .aload_n 0) (len := 1) (by decide +kernel) rfl rfl
theorem xs_168_249 : xe_P d 168 249 ls (.ref a :: st) h Q = ((xe_w st ≤ 8 ∧ xe_ob h a 7) ∧ xe_C d 147 [.ref a] h (fun r h' => xe_P d 168 252 ls (r.toList ++ st) h' Q)) := xe_P_ivv (y := 168) (pc := 249) (z := 147) (i := 232) (vs := []) (by decide +kernel) (by decide +kernel) rfl (by decide +kernel)
theorem xs_168_252 : xe_P d 168 252 ls (.int v :: .int x :: st) h Q = xe_P d 168 253 ls (.int (x + v) :: st) h Q := xe_P_ar (ins := .iadd) (len := 1) (by decide +kernel) rfl
theorem xs_168_253 : xe_P d 168 253 [l0, l1, l2, l3, l4, l5, .int x, l7, l8, l9, l10, l11] st h Q = xe_P d 168 255 [l0, l1, l2, l3, l4, l5, .int x, l7, l8, l9, l10, l11] (.int x :: st) h Q := xe_P_lo (ins := .iload 6) (len := 2) (by decide +kernel) rfl rfl
theorem xs_168_255 : xe_P d 168 255 [l0, l1, l2, l3, l4, l5, l6, l7, l8, .int x, l10, l11] st h Q = xe_P d 168 257 [l0, l1, l2, l3, l4, l5, l6, l7, l8, .int x, l10, l11] (.int x :: st) h Q := xe_P_lo (ins := .iload 9) (len := 2) (by decide +kernel) rfl rfl
theorem xs_168_257 : xe_P d 168 257 ls (v2 :: v1 :: v0 :: .ref a :: st) h Q = ((xe_w st ≤ 8 ∧ xe_ob h a 7) ∧ xe_C d 162 [.ref a, v0, v1, v2] h (fun r h' => xe_P d 168 260 ls (r.toList ++ st) h' Q)) := xe_P_ivv (y := 168) (pc := 257) (z := 162) (i := 241) (vs := [v2, v1, v0]) (by decide +kernel) (by decide +kernel) rfl (by decide +kernel)
theorem xs_168_260 : xe_P d 168 260 [l0, l1, l2, l3, l4, l5, l6, l7, l8, .int x, l10, l11] st h Q = xe_P d 168 263 [l0, l1, l2, l3, l4, l5, l6, l7, xe_cut l8, .int (x + 1), l10, l11] st h Q := xe_P_lo (ins := .iinc 9 1) (len := 3) (by decide +kernel) rfl rfl
theorem xs_168_263 : xe_P d 168 263 ls st h Q = xe_P d 168 137 ls st h Q := xe_P_go (len := 3) (off := (-126)) (by decide +kernel) (by decide)
theorem xs_168_266 : xe_P d 168 266 [l0, l1, l2, l3, l4, l5, .int x, l7, l8, l9, l10, l11] st h Q = xe_P d 168 269 [l0, l1, l2, l3, l4, xe_cut l5, .int (x + 1), l7, l8, l9, l10, l11] st h Q := xe_P_lo (ins := .iinc 6 1) (len := 3) (by decide +kernel) rfl rfl
theorem xs_168_269 : xe_P d 168 269 ls st h Q = xe_P d 168 80 ls st h Q := xe_P_go (len := 3) (off := (-189)) (by decide +kernel) (by decide)
theorem xs_168_272 : xe_P d 168 272 ls st h Q = xe_P d 168 274 ls (.int (-4) :: st) h Q := xe_P_ar (ins := .bipush (-4)) (len := 2) (by decide +kernel) rfl
theorem xs_168_274 : xe_P d 168 274 ls [.int x] h Q = Q (some (.int x)) h := xe_P_ireturn (by decide +kernel) rfl
theorem xs_168 : xe_C (d + 1) 168 [.ref a, .int x0, .int x1, .int x2] h Q = xe_P d 168 0 [.ref a, .int x0, .int x1, .int x2, .retAddr 0, .retAddr 0, .retAddr 0, .retAddr 0, .retAddr 0, .retAddr 0, .retAddr 0, .retAddr 0] [] h Q := xe_C_at (Nat.le_of_ble_eq_true rfl) rfl
end XSX7c
